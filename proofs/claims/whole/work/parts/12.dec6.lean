/-! decode rows -/
theorem dX6_isIn_0 : decode mX6_isIn.2.1 0 = .ok (.lload_n 0, 1) := by decide +kernel
theorem dX6_isIn_1 : decode mX6_isIn.2.1 1 = .ok (.lload_n 2, 1) := by decide +kernel
theorem dX6_isIn_2 : decode mX6_isIn.2.1 2 = .ok (.lcmp, 1) := by decide +kernel
theorem dX6_isIn_3 : decode mX6_isIn.2.1 3 = .ok (.ifCond .lt 14, 3) := by decide +kernel
theorem dX6_isIn_6 : decode mX6_isIn.2.1 6 = .ok (.lload_n 0, 1) := by decide +kernel
theorem dX6_isIn_7 : decode mX6_isIn.2.1 7 = .ok (.lload 4, 2) := by decide +kernel
theorem dX6_isIn_9 : decode mX6_isIn.2.1 9 = .ok (.lcmp, 1) := by decide +kernel
theorem dX6_isIn_10 : decode mX6_isIn.2.1 10 = .ok (.ifCond .gt 7, 3) := by decide +kernel
theorem dX6_isIn_13 : decode mX6_isIn.2.1 13 = .ok (.iconst 1, 1) := by decide +kernel
theorem dX6_isIn_14 : decode mX6_isIn.2.1 14 = .ok (.goto 4, 3) := by decide +kernel
theorem dX6_isIn_17 : decode mX6_isIn.2.1 17 = .ok (.iconst 0, 1) := by decide +kernel
theorem dX6_isIn_18 : decode mX6_isIn.2.1 18 = .ok (.ireturn, 1) := by decide +kernel
theorem dX6_finds_0 : decode mX6_finds.2.1 0 = .ok (.aload_n 0, 1) := by decide +kernel
theorem dX6_finds_1 : decode mX6_finds.2.1 1 = .ok (.getfield 22, 3) := by decide +kernel
theorem dX6_finds_4 : decode mX6_finds.2.1 4 = .ok (.iconst 0, 1) := by decide +kernel
theorem dX6_finds_5 : decode mX6_finds.2.1 5 = .ok (.dup2, 1) := by decide +kernel
theorem dX6_finds_6 : decode mX6_finds.2.1 6 = .ok (.iaload, 1) := by decide +kernel
theorem dX6_finds_7 : decode mX6_finds.2.1 7 = .ok (.iconst 1, 1) := by decide +kernel
theorem dX6_finds_8 : decode mX6_finds.2.1 8 = .ok (.iadd, 1) := by decide +kernel
theorem dX6_finds_9 : decode mX6_finds.2.1 9 = .ok (.iastore, 1) := by decide +kernel
theorem dX6_finds_10 : decode mX6_finds.2.1 10 = .ok (.aload_n 0, 1) := by decide +kernel
theorem dX6_finds_11 : decode mX6_finds.2.1 11 = .ok (.getfield 22, 3) := by decide +kernel
theorem dX6_finds_14 : decode mX6_finds.2.1 14 = .ok (.ldc 43, 2) := by decide +kernel
theorem dX6_finds_16 : decode mX6_finds.2.1 16 = .ok (.iload_n 1, 1) := by decide +kernel
theorem dX6_finds_17 : decode mX6_finds.2.1 17 = .ok (.isub, 1) := by decide +kernel
theorem dX6_finds_18 : decode mX6_finds.2.1 18 = .ok (.iconst 1, 1) := by decide +kernel
theorem dX6_finds_19 : decode mX6_finds.2.1 19 = .ok (.iadd, 1) := by decide +kernel
theorem dX6_finds_20 : decode mX6_finds.2.1 20 = .ok (.dup2, 1) := by decide +kernel
theorem dX6_finds_21 : decode mX6_finds.2.1 21 = .ok (.iaload, 1) := by decide +kernel
theorem dX6_finds_22 : decode mX6_finds.2.1 22 = .ok (.iconst 1, 1) := by decide +kernel
theorem dX6_finds_23 : decode mX6_finds.2.1 23 = .ok (.iadd, 1) := by decide +kernel
theorem dX6_finds_24 : decode mX6_finds.2.1 24 = .ok (.iastore, 1) := by decide +kernel
theorem dX6_finds_25 : decode mX6_finds.2.1 25 = .ok (.iload_n 1, 1) := by decide +kernel
theorem dX6_finds_26 : decode mX6_finds.2.1 26 = .ok (.ireturn, 1) := by decide +kernel
theorem dX6_becomes_0 : decode mX6_becomes.2.1 0 = .ok (.aload_n 0, 1) := by decide +kernel
theorem dX6_becomes_1 : decode mX6_becomes.2.1 1 = .ok (.getfield 7, 3) := by decide +kernel
theorem dX6_becomes_4 : decode mX6_becomes.2.1 4 = .ok (.iload_n 1, 1) := by decide +kernel
theorem dX6_becomes_5 : decode mX6_becomes.2.1 5 = .ok (.iaload, 1) := by decide +kernel
theorem dX6_becomes_6 : decode mX6_becomes.2.1 6 = .ok (.istore_n 3, 1) := by decide +kernel
theorem dX6_becomes_7 : decode mX6_becomes.2.1 7 = .ok (.aload_n 0, 1) := by decide +kernel
theorem dX6_becomes_8 : decode mX6_becomes.2.1 8 = .ok (.getfield 7, 3) := by decide +kernel
theorem dX6_becomes_11 : decode mX6_becomes.2.1 11 = .ok (.iload_n 1, 1) := by decide +kernel
theorem dX6_becomes_12 : decode mX6_becomes.2.1 12 = .ok (.iload_n 2, 1) := by decide +kernel
theorem dX6_becomes_13 : decode mX6_becomes.2.1 13 = .ok (.iastore, 1) := by decide +kernel
theorem dX6_becomes_14 : decode mX6_becomes.2.1 14 = .ok (.iload_n 3, 1) := by decide +kernel
theorem dX6_becomes_15 : decode mX6_becomes.2.1 15 = .ok (.ireturn, 1) := by decide +kernel
theorem dX6_copyRow_0 : decode mX6_copyRow.2.1 0 = .ok (.iconst 0, 1) := by decide +kernel
theorem dX6_copyRow_1 : decode mX6_copyRow.2.1 1 = .ok (.istore_n 2, 1) := by decide +kernel
theorem dX6_copyRow_2 : decode mX6_copyRow.2.1 2 = .ok (.iload_n 2, 1) := by decide +kernel
theorem dX6_copyRow_3 : decode mX6_copyRow.2.1 3 = .ok (.bipush 56, 2) := by decide +kernel
theorem dX6_copyRow_5 : decode mX6_copyRow.2.1 5 = .ok (.if_icmp .ge 15, 3) := by decide +kernel
theorem dX6_copyRow_8 : decode mX6_copyRow.2.1 8 = .ok (.aload_n 1, 1) := by decide +kernel
theorem dX6_copyRow_9 : decode mX6_copyRow.2.1 9 = .ok (.iload_n 2, 1) := by decide +kernel
theorem dX6_copyRow_10 : decode mX6_copyRow.2.1 10 = .ok (.aload_n 0, 1) := by decide +kernel
theorem dX6_copyRow_11 : decode mX6_copyRow.2.1 11 = .ok (.iload_n 2, 1) := by decide +kernel
theorem dX6_copyRow_12 : decode mX6_copyRow.2.1 12 = .ok (.iaload, 1) := by decide +kernel
theorem dX6_copyRow_13 : decode mX6_copyRow.2.1 13 = .ok (.iastore, 1) := by decide +kernel
theorem dX6_copyRow_14 : decode mX6_copyRow.2.1 14 = .ok (.iinc 2 1, 3) := by decide +kernel
theorem dX6_copyRow_17 : decode mX6_copyRow.2.1 17 = .ok (.goto (-15), 3) := by decide +kernel
theorem dX6_copyRow_20 : decode mX6_copyRow.2.1 20 = .ok (.return_, 1) := by decide +kernel
theorem dX6_isFarm_0 : decode mX6_isFarm.2.1 0 = .ok (.iload_n 1, 1) := by decide +kernel
theorem dX6_isFarm_1 : decode mX6_isFarm.2.1 1 = .ok (.ifCond .lt 17, 3) := by decide +kernel
theorem dX6_isFarm_4 : decode mX6_isFarm.2.1 4 = .ok (.iload_n 1, 1) := by decide +kernel
theorem dX6_isFarm_5 : decode mX6_isFarm.2.1 5 = .ok (.aload_n 0, 1) := by decide +kernel
theorem dX6_isFarm_6 : decode mX6_isFarm.2.1 6 = .ok (.getfield 7, 3) := by decide +kernel
theorem dX6_isFarm_9 : decode mX6_isFarm.2.1 9 = .ok (.iconst 0, 1) := by decide +kernel
theorem dX6_isFarm_10 : decode mX6_isFarm.2.1 10 = .ok (.iaload, 1) := by decide +kernel
theorem dX6_isFarm_11 : decode mX6_isFarm.2.1 11 = .ok (.if_icmp .ge 7, 3) := by decide +kernel
theorem dX6_isFarm_14 : decode mX6_isFarm.2.1 14 = .ok (.iconst 1, 1) := by decide +kernel
theorem dX6_isFarm_15 : decode mX6_isFarm.2.1 15 = .ok (.goto 4, 3) := by decide +kernel
theorem dX6_isFarm_18 : decode mX6_isFarm.2.1 18 = .ok (.iconst 0, 1) := by decide +kernel
theorem dX6_isFarm_19 : decode mX6_isFarm.2.1 19 = .ok (.ireturn, 1) := by decide +kernel
theorem dX6_its_0 : decode mX6_its.2.1 0 = .ok (.aload_n 0, 1) := by decide +kernel
theorem dX6_its_1 : decode mX6_its.2.1 1 = .ok (.getfield 7, 3) := by decide +kernel
theorem dX6_its_4 : decode mX6_its.2.1 4 = .ok (.bipush 6, 2) := by decide +kernel
theorem dX6_its_6 : decode mX6_its.2.1 6 = .ok (.iconst 5, 1) := by decide +kernel
theorem dX6_its_7 : decode mX6_its.2.1 7 = .ok (.iload_n 1, 1) := by decide +kernel
theorem dX6_its_8 : decode mX6_its.2.1 8 = .ok (.imul, 1) := by decide +kernel
theorem dX6_its_9 : decode mX6_its.2.1 9 = .ok (.iadd, 1) := by decide +kernel
theorem dX6_its_10 : decode mX6_its.2.1 10 = .ok (.iload_n 2, 1) := by decide +kernel
theorem dX6_its_11 : decode mX6_its.2.1 11 = .ok (.iadd, 1) := by decide +kernel
theorem dX6_its_12 : decode mX6_its.2.1 12 = .ok (.iaload, 1) := by decide +kernel
theorem dX6_its_13 : decode mX6_its.2.1 13 = .ok (.ireturn, 1) := by decide +kernel
theorem dX6_least_0 : decode mX6_least.2.1 0 = .ok (.iload_n 0, 1) := by decide +kernel
theorem dX6_least_1 : decode mX6_least.2.1 1 = .ok (.iload_n 1, 1) := by decide +kernel
theorem dX6_least_2 : decode mX6_least.2.1 2 = .ok (.if_icmp .ge 7, 3) := by decide +kernel
theorem dX6_least_5 : decode mX6_least.2.1 5 = .ok (.iload_n 0, 1) := by decide +kernel
theorem dX6_least_6 : decode mX6_least.2.1 6 = .ok (.goto 4, 3) := by decide +kernel
theorem dX6_least_9 : decode mX6_least.2.1 9 = .ok (.iload_n 1, 1) := by decide +kernel
theorem dX6_least_10 : decode mX6_least.2.1 10 = .ok (.ireturn, 1) := by decide +kernel
theorem dX6_greatest_0 : decode mX6_greatest.2.1 0 = .ok (.iload_n 0, 1) := by decide +kernel
theorem dX6_greatest_1 : decode mX6_greatest.2.1 1 = .ok (.iload_n 1, 1) := by decide +kernel
theorem dX6_greatest_2 : decode mX6_greatest.2.1 2 = .ok (.if_icmp .le 7, 3) := by decide +kernel
theorem dX6_greatest_5 : decode mX6_greatest.2.1 5 = .ok (.iload_n 0, 1) := by decide +kernel
theorem dX6_greatest_6 : decode mX6_greatest.2.1 6 = .ok (.goto 4, 3) := by decide +kernel
theorem dX6_greatest_9 : decode mX6_greatest.2.1 9 = .ok (.iload_n 1, 1) := by decide +kernel
theorem dX6_greatest_10 : decode mX6_greatest.2.1 10 = .ok (.ireturn, 1) := by decide +kernel
theorem dX6_orNone_0 : decode mX6_orNone.2.1 0 = .ok (.iload_n 1, 1) := by decide +kernel
theorem dX6_orNone_1 : decode mX6_orNone.2.1 1 = .ok (.ifCond .ge 12, 3) := by decide +kernel
theorem dX6_orNone_4 : decode mX6_orNone.2.1 4 = .ok (.aload_n 0, 1) := by decide +kernel
theorem dX6_orNone_5 : decode mX6_orNone.2.1 5 = .ok (.ldc 44, 2) := by decide +kernel
theorem dX6_orNone_7 : decode mX6_orNone.2.1 7 = .ok (.invokevirtual 45, 3) := by decide +kernel
theorem dX6_orNone_10 : decode mX6_orNone.2.1 10 = .ok (.goto 4, 3) := by decide +kernel
theorem dX6_orNone_13 : decode mX6_orNone.2.1 13 = .ok (.iload_n 1, 1) := by decide +kernel
theorem dX6_orNone_14 : decode mX6_orNone.2.1 14 = .ok (.ireturn, 1) := by decide +kernel
theorem dX6_many_0 : decode mX6_many.2.1 0 = .ok (.iconst 0, 1) := by decide +kernel
theorem dX6_many_1 : decode mX6_many.2.1 1 = .ok (.istore_n 1, 1) := by decide +kernel
theorem dX6_many_2 : decode mX6_many.2.1 2 = .ok (.iload_n 0, 1) := by decide +kernel
theorem dX6_many_3 : decode mX6_many.2.1 3 = .ok (.istore_n 2, 1) := by decide +kernel
theorem dX6_many_4 : decode mX6_many.2.1 4 = .ok (.iload_n 2, 1) := by decide +kernel
theorem dX6_many_5 : decode mX6_many.2.1 5 = .ok (.ifCond .eq 15, 3) := by decide +kernel
theorem dX6_many_8 : decode mX6_many.2.1 8 = .ok (.iinc 1 1, 3) := by decide +kernel
theorem dX6_many_11 : decode mX6_many.2.1 11 = .ok (.iload_n 2, 1) := by decide +kernel
theorem dX6_many_12 : decode mX6_many.2.1 12 = .ok (.iload_n 2, 1) := by decide +kernel
theorem dX6_many_13 : decode mX6_many.2.1 13 = .ok (.iconst 1, 1) := by decide +kernel
theorem dX6_many_14 : decode mX6_many.2.1 14 = .ok (.isub, 1) := by decide +kernel
theorem dX6_many_15 : decode mX6_many.2.1 15 = .ok (.iand, 1) := by decide +kernel
theorem dX6_many_16 : decode mX6_many.2.1 16 = .ok (.istore_n 2, 1) := by decide +kernel
theorem dX6_many_17 : decode mX6_many.2.1 17 = .ok (.goto (-13), 3) := by decide +kernel
theorem dX6_many_20 : decode mX6_many.2.1 20 = .ok (.iload_n 1, 1) := by decide +kernel
theorem dX6_many_21 : decode mX6_many.2.1 21 = .ok (.ireturn, 1) := by decide +kernel
theorem dX6_weather_0 : decode mX6_weather.2.1 0 = .ok (.iload_n 1, 1) := by decide +kernel
theorem dX6_weather_1 : decode mX6_weather.2.1 1 = .ok (.i2l, 1) := by decide +kernel
theorem dX6_weather_2 : decode mX6_weather.2.1 2 = .ok (.lconst 0, 1) := by decide +kernel
theorem dX6_weather_3 : decode mX6_weather.2.1 3 = .ok (.ldc2_w 49, 3) := by decide +kernel
theorem dX6_weather_6 : decode mX6_weather.2.1 6 = .ok (.invokestatic 51, 3) := by decide +kernel
theorem dX6_weather_9 : decode mX6_weather.2.1 9 = .ok (.ifCond .eq 26, 3) := by decide +kernel
theorem dX6_weather_12 : decode mX6_weather.2.1 12 = .ok (.iload_n 2, 1) := by decide +kernel
theorem dX6_weather_13 : decode mX6_weather.2.1 13 = .ok (.i2l, 1) := by decide +kernel
theorem dX6_weather_14 : decode mX6_weather.2.1 14 = .ok (.lconst 0, 1) := by decide +kernel
theorem dX6_weather_15 : decode mX6_weather.2.1 15 = .ok (.ldc2_w 55, 3) := by decide +kernel
theorem dX6_weather_18 : decode mX6_weather.2.1 18 = .ok (.invokestatic 51, 3) := by decide +kernel
theorem dX6_weather_21 : decode mX6_weather.2.1 21 = .ok (.ifCond .eq 14, 3) := by decide +kernel
theorem dX6_weather_24 : decode mX6_weather.2.1 24 = .ok (.aload_n 0, 1) := by decide +kernel
theorem dX6_weather_25 : decode mX6_weather.2.1 25 = .ok (.iconst 3, 1) := by decide +kernel
theorem dX6_weather_26 : decode mX6_weather.2.1 26 = .ok (.iload_n 1, 1) := by decide +kernel
theorem dX6_weather_27 : decode mX6_weather.2.1 27 = .ok (.iadd, 1) := by decide +kernel
theorem dX6_weather_28 : decode mX6_weather.2.1 28 = .ok (.iload_n 2, 1) := by decide +kernel
theorem dX6_weather_29 : decode mX6_weather.2.1 29 = .ok (.invokevirtual 57, 3) := by decide +kernel
theorem dX6_weather_32 : decode mX6_weather.2.1 32 = .ok (.goto 9, 3) := by decide +kernel
theorem dX6_weather_35 : decode mX6_weather.2.1 35 = .ok (.aload_n 0, 1) := by decide +kernel
theorem dX6_weather_36 : decode mX6_weather.2.1 36 = .ok (.ldc 43, 2) := by decide +kernel
theorem dX6_weather_38 : decode mX6_weather.2.1 38 = .ok (.invokevirtual 45, 3) := by decide +kernel
theorem dX6_weather_41 : decode mX6_weather.2.1 41 = .ok (.ireturn, 1) := by decide +kernel
theorem dX6_comes_0 : decode mX6_comes.2.1 0 = .ok (.bipush 6, 2) := by decide +kernel
theorem dX6_comes_2 : decode mX6_comes.2.1 2 = .ok (.iconst 5, 1) := by decide +kernel
theorem dX6_comes_3 : decode mX6_comes.2.1 3 = .ok (.aload_n 0, 1) := by decide +kernel
theorem dX6_comes_4 : decode mX6_comes.2.1 4 = .ok (.getfield 7, 3) := by decide +kernel
theorem dX6_comes_7 : decode mX6_comes.2.1 7 = .ok (.iconst 0, 1) := by decide +kernel
theorem dX6_comes_8 : decode mX6_comes.2.1 8 = .ok (.iaload, 1) := by decide +kernel
theorem dX6_comes_9 : decode mX6_comes.2.1 9 = .ok (.imul, 1) := by decide +kernel
theorem dX6_comes_10 : decode mX6_comes.2.1 10 = .ok (.iadd, 1) := by decide +kernel
theorem dX6_comes_11 : decode mX6_comes.2.1 11 = .ok (.istore_n 3, 1) := by decide +kernel
theorem dX6_comes_12 : decode mX6_comes.2.1 12 = .ok (.aload_n 0, 1) := by decide +kernel
theorem dX6_comes_13 : decode mX6_comes.2.1 13 = .ok (.getfield 7, 3) := by decide +kernel
theorem dX6_comes_16 : decode mX6_comes.2.1 16 = .ok (.iload_n 3, 1) := by decide +kernel
theorem dX6_comes_17 : decode mX6_comes.2.1 17 = .ok (.iload_n 1, 1) := by decide +kernel
theorem dX6_comes_18 : decode mX6_comes.2.1 18 = .ok (.iastore, 1) := by decide +kernel
theorem dX6_comes_19 : decode mX6_comes.2.1 19 = .ok (.aload_n 0, 1) := by decide +kernel
theorem dX6_comes_20 : decode mX6_comes.2.1 20 = .ok (.getfield 7, 3) := by decide +kernel
theorem dX6_comes_23 : decode mX6_comes.2.1 23 = .ok (.iload_n 3, 1) := by decide +kernel
theorem dX6_comes_24 : decode mX6_comes.2.1 24 = .ok (.iconst 1, 1) := by decide +kernel
theorem dX6_comes_25 : decode mX6_comes.2.1 25 = .ok (.iadd, 1) := by decide +kernel
theorem dX6_comes_26 : decode mX6_comes.2.1 26 = .ok (.iload_n 2, 1) := by decide +kernel
theorem dX6_comes_27 : decode mX6_comes.2.1 27 = .ok (.iastore, 1) := by decide +kernel
theorem dX6_comes_28 : decode mX6_comes.2.1 28 = .ok (.aload_n 0, 1) := by decide +kernel
theorem dX6_comes_29 : decode mX6_comes.2.1 29 = .ok (.getfield 7, 3) := by decide +kernel
theorem dX6_comes_32 : decode mX6_comes.2.1 32 = .ok (.iload_n 3, 1) := by decide +kernel
theorem dX6_comes_33 : decode mX6_comes.2.1 33 = .ok (.iconst 2, 1) := by decide +kernel
theorem dX6_comes_34 : decode mX6_comes.2.1 34 = .ok (.iadd, 1) := by decide +kernel
theorem dX6_comes_35 : decode mX6_comes.2.1 35 = .ok (.iconst 4, 1) := by decide +kernel
theorem dX6_comes_36 : decode mX6_comes.2.1 36 = .ok (.iastore, 1) := by decide +kernel
theorem dX6_comes_37 : decode mX6_comes.2.1 37 = .ok (.aload_n 0, 1) := by decide +kernel
theorem dX6_comes_38 : decode mX6_comes.2.1 38 = .ok (.getfield 7, 3) := by decide +kernel
theorem dX6_comes_41 : decode mX6_comes.2.1 41 = .ok (.iload_n 3, 1) := by decide +kernel
theorem dX6_comes_42 : decode mX6_comes.2.1 42 = .ok (.iconst 3, 1) := by decide +kernel
theorem dX6_comes_43 : decode mX6_comes.2.1 43 = .ok (.iadd, 1) := by decide +kernel
theorem dX6_comes_44 : decode mX6_comes.2.1 44 = .ok (.iconst 0, 1) := by decide +kernel
theorem dX6_comes_45 : decode mX6_comes.2.1 45 = .ok (.iastore, 1) := by decide +kernel
theorem dX6_comes_46 : decode mX6_comes.2.1 46 = .ok (.aload_n 0, 1) := by decide +kernel
theorem dX6_comes_47 : decode mX6_comes.2.1 47 = .ok (.getfield 7, 3) := by decide +kernel
theorem dX6_comes_50 : decode mX6_comes.2.1 50 = .ok (.iload_n 3, 1) := by decide +kernel
theorem dX6_comes_51 : decode mX6_comes.2.1 51 = .ok (.iconst 4, 1) := by decide +kernel
theorem dX6_comes_52 : decode mX6_comes.2.1 52 = .ok (.iadd, 1) := by decide +kernel
theorem dX6_comes_53 : decode mX6_comes.2.1 53 = .ok (.iconst 0, 1) := by decide +kernel
theorem dX6_comes_54 : decode mX6_comes.2.1 54 = .ok (.iastore, 1) := by decide +kernel
theorem dX6_comes_55 : decode mX6_comes.2.1 55 = .ok (.aload_n 0, 1) := by decide +kernel
theorem dX6_comes_56 : decode mX6_comes.2.1 56 = .ok (.getfield 7, 3) := by decide +kernel
theorem dX6_comes_59 : decode mX6_comes.2.1 59 = .ok (.iconst 0, 1) := by decide +kernel
theorem dX6_comes_60 : decode mX6_comes.2.1 60 = .ok (.dup2, 1) := by decide +kernel
theorem dX6_comes_61 : decode mX6_comes.2.1 61 = .ok (.iaload, 1) := by decide +kernel
theorem dX6_comes_62 : decode mX6_comes.2.1 62 = .ok (.iconst 1, 1) := by decide +kernel
theorem dX6_comes_63 : decode mX6_comes.2.1 63 = .ok (.iadd, 1) := by decide +kernel
theorem dX6_comes_64 : decode mX6_comes.2.1 64 = .ok (.iastore, 1) := by decide +kernel
theorem dX6_comes_65 : decode mX6_comes.2.1 65 = .ok (.return_, 1) := by decide +kernel
theorem dX6_farm_0 : decode mX6_farm.2.1 0 = .ok (.iload_n 1, 1) := by decide +kernel
theorem dX6_farm_1 : decode mX6_farm.2.1 1 = .ok (.i2l, 1) := by decide +kernel
theorem dX6_farm_2 : decode mX6_farm.2.1 2 = .ok (.lconst 0, 1) := by decide +kernel
theorem dX6_farm_3 : decode mX6_farm.2.1 3 = .ok (.ldc2_w 61, 3) := by decide +kernel
theorem dX6_farm_6 : decode mX6_farm.2.1 6 = .ok (.invokestatic 51, 3) := by decide +kernel
theorem dX6_farm_9 : decode mX6_farm.2.1 9 = .ok (.ifCond .eq 15, 3) := by decide +kernel
theorem dX6_farm_12 : decode mX6_farm.2.1 12 = .ok (.iload_n 2, 1) := by decide +kernel
theorem dX6_farm_13 : decode mX6_farm.2.1 13 = .ok (.i2l, 1) := by decide +kernel
theorem dX6_farm_14 : decode mX6_farm.2.1 14 = .ok (.lconst 0, 1) := by decide +kernel
theorem dX6_farm_15 : decode mX6_farm.2.1 15 = .ok (.ldc2_w 63, 3) := by decide +kernel
theorem dX6_farm_18 : decode mX6_farm.2.1 18 = .ok (.invokestatic 51, 3) := by decide +kernel
theorem dX6_farm_21 : decode mX6_farm.2.1 21 = .ok (.ifCond .ne 10, 3) := by decide +kernel
theorem dX6_farm_24 : decode mX6_farm.2.1 24 = .ok (.aload_n 0, 1) := by decide +kernel
theorem dX6_farm_25 : decode mX6_farm.2.1 25 = .ok (.ldc 43, 2) := by decide +kernel
theorem dX6_farm_27 : decode mX6_farm.2.1 27 = .ok (.invokevirtual 45, 3) := by decide +kernel
theorem dX6_farm_30 : decode mX6_farm.2.1 30 = .ok (.ireturn, 1) := by decide +kernel
theorem dX6_farm_31 : decode mX6_farm.2.1 31 = .ok (.aload_n 0, 1) := by decide +kernel
theorem dX6_farm_32 : decode mX6_farm.2.1 32 = .ok (.getfield 7, 3) := by decide +kernel
theorem dX6_farm_35 : decode mX6_farm.2.1 35 = .ok (.iconst 0, 1) := by decide +kernel
theorem dX6_farm_36 : decode mX6_farm.2.1 36 = .ok (.iaload, 1) := by decide +kernel
theorem dX6_farm_37 : decode mX6_farm.2.1 37 = .ok (.bipush 8, 2) := by decide +kernel
theorem dX6_farm_39 : decode mX6_farm.2.1 39 = .ok (.if_icmp .ne 10, 3) := by decide +kernel
theorem dX6_farm_42 : decode mX6_farm.2.1 42 = .ok (.aload_n 0, 1) := by decide +kernel
theorem dX6_farm_43 : decode mX6_farm.2.1 43 = .ok (.ldc 65, 2) := by decide +kernel
theorem dX6_farm_45 : decode mX6_farm.2.1 45 = .ok (.invokevirtual 45, 3) := by decide +kernel
theorem dX6_farm_48 : decode mX6_farm.2.1 48 = .ok (.ireturn, 1) := by decide +kernel
theorem dX6_farm_49 : decode mX6_farm.2.1 49 = .ok (.aload_n 0, 1) := by decide +kernel
theorem dX6_farm_50 : decode mX6_farm.2.1 50 = .ok (.iload_n 1, 1) := by decide +kernel
theorem dX6_farm_51 : decode mX6_farm.2.1 51 = .ok (.iload_n 2, 1) := by decide +kernel
theorem dX6_farm_52 : decode mX6_farm.2.1 52 = .ok (.invokevirtual 66, 3) := by decide +kernel
theorem dX6_farm_55 : decode mX6_farm.2.1 55 = .ok (.aload_n 0, 1) := by decide +kernel
theorem dX6_farm_56 : decode mX6_farm.2.1 56 = .ok (.getfield 7, 3) := by decide +kernel
theorem dX6_farm_59 : decode mX6_farm.2.1 59 = .ok (.iconst 0, 1) := by decide +kernel
theorem dX6_farm_60 : decode mX6_farm.2.1 60 = .ok (.iaload, 1) := by decide +kernel
theorem dX6_farm_61 : decode mX6_farm.2.1 61 = .ok (.iconst 1, 1) := by decide +kernel
theorem dX6_farm_62 : decode mX6_farm.2.1 62 = .ok (.isub, 1) := by decide +kernel
theorem dX6_farm_63 : decode mX6_farm.2.1 63 = .ok (.ireturn, 1) := by decide +kernel
theorem dX6_reaps_0 : decode mX6_reaps.2.1 0 = .ok (.iconst 1, 1) := by decide +kernel
theorem dX6_reaps_1 : decode mX6_reaps.2.1 1 = .ok (.iconst 2, 1) := by decide +kernel
theorem dX6_reaps_2 : decode mX6_reaps.2.1 2 = .ok (.aload_n 0, 1) := by decide +kernel
theorem dX6_reaps_3 : decode mX6_reaps.2.1 3 = .ok (.iload_n 1, 1) := by decide +kernel
theorem dX6_reaps_4 : decode mX6_reaps.2.1 4 = .ok (.iconst 2, 1) := by decide +kernel
theorem dX6_reaps_5 : decode mX6_reaps.2.1 5 = .ok (.invokevirtual 70, 3) := by decide +kernel
theorem dX6_reaps_8 : decode mX6_reaps.2.1 8 = .ok (.imul, 1) := by decide +kernel
theorem dX6_reaps_9 : decode mX6_reaps.2.1 9 = .ok (.aload_n 0, 1) := by decide +kernel
theorem dX6_reaps_10 : decode mX6_reaps.2.1 10 = .ok (.getfield 7, 3) := by decide +kernel
theorem dX6_reaps_13 : decode mX6_reaps.2.1 13 = .ok (.iconst 3, 1) := by decide +kernel
theorem dX6_reaps_14 : decode mX6_reaps.2.1 14 = .ok (.iaload, 1) := by decide +kernel
theorem dX6_reaps_15 : decode mX6_reaps.2.1 15 = .ok (.bipush 10, 2) := by decide +kernel
theorem dX6_reaps_17 : decode mX6_reaps.2.1 17 = .ok (.idiv, 1) := by decide +kernel
theorem dX6_reaps_18 : decode mX6_reaps.2.1 18 = .ok (.isub, 1) := by decide +kernel
theorem dX6_reaps_19 : decode mX6_reaps.2.1 19 = .ok (.invokestatic 73, 3) := by decide +kernel
theorem dX6_reaps_22 : decode mX6_reaps.2.1 22 = .ok (.istore_n 3, 1) := by decide +kernel
theorem dX6_reaps_23 : decode mX6_reaps.2.1 23 = .ok (.iconst 1, 1) := by decide +kernel
theorem dX6_reaps_24 : decode mX6_reaps.2.1 24 = .ok (.iload_n 3, 1) := by decide +kernel
theorem dX6_reaps_25 : decode mX6_reaps.2.1 25 = .ok (.iconst 2, 1) := by decide +kernel
theorem dX6_reaps_26 : decode mX6_reaps.2.1 26 = .ok (.idiv, 1) := by decide +kernel
theorem dX6_reaps_27 : decode mX6_reaps.2.1 27 = .ok (.invokestatic 73, 3) := by decide +kernel
theorem dX6_reaps_30 : decode mX6_reaps.2.1 30 = .ok (.istore 4, 2) := by decide +kernel
theorem dX6_reaps_32 : decode mX6_reaps.2.1 32 = .ok (.iload_n 2, 1) := by decide +kernel
theorem dX6_reaps_33 : decode mX6_reaps.2.1 33 = .ok (.bipush 20, 2) := by decide +kernel
theorem dX6_reaps_35 : decode mX6_reaps.2.1 35 = .ok (.if_icmp .le 9, 3) := by decide +kernel
theorem dX6_reaps_38 : decode mX6_reaps.2.1 38 = .ok (.iload_n 3, 1) := by decide +kernel
theorem dX6_reaps_39 : decode mX6_reaps.2.1 39 = .ok (.iconst 3, 1) := by decide +kernel
theorem dX6_reaps_40 : decode mX6_reaps.2.1 40 = .ok (.iadd, 1) := by decide +kernel
theorem dX6_reaps_41 : decode mX6_reaps.2.1 41 = .ok (.goto 12, 3) := by decide +kernel
theorem dX6_reaps_44 : decode mX6_reaps.2.1 44 = .ok (.iconst 1, 1) := by decide +kernel
theorem dX6_reaps_45 : decode mX6_reaps.2.1 45 = .ok (.iload_n 3, 1) := by decide +kernel
theorem dX6_reaps_46 : decode mX6_reaps.2.1 46 = .ok (.iconst 3, 1) := by decide +kernel
theorem dX6_reaps_47 : decode mX6_reaps.2.1 47 = .ok (.iadd, 1) := by decide +kernel
theorem dX6_reaps_48 : decode mX6_reaps.2.1 48 = .ok (.iconst 2, 1) := by decide +kernel
theorem dX6_reaps_49 : decode mX6_reaps.2.1 49 = .ok (.idiv, 1) := by decide +kernel
theorem dX6_reaps_50 : decode mX6_reaps.2.1 50 = .ok (.invokestatic 73, 3) := by decide +kernel
theorem dX6_reaps_53 : decode mX6_reaps.2.1 53 = .ok (.istore 5, 2) := by decide +kernel
theorem dX6_reaps_55 : decode mX6_reaps.2.1 55 = .ok (.aload_n 0, 1) := by decide +kernel
theorem dX6_reaps_56 : decode mX6_reaps.2.1 56 = .ok (.iload_n 1, 1) := by decide +kernel
theorem dX6_reaps_57 : decode mX6_reaps.2.1 57 = .ok (.iconst 0, 1) := by decide +kernel
theorem dX6_reaps_58 : decode mX6_reaps.2.1 58 = .ok (.invokevirtual 70, 3) := by decide +kernel
theorem dX6_reaps_61 : decode mX6_reaps.2.1 61 = .ok (.tableswitch 88 1 6 #[39, 42, 46, 49, 61, 79], 39) := by decide +kernel
theorem dX6_reaps_100 : decode mX6_reaps.2.1 100 = .ok (.iload 4, 2) := by decide +kernel
theorem dX6_reaps_102 : decode mX6_reaps.2.1 102 = .ok (.ireturn, 1) := by decide +kernel
theorem dX6_reaps_103 : decode mX6_reaps.2.1 103 = .ok (.iload_n 3, 1) := by decide +kernel
theorem dX6_reaps_104 : decode mX6_reaps.2.1 104 = .ok (.iconst 3, 1) := by decide +kernel
theorem dX6_reaps_105 : decode mX6_reaps.2.1 105 = .ok (.iadd, 1) := by decide +kernel
theorem dX6_reaps_106 : decode mX6_reaps.2.1 106 = .ok (.ireturn, 1) := by decide +kernel
theorem dX6_reaps_107 : decode mX6_reaps.2.1 107 = .ok (.iload 5, 2) := by decide +kernel
theorem dX6_reaps_109 : decode mX6_reaps.2.1 109 = .ok (.ireturn, 1) := by decide +kernel
theorem dX6_reaps_110 : decode mX6_reaps.2.1 110 = .ok (.iload_n 2, 1) := by decide +kernel
theorem dX6_reaps_111 : decode mX6_reaps.2.1 111 = .ok (.iconst 5, 1) := by decide +kernel
theorem dX6_reaps_112 : decode mX6_reaps.2.1 112 = .ok (.if_icmp .le 8, 3) := by decide +kernel
theorem dX6_reaps_115 : decode mX6_reaps.2.1 115 = .ok (.iload 5, 2) := by decide +kernel
theorem dX6_reaps_117 : decode mX6_reaps.2.1 117 = .ok (.goto 4, 3) := by decide +kernel
theorem dX6_reaps_120 : decode mX6_reaps.2.1 120 = .ok (.iconst 1, 1) := by decide +kernel
theorem dX6_reaps_121 : decode mX6_reaps.2.1 121 = .ok (.ireturn, 1) := by decide +kernel
theorem dX6_reaps_122 : decode mX6_reaps.2.1 122 = .ok (.aload_n 0, 1) := by decide +kernel
theorem dX6_reaps_123 : decode mX6_reaps.2.1 123 = .ok (.getfield 7, 3) := by decide +kernel
theorem dX6_reaps_126 : decode mX6_reaps.2.1 126 = .ok (.iconst 3, 1) := by decide +kernel
theorem dX6_reaps_127 : decode mX6_reaps.2.1 127 = .ok (.iaload, 1) := by decide +kernel
theorem dX6_reaps_128 : decode mX6_reaps.2.1 128 = .ok (.bipush 50, 2) := by decide +kernel
theorem dX6_reaps_130 : decode mX6_reaps.2.1 130 = .ok (.if_icmp .ge 8, 3) := by decide +kernel
theorem dX6_reaps_133 : decode mX6_reaps.2.1 133 = .ok (.bipush 30, 2) := by decide +kernel
theorem dX6_reaps_135 : decode mX6_reaps.2.1 135 = .ok (.goto 4, 3) := by decide +kernel
theorem dX6_reaps_138 : decode mX6_reaps.2.1 138 = .ok (.iconst 2, 1) := by decide +kernel
theorem dX6_reaps_139 : decode mX6_reaps.2.1 139 = .ok (.ireturn, 1) := by decide +kernel
theorem dX6_reaps_140 : decode mX6_reaps.2.1 140 = .ok (.iconst 1, 1) := by decide +kernel
theorem dX6_reaps_141 : decode mX6_reaps.2.1 141 = .ok (.iload 4, 2) := by decide +kernel
theorem dX6_reaps_143 : decode mX6_reaps.2.1 143 = .ok (.iconst 1, 1) := by decide +kernel
theorem dX6_reaps_144 : decode mX6_reaps.2.1 144 = .ok (.isub, 1) := by decide +kernel
theorem dX6_reaps_145 : decode mX6_reaps.2.1 145 = .ok (.invokestatic 73, 3) := by decide +kernel
theorem dX6_reaps_148 : decode mX6_reaps.2.1 148 = .ok (.ireturn, 1) := by decide +kernel
theorem dX6_reaps_149 : decode mX6_reaps.2.1 149 = .ok (.iload_n 3, 1) := by decide +kernel
theorem dX6_reaps_150 : decode mX6_reaps.2.1 150 = .ok (.ireturn, 1) := by decide +kernel
theorem dX6_leftBehind_0 : decode mX6_leftBehind.2.1 0 = .ok (.aload_n 0, 1) := by decide +kernel
theorem dX6_leftBehind_1 : decode mX6_leftBehind.2.1 1 = .ok (.iload_n 1, 1) := by decide +kernel
theorem dX6_leftBehind_2 : decode mX6_leftBehind.2.1 2 = .ok (.iconst 1, 1) := by decide +kernel
theorem dX6_leftBehind_3 : decode mX6_leftBehind.2.1 3 = .ok (.invokevirtual 70, 3) := by decide +kernel
theorem dX6_leftBehind_6 : decode mX6_leftBehind.2.1 6 = .ok (.istore_n 3, 1) := by decide +kernel
theorem dX6_leftBehind_7 : decode mX6_leftBehind.2.1 7 = .ok (.iconst 0, 1) := by decide +kernel
theorem dX6_leftBehind_8 : decode mX6_leftBehind.2.1 8 = .ok (.istore 4, 2) := by decide +kernel
theorem dX6_leftBehind_10 : decode mX6_leftBehind.2.1 10 = .ok (.iload 4, 2) := by decide +kernel
theorem dX6_leftBehind_12 : decode mX6_leftBehind.2.1 12 = .ok (.iload_n 2, 1) := by decide +kernel
theorem dX6_leftBehind_13 : decode mX6_leftBehind.2.1 13 = .ok (.if_icmp .ge 26, 3) := by decide +kernel
theorem dX6_leftBehind_16 : decode mX6_leftBehind.2.1 16 = .ok (.iload_n 3, 1) := by decide +kernel
theorem dX6_leftBehind_17 : decode mX6_leftBehind.2.1 17 = .ok (.ifCond .le 22, 3) := by decide +kernel
theorem dX6_leftBehind_20 : decode mX6_leftBehind.2.1 20 = .ok (.iconst 0, 1) := by decide +kernel
theorem dX6_leftBehind_21 : decode mX6_leftBehind.2.1 21 = .ok (.iload_n 3, 1) := by decide +kernel
theorem dX6_leftBehind_22 : decode mX6_leftBehind.2.1 22 = .ok (.aload_n 0, 1) := by decide +kernel
theorem dX6_leftBehind_23 : decode mX6_leftBehind.2.1 23 = .ok (.iload_n 1, 1) := by decide +kernel
theorem dX6_leftBehind_24 : decode mX6_leftBehind.2.1 24 = .ok (.iload_n 3, 1) := by decide +kernel
theorem dX6_leftBehind_25 : decode mX6_leftBehind.2.1 25 = .ok (.invokevirtual 76, 3) := by decide +kernel
theorem dX6_leftBehind_28 : decode mX6_leftBehind.2.1 28 = .ok (.isub, 1) := by decide +kernel
theorem dX6_leftBehind_29 : decode mX6_leftBehind.2.1 29 = .ok (.invokestatic 73, 3) := by decide +kernel
theorem dX6_leftBehind_32 : decode mX6_leftBehind.2.1 32 = .ok (.istore_n 3, 1) := by decide +kernel
theorem dX6_leftBehind_33 : decode mX6_leftBehind.2.1 33 = .ok (.iinc 4 1, 3) := by decide +kernel
theorem dX6_leftBehind_36 : decode mX6_leftBehind.2.1 36 = .ok (.goto (-26), 3) := by decide +kernel
theorem dX6_leftBehind_39 : decode mX6_leftBehind.2.1 39 = .ok (.iload_n 3, 1) := by decide +kernel
theorem dX6_leftBehind_40 : decode mX6_leftBehind.2.1 40 = .ok (.ireturn, 1) := by decide +kernel
theorem dX6_days_0 : decode mX6_days.2.1 0 = .ok (.aload_n 0, 1) := by decide +kernel
theorem dX6_days_1 : decode mX6_days.2.1 1 = .ok (.iload_n 1, 1) := by decide +kernel
theorem dX6_days_2 : decode mX6_days.2.1 2 = .ok (.iconst 1, 1) := by decide +kernel
theorem dX6_days_3 : decode mX6_days.2.1 3 = .ok (.invokevirtual 70, 3) := by decide +kernel
theorem dX6_days_6 : decode mX6_days.2.1 6 = .ok (.istore_n 2, 1) := by decide +kernel
theorem dX6_days_7 : decode mX6_days.2.1 7 = .ok (.iconst 0, 1) := by decide +kernel
theorem dX6_days_8 : decode mX6_days.2.1 8 = .ok (.istore_n 3, 1) := by decide +kernel
theorem dX6_days_9 : decode mX6_days.2.1 9 = .ok (.iload_n 2, 1) := by decide +kernel
theorem dX6_days_10 : decode mX6_days.2.1 10 = .ok (.bipush 20, 2) := by decide +kernel
theorem dX6_days_12 : decode mX6_days.2.1 12 = .ok (.if_icmp .le 28, 3) := by decide +kernel
theorem dX6_days_15 : decode mX6_days.2.1 15 = .ok (.aload_n 0, 1) := by decide +kernel
theorem dX6_days_16 : decode mX6_days.2.1 16 = .ok (.iload_n 1, 1) := by decide +kernel
theorem dX6_days_17 : decode mX6_days.2.1 17 = .ok (.iload_n 2, 1) := by decide +kernel
theorem dX6_days_18 : decode mX6_days.2.1 18 = .ok (.invokevirtual 76, 3) := by decide +kernel
theorem dX6_days_21 : decode mX6_days.2.1 21 = .ok (.istore 4, 2) := by decide +kernel
theorem dX6_days_23 : decode mX6_days.2.1 23 = .ok (.iload_n 2, 1) := by decide +kernel
theorem dX6_days_24 : decode mX6_days.2.1 24 = .ok (.bipush 21, 2) := by decide +kernel
theorem dX6_days_26 : decode mX6_days.2.1 26 = .ok (.isub, 1) := by decide +kernel
theorem dX6_days_27 : decode mX6_days.2.1 27 = .ok (.iload 4, 2) := by decide +kernel
theorem dX6_days_29 : decode mX6_days.2.1 29 = .ok (.idiv, 1) := by decide +kernel
theorem dX6_days_30 : decode mX6_days.2.1 30 = .ok (.iconst 1, 1) := by decide +kernel
theorem dX6_days_31 : decode mX6_days.2.1 31 = .ok (.iadd, 1) := by decide +kernel
theorem dX6_days_32 : decode mX6_days.2.1 32 = .ok (.istore_n 3, 1) := by decide +kernel
theorem dX6_days_33 : decode mX6_days.2.1 33 = .ok (.iload_n 2, 1) := by decide +kernel
theorem dX6_days_34 : decode mX6_days.2.1 34 = .ok (.iload_n 3, 1) := by decide +kernel
theorem dX6_days_35 : decode mX6_days.2.1 35 = .ok (.iload 4, 2) := by decide +kernel
theorem dX6_days_37 : decode mX6_days.2.1 37 = .ok (.imul, 1) := by decide +kernel
theorem dX6_days_38 : decode mX6_days.2.1 38 = .ok (.isub, 1) := by decide +kernel
theorem dX6_days_39 : decode mX6_days.2.1 39 = .ok (.istore_n 2, 1) := by decide +kernel
theorem dX6_days_40 : decode mX6_days.2.1 40 = .ok (.iload_n 2, 1) := by decide +kernel
theorem dX6_days_41 : decode mX6_days.2.1 41 = .ok (.ifCond .le 18, 3) := by decide +kernel
theorem dX6_days_44 : decode mX6_days.2.1 44 = .ok (.iload_n 2, 1) := by decide +kernel
theorem dX6_days_45 : decode mX6_days.2.1 45 = .ok (.aload_n 0, 1) := by decide +kernel
theorem dX6_days_46 : decode mX6_days.2.1 46 = .ok (.iload_n 1, 1) := by decide +kernel
theorem dX6_days_47 : decode mX6_days.2.1 47 = .ok (.iload_n 2, 1) := by decide +kernel
theorem dX6_days_48 : decode mX6_days.2.1 48 = .ok (.invokevirtual 76, 3) := by decide +kernel
theorem dX6_days_51 : decode mX6_days.2.1 51 = .ok (.isub, 1) := by decide +kernel
theorem dX6_days_52 : decode mX6_days.2.1 52 = .ok (.istore_n 2, 1) := by decide +kernel
theorem dX6_days_53 : decode mX6_days.2.1 53 = .ok (.iinc 3 1, 3) := by decide +kernel
theorem dX6_days_56 : decode mX6_days.2.1 56 = .ok (.goto (-16), 3) := by decide +kernel
theorem dX6_days_59 : decode mX6_days.2.1 59 = .ok (.iload_n 3, 1) := by decide +kernel
theorem dX6_days_60 : decode mX6_days.2.1 60 = .ok (.ireturn, 1) := by decide +kernel
theorem dX6_tells_0 : decode mX6_tells.2.1 0 = .ok (.aload_n 0, 1) := by decide +kernel
theorem dX6_tells_1 : decode mX6_tells.2.1 1 = .ok (.iload_n 1, 1) := by decide +kernel
theorem dX6_tells_2 : decode mX6_tells.2.1 2 = .ok (.iconst 0, 1) := by decide +kernel
theorem dX6_tells_3 : decode mX6_tells.2.1 3 = .ok (.invokevirtual 70, 3) := by decide +kernel
theorem dX6_tells_6 : decode mX6_tells.2.1 6 = .ok (.tableswitch 63 1 6 #[38, 40, 42, 45, 59, 61], 38) := by decide +kernel
theorem dX6_tells_44 : decode mX6_tells.2.1 44 = .ok (.iconst 2, 1) := by decide +kernel
theorem dX6_tells_45 : decode mX6_tells.2.1 45 = .ok (.ireturn, 1) := by decide +kernel
theorem dX6_tells_46 : decode mX6_tells.2.1 46 = .ok (.iconst 3, 1) := by decide +kernel
theorem dX6_tells_47 : decode mX6_tells.2.1 47 = .ok (.ireturn, 1) := by decide +kernel
theorem dX6_tells_48 : decode mX6_tells.2.1 48 = .ok (.bipush (-3), 2) := by decide +kernel
theorem dX6_tells_50 : decode mX6_tells.2.1 50 = .ok (.ireturn, 1) := by decide +kernel
theorem dX6_tells_51 : decode mX6_tells.2.1 51 = .ok (.bipush 9, 2) := by decide +kernel
theorem dX6_tells_53 : decode mX6_tells.2.1 53 = .ok (.aload_n 0, 1) := by decide +kernel
theorem dX6_tells_54 : decode mX6_tells.2.1 54 = .ok (.iload_n 1, 1) := by decide +kernel
theorem dX6_tells_55 : decode mX6_tells.2.1 55 = .ok (.iconst 4, 1) := by decide +kernel
theorem dX6_tells_56 : decode mX6_tells.2.1 56 = .ok (.invokevirtual 70, 3) := by decide +kernel
theorem dX6_tells_59 : decode mX6_tells.2.1 59 = .ok (.invokestatic 79, 3) := by decide +kernel
theorem dX6_tells_62 : decode mX6_tells.2.1 62 = .ok (.iconst 3, 1) := by decide +kernel
theorem dX6_tells_63 : decode mX6_tells.2.1 63 = .ok (.isub, 1) := by decide +kernel
theorem dX6_tells_64 : decode mX6_tells.2.1 64 = .ok (.ireturn, 1) := by decide +kernel
theorem dX6_tells_65 : decode mX6_tells.2.1 65 = .ok (.iconst 0, 1) := by decide +kernel
theorem dX6_tells_66 : decode mX6_tells.2.1 66 = .ok (.ireturn, 1) := by decide +kernel
theorem dX6_tells_67 : decode mX6_tells.2.1 67 = .ok (.iconst 4, 1) := by decide +kernel
theorem dX6_tells_68 : decode mX6_tells.2.1 68 = .ok (.ireturn, 1) := by decide +kernel
theorem dX6_tells_69 : decode mX6_tells.2.1 69 = .ok (.iconst 1, 1) := by decide +kernel
theorem dX6_tells_70 : decode mX6_tells.2.1 70 = .ok (.ireturn, 1) := by decide +kernel
theorem dX6_of_0 : decode mX6_of.2.1 0 = .ok (.aload_n 0, 1) := by decide +kernel
theorem dX6_of_1 : decode mX6_of.2.1 1 = .ok (.iload_n 1, 1) := by decide +kernel
theorem dX6_of_2 : decode mX6_of.2.1 2 = .ok (.invokevirtual 82, 3) := by decide +kernel
theorem dX6_of_5 : decode mX6_of.2.1 5 = .ok (.ifCond .eq 15, 3) := by decide +kernel
theorem dX6_of_8 : decode mX6_of.2.1 8 = .ok (.iload_n 2, 1) := by decide +kernel
theorem dX6_of_9 : decode mX6_of.2.1 9 = .ok (.i2l, 1) := by decide +kernel
theorem dX6_of_10 : decode mX6_of.2.1 10 = .ok (.lconst 0, 1) := by decide +kernel
theorem dX6_of_11 : decode mX6_of.2.1 11 = .ok (.ldc2_w 86, 3) := by decide +kernel
theorem dX6_of_14 : decode mX6_of.2.1 14 = .ok (.invokestatic 51, 3) := by decide +kernel
theorem dX6_of_17 : decode mX6_of.2.1 17 = .ok (.ifCond .ne 10, 3) := by decide +kernel
theorem dX6_of_20 : decode mX6_of.2.1 20 = .ok (.aload_n 0, 1) := by decide +kernel
theorem dX6_of_21 : decode mX6_of.2.1 21 = .ok (.ldc 43, 2) := by decide +kernel
theorem dX6_of_23 : decode mX6_of.2.1 23 = .ok (.invokevirtual 45, 3) := by decide +kernel
theorem dX6_of_26 : decode mX6_of.2.1 26 = .ok (.ireturn, 1) := by decide +kernel
theorem dX6_of_27 : decode mX6_of.2.1 27 = .ok (.iload_n 2, 1) := by decide +kernel
theorem dX6_of_28 : decode mX6_of.2.1 28 = .ok (.tableswitch 52 5 7 #[28, 40, 46], 28) := by decide +kernel
theorem dX6_of_56 : decode mX6_of.2.1 56 = .ok (.aload_n 0, 1) := by decide +kernel
theorem dX6_of_57 : decode mX6_of.2.1 57 = .ok (.iload_n 1, 1) := by decide +kernel
theorem dX6_of_58 : decode mX6_of.2.1 58 = .ok (.aload_n 0, 1) := by decide +kernel
theorem dX6_of_59 : decode mX6_of.2.1 59 = .ok (.iload_n 1, 1) := by decide +kernel
theorem dX6_of_60 : decode mX6_of.2.1 60 = .ok (.iconst 1, 1) := by decide +kernel
theorem dX6_of_61 : decode mX6_of.2.1 61 = .ok (.invokevirtual 70, 3) := by decide +kernel
theorem dX6_of_64 : decode mX6_of.2.1 64 = .ok (.invokevirtual 76, 3) := by decide +kernel
theorem dX6_of_67 : decode mX6_of.2.1 67 = .ok (.ireturn, 1) := by decide +kernel
theorem dX6_of_68 : decode mX6_of.2.1 68 = .ok (.aload_n 0, 1) := by decide +kernel
theorem dX6_of_69 : decode mX6_of.2.1 69 = .ok (.iload_n 1, 1) := by decide +kernel
theorem dX6_of_70 : decode mX6_of.2.1 70 = .ok (.invokevirtual 88, 3) := by decide +kernel
theorem dX6_of_73 : decode mX6_of.2.1 73 = .ok (.ireturn, 1) := by decide +kernel
theorem dX6_of_74 : decode mX6_of.2.1 74 = .ok (.aload_n 0, 1) := by decide +kernel
theorem dX6_of_75 : decode mX6_of.2.1 75 = .ok (.iload_n 1, 1) := by decide +kernel
theorem dX6_of_76 : decode mX6_of.2.1 76 = .ok (.invokevirtual 91, 3) := by decide +kernel
theorem dX6_of_79 : decode mX6_of.2.1 79 = .ok (.ireturn, 1) := by decide +kernel
theorem dX6_of_80 : decode mX6_of.2.1 80 = .ok (.aload_n 0, 1) := by decide +kernel
theorem dX6_of_81 : decode mX6_of.2.1 81 = .ok (.iload_n 1, 1) := by decide +kernel
theorem dX6_of_82 : decode mX6_of.2.1 82 = .ok (.iload_n 2, 1) := by decide +kernel
theorem dX6_of_83 : decode mX6_of.2.1 83 = .ok (.invokevirtual 70, 3) := by decide +kernel
theorem dX6_of_86 : decode mX6_of.2.1 86 = .ok (.ireturn, 1) := by decide +kernel
theorem dX6_isFit_0 : decode mX6_isFit.2.1 0 = .ok (.iload_n 0, 1) := by decide +kernel
theorem dX6_isFit_1 : decode mX6_isFit.2.1 1 = .ok (.tableswitch 73 0 3 #[31, 41, 51, 61], 31) := by decide +kernel
theorem dX6_isFit_32 : decode mX6_isFit.2.1 32 = .ok (.iload_n 1, 1) := by decide +kernel
theorem dX6_isFit_33 : decode mX6_isFit.2.1 33 = .ok (.i2l, 1) := by decide +kernel
theorem dX6_isFit_34 : decode mX6_isFit.2.1 34 = .ok (.lconst 0, 1) := by decide +kernel
theorem dX6_isFit_35 : decode mX6_isFit.2.1 35 = .ok (.ldc2_w 61, 3) := by decide +kernel
theorem dX6_isFit_38 : decode mX6_isFit.2.1 38 = .ok (.invokestatic 51, 3) := by decide +kernel
theorem dX6_isFit_41 : decode mX6_isFit.2.1 41 = .ok (.ireturn, 1) := by decide +kernel
theorem dX6_isFit_42 : decode mX6_isFit.2.1 42 = .ok (.iload_n 1, 1) := by decide +kernel
theorem dX6_isFit_43 : decode mX6_isFit.2.1 43 = .ok (.i2l, 1) := by decide +kernel
theorem dX6_isFit_44 : decode mX6_isFit.2.1 44 = .ok (.lconst 0, 1) := by decide +kernel
theorem dX6_isFit_45 : decode mX6_isFit.2.1 45 = .ok (.ldc2_w 63, 3) := by decide +kernel
theorem dX6_isFit_48 : decode mX6_isFit.2.1 48 = .ok (.invokestatic 51, 3) := by decide +kernel
theorem dX6_isFit_51 : decode mX6_isFit.2.1 51 = .ok (.ireturn, 1) := by decide +kernel
theorem dX6_isFit_52 : decode mX6_isFit.2.1 52 = .ok (.iload_n 1, 1) := by decide +kernel
theorem dX6_isFit_53 : decode mX6_isFit.2.1 53 = .ok (.i2l, 1) := by decide +kernel
theorem dX6_isFit_54 : decode mX6_isFit.2.1 54 = .ok (.lconst 1, 1) := by decide +kernel
theorem dX6_isFit_55 : decode mX6_isFit.2.1 55 = .ok (.ldc2_w 94, 3) := by decide +kernel
theorem dX6_isFit_58 : decode mX6_isFit.2.1 58 = .ok (.invokestatic 51, 3) := by decide +kernel
theorem dX6_isFit_61 : decode mX6_isFit.2.1 61 = .ok (.ireturn, 1) := by decide +kernel
theorem dX6_isFit_62 : decode mX6_isFit.2.1 62 = .ok (.iload_n 1, 1) := by decide +kernel
theorem dX6_isFit_63 : decode mX6_isFit.2.1 63 = .ok (.i2l, 1) := by decide +kernel
theorem dX6_isFit_64 : decode mX6_isFit.2.1 64 = .ok (.ldc2_w 96, 3) := by decide +kernel
theorem dX6_isFit_67 : decode mX6_isFit.2.1 67 = .ok (.ldc2_w 98, 3) := by decide +kernel
theorem dX6_isFit_70 : decode mX6_isFit.2.1 70 = .ok (.invokestatic 51, 3) := by decide +kernel
theorem dX6_isFit_73 : decode mX6_isFit.2.1 73 = .ok (.ireturn, 1) := by decide +kernel
theorem dX6_isFit_74 : decode mX6_isFit.2.1 74 = .ok (.iload_n 0, 1) := by decide +kernel
theorem dX6_isFit_75 : decode mX6_isFit.2.1 75 = .ok (.iconst 4, 1) := by decide +kernel
theorem dX6_isFit_76 : decode mX6_isFit.2.1 76 = .ok (.if_icmp .ne 19, 3) := by decide +kernel
theorem dX6_isFit_79 : decode mX6_isFit.2.1 79 = .ok (.iload_n 1, 1) := by decide +kernel
theorem dX6_isFit_80 : decode mX6_isFit.2.1 80 = .ok (.i2l, 1) := by decide +kernel
theorem dX6_isFit_81 : decode mX6_isFit.2.1 81 = .ok (.lconst 0, 1) := by decide +kernel
theorem dX6_isFit_82 : decode mX6_isFit.2.1 82 = .ok (.ldc2_w 100, 3) := by decide +kernel
theorem dX6_isFit_85 : decode mX6_isFit.2.1 85 = .ok (.invokestatic 51, 3) := by decide +kernel
theorem dX6_isFit_88 : decode mX6_isFit.2.1 88 = .ok (.ifCond .eq 7, 3) := by decide +kernel
theorem dX6_isFit_91 : decode mX6_isFit.2.1 91 = .ok (.iconst 1, 1) := by decide +kernel
theorem dX6_isFit_92 : decode mX6_isFit.2.1 92 = .ok (.goto 4, 3) := by decide +kernel
theorem dX6_isFit_95 : decode mX6_isFit.2.1 95 = .ok (.iconst 0, 1) := by decide +kernel
theorem dX6_isFit_96 : decode mX6_isFit.2.1 96 = .ok (.ireturn, 1) := by decide +kernel
theorem dX6_change_0 : decode mX6_change.2.1 0 = .ok (.aload_n 0, 1) := by decide +kernel
theorem dX6_change_1 : decode mX6_change.2.1 1 = .ok (.iload_n 1, 1) := by decide +kernel
theorem dX6_change_2 : decode mX6_change.2.1 2 = .ok (.invokevirtual 82, 3) := by decide +kernel
theorem dX6_change_5 : decode mX6_change.2.1 5 = .ok (.ifCond .eq 27, 3) := by decide +kernel
theorem dX6_change_8 : decode mX6_change.2.1 8 = .ok (.iload_n 2, 1) := by decide +kernel
theorem dX6_change_9 : decode mX6_change.2.1 9 = .ok (.iload_n 3, 1) := by decide +kernel
theorem dX6_change_10 : decode mX6_change.2.1 10 = .ok (.invokestatic 102, 3) := by decide +kernel
theorem dX6_change_13 : decode mX6_change.2.1 13 = .ok (.ifCond .eq 19, 3) := by decide +kernel
theorem dX6_change_16 : decode mX6_change.2.1 16 = .ok (.aload_n 0, 1) := by decide +kernel
theorem dX6_change_17 : decode mX6_change.2.1 17 = .ok (.bipush 6, 2) := by decide +kernel
theorem dX6_change_19 : decode mX6_change.2.1 19 = .ok (.iconst 5, 1) := by decide +kernel
theorem dX6_change_20 : decode mX6_change.2.1 20 = .ok (.iload_n 1, 1) := by decide +kernel
theorem dX6_change_21 : decode mX6_change.2.1 21 = .ok (.imul, 1) := by decide +kernel
theorem dX6_change_22 : decode mX6_change.2.1 22 = .ok (.iadd, 1) := by decide +kernel
theorem dX6_change_23 : decode mX6_change.2.1 23 = .ok (.iload_n 2, 1) := by decide +kernel
theorem dX6_change_24 : decode mX6_change.2.1 24 = .ok (.iadd, 1) := by decide +kernel
theorem dX6_change_25 : decode mX6_change.2.1 25 = .ok (.iload_n 3, 1) := by decide +kernel
theorem dX6_change_26 : decode mX6_change.2.1 26 = .ok (.invokevirtual 57, 3) := by decide +kernel
theorem dX6_change_29 : decode mX6_change.2.1 29 = .ok (.goto 9, 3) := by decide +kernel
theorem dX6_change_32 : decode mX6_change.2.1 32 = .ok (.aload_n 0, 1) := by decide +kernel
theorem dX6_change_33 : decode mX6_change.2.1 33 = .ok (.ldc 43, 2) := by decide +kernel
theorem dX6_change_35 : decode mX6_change.2.1 35 = .ok (.invokevirtual 45, 3) := by decide +kernel
theorem dX6_change_38 : decode mX6_change.2.1 38 = .ok (.ireturn, 1) := by decide +kernel
theorem dX6_left_0 : decode mX6_left.2.1 0 = .ok (.aload_n 0, 1) := by decide +kernel
theorem dX6_left_1 : decode mX6_left.2.1 1 = .ok (.iload_n 1, 1) := by decide +kernel
theorem dX6_left_2 : decode mX6_left.2.1 2 = .ok (.invokevirtual 82, 3) := by decide +kernel
theorem dX6_left_5 : decode mX6_left.2.1 5 = .ok (.ifCond .eq 24, 3) := by decide +kernel
theorem dX6_left_8 : decode mX6_left.2.1 8 = .ok (.iload_n 2, 1) := by decide +kernel
theorem dX6_left_9 : decode mX6_left.2.1 9 = .ok (.i2l, 1) := by decide +kernel
theorem dX6_left_10 : decode mX6_left.2.1 10 = .ok (.lconst 0, 1) := by decide +kernel
theorem dX6_left_11 : decode mX6_left.2.1 11 = .ok (.ldc2_w 63, 3) := by decide +kernel
theorem dX6_left_14 : decode mX6_left.2.1 14 = .ok (.invokestatic 51, 3) := by decide +kernel
theorem dX6_left_17 : decode mX6_left.2.1 17 = .ok (.ifCond .eq 12, 3) := by decide +kernel
theorem dX6_left_20 : decode mX6_left.2.1 20 = .ok (.aload_n 0, 1) := by decide +kernel
theorem dX6_left_21 : decode mX6_left.2.1 21 = .ok (.iload_n 1, 1) := by decide +kernel
theorem dX6_left_22 : decode mX6_left.2.1 22 = .ok (.iload_n 2, 1) := by decide +kernel
theorem dX6_left_23 : decode mX6_left.2.1 23 = .ok (.invokevirtual 106, 3) := by decide +kernel
theorem dX6_left_26 : decode mX6_left.2.1 26 = .ok (.goto 9, 3) := by decide +kernel
theorem dX6_left_29 : decode mX6_left.2.1 29 = .ok (.aload_n 0, 1) := by decide +kernel
theorem dX6_left_30 : decode mX6_left.2.1 30 = .ok (.ldc 43, 2) := by decide +kernel
theorem dX6_left_32 : decode mX6_left.2.1 32 = .ok (.invokevirtual 45, 3) := by decide +kernel
theorem dX6_left_35 : decode mX6_left.2.1 35 = .ok (.ireturn, 1) := by decide +kernel
theorem dX6_countsDays_0 : decode mX6_countsDays.2.1 0 = .ok (.iconst 0, 1) := by decide +kernel
theorem dX6_countsDays_1 : decode mX6_countsDays.2.1 1 = .ok (.istore_n 1, 1) := by decide +kernel
theorem dX6_countsDays_2 : decode mX6_countsDays.2.1 2 = .ok (.iload_n 1, 1) := by decide +kernel
theorem dX6_countsDays_3 : decode mX6_countsDays.2.1 3 = .ok (.aload_n 0, 1) := by decide +kernel
theorem dX6_countsDays_4 : decode mX6_countsDays.2.1 4 = .ok (.getfield 7, 3) := by decide +kernel
theorem dX6_countsDays_7 : decode mX6_countsDays.2.1 7 = .ok (.iconst 0, 1) := by decide +kernel
theorem dX6_countsDays_8 : decode mX6_countsDays.2.1 8 = .ok (.iaload, 1) := by decide +kernel
theorem dX6_countsDays_9 : decode mX6_countsDays.2.1 9 = .ok (.if_icmp .ge 20, 3) := by decide +kernel
theorem dX6_countsDays_12 : decode mX6_countsDays.2.1 12 = .ok (.aload_n 0, 1) := by decide +kernel
theorem dX6_countsDays_13 : decode mX6_countsDays.2.1 13 = .ok (.getfield 37, 3) := by decide +kernel
theorem dX6_countsDays_16 : decode mX6_countsDays.2.1 16 = .ok (.iload_n 1, 1) := by decide +kernel
theorem dX6_countsDays_17 : decode mX6_countsDays.2.1 17 = .ok (.aload_n 0, 1) := by decide +kernel
theorem dX6_countsDays_18 : decode mX6_countsDays.2.1 18 = .ok (.iload_n 1, 1) := by decide +kernel
theorem dX6_countsDays_19 : decode mX6_countsDays.2.1 19 = .ok (.invokevirtual 88, 3) := by decide +kernel
theorem dX6_countsDays_22 : decode mX6_countsDays.2.1 22 = .ok (.iastore, 1) := by decide +kernel
theorem dX6_countsDays_23 : decode mX6_countsDays.2.1 23 = .ok (.iinc 1 1, 3) := by decide +kernel
theorem dX6_countsDays_26 : decode mX6_countsDays.2.1 26 = .ok (.goto (-24), 3) := by decide +kernel
theorem dX6_countsDays_29 : decode mX6_countsDays.2.1 29 = .ok (.return_, 1) := by decide +kernel
theorem dX6_mostDays_0 : decode mX6_mostDays.2.1 0 = .ok (.iconst 0, 1) := by decide +kernel
theorem dX6_mostDays_1 : decode mX6_mostDays.2.1 1 = .ok (.istore_n 1, 1) := by decide +kernel
theorem dX6_mostDays_2 : decode mX6_mostDays.2.1 2 = .ok (.iconst 0, 1) := by decide +kernel
theorem dX6_mostDays_3 : decode mX6_mostDays.2.1 3 = .ok (.istore_n 2, 1) := by decide +kernel
theorem dX6_mostDays_4 : decode mX6_mostDays.2.1 4 = .ok (.iload_n 2, 1) := by decide +kernel
theorem dX6_mostDays_5 : decode mX6_mostDays.2.1 5 = .ok (.aload_n 0, 1) := by decide +kernel
theorem dX6_mostDays_6 : decode mX6_mostDays.2.1 6 = .ok (.getfield 7, 3) := by decide +kernel
theorem dX6_mostDays_9 : decode mX6_mostDays.2.1 9 = .ok (.iconst 0, 1) := by decide +kernel
theorem dX6_mostDays_10 : decode mX6_mostDays.2.1 10 = .ok (.iaload, 1) := by decide +kernel
theorem dX6_mostDays_11 : decode mX6_mostDays.2.1 11 = .ok (.if_icmp .ge 20, 3) := by decide +kernel
theorem dX6_mostDays_14 : decode mX6_mostDays.2.1 14 = .ok (.iload_n 1, 1) := by decide +kernel
theorem dX6_mostDays_15 : decode mX6_mostDays.2.1 15 = .ok (.aload_n 0, 1) := by decide +kernel
theorem dX6_mostDays_16 : decode mX6_mostDays.2.1 16 = .ok (.getfield 37, 3) := by decide +kernel
theorem dX6_mostDays_19 : decode mX6_mostDays.2.1 19 = .ok (.iload_n 2, 1) := by decide +kernel
theorem dX6_mostDays_20 : decode mX6_mostDays.2.1 20 = .ok (.iaload, 1) := by decide +kernel
theorem dX6_mostDays_21 : decode mX6_mostDays.2.1 21 = .ok (.invokestatic 73, 3) := by decide +kernel
theorem dX6_mostDays_24 : decode mX6_mostDays.2.1 24 = .ok (.istore_n 1, 1) := by decide +kernel
theorem dX6_mostDays_25 : decode mX6_mostDays.2.1 25 = .ok (.iinc 2 1, 3) := by decide +kernel
theorem dX6_mostDays_28 : decode mX6_mostDays.2.1 28 = .ok (.goto (-24), 3) := by decide +kernel
theorem dX6_mostDays_31 : decode mX6_mostDays.2.1 31 = .ok (.iload_n 1, 1) := by decide +kernel
theorem dX6_mostDays_32 : decode mX6_mostDays.2.1 32 = .ok (.ireturn, 1) := by decide +kernel
theorem dX6_withDays_0 : decode mX6_withDays.2.1 0 = .ok (.iconst 0, 1) := by decide +kernel
theorem dX6_withDays_1 : decode mX6_withDays.2.1 1 = .ok (.istore_n 2, 1) := by decide +kernel
theorem dX6_withDays_2 : decode mX6_withDays.2.1 2 = .ok (.iconst 0, 1) := by decide +kernel
theorem dX6_withDays_3 : decode mX6_withDays.2.1 3 = .ok (.istore_n 3, 1) := by decide +kernel
theorem dX6_withDays_4 : decode mX6_withDays.2.1 4 = .ok (.iload_n 3, 1) := by decide +kernel
theorem dX6_withDays_5 : decode mX6_withDays.2.1 5 = .ok (.aload_n 0, 1) := by decide +kernel
theorem dX6_withDays_6 : decode mX6_withDays.2.1 6 = .ok (.getfield 7, 3) := by decide +kernel
theorem dX6_withDays_9 : decode mX6_withDays.2.1 9 = .ok (.iconst 0, 1) := by decide +kernel
theorem dX6_withDays_10 : decode mX6_withDays.2.1 10 = .ok (.iaload, 1) := by decide +kernel
theorem dX6_withDays_11 : decode mX6_withDays.2.1 11 = .ok (.if_icmp .ge 29, 3) := by decide +kernel
theorem dX6_withDays_14 : decode mX6_withDays.2.1 14 = .ok (.iload_n 2, 1) := by decide +kernel
theorem dX6_withDays_15 : decode mX6_withDays.2.1 15 = .ok (.aload_n 0, 1) := by decide +kernel
theorem dX6_withDays_16 : decode mX6_withDays.2.1 16 = .ok (.getfield 37, 3) := by decide +kernel
theorem dX6_withDays_19 : decode mX6_withDays.2.1 19 = .ok (.iload_n 3, 1) := by decide +kernel
theorem dX6_withDays_20 : decode mX6_withDays.2.1 20 = .ok (.iaload, 1) := by decide +kernel
theorem dX6_withDays_21 : decode mX6_withDays.2.1 21 = .ok (.iload_n 1, 1) := by decide +kernel
theorem dX6_withDays_22 : decode mX6_withDays.2.1 22 = .ok (.if_icmp .ne 9, 3) := by decide +kernel
theorem dX6_withDays_25 : decode mX6_withDays.2.1 25 = .ok (.iconst 1, 1) := by decide +kernel
theorem dX6_withDays_26 : decode mX6_withDays.2.1 26 = .ok (.iload_n 3, 1) := by decide +kernel
theorem dX6_withDays_27 : decode mX6_withDays.2.1 27 = .ok (.ishl, 1) := by decide +kernel
theorem dX6_withDays_28 : decode mX6_withDays.2.1 28 = .ok (.goto 4, 3) := by decide +kernel
theorem dX6_withDays_31 : decode mX6_withDays.2.1 31 = .ok (.iconst 0, 1) := by decide +kernel
theorem dX6_withDays_32 : decode mX6_withDays.2.1 32 = .ok (.ior, 1) := by decide +kernel
theorem dX6_withDays_33 : decode mX6_withDays.2.1 33 = .ok (.istore_n 2, 1) := by decide +kernel
theorem dX6_withDays_34 : decode mX6_withDays.2.1 34 = .ok (.iinc 3 1, 3) := by decide +kernel
theorem dX6_withDays_37 : decode mX6_withDays.2.1 37 = .ok (.goto (-33), 3) := by decide +kernel
theorem dX6_withDays_40 : decode mX6_withDays.2.1 40 = .ok (.iload_n 2, 1) := by decide +kernel
theorem dX6_withDays_41 : decode mX6_withDays.2.1 41 = .ok (.ireturn, 1) := by decide +kernel
theorem dX6_lasts_0 : decode mX6_lasts.2.1 0 = .ok (.aload_n 0, 1) := by decide +kernel
theorem dX6_lasts_1 : decode mX6_lasts.2.1 1 = .ok (.invokevirtual 109, 3) := by decide +kernel
theorem dX6_lasts_4 : decode mX6_lasts.2.1 4 = .ok (.aload_n 0, 1) := by decide +kernel
theorem dX6_lasts_5 : decode mX6_lasts.2.1 5 = .ok (.aload_n 0, 1) := by decide +kernel
theorem dX6_lasts_6 : decode mX6_lasts.2.1 6 = .ok (.invokevirtual 112, 3) := by decide +kernel
theorem dX6_lasts_9 : decode mX6_lasts.2.1 9 = .ok (.invokevirtual 116, 3) := by decide +kernel
theorem dX6_lasts_12 : decode mX6_lasts.2.1 12 = .ok (.ireturn, 1) := by decide +kernel
theorem dX6_firsts_0 : decode mX6_firsts.2.1 0 = .ok (.aload_n 0, 1) := by decide +kernel
theorem dX6_firsts_1 : decode mX6_firsts.2.1 1 = .ok (.invokevirtual 112, 3) := by decide +kernel
theorem dX6_firsts_4 : decode mX6_firsts.2.1 4 = .ok (.istore_n 1, 1) := by decide +kernel
theorem dX6_firsts_5 : decode mX6_firsts.2.1 5 = .ok (.iconst 0, 1) := by decide +kernel
theorem dX6_firsts_6 : decode mX6_firsts.2.1 6 = .ok (.istore_n 2, 1) := by decide +kernel
theorem dX6_firsts_7 : decode mX6_firsts.2.1 7 = .ok (.iload_n 2, 1) := by decide +kernel
theorem dX6_firsts_8 : decode mX6_firsts.2.1 8 = .ok (.aload_n 0, 1) := by decide +kernel
theorem dX6_firsts_9 : decode mX6_firsts.2.1 9 = .ok (.getfield 7, 3) := by decide +kernel
theorem dX6_firsts_12 : decode mX6_firsts.2.1 12 = .ok (.iconst 0, 1) := by decide +kernel
theorem dX6_firsts_13 : decode mX6_firsts.2.1 13 = .ok (.iaload, 1) := by decide +kernel
theorem dX6_firsts_14 : decode mX6_firsts.2.1 14 = .ok (.if_icmp .ge 20, 3) := by decide +kernel
theorem dX6_firsts_17 : decode mX6_firsts.2.1 17 = .ok (.iload_n 1, 1) := by decide +kernel
theorem dX6_firsts_18 : decode mX6_firsts.2.1 18 = .ok (.aload_n 0, 1) := by decide +kernel
theorem dX6_firsts_19 : decode mX6_firsts.2.1 19 = .ok (.getfield 37, 3) := by decide +kernel
theorem dX6_firsts_22 : decode mX6_firsts.2.1 22 = .ok (.iload_n 2, 1) := by decide +kernel
theorem dX6_firsts_23 : decode mX6_firsts.2.1 23 = .ok (.iaload, 1) := by decide +kernel
theorem dX6_firsts_24 : decode mX6_firsts.2.1 24 = .ok (.invokestatic 79, 3) := by decide +kernel
theorem dX6_firsts_27 : decode mX6_firsts.2.1 27 = .ok (.istore_n 1, 1) := by decide +kernel
theorem dX6_firsts_28 : decode mX6_firsts.2.1 28 = .ok (.iinc 2 1, 3) := by decide +kernel
theorem dX6_firsts_31 : decode mX6_firsts.2.1 31 = .ok (.goto (-24), 3) := by decide +kernel
theorem dX6_firsts_34 : decode mX6_firsts.2.1 34 = .ok (.aload_n 0, 1) := by decide +kernel
theorem dX6_firsts_35 : decode mX6_firsts.2.1 35 = .ok (.iload_n 1, 1) := by decide +kernel
theorem dX6_firsts_36 : decode mX6_firsts.2.1 36 = .ok (.invokevirtual 116, 3) := by decide +kernel
theorem dX6_firsts_39 : decode mX6_firsts.2.1 39 = .ok (.ireturn, 1) := by decide +kernel
theorem dX6_last_0 : decode mX6_last.2.1 0 = .ok (.aload_n 0, 1) := by decide +kernel
theorem dX6_last_1 : decode mX6_last.2.1 1 = .ok (.invokevirtual 119, 3) := by decide +kernel
theorem dX6_last_4 : decode mX6_last.2.1 4 = .ok (.ireturn, 1) := by decide +kernel
theorem dX6_first_0 : decode mX6_first.2.1 0 = .ok (.aload_n 0, 1) := by decide +kernel
theorem dX6_first_1 : decode mX6_first.2.1 1 = .ok (.invokevirtual 109, 3) := by decide +kernel
theorem dX6_first_4 : decode mX6_first.2.1 4 = .ok (.aload_n 0, 1) := by decide +kernel
theorem dX6_first_5 : decode mX6_first.2.1 5 = .ok (.invokevirtual 122, 3) := by decide +kernel
theorem dX6_first_8 : decode mX6_first.2.1 8 = .ok (.ireturn, 1) := by decide +kernel
theorem dX6_next_0 : decode mX6_next.2.1 0 = .ok (.aload_n 0, 1) := by decide +kernel
theorem dX6_next_1 : decode mX6_next.2.1 1 = .ok (.invokevirtual 119, 3) := by decide +kernel
theorem dX6_next_4 : decode mX6_next.2.1 4 = .ok (.istore_n 1, 1) := by decide +kernel
theorem dX6_next_5 : decode mX6_next.2.1 5 = .ok (.iconst (-1), 1) := by decide +kernel
theorem dX6_next_6 : decode mX6_next.2.1 6 = .ok (.istore_n 2, 1) := by decide +kernel
theorem dX6_next_7 : decode mX6_next.2.1 7 = .ok (.iconst 0, 1) := by decide +kernel
theorem dX6_next_8 : decode mX6_next.2.1 8 = .ok (.istore_n 3, 1) := by decide +kernel
theorem dX6_next_9 : decode mX6_next.2.1 9 = .ok (.iload_n 3, 1) := by decide +kernel
theorem dX6_next_10 : decode mX6_next.2.1 10 = .ok (.aload_n 0, 1) := by decide +kernel
theorem dX6_next_11 : decode mX6_next.2.1 11 = .ok (.getfield 7, 3) := by decide +kernel
theorem dX6_next_14 : decode mX6_next.2.1 14 = .ok (.iconst 0, 1) := by decide +kernel
theorem dX6_next_15 : decode mX6_next.2.1 15 = .ok (.iaload, 1) := by decide +kernel
theorem dX6_next_16 : decode mX6_next.2.1 16 = .ok (.if_icmp .ge 32, 3) := by decide +kernel
theorem dX6_next_19 : decode mX6_next.2.1 19 = .ok (.iload_n 1, 1) := by decide +kernel
theorem dX6_next_20 : decode mX6_next.2.1 20 = .ok (.iload_n 3, 1) := by decide +kernel
theorem dX6_next_21 : decode mX6_next.2.1 21 = .ok (.ishr, 1) := by decide +kernel
theorem dX6_next_22 : decode mX6_next.2.1 22 = .ok (.iconst 1, 1) := by decide +kernel
theorem dX6_next_23 : decode mX6_next.2.1 23 = .ok (.iand, 1) := by decide +kernel
theorem dX6_next_24 : decode mX6_next.2.1 24 = .ok (.ifCond .ne 16, 3) := by decide +kernel
theorem dX6_next_27 : decode mX6_next.2.1 27 = .ok (.iload_n 2, 1) := by decide +kernel
theorem dX6_next_28 : decode mX6_next.2.1 28 = .ok (.aload_n 0, 1) := by decide +kernel
theorem dX6_next_29 : decode mX6_next.2.1 29 = .ok (.getfield 37, 3) := by decide +kernel
theorem dX6_next_32 : decode mX6_next.2.1 32 = .ok (.iload_n 3, 1) := by decide +kernel
theorem dX6_next_33 : decode mX6_next.2.1 33 = .ok (.iaload, 1) := by decide +kernel
theorem dX6_next_34 : decode mX6_next.2.1 34 = .ok (.invokestatic 73, 3) := by decide +kernel
theorem dX6_next_37 : decode mX6_next.2.1 37 = .ok (.goto 4, 3) := by decide +kernel
theorem dX6_next_40 : decode mX6_next.2.1 40 = .ok (.iload_n 2, 1) := by decide +kernel
theorem dX6_next_41 : decode mX6_next.2.1 41 = .ok (.istore_n 2, 1) := by decide +kernel
theorem dX6_next_42 : decode mX6_next.2.1 42 = .ok (.iinc 3 1, 3) := by decide +kernel
theorem dX6_next_45 : decode mX6_next.2.1 45 = .ok (.goto (-36), 3) := by decide +kernel
theorem dX6_next_48 : decode mX6_next.2.1 48 = .ok (.aload_n 0, 1) := by decide +kernel
theorem dX6_next_49 : decode mX6_next.2.1 49 = .ok (.iload_n 2, 1) := by decide +kernel
theorem dX6_next_50 : decode mX6_next.2.1 50 = .ok (.invokevirtual 116, 3) := by decide +kernel
theorem dX6_next_53 : decode mX6_next.2.1 53 = .ok (.ireturn, 1) := by decide +kernel
theorem dX6_nearer_0 : decode mX6_nearer.2.1 0 = .ok (.iload_n 0, 1) := by decide +kernel
theorem dX6_nearer_1 : decode mX6_nearer.2.1 1 = .ok (.iload_n 1, 1) := by decide +kernel
theorem dX6_nearer_2 : decode mX6_nearer.2.1 2 = .ok (.if_icmp .le 9, 3) := by decide +kernel
theorem dX6_nearer_5 : decode mX6_nearer.2.1 5 = .ok (.iload_n 0, 1) := by decide +kernel
theorem dX6_nearer_6 : decode mX6_nearer.2.1 6 = .ok (.iload_n 1, 1) := by decide +kernel
theorem dX6_nearer_7 : decode mX6_nearer.2.1 7 = .ok (.isub, 1) := by decide +kernel
theorem dX6_nearer_8 : decode mX6_nearer.2.1 8 = .ok (.goto 16, 3) := by decide +kernel
theorem dX6_nearer_11 : decode mX6_nearer.2.1 11 = .ok (.iload_n 0, 1) := by decide +kernel
theorem dX6_nearer_12 : decode mX6_nearer.2.1 12 = .ok (.iload_n 1, 1) := by decide +kernel
theorem dX6_nearer_13 : decode mX6_nearer.2.1 13 = .ok (.ineg, 1) := by decide +kernel
theorem dX6_nearer_14 : decode mX6_nearer.2.1 14 = .ok (.if_icmp .ge 9, 3) := by decide +kernel
theorem dX6_nearer_17 : decode mX6_nearer.2.1 17 = .ok (.iload_n 0, 1) := by decide +kernel
theorem dX6_nearer_18 : decode mX6_nearer.2.1 18 = .ok (.iload_n 1, 1) := by decide +kernel
theorem dX6_nearer_19 : decode mX6_nearer.2.1 19 = .ok (.iadd, 1) := by decide +kernel
theorem dX6_nearer_20 : decode mX6_nearer.2.1 20 = .ok (.goto 4, 3) := by decide +kernel
theorem dX6_nearer_23 : decode mX6_nearer.2.1 23 = .ok (.iconst 0, 1) := by decide +kernel
theorem dX6_nearer_24 : decode mX6_nearer.2.1 24 = .ok (.ireturn, 1) := by decide +kernel
theorem dX6_leanBy_0 : decode mX6_leanBy.2.1 0 = .ok (.iconst 0, 1) := by decide +kernel
theorem dX6_leanBy_1 : decode mX6_leanBy.2.1 1 = .ok (.istore_n 2, 1) := by decide +kernel
theorem dX6_leanBy_2 : decode mX6_leanBy.2.1 2 = .ok (.iconst 0, 1) := by decide +kernel
theorem dX6_leanBy_3 : decode mX6_leanBy.2.1 3 = .ok (.istore_n 3, 1) := by decide +kernel
theorem dX6_leanBy_4 : decode mX6_leanBy.2.1 4 = .ok (.iload_n 3, 1) := by decide +kernel
theorem dX6_leanBy_5 : decode mX6_leanBy.2.1 5 = .ok (.aload_n 0, 1) := by decide +kernel
theorem dX6_leanBy_6 : decode mX6_leanBy.2.1 6 = .ok (.getfield 7, 3) := by decide +kernel
theorem dX6_leanBy_9 : decode mX6_leanBy.2.1 9 = .ok (.iconst 0, 1) := by decide +kernel
theorem dX6_leanBy_10 : decode mX6_leanBy.2.1 10 = .ok (.iaload, 1) := by decide +kernel
theorem dX6_leanBy_11 : decode mX6_leanBy.2.1 11 = .ok (.if_icmp .ge 39, 3) := by decide +kernel
theorem dX6_leanBy_14 : decode mX6_leanBy.2.1 14 = .ok (.iload_n 2, 1) := by decide +kernel
theorem dX6_leanBy_15 : decode mX6_leanBy.2.1 15 = .ok (.aload_n 0, 1) := by decide +kernel
theorem dX6_leanBy_16 : decode mX6_leanBy.2.1 16 = .ok (.iload_n 3, 1) := by decide +kernel
theorem dX6_leanBy_17 : decode mX6_leanBy.2.1 17 = .ok (.iconst 3, 1) := by decide +kernel
theorem dX6_leanBy_18 : decode mX6_leanBy.2.1 18 = .ok (.invokevirtual 70, 3) := by decide +kernel
theorem dX6_leanBy_21 : decode mX6_leanBy.2.1 21 = .ok (.aload_n 0, 1) := by decide +kernel
theorem dX6_leanBy_22 : decode mX6_leanBy.2.1 22 = .ok (.iload_n 3, 1) := by decide +kernel
theorem dX6_leanBy_23 : decode mX6_leanBy.2.1 23 = .ok (.invokevirtual 91, 3) := by decide +kernel
theorem dX6_leanBy_26 : decode mX6_leanBy.2.1 26 = .ok (.imul, 1) := by decide +kernel
theorem dX6_leanBy_27 : decode mX6_leanBy.2.1 27 = .ok (.iload_n 1, 1) := by decide +kernel
theorem dX6_leanBy_28 : decode mX6_leanBy.2.1 28 = .ok (.iload_n 3, 1) := by decide +kernel
theorem dX6_leanBy_29 : decode mX6_leanBy.2.1 29 = .ok (.ishr, 1) := by decide +kernel
theorem dX6_leanBy_30 : decode mX6_leanBy.2.1 30 = .ok (.iconst 1, 1) := by decide +kernel
theorem dX6_leanBy_31 : decode mX6_leanBy.2.1 31 = .ok (.iand, 1) := by decide +kernel
theorem dX6_leanBy_32 : decode mX6_leanBy.2.1 32 = .ok (.iconst 1, 1) := by decide +kernel
theorem dX6_leanBy_33 : decode mX6_leanBy.2.1 33 = .ok (.if_icmp .ne 7, 3) := by decide +kernel
theorem dX6_leanBy_36 : decode mX6_leanBy.2.1 36 = .ok (.iconst 3, 1) := by decide +kernel
theorem dX6_leanBy_37 : decode mX6_leanBy.2.1 37 = .ok (.goto 4, 3) := by decide +kernel
theorem dX6_leanBy_40 : decode mX6_leanBy.2.1 40 = .ok (.iconst 1, 1) := by decide +kernel
theorem dX6_leanBy_41 : decode mX6_leanBy.2.1 41 = .ok (.imul, 1) := by decide +kernel
theorem dX6_leanBy_42 : decode mX6_leanBy.2.1 42 = .ok (.iadd, 1) := by decide +kernel
theorem dX6_leanBy_43 : decode mX6_leanBy.2.1 43 = .ok (.istore_n 2, 1) := by decide +kernel
theorem dX6_leanBy_44 : decode mX6_leanBy.2.1 44 = .ok (.iinc 3 1, 3) := by decide +kernel
theorem dX6_leanBy_47 : decode mX6_leanBy.2.1 47 = .ok (.goto (-43), 3) := by decide +kernel
theorem dX6_leanBy_50 : decode mX6_leanBy.2.1 50 = .ok (.iload_n 2, 1) := by decide +kernel
theorem dX6_leanBy_51 : decode mX6_leanBy.2.1 51 = .ok (.aload_n 0, 1) := by decide +kernel
theorem dX6_leanBy_52 : decode mX6_leanBy.2.1 52 = .ok (.getfield 7, 3) := by decide +kernel
theorem dX6_leanBy_55 : decode mX6_leanBy.2.1 55 = .ok (.iconst 4, 1) := by decide +kernel
theorem dX6_leanBy_56 : decode mX6_leanBy.2.1 56 = .ok (.iaload, 1) := by decide +kernel
theorem dX6_leanBy_57 : decode mX6_leanBy.2.1 57 = .ok (.bipush 10, 2) := by decide +kernel
theorem dX6_leanBy_59 : decode mX6_leanBy.2.1 59 = .ok (.idiv, 1) := by decide +kernel
theorem dX6_leanBy_60 : decode mX6_leanBy.2.1 60 = .ok (.invokestatic 125, 3) := by decide +kernel
theorem dX6_leanBy_63 : decode mX6_leanBy.2.1 63 = .ok (.istore_n 3, 1) := by decide +kernel
theorem dX6_leanBy_64 : decode mX6_leanBy.2.1 64 = .ok (.aload_n 0, 1) := by decide +kernel
theorem dX6_leanBy_65 : decode mX6_leanBy.2.1 65 = .ok (.getfield 7, 3) := by decide +kernel
theorem dX6_leanBy_68 : decode mX6_leanBy.2.1 68 = .ok (.iconst 5, 1) := by decide +kernel
theorem dX6_leanBy_69 : decode mX6_leanBy.2.1 69 = .ok (.iaload, 1) := by decide +kernel
theorem dX6_leanBy_70 : decode mX6_leanBy.2.1 70 = .ok (.bipush 60, 2) := by decide +kernel
theorem dX6_leanBy_72 : decode mX6_leanBy.2.1 72 = .ok (.if_icmp .ge 7, 3) := by decide +kernel
theorem dX6_leanBy_75 : decode mX6_leanBy.2.1 75 = .ok (.iload_n 3, 1) := by decide +kernel
theorem dX6_leanBy_76 : decode mX6_leanBy.2.1 76 = .ok (.goto 5, 3) := by decide +kernel
theorem dX6_leanBy_79 : decode mX6_leanBy.2.1 79 = .ok (.iload_n 3, 1) := by decide +kernel
theorem dX6_leanBy_80 : decode mX6_leanBy.2.1 80 = .ok (.ineg, 1) := by decide +kernel
theorem dX6_leanBy_81 : decode mX6_leanBy.2.1 81 = .ok (.ireturn, 1) := by decide +kernel
theorem dX6_leanNow_0 : decode mX6_leanNow.2.1 0 = .ok (.aload_n 0, 1) := by decide +kernel
theorem dX6_leanNow_1 : decode mX6_leanNow.2.1 1 = .ok (.aload_n 0, 1) := by decide +kernel
theorem dX6_leanNow_2 : decode mX6_leanNow.2.1 2 = .ok (.invokevirtual 119, 3) := by decide +kernel
theorem dX6_leanNow_5 : decode mX6_leanNow.2.1 5 = .ok (.invokevirtual 128, 3) := by decide +kernel
theorem dX6_leanNow_8 : decode mX6_leanNow.2.1 8 = .ok (.ireturn, 1) := by decide +kernel
theorem dX6_lean_0 : decode mX6_lean.2.1 0 = .ok (.aload_n 0, 1) := by decide +kernel
theorem dX6_lean_1 : decode mX6_lean.2.1 1 = .ok (.invokevirtual 131, 3) := by decide +kernel
theorem dX6_lean_4 : decode mX6_lean.2.1 4 = .ok (.ireturn, 1) := by decide +kernel
theorem dX6_isAsked_0 : decode mX6_isAsked.2.1 0 = .ok (.iload_n 0, 1) := by decide +kernel
theorem dX6_isAsked_1 : decode mX6_isAsked.2.1 1 = .ok (.i2l, 1) := by decide +kernel
theorem dX6_isAsked_2 : decode mX6_isAsked.2.1 2 = .ok (.ldc2_w 134, 3) := by decide +kernel
theorem dX6_isAsked_5 : decode mX6_isAsked.2.1 5 = .ok (.ldc2_w 55, 3) := by decide +kernel
theorem dX6_isAsked_8 : decode mX6_isAsked.2.1 8 = .ok (.invokestatic 51, 3) := by decide +kernel
theorem dX6_isAsked_11 : decode mX6_isAsked.2.1 11 = .ok (.ireturn, 1) := by decide +kernel
theorem dX6_answerTo_0 : decode mX6_answerTo.2.1 0 = .ok (.aload_n 0, 1) := by decide +kernel
theorem dX6_answerTo_1 : decode mX6_answerTo.2.1 1 = .ok (.invokevirtual 131, 3) := by decide +kernel
theorem dX6_answerTo_4 : decode mX6_answerTo.2.1 4 = .ok (.iload_n 1, 1) := by decide +kernel
theorem dX6_answerTo_5 : decode mX6_answerTo.2.1 5 = .ok (.if_icmp .lt 7, 3) := by decide +kernel
theorem dX6_answerTo_8 : decode mX6_answerTo.2.1 8 = .ok (.iconst 1, 1) := by decide +kernel
theorem dX6_answerTo_9 : decode mX6_answerTo.2.1 9 = .ok (.goto 4, 3) := by decide +kernel
theorem dX6_answerTo_12 : decode mX6_answerTo.2.1 12 = .ok (.iconst 0, 1) := by decide +kernel
theorem dX6_answerTo_13 : decode mX6_answerTo.2.1 13 = .ok (.ireturn, 1) := by decide +kernel
theorem dX6_answer_0 : decode mX6_answer.2.1 0 = .ok (.iload_n 1, 1) := by decide +kernel
theorem dX6_answer_1 : decode mX6_answer.2.1 1 = .ok (.invokestatic 136, 3) := by decide +kernel
theorem dX6_answer_4 : decode mX6_answer.2.1 4 = .ok (.ifCond .eq 11, 3) := by decide +kernel
theorem dX6_answer_7 : decode mX6_answer.2.1 7 = .ok (.aload_n 0, 1) := by decide +kernel
theorem dX6_answer_8 : decode mX6_answer.2.1 8 = .ok (.iload_n 1, 1) := by decide +kernel
theorem dX6_answer_9 : decode mX6_answer.2.1 9 = .ok (.invokevirtual 139, 3) := by decide +kernel
theorem dX6_answer_12 : decode mX6_answer.2.1 12 = .ok (.goto 9, 3) := by decide +kernel
theorem dX6_answer_15 : decode mX6_answer.2.1 15 = .ok (.aload_n 0, 1) := by decide +kernel
theorem dX6_answer_16 : decode mX6_answer.2.1 16 = .ok (.ldc 43, 2) := by decide +kernel
theorem dX6_answer_18 : decode mX6_answer.2.1 18 = .ok (.invokevirtual 45, 3) := by decide +kernel
theorem dX6_answer_21 : decode mX6_answer.2.1 21 = .ok (.ireturn, 1) := by decide +kernel
theorem dX6_year_0 : decode mX6_year.2.1 0 = .ok (.aload_n 0, 1) := by decide +kernel
theorem dX6_year_1 : decode mX6_year.2.1 1 = .ok (.invokevirtual 119, 3) := by decide +kernel
theorem dX6_year_4 : decode mX6_year.2.1 4 = .ok (.istore_n 1, 1) := by decide +kernel
theorem dX6_year_5 : decode mX6_year.2.1 5 = .ok (.aload_n 0, 1) := by decide +kernel
theorem dX6_year_6 : decode mX6_year.2.1 6 = .ok (.invokevirtual 122, 3) := by decide +kernel
theorem dX6_year_9 : decode mX6_year.2.1 9 = .ok (.istore_n 2, 1) := by decide +kernel
theorem dX6_year_10 : decode mX6_year.2.1 10 = .ok (.aload_n 0, 1) := by decide +kernel
theorem dX6_year_11 : decode mX6_year.2.1 11 = .ok (.iload_n 1, 1) := by decide +kernel
theorem dX6_year_12 : decode mX6_year.2.1 12 = .ok (.invokevirtual 128, 3) := by decide +kernel
theorem dX6_year_15 : decode mX6_year.2.1 15 = .ok (.istore_n 3, 1) := by decide +kernel
theorem dX6_year_16 : decode mX6_year.2.1 16 = .ok (.iload_n 3, 1) := by decide +kernel
theorem dX6_year_17 : decode mX6_year.2.1 17 = .ok (.ifCond .le 7, 3) := by decide +kernel
theorem dX6_year_20 : decode mX6_year.2.1 20 = .ok (.iconst 1, 1) := by decide +kernel
theorem dX6_year_21 : decode mX6_year.2.1 21 = .ok (.goto 12, 3) := by decide +kernel
theorem dX6_year_24 : decode mX6_year.2.1 24 = .ok (.iload_n 3, 1) := by decide +kernel
theorem dX6_year_25 : decode mX6_year.2.1 25 = .ok (.ifCond .ge 7, 3) := by decide +kernel
theorem dX6_year_28 : decode mX6_year.2.1 28 = .ok (.iconst (-1), 1) := by decide +kernel
theorem dX6_year_29 : decode mX6_year.2.1 29 = .ok (.goto 4, 3) := by decide +kernel
theorem dX6_year_32 : decode mX6_year.2.1 32 = .ok (.iconst 0, 1) := by decide +kernel
theorem dX6_year_33 : decode mX6_year.2.1 33 = .ok (.istore 4, 2) := by decide +kernel
theorem dX6_year_35 : decode mX6_year.2.1 35 = .ok (.iconst 0, 1) := by decide +kernel
theorem dX6_year_36 : decode mX6_year.2.1 36 = .ok (.istore 5, 2) := by decide +kernel
theorem dX6_year_38 : decode mX6_year.2.1 38 = .ok (.iload 5, 2) := by decide +kernel
theorem dX6_year_40 : decode mX6_year.2.1 40 = .ok (.aload_n 0, 1) := by decide +kernel
theorem dX6_year_41 : decode mX6_year.2.1 41 = .ok (.getfield 7, 3) := by decide +kernel
theorem dX6_year_44 : decode mX6_year.2.1 44 = .ok (.iconst 0, 1) := by decide +kernel
theorem dX6_year_45 : decode mX6_year.2.1 45 = .ok (.iaload, 1) := by decide +kernel
theorem dX6_year_46 : decode mX6_year.2.1 46 = .ok (.if_icmp .ge 159, 3) := by decide +kernel
theorem dX6_year_49 : decode mX6_year.2.1 49 = .ok (.bipush 6, 2) := by decide +kernel
theorem dX6_year_51 : decode mX6_year.2.1 51 = .ok (.iconst 5, 1) := by decide +kernel
theorem dX6_year_52 : decode mX6_year.2.1 52 = .ok (.iload 5, 2) := by decide +kernel
theorem dX6_year_54 : decode mX6_year.2.1 54 = .ok (.imul, 1) := by decide +kernel
theorem dX6_year_55 : decode mX6_year.2.1 55 = .ok (.iadd, 1) := by decide +kernel
theorem dX6_year_56 : decode mX6_year.2.1 56 = .ok (.istore 6, 2) := by decide +kernel
theorem dX6_year_58 : decode mX6_year.2.1 58 = .ok (.iload_n 1, 1) := by decide +kernel
theorem dX6_year_59 : decode mX6_year.2.1 59 = .ok (.iload 5, 2) := by decide +kernel
theorem dX6_year_61 : decode mX6_year.2.1 61 = .ok (.ishr, 1) := by decide +kernel
theorem dX6_year_62 : decode mX6_year.2.1 62 = .ok (.iconst 1, 1) := by decide +kernel
theorem dX6_year_63 : decode mX6_year.2.1 63 = .ok (.iand, 1) := by decide +kernel
theorem dX6_year_64 : decode mX6_year.2.1 64 = .ok (.iconst 1, 1) := by decide +kernel
theorem dX6_year_65 : decode mX6_year.2.1 65 = .ok (.if_icmp .ne 57, 3) := by decide +kernel
theorem dX6_year_68 : decode mX6_year.2.1 68 = .ok (.aload_n 0, 1) := by decide +kernel
theorem dX6_year_69 : decode mX6_year.2.1 69 = .ok (.getfield 7, 3) := by decide +kernel
theorem dX6_year_72 : decode mX6_year.2.1 72 = .ok (.iload 6, 2) := by decide +kernel
theorem dX6_year_74 : decode mX6_year.2.1 74 = .ok (.iconst 4, 1) := by decide +kernel
theorem dX6_year_75 : decode mX6_year.2.1 75 = .ok (.iadd, 1) := by decide +kernel
theorem dX6_year_76 : decode mX6_year.2.1 76 = .ok (.sipush 9999, 3) := by decide +kernel
theorem dX6_year_79 : decode mX6_year.2.1 79 = .ok (.aload_n 0, 1) := by decide +kernel
theorem dX6_year_80 : decode mX6_year.2.1 80 = .ok (.getfield 7, 3) := by decide +kernel
theorem dX6_year_83 : decode mX6_year.2.1 83 = .ok (.iload 6, 2) := by decide +kernel
theorem dX6_year_85 : decode mX6_year.2.1 85 = .ok (.iconst 4, 1) := by decide +kernel
theorem dX6_year_86 : decode mX6_year.2.1 86 = .ok (.iadd, 1) := by decide +kernel
theorem dX6_year_87 : decode mX6_year.2.1 87 = .ok (.iaload, 1) := by decide +kernel
theorem dX6_year_88 : decode mX6_year.2.1 88 = .ok (.iconst 1, 1) := by decide +kernel
theorem dX6_year_89 : decode mX6_year.2.1 89 = .ok (.iadd, 1) := by decide +kernel
theorem dX6_year_90 : decode mX6_year.2.1 90 = .ok (.invokestatic 79, 3) := by decide +kernel
theorem dX6_year_93 : decode mX6_year.2.1 93 = .ok (.iastore, 1) := by decide +kernel
theorem dX6_year_94 : decode mX6_year.2.1 94 = .ok (.aload_n 0, 1) := by decide +kernel
theorem dX6_year_95 : decode mX6_year.2.1 95 = .ok (.getfield 7, 3) := by decide +kernel
theorem dX6_year_98 : decode mX6_year.2.1 98 = .ok (.iload 6, 2) := by decide +kernel
theorem dX6_year_100 : decode mX6_year.2.1 100 = .ok (.iconst 2, 1) := by decide +kernel
theorem dX6_year_101 : decode mX6_year.2.1 101 = .ok (.iadd, 1) := by decide +kernel
theorem dX6_year_102 : decode mX6_year.2.1 102 = .ok (.bipush 20, 2) := by decide +kernel
theorem dX6_year_104 : decode mX6_year.2.1 104 = .ok (.aload_n 0, 1) := by decide +kernel
theorem dX6_year_105 : decode mX6_year.2.1 105 = .ok (.getfield 7, 3) := by decide +kernel
theorem dX6_year_108 : decode mX6_year.2.1 108 = .ok (.iload 6, 2) := by decide +kernel
theorem dX6_year_110 : decode mX6_year.2.1 110 = .ok (.iconst 2, 1) := by decide +kernel
theorem dX6_year_111 : decode mX6_year.2.1 111 = .ok (.iadd, 1) := by decide +kernel
theorem dX6_year_112 : decode mX6_year.2.1 112 = .ok (.iaload, 1) := by decide +kernel
theorem dX6_year_113 : decode mX6_year.2.1 113 = .ok (.iconst 1, 1) := by decide +kernel
theorem dX6_year_114 : decode mX6_year.2.1 114 = .ok (.iadd, 1) := by decide +kernel
theorem dX6_year_115 : decode mX6_year.2.1 115 = .ok (.invokestatic 79, 3) := by decide +kernel
theorem dX6_year_118 : decode mX6_year.2.1 118 = .ok (.iastore, 1) := by decide +kernel
theorem dX6_year_119 : decode mX6_year.2.1 119 = .ok (.goto 80, 3) := by decide +kernel
theorem dX6_year_122 : decode mX6_year.2.1 122 = .ok (.aload_n 0, 1) := by decide +kernel
theorem dX6_year_123 : decode mX6_year.2.1 123 = .ok (.getfield 7, 3) := by decide +kernel
theorem dX6_year_126 : decode mX6_year.2.1 126 = .ok (.iload 6, 2) := by decide +kernel
theorem dX6_year_128 : decode mX6_year.2.1 128 = .ok (.iconst 2, 1) := by decide +kernel
theorem dX6_year_129 : decode mX6_year.2.1 129 = .ok (.iadd, 1) := by decide +kernel
theorem dX6_year_130 : decode mX6_year.2.1 130 = .ok (.iload_n 2, 1) := by decide +kernel
theorem dX6_year_131 : decode mX6_year.2.1 131 = .ok (.iload 5, 2) := by decide +kernel
theorem dX6_year_133 : decode mX6_year.2.1 133 = .ok (.ishr, 1) := by decide +kernel
theorem dX6_year_134 : decode mX6_year.2.1 134 = .ok (.iconst 1, 1) := by decide +kernel
theorem dX6_year_135 : decode mX6_year.2.1 135 = .ok (.iand, 1) := by decide +kernel
theorem dX6_year_136 : decode mX6_year.2.1 136 = .ok (.iconst 1, 1) := by decide +kernel
theorem dX6_year_137 : decode mX6_year.2.1 137 = .ok (.if_icmp .ne 21, 3) := by decide +kernel
theorem dX6_year_140 : decode mX6_year.2.1 140 = .ok (.iconst 1, 1) := by decide +kernel
theorem dX6_year_141 : decode mX6_year.2.1 141 = .ok (.aload_n 0, 1) := by decide +kernel
theorem dX6_year_142 : decode mX6_year.2.1 142 = .ok (.getfield 7, 3) := by decide +kernel
theorem dX6_year_145 : decode mX6_year.2.1 145 = .ok (.iload 6, 2) := by decide +kernel
theorem dX6_year_147 : decode mX6_year.2.1 147 = .ok (.iconst 2, 1) := by decide +kernel
theorem dX6_year_148 : decode mX6_year.2.1 148 = .ok (.iadd, 1) := by decide +kernel
theorem dX6_year_149 : decode mX6_year.2.1 149 = .ok (.iaload, 1) := by decide +kernel
theorem dX6_year_150 : decode mX6_year.2.1 150 = .ok (.iconst 1, 1) := by decide +kernel
theorem dX6_year_151 : decode mX6_year.2.1 151 = .ok (.isub, 1) := by decide +kernel
theorem dX6_year_152 : decode mX6_year.2.1 152 = .ok (.invokestatic 73, 3) := by decide +kernel
theorem dX6_year_155 : decode mX6_year.2.1 155 = .ok (.goto 12, 3) := by decide +kernel
theorem dX6_year_158 : decode mX6_year.2.1 158 = .ok (.aload_n 0, 1) := by decide +kernel
theorem dX6_year_159 : decode mX6_year.2.1 159 = .ok (.getfield 7, 3) := by decide +kernel
theorem dX6_year_162 : decode mX6_year.2.1 162 = .ok (.iload 6, 2) := by decide +kernel
theorem dX6_year_164 : decode mX6_year.2.1 164 = .ok (.iconst 2, 1) := by decide +kernel
theorem dX6_year_165 : decode mX6_year.2.1 165 = .ok (.iadd, 1) := by decide +kernel
theorem dX6_year_166 : decode mX6_year.2.1 166 = .ok (.iaload, 1) := by decide +kernel
theorem dX6_year_167 : decode mX6_year.2.1 167 = .ok (.iastore, 1) := by decide +kernel
theorem dX6_year_168 : decode mX6_year.2.1 168 = .ok (.aload_n 0, 1) := by decide +kernel
theorem dX6_year_169 : decode mX6_year.2.1 169 = .ok (.getfield 7, 3) := by decide +kernel
theorem dX6_year_172 : decode mX6_year.2.1 172 = .ok (.iload 6, 2) := by decide +kernel
theorem dX6_year_174 : decode mX6_year.2.1 174 = .ok (.iconst 3, 1) := by decide +kernel
theorem dX6_year_175 : decode mX6_year.2.1 175 = .ok (.iadd, 1) := by decide +kernel
theorem dX6_year_176 : decode mX6_year.2.1 176 = .ok (.bipush (-9), 2) := by decide +kernel
theorem dX6_year_178 : decode mX6_year.2.1 178 = .ok (.bipush 9, 2) := by decide +kernel
theorem dX6_year_180 : decode mX6_year.2.1 180 = .ok (.aload_n 0, 1) := by decide +kernel
theorem dX6_year_181 : decode mX6_year.2.1 181 = .ok (.getfield 7, 3) := by decide +kernel
theorem dX6_year_184 : decode mX6_year.2.1 184 = .ok (.iload 6, 2) := by decide +kernel
theorem dX6_year_186 : decode mX6_year.2.1 186 = .ok (.iconst 3, 1) := by decide +kernel
theorem dX6_year_187 : decode mX6_year.2.1 187 = .ok (.iadd, 1) := by decide +kernel
theorem dX6_year_188 : decode mX6_year.2.1 188 = .ok (.iaload, 1) := by decide +kernel
theorem dX6_year_189 : decode mX6_year.2.1 189 = .ok (.iload 4, 2) := by decide +kernel
theorem dX6_year_191 : decode mX6_year.2.1 191 = .ok (.iadd, 1) := by decide +kernel
theorem dX6_year_192 : decode mX6_year.2.1 192 = .ok (.invokestatic 79, 3) := by decide +kernel
theorem dX6_year_195 : decode mX6_year.2.1 195 = .ok (.invokestatic 73, 3) := by decide +kernel
theorem dX6_year_198 : decode mX6_year.2.1 198 = .ok (.iastore, 1) := by decide +kernel
theorem dX6_year_199 : decode mX6_year.2.1 199 = .ok (.iinc 5 1, 3) := by decide +kernel
theorem dX6_year_202 : decode mX6_year.2.1 202 = .ok (.goto (-164), 3) := by decide +kernel
theorem dX6_year_205 : decode mX6_year.2.1 205 = .ok (.aload_n 0, 1) := by decide +kernel
theorem dX6_year_206 : decode mX6_year.2.1 206 = .ok (.getfield 7, 3) := by decide +kernel
theorem dX6_year_209 : decode mX6_year.2.1 209 = .ok (.iconst 1, 1) := by decide +kernel
theorem dX6_year_210 : decode mX6_year.2.1 210 = .ok (.dup2, 1) := by decide +kernel
theorem dX6_year_211 : decode mX6_year.2.1 211 = .ok (.iaload, 1) := by decide +kernel
theorem dX6_year_212 : decode mX6_year.2.1 212 = .ok (.iconst 1, 1) := by decide +kernel
theorem dX6_year_213 : decode mX6_year.2.1 213 = .ok (.iadd, 1) := by decide +kernel
theorem dX6_year_214 : decode mX6_year.2.1 214 = .ok (.iastore, 1) := by decide +kernel
theorem dX6_year_215 : decode mX6_year.2.1 215 = .ok (.return_, 1) := by decide +kernel
theorem dX6_years_0 : decode mX6_years.2.1 0 = .ok (.iconst 0, 1) := by decide +kernel
theorem dX6_years_1 : decode mX6_years.2.1 1 = .ok (.istore_n 2, 1) := by decide +kernel
theorem dX6_years_2 : decode mX6_years.2.1 2 = .ok (.iload_n 2, 1) := by decide +kernel
theorem dX6_years_3 : decode mX6_years.2.1 3 = .ok (.iload_n 1, 1) := by decide +kernel
theorem dX6_years_4 : decode mX6_years.2.1 4 = .ok (.if_icmp .ge 13, 3) := by decide +kernel
theorem dX6_years_7 : decode mX6_years.2.1 7 = .ok (.aload_n 0, 1) := by decide +kernel
theorem dX6_years_8 : decode mX6_years.2.1 8 = .ok (.invokevirtual 142, 3) := by decide +kernel
theorem dX6_years_11 : decode mX6_years.2.1 11 = .ok (.iinc 2 1, 3) := by decide +kernel
theorem dX6_years_14 : decode mX6_years.2.1 14 = .ok (.goto (-12), 3) := by decide +kernel
theorem dX6_years_17 : decode mX6_years.2.1 17 = .ok (.return_, 1) := by decide +kernel
theorem dX6_go_0 : decode mX6_go.2.1 0 = .ok (.iload_n 1, 1) := by decide +kernel
theorem dX6_go_1 : decode mX6_go.2.1 1 = .ok (.i2l, 1) := by decide +kernel
theorem dX6_go_2 : decode mX6_go.2.1 2 = .ok (.lconst 1, 1) := by decide +kernel
theorem dX6_go_3 : decode mX6_go.2.1 3 = .ok (.ldc2_w 145, 3) := by decide +kernel
theorem dX6_go_6 : decode mX6_go.2.1 6 = .ok (.invokestatic 51, 3) := by decide +kernel
theorem dX6_go_9 : decode mX6_go.2.1 9 = .ok (.ifCond .ne 10, 3) := by decide +kernel
theorem dX6_go_12 : decode mX6_go.2.1 12 = .ok (.aload_n 0, 1) := by decide +kernel
theorem dX6_go_13 : decode mX6_go.2.1 13 = .ok (.ldc 43, 2) := by decide +kernel
theorem dX6_go_15 : decode mX6_go.2.1 15 = .ok (.invokevirtual 45, 3) := by decide +kernel
theorem dX6_go_18 : decode mX6_go.2.1 18 = .ok (.ireturn, 1) := by decide +kernel
theorem dX6_go_19 : decode mX6_go.2.1 19 = .ok (.aload_n 0, 1) := by decide +kernel
theorem dX6_go_20 : decode mX6_go.2.1 20 = .ok (.getfield 7, 3) := by decide +kernel
theorem dX6_go_23 : decode mX6_go.2.1 23 = .ok (.iconst 1, 1) := by decide +kernel
theorem dX6_go_24 : decode mX6_go.2.1 24 = .ok (.iaload, 1) := by decide +kernel
theorem dX6_go_25 : decode mX6_go.2.1 25 = .ok (.iload_n 1, 1) := by decide +kernel
theorem dX6_go_26 : decode mX6_go.2.1 26 = .ok (.iadd, 1) := by decide +kernel
theorem dX6_go_27 : decode mX6_go.2.1 27 = .ok (.ldc 147, 2) := by decide +kernel
theorem dX6_go_29 : decode mX6_go.2.1 29 = .ok (.if_icmp .le 10, 3) := by decide +kernel
theorem dX6_go_32 : decode mX6_go.2.1 32 = .ok (.aload_n 0, 1) := by decide +kernel
theorem dX6_go_33 : decode mX6_go.2.1 33 = .ok (.ldc 148, 2) := by decide +kernel
theorem dX6_go_35 : decode mX6_go.2.1 35 = .ok (.invokevirtual 45, 3) := by decide +kernel
theorem dX6_go_38 : decode mX6_go.2.1 38 = .ok (.ireturn, 1) := by decide +kernel
theorem dX6_go_39 : decode mX6_go.2.1 39 = .ok (.aload_n 0, 1) := by decide +kernel
theorem dX6_go_40 : decode mX6_go.2.1 40 = .ok (.iload_n 1, 1) := by decide +kernel
theorem dX6_go_41 : decode mX6_go.2.1 41 = .ok (.invokevirtual 149, 3) := by decide +kernel
theorem dX6_go_44 : decode mX6_go.2.1 44 = .ok (.aload_n 0, 1) := by decide +kernel
theorem dX6_go_45 : decode mX6_go.2.1 45 = .ok (.invokevirtual 131, 3) := by decide +kernel
theorem dX6_go_48 : decode mX6_go.2.1 48 = .ok (.ireturn, 1) := by decide +kernel
theorem dX6_sumOf_0 : decode mX6_sumOf.2.1 0 = .ok (.iconst 0, 1) := by decide +kernel
theorem dX6_sumOf_1 : decode mX6_sumOf.2.1 1 = .ok (.istore_n 2, 1) := by decide +kernel
theorem dX6_sumOf_2 : decode mX6_sumOf.2.1 2 = .ok (.iconst 0, 1) := by decide +kernel
theorem dX6_sumOf_3 : decode mX6_sumOf.2.1 3 = .ok (.istore_n 3, 1) := by decide +kernel
theorem dX6_sumOf_4 : decode mX6_sumOf.2.1 4 = .ok (.iload_n 3, 1) := by decide +kernel
theorem dX6_sumOf_5 : decode mX6_sumOf.2.1 5 = .ok (.aload_n 0, 1) := by decide +kernel
theorem dX6_sumOf_6 : decode mX6_sumOf.2.1 6 = .ok (.getfield 7, 3) := by decide +kernel
theorem dX6_sumOf_9 : decode mX6_sumOf.2.1 9 = .ok (.iconst 0, 1) := by decide +kernel
theorem dX6_sumOf_10 : decode mX6_sumOf.2.1 10 = .ok (.iaload, 1) := by decide +kernel
theorem dX6_sumOf_11 : decode mX6_sumOf.2.1 11 = .ok (.if_icmp .ge 18, 3) := by decide +kernel
theorem dX6_sumOf_14 : decode mX6_sumOf.2.1 14 = .ok (.iload_n 2, 1) := by decide +kernel
theorem dX6_sumOf_15 : decode mX6_sumOf.2.1 15 = .ok (.aload_n 0, 1) := by decide +kernel
theorem dX6_sumOf_16 : decode mX6_sumOf.2.1 16 = .ok (.iload_n 3, 1) := by decide +kernel
theorem dX6_sumOf_17 : decode mX6_sumOf.2.1 17 = .ok (.iload_n 1, 1) := by decide +kernel
theorem dX6_sumOf_18 : decode mX6_sumOf.2.1 18 = .ok (.invokevirtual 70, 3) := by decide +kernel
theorem dX6_sumOf_21 : decode mX6_sumOf.2.1 21 = .ok (.iadd, 1) := by decide +kernel
theorem dX6_sumOf_22 : decode mX6_sumOf.2.1 22 = .ok (.istore_n 2, 1) := by decide +kernel
theorem dX6_sumOf_23 : decode mX6_sumOf.2.1 23 = .ok (.iinc 3 1, 3) := by decide +kernel
theorem dX6_sumOf_26 : decode mX6_sumOf.2.1 26 = .ok (.goto (-22), 3) := by decide +kernel
theorem dX6_sumOf_29 : decode mX6_sumOf.2.1 29 = .ok (.iload_n 2, 1) := by decide +kernel
theorem dX6_sumOf_30 : decode mX6_sumOf.2.1 30 = .ok (.ireturn, 1) := by decide +kernel
theorem dX6_hadEver_0 : decode mX6_hadEver.2.1 0 = .ok (.iconst 0, 1) := by decide +kernel
theorem dX6_hadEver_1 : decode mX6_hadEver.2.1 1 = .ok (.istore_n 1, 1) := by decide +kernel
theorem dX6_hadEver_2 : decode mX6_hadEver.2.1 2 = .ok (.iconst 0, 1) := by decide +kernel
theorem dX6_hadEver_3 : decode mX6_hadEver.2.1 3 = .ok (.istore_n 2, 1) := by decide +kernel
theorem dX6_hadEver_4 : decode mX6_hadEver.2.1 4 = .ok (.iload_n 2, 1) := by decide +kernel
theorem dX6_hadEver_5 : decode mX6_hadEver.2.1 5 = .ok (.aload_n 0, 1) := by decide +kernel
theorem dX6_hadEver_6 : decode mX6_hadEver.2.1 6 = .ok (.getfield 7, 3) := by decide +kernel
theorem dX6_hadEver_9 : decode mX6_hadEver.2.1 9 = .ok (.iconst 0, 1) := by decide +kernel
theorem dX6_hadEver_10 : decode mX6_hadEver.2.1 10 = .ok (.iaload, 1) := by decide +kernel
theorem dX6_hadEver_11 : decode mX6_hadEver.2.1 11 = .ok (.if_icmp .ge 28, 3) := by decide +kernel
theorem dX6_hadEver_14 : decode mX6_hadEver.2.1 14 = .ok (.iload_n 1, 1) := by decide +kernel
theorem dX6_hadEver_15 : decode mX6_hadEver.2.1 15 = .ok (.aload_n 0, 1) := by decide +kernel
theorem dX6_hadEver_16 : decode mX6_hadEver.2.1 16 = .ok (.iload_n 2, 1) := by decide +kernel
theorem dX6_hadEver_17 : decode mX6_hadEver.2.1 17 = .ok (.iconst 4, 1) := by decide +kernel
theorem dX6_hadEver_18 : decode mX6_hadEver.2.1 18 = .ok (.invokevirtual 70, 3) := by decide +kernel
theorem dX6_hadEver_21 : decode mX6_hadEver.2.1 21 = .ok (.ifCond .le 9, 3) := by decide +kernel
theorem dX6_hadEver_24 : decode mX6_hadEver.2.1 24 = .ok (.iconst 1, 1) := by decide +kernel
theorem dX6_hadEver_25 : decode mX6_hadEver.2.1 25 = .ok (.iload_n 2, 1) := by decide +kernel
theorem dX6_hadEver_26 : decode mX6_hadEver.2.1 26 = .ok (.ishl, 1) := by decide +kernel
theorem dX6_hadEver_27 : decode mX6_hadEver.2.1 27 = .ok (.goto 4, 3) := by decide +kernel
theorem dX6_hadEver_30 : decode mX6_hadEver.2.1 30 = .ok (.iconst 0, 1) := by decide +kernel
theorem dX6_hadEver_31 : decode mX6_hadEver.2.1 31 = .ok (.ior, 1) := by decide +kernel
theorem dX6_hadEver_32 : decode mX6_hadEver.2.1 32 = .ok (.istore_n 1, 1) := by decide +kernel
theorem dX6_hadEver_33 : decode mX6_hadEver.2.1 33 = .ok (.iinc 2 1, 3) := by decide +kernel
theorem dX6_hadEver_36 : decode mX6_hadEver.2.1 36 = .ok (.goto (-32), 3) := by decide +kernel
theorem dX6_hadEver_39 : decode mX6_hadEver.2.1 39 = .ok (.iload_n 1, 1) := by decide +kernel
theorem dX6_hadEver_40 : decode mX6_hadEver.2.1 40 = .ok (.ireturn, 1) := by decide +kernel
theorem dX6_now_0 : decode mX6_now.2.1 0 = .ok (.iload_n 1, 1) := by decide +kernel
theorem dX6_now_1 : decode mX6_now.2.1 1 = .ok (.tableswitch 78 0 5 #[39, 46, 52, 58, 63, 69], 39) := by decide +kernel
theorem dX6_now_40 : decode mX6_now.2.1 40 = .ok (.aload_n 0, 1) := by decide +kernel
theorem dX6_now_41 : decode mX6_now.2.1 41 = .ok (.getfield 7, 3) := by decide +kernel
theorem dX6_now_44 : decode mX6_now.2.1 44 = .ok (.iconst 1, 1) := by decide +kernel
theorem dX6_now_45 : decode mX6_now.2.1 45 = .ok (.iaload, 1) := by decide +kernel
theorem dX6_now_46 : decode mX6_now.2.1 46 = .ok (.ireturn, 1) := by decide +kernel
theorem dX6_now_47 : decode mX6_now.2.1 47 = .ok (.aload_n 0, 1) := by decide +kernel
theorem dX6_now_48 : decode mX6_now.2.1 48 = .ok (.iconst 2, 1) := by decide +kernel
theorem dX6_now_49 : decode mX6_now.2.1 49 = .ok (.invokevirtual 153, 3) := by decide +kernel
theorem dX6_now_52 : decode mX6_now.2.1 52 = .ok (.ireturn, 1) := by decide +kernel
theorem dX6_now_53 : decode mX6_now.2.1 53 = .ok (.aload_n 0, 1) := by decide +kernel
theorem dX6_now_54 : decode mX6_now.2.1 54 = .ok (.iconst 3, 1) := by decide +kernel
theorem dX6_now_55 : decode mX6_now.2.1 55 = .ok (.invokevirtual 153, 3) := by decide +kernel
theorem dX6_now_58 : decode mX6_now.2.1 58 = .ok (.ireturn, 1) := by decide +kernel
theorem dX6_now_59 : decode mX6_now.2.1 59 = .ok (.aload_n 0, 1) := by decide +kernel
theorem dX6_now_60 : decode mX6_now.2.1 60 = .ok (.invokevirtual 156, 3) := by decide +kernel
theorem dX6_now_63 : decode mX6_now.2.1 63 = .ok (.ireturn, 1) := by decide +kernel
theorem dX6_now_64 : decode mX6_now.2.1 64 = .ok (.aload_n 0, 1) := by decide +kernel
theorem dX6_now_65 : decode mX6_now.2.1 65 = .ok (.iconst 1, 1) := by decide +kernel
theorem dX6_now_66 : decode mX6_now.2.1 66 = .ok (.invokevirtual 153, 3) := by decide +kernel
theorem dX6_now_69 : decode mX6_now.2.1 69 = .ok (.ireturn, 1) := by decide +kernel
theorem dX6_now_70 : decode mX6_now.2.1 70 = .ok (.aload_n 0, 1) := by decide +kernel
theorem dX6_now_71 : decode mX6_now.2.1 71 = .ok (.invokevirtual 109, 3) := by decide +kernel
theorem dX6_now_74 : decode mX6_now.2.1 74 = .ok (.aload_n 0, 1) := by decide +kernel
theorem dX6_now_75 : decode mX6_now.2.1 75 = .ok (.invokevirtual 112, 3) := by decide +kernel
theorem dX6_now_78 : decode mX6_now.2.1 78 = .ok (.ireturn, 1) := by decide +kernel
theorem dX6_now_79 : decode mX6_now.2.1 79 = .ok (.aload_n 0, 1) := by decide +kernel
theorem dX6_now_80 : decode mX6_now.2.1 80 = .ok (.ldc 43, 2) := by decide +kernel
theorem dX6_now_82 : decode mX6_now.2.1 82 = .ok (.invokevirtual 45, 3) := by decide +kernel
theorem dX6_now_85 : decode mX6_now.2.1 85 = .ok (.ireturn, 1) := by decide +kernel
theorem dX6_isLong_0 : decode mX6_isLong.2.1 0 = .ok (.iload_n 0, 1) := by decide +kernel
theorem dX6_isLong_1 : decode mX6_isLong.2.1 1 = .ok (.i2l, 1) := by decide +kernel
theorem dX6_isLong_2 : decode mX6_isLong.2.1 2 = .ok (.lconst 0, 1) := by decide +kernel
theorem dX6_isLong_3 : decode mX6_isLong.2.1 3 = .ok (.ldc2_w 145, 3) := by decide +kernel
theorem dX6_isLong_6 : decode mX6_isLong.2.1 6 = .ok (.invokestatic 51, 3) := by decide +kernel
theorem dX6_isLong_9 : decode mX6_isLong.2.1 9 = .ok (.ireturn, 1) := by decide +kernel
theorem dX6_holder_0 : decode mX6_holder.2.1 0 = .ok (.iload_n 1, 1) := by decide +kernel
theorem dX6_holder_1 : decode mX6_holder.2.1 1 = .ok (.invokestatic 159, 3) := by decide +kernel
theorem dX6_holder_4 : decode mX6_holder.2.1 4 = .ok (.ifCond .ne 10, 3) := by decide +kernel
theorem dX6_holder_7 : decode mX6_holder.2.1 7 = .ok (.aload_n 0, 1) := by decide +kernel
theorem dX6_holder_8 : decode mX6_holder.2.1 8 = .ok (.ldc 43, 2) := by decide +kernel
theorem dX6_holder_10 : decode mX6_holder.2.1 10 = .ok (.invokevirtual 45, 3) := by decide +kernel
theorem dX6_holder_13 : decode mX6_holder.2.1 13 = .ok (.ireturn, 1) := by decide +kernel
theorem dX6_holder_14 : decode mX6_holder.2.1 14 = .ok (.aload_n 0, 1) := by decide +kernel
theorem dX6_holder_15 : decode mX6_holder.2.1 15 = .ok (.getfield 7, 3) := by decide +kernel
theorem dX6_holder_18 : decode mX6_holder.2.1 18 = .ok (.aload_n 0, 1) := by decide +kernel
theorem dX6_holder_19 : decode mX6_holder.2.1 19 = .ok (.getfield 19, 3) := by decide +kernel
theorem dX6_holder_22 : decode mX6_holder.2.1 22 = .ok (.invokestatic 162, 3) := by decide +kernel
theorem dX6_holder_25 : decode mX6_holder.2.1 25 = .ok (.aload_n 0, 1) := by decide +kernel
theorem dX6_holder_26 : decode mX6_holder.2.1 26 = .ok (.iload_n 1, 1) := by decide +kernel
theorem dX6_holder_27 : decode mX6_holder.2.1 27 = .ok (.invokevirtual 149, 3) := by decide +kernel
theorem dX6_holder_30 : decode mX6_holder.2.1 30 = .ok (.aload_n 0, 1) := by decide +kernel
theorem dX6_holder_31 : decode mX6_holder.2.1 31 = .ok (.invokevirtual 119, 3) := by decide +kernel
theorem dX6_holder_34 : decode mX6_holder.2.1 34 = .ok (.istore_n 2, 1) := by decide +kernel
theorem dX6_holder_35 : decode mX6_holder.2.1 35 = .ok (.aload_n 0, 1) := by decide +kernel
theorem dX6_holder_36 : decode mX6_holder.2.1 36 = .ok (.getfield 19, 3) := by decide +kernel
theorem dX6_holder_39 : decode mX6_holder.2.1 39 = .ok (.aload_n 0, 1) := by decide +kernel
theorem dX6_holder_40 : decode mX6_holder.2.1 40 = .ok (.getfield 7, 3) := by decide +kernel
theorem dX6_holder_43 : decode mX6_holder.2.1 43 = .ok (.invokestatic 162, 3) := by decide +kernel
theorem dX6_holder_46 : decode mX6_holder.2.1 46 = .ok (.iload_n 2, 1) := by decide +kernel
theorem dX6_holder_47 : decode mX6_holder.2.1 47 = .ok (.ireturn, 1) := by decide +kernel
theorem dX6_ahead_0 : decode mX6_ahead.2.1 0 = .ok (.aload_n 0, 1) := by decide +kernel
theorem dX6_ahead_1 : decode mX6_ahead.2.1 1 = .ok (.iload_n 1, 1) := by decide +kernel
theorem dX6_ahead_2 : decode mX6_ahead.2.1 2 = .ok (.invokevirtual 82, 3) := by decide +kernel
theorem dX6_ahead_5 : decode mX6_ahead.2.1 5 = .ok (.ifCond .eq 24, 3) := by decide +kernel
theorem dX6_ahead_8 : decode mX6_ahead.2.1 8 = .ok (.iload_n 2, 1) := by decide +kernel
theorem dX6_ahead_9 : decode mX6_ahead.2.1 9 = .ok (.i2l, 1) := by decide +kernel
theorem dX6_ahead_10 : decode mX6_ahead.2.1 10 = .ok (.ldc2_w 49, 3) := by decide +kernel
theorem dX6_ahead_13 : decode mX6_ahead.2.1 13 = .ok (.ldc2_w 166, 3) := by decide +kernel
theorem dX6_ahead_16 : decode mX6_ahead.2.1 16 = .ok (.invokestatic 51, 3) := by decide +kernel
theorem dX6_ahead_19 : decode mX6_ahead.2.1 19 = .ok (.ifCond .eq 10, 3) := by decide +kernel
theorem dX6_ahead_22 : decode mX6_ahead.2.1 22 = .ok (.iload_n 3, 1) := by decide +kernel
theorem dX6_ahead_23 : decode mX6_ahead.2.1 23 = .ok (.invokestatic 159, 3) := by decide +kernel
theorem dX6_ahead_26 : decode mX6_ahead.2.1 26 = .ok (.ifCond .ne 10, 3) := by decide +kernel
theorem dX6_ahead_29 : decode mX6_ahead.2.1 29 = .ok (.aload_n 0, 1) := by decide +kernel
theorem dX6_ahead_30 : decode mX6_ahead.2.1 30 = .ok (.ldc 43, 2) := by decide +kernel
theorem dX6_ahead_32 : decode mX6_ahead.2.1 32 = .ok (.invokevirtual 45, 3) := by decide +kernel
theorem dX6_ahead_35 : decode mX6_ahead.2.1 35 = .ok (.ireturn, 1) := by decide +kernel
theorem dX6_ahead_36 : decode mX6_ahead.2.1 36 = .ok (.aload_n 0, 1) := by decide +kernel
theorem dX6_ahead_37 : decode mX6_ahead.2.1 37 = .ok (.getfield 7, 3) := by decide +kernel
theorem dX6_ahead_40 : decode mX6_ahead.2.1 40 = .ok (.aload_n 0, 1) := by decide +kernel
theorem dX6_ahead_41 : decode mX6_ahead.2.1 41 = .ok (.getfield 19, 3) := by decide +kernel
theorem dX6_ahead_44 : decode mX6_ahead.2.1 44 = .ok (.invokestatic 162, 3) := by decide +kernel
theorem dX6_ahead_47 : decode mX6_ahead.2.1 47 = .ok (.aload_n 0, 1) := by decide +kernel
theorem dX6_ahead_48 : decode mX6_ahead.2.1 48 = .ok (.iload_n 3, 1) := by decide +kernel
theorem dX6_ahead_49 : decode mX6_ahead.2.1 49 = .ok (.invokevirtual 149, 3) := by decide +kernel
theorem dX6_ahead_52 : decode mX6_ahead.2.1 52 = .ok (.aload_n 0, 1) := by decide +kernel
theorem dX6_ahead_53 : decode mX6_ahead.2.1 53 = .ok (.iload_n 1, 1) := by decide +kernel
theorem dX6_ahead_54 : decode mX6_ahead.2.1 54 = .ok (.iload_n 2, 1) := by decide +kernel
theorem dX6_ahead_55 : decode mX6_ahead.2.1 55 = .ok (.invokevirtual 70, 3) := by decide +kernel
theorem dX6_ahead_58 : decode mX6_ahead.2.1 58 = .ok (.istore 4, 2) := by decide +kernel
theorem dX6_ahead_60 : decode mX6_ahead.2.1 60 = .ok (.aload_n 0, 1) := by decide +kernel
theorem dX6_ahead_61 : decode mX6_ahead.2.1 61 = .ok (.getfield 19, 3) := by decide +kernel
theorem dX6_ahead_64 : decode mX6_ahead.2.1 64 = .ok (.aload_n 0, 1) := by decide +kernel
theorem dX6_ahead_65 : decode mX6_ahead.2.1 65 = .ok (.getfield 7, 3) := by decide +kernel
theorem dX6_ahead_68 : decode mX6_ahead.2.1 68 = .ok (.invokestatic 162, 3) := by decide +kernel
theorem dX6_ahead_71 : decode mX6_ahead.2.1 71 = .ok (.iload 4, 2) := by decide +kernel
theorem dX6_ahead_73 : decode mX6_ahead.2.1 73 = .ok (.ireturn, 1) := by decide +kernel
theorem dX6_leans_0 : decode mX6_leans.2.1 0 = .ok (.iload_n 1, 1) := by decide +kernel
theorem dX6_leans_1 : decode mX6_leans.2.1 1 = .ok (.invokestatic 159, 3) := by decide +kernel
theorem dX6_leans_4 : decode mX6_leans.2.1 4 = .ok (.ifCond .ne 10, 3) := by decide +kernel
theorem dX6_leans_7 : decode mX6_leans.2.1 7 = .ok (.aload_n 0, 1) := by decide +kernel
theorem dX6_leans_8 : decode mX6_leans.2.1 8 = .ok (.ldc 43, 2) := by decide +kernel
theorem dX6_leans_10 : decode mX6_leans.2.1 10 = .ok (.invokevirtual 45, 3) := by decide +kernel
theorem dX6_leans_13 : decode mX6_leans.2.1 13 = .ok (.ireturn, 1) := by decide +kernel
theorem dX6_leans_14 : decode mX6_leans.2.1 14 = .ok (.aload_n 0, 1) := by decide +kernel
theorem dX6_leans_15 : decode mX6_leans.2.1 15 = .ok (.getfield 7, 3) := by decide +kernel
theorem dX6_leans_18 : decode mX6_leans.2.1 18 = .ok (.aload_n 0, 1) := by decide +kernel
theorem dX6_leans_19 : decode mX6_leans.2.1 19 = .ok (.getfield 19, 3) := by decide +kernel
theorem dX6_leans_22 : decode mX6_leans.2.1 22 = .ok (.invokestatic 162, 3) := by decide +kernel
theorem dX6_leans_25 : decode mX6_leans.2.1 25 = .ok (.aload_n 0, 1) := by decide +kernel
theorem dX6_leans_26 : decode mX6_leans.2.1 26 = .ok (.iload_n 1, 1) := by decide +kernel
theorem dX6_leans_27 : decode mX6_leans.2.1 27 = .ok (.invokevirtual 149, 3) := by decide +kernel
theorem dX6_leans_30 : decode mX6_leans.2.1 30 = .ok (.aload_n 0, 1) := by decide +kernel
theorem dX6_leans_31 : decode mX6_leans.2.1 31 = .ok (.invokevirtual 131, 3) := by decide +kernel
theorem dX6_leans_34 : decode mX6_leans.2.1 34 = .ok (.istore_n 2, 1) := by decide +kernel
theorem dX6_leans_35 : decode mX6_leans.2.1 35 = .ok (.aload_n 0, 1) := by decide +kernel
theorem dX6_leans_36 : decode mX6_leans.2.1 36 = .ok (.getfield 19, 3) := by decide +kernel
theorem dX6_leans_39 : decode mX6_leans.2.1 39 = .ok (.aload_n 0, 1) := by decide +kernel
theorem dX6_leans_40 : decode mX6_leans.2.1 40 = .ok (.getfield 7, 3) := by decide +kernel
theorem dX6_leans_43 : decode mX6_leans.2.1 43 = .ok (.invokestatic 162, 3) := by decide +kernel
theorem dX6_leans_46 : decode mX6_leans.2.1 46 = .ok (.iload_n 2, 1) := by decide +kernel
theorem dX6_leans_47 : decode mX6_leans.2.1 47 = .ok (.ireturn, 1) := by decide +kernel
theorem dX6_when_0 : decode mX6_when.2.1 0 = .ok (.aload_n 0, 1) := by decide +kernel
theorem dX6_when_1 : decode mX6_when.2.1 1 = .ok (.iload_n 1, 1) := by decide +kernel
theorem dX6_when_2 : decode mX6_when.2.1 2 = .ok (.invokevirtual 82, 3) := by decide +kernel
theorem dX6_when_5 : decode mX6_when.2.1 5 = .ok (.ifCond .ne 10, 3) := by decide +kernel
theorem dX6_when_8 : decode mX6_when.2.1 8 = .ok (.aload_n 0, 1) := by decide +kernel
theorem dX6_when_9 : decode mX6_when.2.1 9 = .ok (.ldc 43, 2) := by decide +kernel
theorem dX6_when_11 : decode mX6_when.2.1 11 = .ok (.invokevirtual 45, 3) := by decide +kernel
theorem dX6_when_14 : decode mX6_when.2.1 14 = .ok (.ireturn, 1) := by decide +kernel
theorem dX6_when_15 : decode mX6_when.2.1 15 = .ok (.aload_n 0, 1) := by decide +kernel
theorem dX6_when_16 : decode mX6_when.2.1 16 = .ok (.getfield 7, 3) := by decide +kernel
theorem dX6_when_19 : decode mX6_when.2.1 19 = .ok (.aload_n 0, 1) := by decide +kernel
theorem dX6_when_20 : decode mX6_when.2.1 20 = .ok (.getfield 19, 3) := by decide +kernel
theorem dX6_when_23 : decode mX6_when.2.1 23 = .ok (.invokestatic 162, 3) := by decide +kernel
theorem dX6_when_26 : decode mX6_when.2.1 26 = .ok (.iconst 0, 1) := by decide +kernel
theorem dX6_when_27 : decode mX6_when.2.1 27 = .ok (.istore_n 2, 1) := by decide +kernel
theorem dX6_when_28 : decode mX6_when.2.1 28 = .ok (.iload_n 2, 1) := by decide +kernel
theorem dX6_when_29 : decode mX6_when.2.1 29 = .ok (.bipush 60, 2) := by decide +kernel
theorem dX6_when_31 : decode mX6_when.2.1 31 = .ok (.if_icmp .gt 24, 3) := by decide +kernel
theorem dX6_when_34 : decode mX6_when.2.1 34 = .ok (.aload_n 0, 1) := by decide +kernel
theorem dX6_when_35 : decode mX6_when.2.1 35 = .ok (.invokevirtual 119, 3) := by decide +kernel
theorem dX6_when_38 : decode mX6_when.2.1 38 = .ok (.iload_n 1, 1) := by decide +kernel
theorem dX6_when_39 : decode mX6_when.2.1 39 = .ok (.ishr, 1) := by decide +kernel
theorem dX6_when_40 : decode mX6_when.2.1 40 = .ok (.iconst 1, 1) := by decide +kernel
theorem dX6_when_41 : decode mX6_when.2.1 41 = .ok (.iand, 1) := by decide +kernel
theorem dX6_when_42 : decode mX6_when.2.1 42 = .ok (.ifCond .ne 13, 3) := by decide +kernel
theorem dX6_when_45 : decode mX6_when.2.1 45 = .ok (.aload_n 0, 1) := by decide +kernel
theorem dX6_when_46 : decode mX6_when.2.1 46 = .ok (.invokevirtual 142, 3) := by decide +kernel
theorem dX6_when_49 : decode mX6_when.2.1 49 = .ok (.iinc 2 1, 3) := by decide +kernel
theorem dX6_when_52 : decode mX6_when.2.1 52 = .ok (.goto (-24), 3) := by decide +kernel
theorem dX6_when_55 : decode mX6_when.2.1 55 = .ok (.aload_n 0, 1) := by decide +kernel
theorem dX6_when_56 : decode mX6_when.2.1 56 = .ok (.getfield 19, 3) := by decide +kernel
theorem dX6_when_59 : decode mX6_when.2.1 59 = .ok (.aload_n 0, 1) := by decide +kernel
theorem dX6_when_60 : decode mX6_when.2.1 60 = .ok (.getfield 7, 3) := by decide +kernel
theorem dX6_when_63 : decode mX6_when.2.1 63 = .ok (.invokestatic 162, 3) := by decide +kernel
theorem dX6_when_66 : decode mX6_when.2.1 66 = .ok (.iload_n 2, 1) := by decide +kernel
theorem dX6_when_67 : decode mX6_when.2.1 67 = .ok (.bipush 60, 2) := by decide +kernel
theorem dX6_when_69 : decode mX6_when.2.1 69 = .ok (.if_icmp .gt 7, 3) := by decide +kernel
theorem dX6_when_72 : decode mX6_when.2.1 72 = .ok (.iload_n 2, 1) := by decide +kernel
theorem dX6_when_73 : decode mX6_when.2.1 73 = .ok (.goto 9, 3) := by decide +kernel
theorem dX6_when_76 : decode mX6_when.2.1 76 = .ok (.aload_n 0, 1) := by decide +kernel
theorem dX6_when_77 : decode mX6_when.2.1 77 = .ok (.ldc 44, 2) := by decide +kernel
theorem dX6_when_79 : decode mX6_when.2.1 79 = .ok (.invokevirtual 45, 3) := by decide +kernel
theorem dX6_when_82 : decode mX6_when.2.1 82 = .ok (.ireturn, 1) := by decide +kernel
theorem dX6_tie_0 : decode mX6_tie.2.1 0 = .ok (.aload_n 0, 1) := by decide +kernel
theorem dX6_tie_1 : decode mX6_tie.2.1 1 = .ok (.getfield 7, 3) := by decide +kernel
theorem dX6_tie_4 : decode mX6_tie.2.1 4 = .ok (.aload_n 0, 1) := by decide +kernel
theorem dX6_tie_5 : decode mX6_tie.2.1 5 = .ok (.getfield 19, 3) := by decide +kernel
theorem dX6_tie_8 : decode mX6_tie.2.1 8 = .ok (.invokestatic 162, 3) := by decide +kernel
theorem dX6_tie_11 : decode mX6_tie.2.1 11 = .ok (.iconst 0, 1) := by decide +kernel
theorem dX6_tie_12 : decode mX6_tie.2.1 12 = .ok (.istore_n 1, 1) := by decide +kernel
theorem dX6_tie_13 : decode mX6_tie.2.1 13 = .ok (.iload_n 1, 1) := by decide +kernel
theorem dX6_tie_14 : decode mX6_tie.2.1 14 = .ok (.bipush 60, 2) := by decide +kernel
theorem dX6_tie_16 : decode mX6_tie.2.1 16 = .ok (.if_icmp .gt 24, 3) := by decide +kernel
theorem dX6_tie_19 : decode mX6_tie.2.1 19 = .ok (.aload_n 0, 1) := by decide +kernel
theorem dX6_tie_20 : decode mX6_tie.2.1 20 = .ok (.invokevirtual 119, 3) := by decide +kernel
theorem dX6_tie_23 : decode mX6_tie.2.1 23 = .ok (.invokestatic 168, 3) := by decide +kernel
theorem dX6_tie_26 : decode mX6_tie.2.1 26 = .ok (.iconst 2, 1) := by decide +kernel
theorem dX6_tie_27 : decode mX6_tie.2.1 27 = .ok (.if_icmp .ge 13, 3) := by decide +kernel
theorem dX6_tie_30 : decode mX6_tie.2.1 30 = .ok (.aload_n 0, 1) := by decide +kernel
theorem dX6_tie_31 : decode mX6_tie.2.1 31 = .ok (.invokevirtual 142, 3) := by decide +kernel
theorem dX6_tie_34 : decode mX6_tie.2.1 34 = .ok (.iinc 1 1, 3) := by decide +kernel
theorem dX6_tie_37 : decode mX6_tie.2.1 37 = .ok (.goto (-24), 3) := by decide +kernel
theorem dX6_tie_40 : decode mX6_tie.2.1 40 = .ok (.aload_n 0, 1) := by decide +kernel
theorem dX6_tie_41 : decode mX6_tie.2.1 41 = .ok (.getfield 19, 3) := by decide +kernel
theorem dX6_tie_44 : decode mX6_tie.2.1 44 = .ok (.aload_n 0, 1) := by decide +kernel
theorem dX6_tie_45 : decode mX6_tie.2.1 45 = .ok (.getfield 7, 3) := by decide +kernel
theorem dX6_tie_48 : decode mX6_tie.2.1 48 = .ok (.invokestatic 162, 3) := by decide +kernel
theorem dX6_tie_51 : decode mX6_tie.2.1 51 = .ok (.iload_n 1, 1) := by decide +kernel
theorem dX6_tie_52 : decode mX6_tie.2.1 52 = .ok (.bipush 60, 2) := by decide +kernel
theorem dX6_tie_54 : decode mX6_tie.2.1 54 = .ok (.if_icmp .gt 7, 3) := by decide +kernel
theorem dX6_tie_57 : decode mX6_tie.2.1 57 = .ok (.iload_n 1, 1) := by decide +kernel
theorem dX6_tie_58 : decode mX6_tie.2.1 58 = .ok (.goto 9, 3) := by decide +kernel
theorem dX6_tie_61 : decode mX6_tie.2.1 61 = .ok (.aload_n 0, 1) := by decide +kernel
theorem dX6_tie_62 : decode mX6_tie.2.1 62 = .ok (.ldc 44, 2) := by decide +kernel
theorem dX6_tie_64 : decode mX6_tie.2.1 64 = .ok (.invokevirtual 45, 3) := by decide +kernel
theorem dX6_tie_67 : decode mX6_tie.2.1 67 = .ok (.ireturn, 1) := by decide +kernel
theorem dX6_turns_0 : decode mX6_turns.2.1 0 = .ok (.iload_n 1, 1) := by decide +kernel
theorem dX6_turns_1 : decode mX6_turns.2.1 1 = .ok (.invokestatic 136, 3) := by decide +kernel
theorem dX6_turns_4 : decode mX6_turns.2.1 4 = .ok (.ifCond .ne 10, 3) := by decide +kernel
theorem dX6_turns_7 : decode mX6_turns.2.1 7 = .ok (.aload_n 0, 1) := by decide +kernel
theorem dX6_turns_8 : decode mX6_turns.2.1 8 = .ok (.ldc 43, 2) := by decide +kernel
theorem dX6_turns_10 : decode mX6_turns.2.1 10 = .ok (.invokevirtual 45, 3) := by decide +kernel
theorem dX6_turns_13 : decode mX6_turns.2.1 13 = .ok (.ireturn, 1) := by decide +kernel
theorem dX6_turns_14 : decode mX6_turns.2.1 14 = .ok (.aload_n 0, 1) := by decide +kernel
theorem dX6_turns_15 : decode mX6_turns.2.1 15 = .ok (.getfield 7, 3) := by decide +kernel
theorem dX6_turns_18 : decode mX6_turns.2.1 18 = .ok (.aload_n 0, 1) := by decide +kernel
theorem dX6_turns_19 : decode mX6_turns.2.1 19 = .ok (.getfield 19, 3) := by decide +kernel
theorem dX6_turns_22 : decode mX6_turns.2.1 22 = .ok (.invokestatic 162, 3) := by decide +kernel
theorem dX6_turns_25 : decode mX6_turns.2.1 25 = .ok (.aload_n 0, 1) := by decide +kernel
theorem dX6_turns_26 : decode mX6_turns.2.1 26 = .ok (.iload_n 1, 1) := by decide +kernel
theorem dX6_turns_27 : decode mX6_turns.2.1 27 = .ok (.invokevirtual 139, 3) := by decide +kernel
theorem dX6_turns_30 : decode mX6_turns.2.1 30 = .ok (.istore_n 2, 1) := by decide +kernel
theorem dX6_turns_31 : decode mX6_turns.2.1 31 = .ok (.iconst 0, 1) := by decide +kernel
theorem dX6_turns_32 : decode mX6_turns.2.1 32 = .ok (.istore_n 3, 1) := by decide +kernel
theorem dX6_turns_33 : decode mX6_turns.2.1 33 = .ok (.iload_n 3, 1) := by decide +kernel
theorem dX6_turns_34 : decode mX6_turns.2.1 34 = .ok (.bipush 60, 2) := by decide +kernel
theorem dX6_turns_36 : decode mX6_turns.2.1 36 = .ok (.if_icmp .gt 22, 3) := by decide +kernel
theorem dX6_turns_39 : decode mX6_turns.2.1 39 = .ok (.aload_n 0, 1) := by decide +kernel
theorem dX6_turns_40 : decode mX6_turns.2.1 40 = .ok (.iload_n 1, 1) := by decide +kernel
theorem dX6_turns_41 : decode mX6_turns.2.1 41 = .ok (.invokevirtual 139, 3) := by decide +kernel
theorem dX6_turns_44 : decode mX6_turns.2.1 44 = .ok (.iload_n 2, 1) := by decide +kernel
theorem dX6_turns_45 : decode mX6_turns.2.1 45 = .ok (.if_icmp .ne 13, 3) := by decide +kernel
theorem dX6_turns_48 : decode mX6_turns.2.1 48 = .ok (.aload_n 0, 1) := by decide +kernel
theorem dX6_turns_49 : decode mX6_turns.2.1 49 = .ok (.invokevirtual 142, 3) := by decide +kernel
theorem dX6_turns_52 : decode mX6_turns.2.1 52 = .ok (.iinc 3 1, 3) := by decide +kernel
theorem dX6_turns_55 : decode mX6_turns.2.1 55 = .ok (.goto (-22), 3) := by decide +kernel
theorem dX6_turns_58 : decode mX6_turns.2.1 58 = .ok (.aload_n 0, 1) := by decide +kernel
theorem dX6_turns_59 : decode mX6_turns.2.1 59 = .ok (.getfield 19, 3) := by decide +kernel
theorem dX6_turns_62 : decode mX6_turns.2.1 62 = .ok (.aload_n 0, 1) := by decide +kernel
theorem dX6_turns_63 : decode mX6_turns.2.1 63 = .ok (.getfield 7, 3) := by decide +kernel
theorem dX6_turns_66 : decode mX6_turns.2.1 66 = .ok (.invokestatic 162, 3) := by decide +kernel
theorem dX6_turns_69 : decode mX6_turns.2.1 69 = .ok (.iload_n 3, 1) := by decide +kernel
theorem dX6_turns_70 : decode mX6_turns.2.1 70 = .ok (.bipush 60, 2) := by decide +kernel
theorem dX6_turns_72 : decode mX6_turns.2.1 72 = .ok (.if_icmp .gt 7, 3) := by decide +kernel
theorem dX6_turns_75 : decode mX6_turns.2.1 75 = .ok (.iload_n 3, 1) := by decide +kernel
theorem dX6_turns_76 : decode mX6_turns.2.1 76 = .ok (.goto 9, 3) := by decide +kernel
theorem dX6_turns_79 : decode mX6_turns.2.1 79 = .ok (.aload_n 0, 1) := by decide +kernel
theorem dX6_turns_80 : decode mX6_turns.2.1 80 = .ok (.ldc 44, 2) := by decide +kernel
theorem dX6_turns_82 : decode mX6_turns.2.1 82 = .ok (.invokevirtual 45, 3) := by decide +kernel
theorem dX6_turns_85 : decode mX6_turns.2.1 85 = .ok (.ireturn, 1) := by decide +kernel
theorem dX6_isLast_0 : decode mX6_isLast.2.1 0 = .ok (.aload_n 0, 1) := by decide +kernel
theorem dX6_isLast_1 : decode mX6_isLast.2.1 1 = .ok (.invokevirtual 119, 3) := by decide +kernel
theorem dX6_isLast_4 : decode mX6_isLast.2.1 4 = .ok (.iload_n 1, 1) := by decide +kernel
theorem dX6_isLast_5 : decode mX6_isLast.2.1 5 = .ok (.ishr, 1) := by decide +kernel
theorem dX6_isLast_6 : decode mX6_isLast.2.1 6 = .ok (.iconst 1, 1) := by decide +kernel
theorem dX6_isLast_7 : decode mX6_isLast.2.1 7 = .ok (.iand, 1) := by decide +kernel
theorem dX6_isLast_8 : decode mX6_isLast.2.1 8 = .ok (.iconst 1, 1) := by decide +kernel
theorem dX6_isLast_9 : decode mX6_isLast.2.1 9 = .ok (.if_icmp .ne 7, 3) := by decide +kernel
theorem dX6_isLast_12 : decode mX6_isLast.2.1 12 = .ok (.iconst 1, 1) := by decide +kernel
theorem dX6_isLast_13 : decode mX6_isLast.2.1 13 = .ok (.goto 4, 3) := by decide +kernel
theorem dX6_isLast_16 : decode mX6_isLast.2.1 16 = .ok (.iconst 0, 1) := by decide +kernel
theorem dX6_isLast_17 : decode mX6_isLast.2.1 17 = .ok (.ireturn, 1) := by decide +kernel
theorem dX6_mostHands_0 : decode mX6_mostHands.2.1 0 = .ok (.aload_n 0, 1) := by decide +kernel
theorem dX6_mostHands_1 : decode mX6_mostHands.2.1 1 = .ok (.iload_n 1, 1) := by decide +kernel
theorem dX6_mostHands_2 : decode mX6_mostHands.2.1 2 = .ok (.invokevirtual 82, 3) := by decide +kernel
theorem dX6_mostHands_5 : decode mX6_mostHands.2.1 5 = .ok (.ifCond .ne 10, 3) := by decide +kernel
theorem dX6_mostHands_8 : decode mX6_mostHands.2.1 8 = .ok (.aload_n 0, 1) := by decide +kernel
theorem dX6_mostHands_9 : decode mX6_mostHands.2.1 9 = .ok (.ldc 43, 2) := by decide +kernel
theorem dX6_mostHands_11 : decode mX6_mostHands.2.1 11 = .ok (.invokevirtual 45, 3) := by decide +kernel
theorem dX6_mostHands_14 : decode mX6_mostHands.2.1 14 = .ok (.ireturn, 1) := by decide +kernel
theorem dX6_mostHands_15 : decode mX6_mostHands.2.1 15 = .ok (.bipush 6, 2) := by decide +kernel
theorem dX6_mostHands_17 : decode mX6_mostHands.2.1 17 = .ok (.iconst 5, 1) := by decide +kernel
theorem dX6_mostHands_18 : decode mX6_mostHands.2.1 18 = .ok (.iload_n 1, 1) := by decide +kernel
theorem dX6_mostHands_19 : decode mX6_mostHands.2.1 19 = .ok (.imul, 1) := by decide +kernel
theorem dX6_mostHands_20 : decode mX6_mostHands.2.1 20 = .ok (.iadd, 1) := by decide +kernel
theorem dX6_mostHands_21 : decode mX6_mostHands.2.1 21 = .ok (.iconst 2, 1) := by decide +kernel
theorem dX6_mostHands_22 : decode mX6_mostHands.2.1 22 = .ok (.iadd, 1) := by decide +kernel
theorem dX6_mostHands_23 : decode mX6_mostHands.2.1 23 = .ok (.istore_n 2, 1) := by decide +kernel
theorem dX6_mostHands_24 : decode mX6_mostHands.2.1 24 = .ok (.aload_n 0, 1) := by decide +kernel
theorem dX6_mostHands_25 : decode mX6_mostHands.2.1 25 = .ok (.getfield 7, 3) := by decide +kernel
theorem dX6_mostHands_28 : decode mX6_mostHands.2.1 28 = .ok (.iload_n 2, 1) := by decide +kernel
theorem dX6_mostHands_29 : decode mX6_mostHands.2.1 29 = .ok (.iaload, 1) := by decide +kernel
theorem dX6_mostHands_30 : decode mX6_mostHands.2.1 30 = .ok (.istore_n 3, 1) := by decide +kernel
theorem dX6_mostHands_31 : decode mX6_mostHands.2.1 31 = .ok (.aload_n 0, 1) := by decide +kernel
theorem dX6_mostHands_32 : decode mX6_mostHands.2.1 32 = .ok (.getfield 7, 3) := by decide +kernel
theorem dX6_mostHands_35 : decode mX6_mostHands.2.1 35 = .ok (.iload_n 2, 1) := by decide +kernel
theorem dX6_mostHands_36 : decode mX6_mostHands.2.1 36 = .ok (.bipush 20, 2) := by decide +kernel
theorem dX6_mostHands_38 : decode mX6_mostHands.2.1 38 = .ok (.iastore, 1) := by decide +kernel
theorem dX6_mostHands_39 : decode mX6_mostHands.2.1 39 = .ok (.aload_n 0, 1) := by decide +kernel
theorem dX6_mostHands_40 : decode mX6_mostHands.2.1 40 = .ok (.getfield 7, 3) := by decide +kernel
theorem dX6_mostHands_43 : decode mX6_mostHands.2.1 43 = .ok (.iload_n 2, 1) := by decide +kernel
theorem dX6_mostHands_44 : decode mX6_mostHands.2.1 44 = .ok (.iaload, 1) := by decide +kernel
theorem dX6_mostHands_45 : decode mX6_mostHands.2.1 45 = .ok (.ifCond .le 24, 3) := by decide +kernel
theorem dX6_mostHands_48 : decode mX6_mostHands.2.1 48 = .ok (.aload_n 0, 1) := by decide +kernel
theorem dX6_mostHands_49 : decode mX6_mostHands.2.1 49 = .ok (.iload_n 1, 1) := by decide +kernel
theorem dX6_mostHands_50 : decode mX6_mostHands.2.1 50 = .ok (.invokevirtual 171, 3) := by decide +kernel
theorem dX6_mostHands_53 : decode mX6_mostHands.2.1 53 = .ok (.ifCond .ne 16, 3) := by decide +kernel
theorem dX6_mostHands_56 : decode mX6_mostHands.2.1 56 = .ok (.aload_n 0, 1) := by decide +kernel
theorem dX6_mostHands_57 : decode mX6_mostHands.2.1 57 = .ok (.getfield 7, 3) := by decide +kernel
theorem dX6_mostHands_60 : decode mX6_mostHands.2.1 60 = .ok (.iload_n 2, 1) := by decide +kernel
theorem dX6_mostHands_61 : decode mX6_mostHands.2.1 61 = .ok (.dup2, 1) := by decide +kernel
theorem dX6_mostHands_62 : decode mX6_mostHands.2.1 62 = .ok (.iaload, 1) := by decide +kernel
theorem dX6_mostHands_63 : decode mX6_mostHands.2.1 63 = .ok (.iconst 1, 1) := by decide +kernel
theorem dX6_mostHands_64 : decode mX6_mostHands.2.1 64 = .ok (.isub, 1) := by decide +kernel
theorem dX6_mostHands_65 : decode mX6_mostHands.2.1 65 = .ok (.iastore, 1) := by decide +kernel
theorem dX6_mostHands_66 : decode mX6_mostHands.2.1 66 = .ok (.goto (-27), 3) := by decide +kernel
theorem dX6_mostHands_69 : decode mX6_mostHands.2.1 69 = .ok (.aload_n 0, 1) := by decide +kernel
theorem dX6_mostHands_70 : decode mX6_mostHands.2.1 70 = .ok (.getfield 7, 3) := by decide +kernel
theorem dX6_mostHands_73 : decode mX6_mostHands.2.1 73 = .ok (.iload_n 2, 1) := by decide +kernel
theorem dX6_mostHands_74 : decode mX6_mostHands.2.1 74 = .ok (.iaload, 1) := by decide +kernel
theorem dX6_mostHands_75 : decode mX6_mostHands.2.1 75 = .ok (.istore 4, 2) := by decide +kernel
theorem dX6_mostHands_77 : decode mX6_mostHands.2.1 77 = .ok (.aload_n 0, 1) := by decide +kernel
theorem dX6_mostHands_78 : decode mX6_mostHands.2.1 78 = .ok (.getfield 7, 3) := by decide +kernel
theorem dX6_mostHands_81 : decode mX6_mostHands.2.1 81 = .ok (.iload_n 2, 1) := by decide +kernel
theorem dX6_mostHands_82 : decode mX6_mostHands.2.1 82 = .ok (.iload_n 3, 1) := by decide +kernel
theorem dX6_mostHands_83 : decode mX6_mostHands.2.1 83 = .ok (.iastore, 1) := by decide +kernel
theorem dX6_mostHands_84 : decode mX6_mostHands.2.1 84 = .ok (.iload 4, 2) := by decide +kernel
theorem dX6_mostHands_86 : decode mX6_mostHands.2.1 86 = .ok (.ifCond .le 8, 3) := by decide +kernel
theorem dX6_mostHands_89 : decode mX6_mostHands.2.1 89 = .ok (.iload 4, 2) := by decide +kernel
theorem dX6_mostHands_91 : decode mX6_mostHands.2.1 91 = .ok (.goto 9, 3) := by decide +kernel
theorem dX6_mostHands_94 : decode mX6_mostHands.2.1 94 = .ok (.aload_n 0, 1) := by decide +kernel
theorem dX6_mostHands_95 : decode mX6_mostHands.2.1 95 = .ok (.ldc 44, 2) := by decide +kernel
theorem dX6_mostHands_97 : decode mX6_mostHands.2.1 97 = .ok (.invokevirtual 45, 3) := by decide +kernel
theorem dX6_mostHands_100 : decode mX6_mostHands.2.1 100 = .ok (.ireturn, 1) := by decide +kernel
theorem dX6_fewestHands_0 : decode mX6_fewestHands.2.1 0 = .ok (.aload_n 0, 1) := by decide +kernel
theorem dX6_fewestHands_1 : decode mX6_fewestHands.2.1 1 = .ok (.iload_n 1, 1) := by decide +kernel
theorem dX6_fewestHands_2 : decode mX6_fewestHands.2.1 2 = .ok (.invokevirtual 82, 3) := by decide +kernel
theorem dX6_fewestHands_5 : decode mX6_fewestHands.2.1 5 = .ok (.ifCond .ne 10, 3) := by decide +kernel
theorem dX6_fewestHands_8 : decode mX6_fewestHands.2.1 8 = .ok (.aload_n 0, 1) := by decide +kernel
theorem dX6_fewestHands_9 : decode mX6_fewestHands.2.1 9 = .ok (.ldc 43, 2) := by decide +kernel
theorem dX6_fewestHands_11 : decode mX6_fewestHands.2.1 11 = .ok (.invokevirtual 45, 3) := by decide +kernel
theorem dX6_fewestHands_14 : decode mX6_fewestHands.2.1 14 = .ok (.ireturn, 1) := by decide +kernel
theorem dX6_fewestHands_15 : decode mX6_fewestHands.2.1 15 = .ok (.bipush 6, 2) := by decide +kernel
theorem dX6_fewestHands_17 : decode mX6_fewestHands.2.1 17 = .ok (.iconst 5, 1) := by decide +kernel
theorem dX6_fewestHands_18 : decode mX6_fewestHands.2.1 18 = .ok (.iload_n 1, 1) := by decide +kernel
theorem dX6_fewestHands_19 : decode mX6_fewestHands.2.1 19 = .ok (.imul, 1) := by decide +kernel
theorem dX6_fewestHands_20 : decode mX6_fewestHands.2.1 20 = .ok (.iadd, 1) := by decide +kernel
theorem dX6_fewestHands_21 : decode mX6_fewestHands.2.1 21 = .ok (.iconst 2, 1) := by decide +kernel
theorem dX6_fewestHands_22 : decode mX6_fewestHands.2.1 22 = .ok (.iadd, 1) := by decide +kernel
theorem dX6_fewestHands_23 : decode mX6_fewestHands.2.1 23 = .ok (.istore_n 2, 1) := by decide +kernel
theorem dX6_fewestHands_24 : decode mX6_fewestHands.2.1 24 = .ok (.aload_n 0, 1) := by decide +kernel
theorem dX6_fewestHands_25 : decode mX6_fewestHands.2.1 25 = .ok (.getfield 7, 3) := by decide +kernel
theorem dX6_fewestHands_28 : decode mX6_fewestHands.2.1 28 = .ok (.iload_n 2, 1) := by decide +kernel
theorem dX6_fewestHands_29 : decode mX6_fewestHands.2.1 29 = .ok (.iaload, 1) := by decide +kernel
theorem dX6_fewestHands_30 : decode mX6_fewestHands.2.1 30 = .ok (.istore_n 3, 1) := by decide +kernel
theorem dX6_fewestHands_31 : decode mX6_fewestHands.2.1 31 = .ok (.iconst (-1), 1) := by decide +kernel
theorem dX6_fewestHands_32 : decode mX6_fewestHands.2.1 32 = .ok (.istore 4, 2) := by decide +kernel
theorem dX6_fewestHands_34 : decode mX6_fewestHands.2.1 34 = .ok (.iconst 1, 1) := by decide +kernel
theorem dX6_fewestHands_35 : decode mX6_fewestHands.2.1 35 = .ok (.istore 5, 2) := by decide +kernel
theorem dX6_fewestHands_37 : decode mX6_fewestHands.2.1 37 = .ok (.iload 5, 2) := by decide +kernel
theorem dX6_fewestHands_39 : decode mX6_fewestHands.2.1 39 = .ok (.bipush 20, 2) := by decide +kernel
theorem dX6_fewestHands_41 : decode mX6_fewestHands.2.1 41 = .ok (.if_icmp .gt 46, 3) := by decide +kernel
theorem dX6_fewestHands_44 : decode mX6_fewestHands.2.1 44 = .ok (.iload 4, 2) := by decide +kernel
theorem dX6_fewestHands_46 : decode mX6_fewestHands.2.1 46 = .ok (.ifCond .ge 41, 3) := by decide +kernel
theorem dX6_fewestHands_49 : decode mX6_fewestHands.2.1 49 = .ok (.aload_n 0, 1) := by decide +kernel
theorem dX6_fewestHands_50 : decode mX6_fewestHands.2.1 50 = .ok (.getfield 7, 3) := by decide +kernel
theorem dX6_fewestHands_53 : decode mX6_fewestHands.2.1 53 = .ok (.iload_n 2, 1) := by decide +kernel
theorem dX6_fewestHands_54 : decode mX6_fewestHands.2.1 54 = .ok (.iload 5, 2) := by decide +kernel
theorem dX6_fewestHands_56 : decode mX6_fewestHands.2.1 56 = .ok (.iastore, 1) := by decide +kernel
theorem dX6_fewestHands_57 : decode mX6_fewestHands.2.1 57 = .ok (.aload_n 0, 1) := by decide +kernel
theorem dX6_fewestHands_58 : decode mX6_fewestHands.2.1 58 = .ok (.invokevirtual 109, 3) := by decide +kernel
theorem dX6_fewestHands_61 : decode mX6_fewestHands.2.1 61 = .ok (.aload_n 0, 1) := by decide +kernel
theorem dX6_fewestHands_62 : decode mX6_fewestHands.2.1 62 = .ok (.invokevirtual 122, 3) := by decide +kernel
theorem dX6_fewestHands_65 : decode mX6_fewestHands.2.1 65 = .ok (.iload_n 1, 1) := by decide +kernel
theorem dX6_fewestHands_66 : decode mX6_fewestHands.2.1 66 = .ok (.ishr, 1) := by decide +kernel
theorem dX6_fewestHands_67 : decode mX6_fewestHands.2.1 67 = .ok (.iconst 1, 1) := by decide +kernel
theorem dX6_fewestHands_68 : decode mX6_fewestHands.2.1 68 = .ok (.iand, 1) := by decide +kernel
theorem dX6_fewestHands_69 : decode mX6_fewestHands.2.1 69 = .ok (.iconst 1, 1) := by decide +kernel
theorem dX6_fewestHands_70 : decode mX6_fewestHands.2.1 70 = .ok (.if_icmp .ne 8, 3) := by decide +kernel
theorem dX6_fewestHands_73 : decode mX6_fewestHands.2.1 73 = .ok (.iload 5, 2) := by decide +kernel
theorem dX6_fewestHands_75 : decode mX6_fewestHands.2.1 75 = .ok (.goto 4, 3) := by decide +kernel
theorem dX6_fewestHands_78 : decode mX6_fewestHands.2.1 78 = .ok (.iconst (-1), 1) := by decide +kernel
theorem dX6_fewestHands_79 : decode mX6_fewestHands.2.1 79 = .ok (.istore 4, 2) := by decide +kernel
theorem dX6_fewestHands_81 : decode mX6_fewestHands.2.1 81 = .ok (.iinc 5 1, 3) := by decide +kernel
theorem dX6_fewestHands_84 : decode mX6_fewestHands.2.1 84 = .ok (.goto (-47), 3) := by decide +kernel
theorem dX6_fewestHands_87 : decode mX6_fewestHands.2.1 87 = .ok (.aload_n 0, 1) := by decide +kernel
theorem dX6_fewestHands_88 : decode mX6_fewestHands.2.1 88 = .ok (.getfield 7, 3) := by decide +kernel
theorem dX6_fewestHands_91 : decode mX6_fewestHands.2.1 91 = .ok (.iload_n 2, 1) := by decide +kernel
theorem dX6_fewestHands_92 : decode mX6_fewestHands.2.1 92 = .ok (.iload_n 3, 1) := by decide +kernel
theorem dX6_fewestHands_93 : decode mX6_fewestHands.2.1 93 = .ok (.iastore, 1) := by decide +kernel
theorem dX6_fewestHands_94 : decode mX6_fewestHands.2.1 94 = .ok (.aload_n 0, 1) := by decide +kernel
theorem dX6_fewestHands_95 : decode mX6_fewestHands.2.1 95 = .ok (.iload 4, 2) := by decide +kernel
theorem dX6_fewestHands_97 : decode mX6_fewestHands.2.1 97 = .ok (.invokevirtual 174, 3) := by decide +kernel
theorem dX6_fewestHands_100 : decode mX6_fewestHands.2.1 100 = .ok (.ireturn, 1) := by decide +kernel
theorem dX6_lend_0 : decode mX6_lend.2.1 0 = .ok (.aload_n 0, 1) := by decide +kernel
theorem dX6_lend_1 : decode mX6_lend.2.1 1 = .ok (.iload_n 1, 1) := by decide +kernel
theorem dX6_lend_2 : decode mX6_lend.2.1 2 = .ok (.invokevirtual 82, 3) := by decide +kernel
theorem dX6_lend_5 : decode mX6_lend.2.1 5 = .ok (.ifCond .ne 10, 3) := by decide +kernel
theorem dX6_lend_8 : decode mX6_lend.2.1 8 = .ok (.aload_n 0, 1) := by decide +kernel
theorem dX6_lend_9 : decode mX6_lend.2.1 9 = .ok (.ldc 43, 2) := by decide +kernel
theorem dX6_lend_11 : decode mX6_lend.2.1 11 = .ok (.invokevirtual 45, 3) := by decide +kernel
theorem dX6_lend_14 : decode mX6_lend.2.1 14 = .ok (.ireturn, 1) := by decide +kernel
theorem dX6_lend_15 : decode mX6_lend.2.1 15 = .ok (.iconst (-1), 1) := by decide +kernel
theorem dX6_lend_16 : decode mX6_lend.2.1 16 = .ok (.istore_n 2, 1) := by decide +kernel
theorem dX6_lend_17 : decode mX6_lend.2.1 17 = .ok (.iconst 0, 1) := by decide +kernel
theorem dX6_lend_18 : decode mX6_lend.2.1 18 = .ok (.istore_n 3, 1) := by decide +kernel
theorem dX6_lend_19 : decode mX6_lend.2.1 19 = .ok (.iload_n 3, 1) := by decide +kernel
theorem dX6_lend_20 : decode mX6_lend.2.1 20 = .ok (.bipush 64, 2) := by decide +kernel
theorem dX6_lend_22 : decode mX6_lend.2.1 22 = .ok (.if_icmp .ge 159, 3) := by decide +kernel
theorem dX6_lend_25 : decode mX6_lend.2.1 25 = .ok (.iload_n 2, 1) := by decide +kernel
theorem dX6_lend_26 : decode mX6_lend.2.1 26 = .ok (.ifCond .ge 155, 3) := by decide +kernel
theorem dX6_lend_29 : decode mX6_lend.2.1 29 = .ok (.iload_n 3, 1) := by decide +kernel
theorem dX6_lend_30 : decode mX6_lend.2.1 30 = .ok (.bipush 8, 2) := by decide +kernel
theorem dX6_lend_32 : decode mX6_lend.2.1 32 = .ok (.idiv, 1) := by decide +kernel
theorem dX6_lend_33 : decode mX6_lend.2.1 33 = .ok (.istore 4, 2) := by decide +kernel
theorem dX6_lend_35 : decode mX6_lend.2.1 35 = .ok (.iload_n 3, 1) := by decide +kernel
theorem dX6_lend_36 : decode mX6_lend.2.1 36 = .ok (.bipush 8, 2) := by decide +kernel
theorem dX6_lend_38 : decode mX6_lend.2.1 38 = .ok (.irem, 1) := by decide +kernel
theorem dX6_lend_39 : decode mX6_lend.2.1 39 = .ok (.istore 5, 2) := by decide +kernel
theorem dX6_lend_41 : decode mX6_lend.2.1 41 = .ok (.iload 4, 2) := by decide +kernel
theorem dX6_lend_43 : decode mX6_lend.2.1 43 = .ok (.iload 5, 2) := by decide +kernel
theorem dX6_lend_45 : decode mX6_lend.2.1 45 = .ok (.if_icmp .eq 130, 3) := by decide +kernel
theorem dX6_lend_48 : decode mX6_lend.2.1 48 = .ok (.aload_n 0, 1) := by decide +kernel
theorem dX6_lend_49 : decode mX6_lend.2.1 49 = .ok (.iload 4, 2) := by decide +kernel
theorem dX6_lend_51 : decode mX6_lend.2.1 51 = .ok (.invokevirtual 82, 3) := by decide +kernel
theorem dX6_lend_54 : decode mX6_lend.2.1 54 = .ok (.ifCond .eq 121, 3) := by decide +kernel
theorem dX6_lend_57 : decode mX6_lend.2.1 57 = .ok (.aload_n 0, 1) := by decide +kernel
theorem dX6_lend_58 : decode mX6_lend.2.1 58 = .ok (.iload 5, 2) := by decide +kernel
theorem dX6_lend_60 : decode mX6_lend.2.1 60 = .ok (.invokevirtual 82, 3) := by decide +kernel
theorem dX6_lend_63 : decode mX6_lend.2.1 63 = .ok (.ifCond .eq 112, 3) := by decide +kernel
theorem dX6_lend_66 : decode mX6_lend.2.1 66 = .ok (.aload_n 0, 1) := by decide +kernel
theorem dX6_lend_67 : decode mX6_lend.2.1 67 = .ok (.iload 4, 2) := by decide +kernel
theorem dX6_lend_69 : decode mX6_lend.2.1 69 = .ok (.iconst 2, 1) := by decide +kernel
theorem dX6_lend_70 : decode mX6_lend.2.1 70 = .ok (.invokevirtual 70, 3) := by decide +kernel
theorem dX6_lend_73 : decode mX6_lend.2.1 73 = .ok (.iconst 1, 1) := by decide +kernel
theorem dX6_lend_74 : decode mX6_lend.2.1 74 = .ok (.if_icmp .le 101, 3) := by decide +kernel
theorem dX6_lend_77 : decode mX6_lend.2.1 77 = .ok (.aload_n 0, 1) := by decide +kernel
theorem dX6_lend_78 : decode mX6_lend.2.1 78 = .ok (.iload 5, 2) := by decide +kernel
theorem dX6_lend_80 : decode mX6_lend.2.1 80 = .ok (.iconst 2, 1) := by decide +kernel
theorem dX6_lend_81 : decode mX6_lend.2.1 81 = .ok (.invokevirtual 70, 3) := by decide +kernel
theorem dX6_lend_84 : decode mX6_lend.2.1 84 = .ok (.bipush 20, 2) := by decide +kernel
theorem dX6_lend_86 : decode mX6_lend.2.1 86 = .ok (.if_icmp .ge 89, 3) := by decide +kernel
theorem dX6_lend_89 : decode mX6_lend.2.1 89 = .ok (.aload_n 0, 1) := by decide +kernel
theorem dX6_lend_90 : decode mX6_lend.2.1 90 = .ok (.getfield 7, 3) := by decide +kernel
theorem dX6_lend_93 : decode mX6_lend.2.1 93 = .ok (.bipush 6, 2) := by decide +kernel
theorem dX6_lend_95 : decode mX6_lend.2.1 95 = .ok (.iconst 5, 1) := by decide +kernel
theorem dX6_lend_96 : decode mX6_lend.2.1 96 = .ok (.iload 4, 2) := by decide +kernel
theorem dX6_lend_98 : decode mX6_lend.2.1 98 = .ok (.imul, 1) := by decide +kernel
theorem dX6_lend_99 : decode mX6_lend.2.1 99 = .ok (.iadd, 1) := by decide +kernel
theorem dX6_lend_100 : decode mX6_lend.2.1 100 = .ok (.iconst 2, 1) := by decide +kernel
theorem dX6_lend_101 : decode mX6_lend.2.1 101 = .ok (.iadd, 1) := by decide +kernel
theorem dX6_lend_102 : decode mX6_lend.2.1 102 = .ok (.dup2, 1) := by decide +kernel
theorem dX6_lend_103 : decode mX6_lend.2.1 103 = .ok (.iaload, 1) := by decide +kernel
theorem dX6_lend_104 : decode mX6_lend.2.1 104 = .ok (.iconst 1, 1) := by decide +kernel
theorem dX6_lend_105 : decode mX6_lend.2.1 105 = .ok (.isub, 1) := by decide +kernel
theorem dX6_lend_106 : decode mX6_lend.2.1 106 = .ok (.iastore, 1) := by decide +kernel
theorem dX6_lend_107 : decode mX6_lend.2.1 107 = .ok (.aload_n 0, 1) := by decide +kernel
theorem dX6_lend_108 : decode mX6_lend.2.1 108 = .ok (.getfield 7, 3) := by decide +kernel
theorem dX6_lend_111 : decode mX6_lend.2.1 111 = .ok (.bipush 6, 2) := by decide +kernel
theorem dX6_lend_113 : decode mX6_lend.2.1 113 = .ok (.iconst 5, 1) := by decide +kernel
theorem dX6_lend_114 : decode mX6_lend.2.1 114 = .ok (.iload 5, 2) := by decide +kernel
theorem dX6_lend_116 : decode mX6_lend.2.1 116 = .ok (.imul, 1) := by decide +kernel
theorem dX6_lend_117 : decode mX6_lend.2.1 117 = .ok (.iadd, 1) := by decide +kernel
theorem dX6_lend_118 : decode mX6_lend.2.1 118 = .ok (.iconst 2, 1) := by decide +kernel
theorem dX6_lend_119 : decode mX6_lend.2.1 119 = .ok (.iadd, 1) := by decide +kernel
theorem dX6_lend_120 : decode mX6_lend.2.1 120 = .ok (.dup2, 1) := by decide +kernel
theorem dX6_lend_121 : decode mX6_lend.2.1 121 = .ok (.iaload, 1) := by decide +kernel
theorem dX6_lend_122 : decode mX6_lend.2.1 122 = .ok (.iconst 1, 1) := by decide +kernel
theorem dX6_lend_123 : decode mX6_lend.2.1 123 = .ok (.iadd, 1) := by decide +kernel
theorem dX6_lend_124 : decode mX6_lend.2.1 124 = .ok (.iastore, 1) := by decide +kernel
theorem dX6_lend_125 : decode mX6_lend.2.1 125 = .ok (.aload_n 0, 1) := by decide +kernel
theorem dX6_lend_126 : decode mX6_lend.2.1 126 = .ok (.iload_n 1, 1) := by decide +kernel
theorem dX6_lend_127 : decode mX6_lend.2.1 127 = .ok (.invokevirtual 171, 3) := by decide +kernel
theorem dX6_lend_130 : decode mX6_lend.2.1 130 = .ok (.ifCond .eq 7, 3) := by decide +kernel
theorem dX6_lend_133 : decode mX6_lend.2.1 133 = .ok (.iload_n 3, 1) := by decide +kernel
theorem dX6_lend_134 : decode mX6_lend.2.1 134 = .ok (.goto 4, 3) := by decide +kernel
theorem dX6_lend_137 : decode mX6_lend.2.1 137 = .ok (.iconst (-1), 1) := by decide +kernel
theorem dX6_lend_138 : decode mX6_lend.2.1 138 = .ok (.istore_n 2, 1) := by decide +kernel
theorem dX6_lend_139 : decode mX6_lend.2.1 139 = .ok (.aload_n 0, 1) := by decide +kernel
theorem dX6_lend_140 : decode mX6_lend.2.1 140 = .ok (.getfield 7, 3) := by decide +kernel
theorem dX6_lend_143 : decode mX6_lend.2.1 143 = .ok (.bipush 6, 2) := by decide +kernel
theorem dX6_lend_145 : decode mX6_lend.2.1 145 = .ok (.iconst 5, 1) := by decide +kernel
theorem dX6_lend_146 : decode mX6_lend.2.1 146 = .ok (.iload 4, 2) := by decide +kernel
theorem dX6_lend_148 : decode mX6_lend.2.1 148 = .ok (.imul, 1) := by decide +kernel
theorem dX6_lend_149 : decode mX6_lend.2.1 149 = .ok (.iadd, 1) := by decide +kernel
theorem dX6_lend_150 : decode mX6_lend.2.1 150 = .ok (.iconst 2, 1) := by decide +kernel
theorem dX6_lend_151 : decode mX6_lend.2.1 151 = .ok (.iadd, 1) := by decide +kernel
theorem dX6_lend_152 : decode mX6_lend.2.1 152 = .ok (.dup2, 1) := by decide +kernel
theorem dX6_lend_153 : decode mX6_lend.2.1 153 = .ok (.iaload, 1) := by decide +kernel
theorem dX6_lend_154 : decode mX6_lend.2.1 154 = .ok (.iconst 1, 1) := by decide +kernel
theorem dX6_lend_155 : decode mX6_lend.2.1 155 = .ok (.iadd, 1) := by decide +kernel
theorem dX6_lend_156 : decode mX6_lend.2.1 156 = .ok (.iastore, 1) := by decide +kernel
theorem dX6_lend_157 : decode mX6_lend.2.1 157 = .ok (.aload_n 0, 1) := by decide +kernel
theorem dX6_lend_158 : decode mX6_lend.2.1 158 = .ok (.getfield 7, 3) := by decide +kernel
theorem dX6_lend_161 : decode mX6_lend.2.1 161 = .ok (.bipush 6, 2) := by decide +kernel
theorem dX6_lend_163 : decode mX6_lend.2.1 163 = .ok (.iconst 5, 1) := by decide +kernel
theorem dX6_lend_164 : decode mX6_lend.2.1 164 = .ok (.iload 5, 2) := by decide +kernel
theorem dX6_lend_166 : decode mX6_lend.2.1 166 = .ok (.imul, 1) := by decide +kernel
theorem dX6_lend_167 : decode mX6_lend.2.1 167 = .ok (.iadd, 1) := by decide +kernel
theorem dX6_lend_168 : decode mX6_lend.2.1 168 = .ok (.iconst 2, 1) := by decide +kernel
theorem dX6_lend_169 : decode mX6_lend.2.1 169 = .ok (.iadd, 1) := by decide +kernel
theorem dX6_lend_170 : decode mX6_lend.2.1 170 = .ok (.dup2, 1) := by decide +kernel
theorem dX6_lend_171 : decode mX6_lend.2.1 171 = .ok (.iaload, 1) := by decide +kernel
theorem dX6_lend_172 : decode mX6_lend.2.1 172 = .ok (.iconst 1, 1) := by decide +kernel
theorem dX6_lend_173 : decode mX6_lend.2.1 173 = .ok (.isub, 1) := by decide +kernel
theorem dX6_lend_174 : decode mX6_lend.2.1 174 = .ok (.iastore, 1) := by decide +kernel
theorem dX6_lend_175 : decode mX6_lend.2.1 175 = .ok (.iinc 3 1, 3) := by decide +kernel
theorem dX6_lend_178 : decode mX6_lend.2.1 178 = .ok (.goto (-159), 3) := by decide +kernel
theorem dX6_lend_181 : decode mX6_lend.2.1 181 = .ok (.aload_n 0, 1) := by decide +kernel
theorem dX6_lend_182 : decode mX6_lend.2.1 182 = .ok (.iload_n 2, 1) := by decide +kernel
theorem dX6_lend_183 : decode mX6_lend.2.1 183 = .ok (.invokevirtual 174, 3) := by decide +kernel
theorem dX6_lend_186 : decode mX6_lend.2.1 186 = .ok (.ireturn, 1) := by decide +kernel
theorem dX6_kinds_0 : decode mX6_kinds.2.1 0 = .ok (.aload_n 0, 1) := by decide +kernel
theorem dX6_kinds_1 : decode mX6_kinds.2.1 1 = .ok (.iload_n 1, 1) := by decide +kernel
theorem dX6_kinds_2 : decode mX6_kinds.2.1 2 = .ok (.invokevirtual 82, 3) := by decide +kernel
theorem dX6_kinds_5 : decode mX6_kinds.2.1 5 = .ok (.ifCond .ne 10, 3) := by decide +kernel
theorem dX6_kinds_8 : decode mX6_kinds.2.1 8 = .ok (.aload_n 0, 1) := by decide +kernel
theorem dX6_kinds_9 : decode mX6_kinds.2.1 9 = .ok (.ldc 43, 2) := by decide +kernel
theorem dX6_kinds_11 : decode mX6_kinds.2.1 11 = .ok (.invokevirtual 45, 3) := by decide +kernel
theorem dX6_kinds_14 : decode mX6_kinds.2.1 14 = .ok (.ireturn, 1) := by decide +kernel
theorem dX6_kinds_15 : decode mX6_kinds.2.1 15 = .ok (.bipush 6, 2) := by decide +kernel
theorem dX6_kinds_17 : decode mX6_kinds.2.1 17 = .ok (.iconst 5, 1) := by decide +kernel
theorem dX6_kinds_18 : decode mX6_kinds.2.1 18 = .ok (.iload_n 1, 1) := by decide +kernel
theorem dX6_kinds_19 : decode mX6_kinds.2.1 19 = .ok (.imul, 1) := by decide +kernel
theorem dX6_kinds_20 : decode mX6_kinds.2.1 20 = .ok (.iadd, 1) := by decide +kernel
theorem dX6_kinds_21 : decode mX6_kinds.2.1 21 = .ok (.istore_n 2, 1) := by decide +kernel
theorem dX6_kinds_22 : decode mX6_kinds.2.1 22 = .ok (.aload_n 0, 1) := by decide +kernel
theorem dX6_kinds_23 : decode mX6_kinds.2.1 23 = .ok (.getfield 7, 3) := by decide +kernel
theorem dX6_kinds_26 : decode mX6_kinds.2.1 26 = .ok (.iload_n 2, 1) := by decide +kernel
theorem dX6_kinds_27 : decode mX6_kinds.2.1 27 = .ok (.iaload, 1) := by decide +kernel
theorem dX6_kinds_28 : decode mX6_kinds.2.1 28 = .ok (.istore_n 3, 1) := by decide +kernel
theorem dX6_kinds_29 : decode mX6_kinds.2.1 29 = .ok (.iconst 0, 1) := by decide +kernel
theorem dX6_kinds_30 : decode mX6_kinds.2.1 30 = .ok (.istore 4, 2) := by decide +kernel
theorem dX6_kinds_32 : decode mX6_kinds.2.1 32 = .ok (.iconst 0, 1) := by decide +kernel
theorem dX6_kinds_33 : decode mX6_kinds.2.1 33 = .ok (.istore 5, 2) := by decide +kernel
theorem dX6_kinds_35 : decode mX6_kinds.2.1 35 = .ok (.iload 5, 2) := by decide +kernel
theorem dX6_kinds_37 : decode mX6_kinds.2.1 37 = .ok (.bipush 6, 2) := by decide +kernel
theorem dX6_kinds_39 : decode mX6_kinds.2.1 39 = .ok (.if_icmp .gt 38, 3) := by decide +kernel
theorem dX6_kinds_42 : decode mX6_kinds.2.1 42 = .ok (.aload_n 0, 1) := by decide +kernel
theorem dX6_kinds_43 : decode mX6_kinds.2.1 43 = .ok (.getfield 7, 3) := by decide +kernel
theorem dX6_kinds_46 : decode mX6_kinds.2.1 46 = .ok (.iload_n 2, 1) := by decide +kernel
theorem dX6_kinds_47 : decode mX6_kinds.2.1 47 = .ok (.iload 5, 2) := by decide +kernel
theorem dX6_kinds_49 : decode mX6_kinds.2.1 49 = .ok (.iastore, 1) := by decide +kernel
theorem dX6_kinds_50 : decode mX6_kinds.2.1 50 = .ok (.iload 4, 2) := by decide +kernel
theorem dX6_kinds_52 : decode mX6_kinds.2.1 52 = .ok (.aload_n 0, 1) := by decide +kernel
theorem dX6_kinds_53 : decode mX6_kinds.2.1 53 = .ok (.iload_n 1, 1) := by decide +kernel
theorem dX6_kinds_54 : decode mX6_kinds.2.1 54 = .ok (.invokevirtual 171, 3) := by decide +kernel
theorem dX6_kinds_57 : decode mX6_kinds.2.1 57 = .ok (.ifCond .eq 10, 3) := by decide +kernel
theorem dX6_kinds_60 : decode mX6_kinds.2.1 60 = .ok (.iconst 1, 1) := by decide +kernel
theorem dX6_kinds_61 : decode mX6_kinds.2.1 61 = .ok (.iload 5, 2) := by decide +kernel
theorem dX6_kinds_63 : decode mX6_kinds.2.1 63 = .ok (.ishl, 1) := by decide +kernel
theorem dX6_kinds_64 : decode mX6_kinds.2.1 64 = .ok (.goto 4, 3) := by decide +kernel
theorem dX6_kinds_67 : decode mX6_kinds.2.1 67 = .ok (.iconst 0, 1) := by decide +kernel
theorem dX6_kinds_68 : decode mX6_kinds.2.1 68 = .ok (.ior, 1) := by decide +kernel
theorem dX6_kinds_69 : decode mX6_kinds.2.1 69 = .ok (.istore 4, 2) := by decide +kernel
theorem dX6_kinds_71 : decode mX6_kinds.2.1 71 = .ok (.iinc 5 1, 3) := by decide +kernel
theorem dX6_kinds_74 : decode mX6_kinds.2.1 74 = .ok (.goto (-39), 3) := by decide +kernel
theorem dX6_kinds_77 : decode mX6_kinds.2.1 77 = .ok (.aload_n 0, 1) := by decide +kernel
theorem dX6_kinds_78 : decode mX6_kinds.2.1 78 = .ok (.getfield 7, 3) := by decide +kernel
theorem dX6_kinds_81 : decode mX6_kinds.2.1 81 = .ok (.iload_n 2, 1) := by decide +kernel
theorem dX6_kinds_82 : decode mX6_kinds.2.1 82 = .ok (.iload_n 3, 1) := by decide +kernel
theorem dX6_kinds_83 : decode mX6_kinds.2.1 83 = .ok (.iastore, 1) := by decide +kernel
theorem dX6_kinds_84 : decode mX6_kinds.2.1 84 = .ok (.iload 4, 2) := by decide +kernel
theorem dX6_kinds_86 : decode mX6_kinds.2.1 86 = .ok (.ireturn, 1) := by decide +kernel
theorem dX6_wetFor_0 : decode mX6_wetFor.2.1 0 = .ok (.aload_n 0, 1) := by decide +kernel
theorem dX6_wetFor_1 : decode mX6_wetFor.2.1 1 = .ok (.iload_n 1, 1) := by decide +kernel
theorem dX6_wetFor_2 : decode mX6_wetFor.2.1 2 = .ok (.invokevirtual 82, 3) := by decide +kernel
theorem dX6_wetFor_5 : decode mX6_wetFor.2.1 5 = .ok (.ifCond .ne 10, 3) := by decide +kernel
theorem dX6_wetFor_8 : decode mX6_wetFor.2.1 8 = .ok (.aload_n 0, 1) := by decide +kernel
theorem dX6_wetFor_9 : decode mX6_wetFor.2.1 9 = .ok (.ldc 43, 2) := by decide +kernel
theorem dX6_wetFor_11 : decode mX6_wetFor.2.1 11 = .ok (.invokevirtual 45, 3) := by decide +kernel
theorem dX6_wetFor_14 : decode mX6_wetFor.2.1 14 = .ok (.ireturn, 1) := by decide +kernel
theorem dX6_wetFor_15 : decode mX6_wetFor.2.1 15 = .ok (.aload_n 0, 1) := by decide +kernel
theorem dX6_wetFor_16 : decode mX6_wetFor.2.1 16 = .ok (.getfield 7, 3) := by decide +kernel
theorem dX6_wetFor_19 : decode mX6_wetFor.2.1 19 = .ok (.iconst 3, 1) := by decide +kernel
theorem dX6_wetFor_20 : decode mX6_wetFor.2.1 20 = .ok (.iaload, 1) := by decide +kernel
theorem dX6_wetFor_21 : decode mX6_wetFor.2.1 21 = .ok (.istore_n 2, 1) := by decide +kernel
theorem dX6_wetFor_22 : decode mX6_wetFor.2.1 22 = .ok (.aload_n 0, 1) := by decide +kernel
theorem dX6_wetFor_23 : decode mX6_wetFor.2.1 23 = .ok (.getfield 7, 3) := by decide +kernel
theorem dX6_wetFor_26 : decode mX6_wetFor.2.1 26 = .ok (.iconst 3, 1) := by decide +kernel
theorem dX6_wetFor_27 : decode mX6_wetFor.2.1 27 = .ok (.iconst 0, 1) := by decide +kernel
theorem dX6_wetFor_28 : decode mX6_wetFor.2.1 28 = .ok (.iastore, 1) := by decide +kernel
theorem dX6_wetFor_29 : decode mX6_wetFor.2.1 29 = .ok (.aload_n 0, 1) := by decide +kernel
theorem dX6_wetFor_30 : decode mX6_wetFor.2.1 30 = .ok (.getfield 7, 3) := by decide +kernel
theorem dX6_wetFor_33 : decode mX6_wetFor.2.1 33 = .ok (.iconst 3, 1) := by decide +kernel
theorem dX6_wetFor_34 : decode mX6_wetFor.2.1 34 = .ok (.iaload, 1) := by decide +kernel
theorem dX6_wetFor_35 : decode mX6_wetFor.2.1 35 = .ok (.bipush 99, 2) := by decide +kernel
theorem dX6_wetFor_37 : decode mX6_wetFor.2.1 37 = .ok (.if_icmp .gt 24, 3) := by decide +kernel
theorem dX6_wetFor_40 : decode mX6_wetFor.2.1 40 = .ok (.aload_n 0, 1) := by decide +kernel
theorem dX6_wetFor_41 : decode mX6_wetFor.2.1 41 = .ok (.iload_n 1, 1) := by decide +kernel
theorem dX6_wetFor_42 : decode mX6_wetFor.2.1 42 = .ok (.invokevirtual 171, 3) := by decide +kernel
theorem dX6_wetFor_45 : decode mX6_wetFor.2.1 45 = .ok (.ifCond .ne 16, 3) := by decide +kernel
theorem dX6_wetFor_48 : decode mX6_wetFor.2.1 48 = .ok (.aload_n 0, 1) := by decide +kernel
theorem dX6_wetFor_49 : decode mX6_wetFor.2.1 49 = .ok (.getfield 7, 3) := by decide +kernel
theorem dX6_wetFor_52 : decode mX6_wetFor.2.1 52 = .ok (.iconst 3, 1) := by decide +kernel
theorem dX6_wetFor_53 : decode mX6_wetFor.2.1 53 = .ok (.dup2, 1) := by decide +kernel
theorem dX6_wetFor_54 : decode mX6_wetFor.2.1 54 = .ok (.iaload, 1) := by decide +kernel
theorem dX6_wetFor_55 : decode mX6_wetFor.2.1 55 = .ok (.iconst 1, 1) := by decide +kernel
theorem dX6_wetFor_56 : decode mX6_wetFor.2.1 56 = .ok (.iadd, 1) := by decide +kernel
theorem dX6_wetFor_57 : decode mX6_wetFor.2.1 57 = .ok (.iastore, 1) := by decide +kernel
theorem dX6_wetFor_58 : decode mX6_wetFor.2.1 58 = .ok (.goto (-29), 3) := by decide +kernel
theorem dX6_wetFor_61 : decode mX6_wetFor.2.1 61 = .ok (.aload_n 0, 1) := by decide +kernel
theorem dX6_wetFor_62 : decode mX6_wetFor.2.1 62 = .ok (.getfield 7, 3) := by decide +kernel
theorem dX6_wetFor_65 : decode mX6_wetFor.2.1 65 = .ok (.iconst 3, 1) := by decide +kernel
theorem dX6_wetFor_66 : decode mX6_wetFor.2.1 66 = .ok (.iaload, 1) := by decide +kernel
theorem dX6_wetFor_67 : decode mX6_wetFor.2.1 67 = .ok (.istore_n 3, 1) := by decide +kernel
theorem dX6_wetFor_68 : decode mX6_wetFor.2.1 68 = .ok (.aload_n 0, 1) := by decide +kernel
theorem dX6_wetFor_69 : decode mX6_wetFor.2.1 69 = .ok (.getfield 7, 3) := by decide +kernel
theorem dX6_wetFor_72 : decode mX6_wetFor.2.1 72 = .ok (.iconst 3, 1) := by decide +kernel
theorem dX6_wetFor_73 : decode mX6_wetFor.2.1 73 = .ok (.iload_n 2, 1) := by decide +kernel
theorem dX6_wetFor_74 : decode mX6_wetFor.2.1 74 = .ok (.iastore, 1) := by decide +kernel
theorem dX6_wetFor_75 : decode mX6_wetFor.2.1 75 = .ok (.iload_n 3, 1) := by decide +kernel
theorem dX6_wetFor_76 : decode mX6_wetFor.2.1 76 = .ok (.bipush 99, 2) := by decide +kernel
theorem dX6_wetFor_78 : decode mX6_wetFor.2.1 78 = .ok (.if_icmp .gt 7, 3) := by decide +kernel
theorem dX6_wetFor_81 : decode mX6_wetFor.2.1 81 = .ok (.iload_n 3, 1) := by decide +kernel
theorem dX6_wetFor_82 : decode mX6_wetFor.2.1 82 = .ok (.goto 9, 3) := by decide +kernel
theorem dX6_wetFor_85 : decode mX6_wetFor.2.1 85 = .ok (.aload_n 0, 1) := by decide +kernel
theorem dX6_wetFor_86 : decode mX6_wetFor.2.1 86 = .ok (.ldc 44, 2) := by decide +kernel
theorem dX6_wetFor_88 : decode mX6_wetFor.2.1 88 = .ok (.invokevirtual 45, 3) := by decide +kernel
theorem dX6_wetFor_91 : decode mX6_wetFor.2.1 91 = .ok (.ireturn, 1) := by decide +kernel
theorem dX6_tell_0 : decode mX6_tell.2.1 0 = .ok (.iload_n 1, 1) := by decide +kernel
theorem dX6_tell_1 : decode mX6_tell.2.1 1 = .ok (.invokestatic 136, 3) := by decide +kernel
theorem dX6_tell_4 : decode mX6_tell.2.1 4 = .ok (.ifCond .eq 17, 3) := by decide +kernel
theorem dX6_tell_7 : decode mX6_tell.2.1 7 = .ok (.iload_n 2, 1) := by decide +kernel
theorem dX6_tell_8 : decode mX6_tell.2.1 8 = .ok (.i2l, 1) := by decide +kernel
theorem dX6_tell_9 : decode mX6_tell.2.1 9 = .ok (.ldc2_w 96, 3) := by decide +kernel
theorem dX6_tell_12 : decode mX6_tell.2.1 12 = .ok (.ldc2_w 98, 3) := by decide +kernel
theorem dX6_tell_15 : decode mX6_tell.2.1 15 = .ok (.invokestatic 51, 3) := by decide +kernel
theorem dX6_tell_18 : decode mX6_tell.2.1 18 = .ok (.ifCond .ne 10, 3) := by decide +kernel
theorem dX6_tell_21 : decode mX6_tell.2.1 21 = .ok (.aload_n 0, 1) := by decide +kernel
theorem dX6_tell_22 : decode mX6_tell.2.1 22 = .ok (.ldc 43, 2) := by decide +kernel
theorem dX6_tell_24 : decode mX6_tell.2.1 24 = .ok (.invokevirtual 45, 3) := by decide +kernel
theorem dX6_tell_27 : decode mX6_tell.2.1 27 = .ok (.ireturn, 1) := by decide +kernel
theorem dX6_tell_28 : decode mX6_tell.2.1 28 = .ok (.aload_n 0, 1) := by decide +kernel
theorem dX6_tell_29 : decode mX6_tell.2.1 29 = .ok (.invokevirtual 119, 3) := by decide +kernel
theorem dX6_tell_32 : decode mX6_tell.2.1 32 = .ok (.istore_n 3, 1) := by decide +kernel
theorem dX6_tell_33 : decode mX6_tell.2.1 33 = .ok (.iconst (-1), 1) := by decide +kernel
theorem dX6_tell_34 : decode mX6_tell.2.1 34 = .ok (.istore 4, 2) := by decide +kernel
theorem dX6_tell_36 : decode mX6_tell.2.1 36 = .ok (.iconst 0, 1) := by decide +kernel
theorem dX6_tell_37 : decode mX6_tell.2.1 37 = .ok (.istore 5, 2) := by decide +kernel
theorem dX6_tell_39 : decode mX6_tell.2.1 39 = .ok (.iload 5, 2) := by decide +kernel
theorem dX6_tell_41 : decode mX6_tell.2.1 41 = .ok (.iconst 1, 1) := by decide +kernel
theorem dX6_tell_42 : decode mX6_tell.2.1 42 = .ok (.aload_n 0, 1) := by decide +kernel
theorem dX6_tell_43 : decode mX6_tell.2.1 43 = .ok (.getfield 7, 3) := by decide +kernel
theorem dX6_tell_46 : decode mX6_tell.2.1 46 = .ok (.iconst 0, 1) := by decide +kernel
theorem dX6_tell_47 : decode mX6_tell.2.1 47 = .ok (.iaload, 1) := by decide +kernel
theorem dX6_tell_48 : decode mX6_tell.2.1 48 = .ok (.ishl, 1) := by decide +kernel
theorem dX6_tell_49 : decode mX6_tell.2.1 49 = .ok (.if_icmp .ge 123, 3) := by decide +kernel
theorem dX6_tell_52 : decode mX6_tell.2.1 52 = .ok (.aload_n 0, 1) := by decide +kernel
theorem dX6_tell_53 : decode mX6_tell.2.1 53 = .ok (.getfield 7, 3) := by decide +kernel
theorem dX6_tell_56 : decode mX6_tell.2.1 56 = .ok (.aload_n 0, 1) := by decide +kernel
theorem dX6_tell_57 : decode mX6_tell.2.1 57 = .ok (.getfield 19, 3) := by decide +kernel
theorem dX6_tell_60 : decode mX6_tell.2.1 60 = .ok (.invokestatic 162, 3) := by decide +kernel
theorem dX6_tell_63 : decode mX6_tell.2.1 63 = .ok (.iconst 0, 1) := by decide +kernel
theorem dX6_tell_64 : decode mX6_tell.2.1 64 = .ok (.istore 6, 2) := by decide +kernel
theorem dX6_tell_66 : decode mX6_tell.2.1 66 = .ok (.iload 6, 2) := by decide +kernel
theorem dX6_tell_68 : decode mX6_tell.2.1 68 = .ok (.aload_n 0, 1) := by decide +kernel
theorem dX6_tell_69 : decode mX6_tell.2.1 69 = .ok (.getfield 7, 3) := by decide +kernel
theorem dX6_tell_72 : decode mX6_tell.2.1 72 = .ok (.iconst 0, 1) := by decide +kernel
theorem dX6_tell_73 : decode mX6_tell.2.1 73 = .ok (.iaload, 1) := by decide +kernel
theorem dX6_tell_74 : decode mX6_tell.2.1 74 = .ok (.if_icmp .ge 45, 3) := by decide +kernel
theorem dX6_tell_77 : decode mX6_tell.2.1 77 = .ok (.aload_n 0, 1) := by decide +kernel
theorem dX6_tell_78 : decode mX6_tell.2.1 78 = .ok (.getfield 7, 3) := by decide +kernel
theorem dX6_tell_81 : decode mX6_tell.2.1 81 = .ok (.bipush 6, 2) := by decide +kernel
theorem dX6_tell_83 : decode mX6_tell.2.1 83 = .ok (.iconst 5, 1) := by decide +kernel
theorem dX6_tell_84 : decode mX6_tell.2.1 84 = .ok (.iload 6, 2) := by decide +kernel
theorem dX6_tell_86 : decode mX6_tell.2.1 86 = .ok (.imul, 1) := by decide +kernel
theorem dX6_tell_87 : decode mX6_tell.2.1 87 = .ok (.iadd, 1) := by decide +kernel
theorem dX6_tell_88 : decode mX6_tell.2.1 88 = .ok (.iconst 3, 1) := by decide +kernel
theorem dX6_tell_89 : decode mX6_tell.2.1 89 = .ok (.iadd, 1) := by decide +kernel
theorem dX6_tell_90 : decode mX6_tell.2.1 90 = .ok (.iload 5, 2) := by decide +kernel
theorem dX6_tell_92 : decode mX6_tell.2.1 92 = .ok (.iload 6, 2) := by decide +kernel
theorem dX6_tell_94 : decode mX6_tell.2.1 94 = .ok (.ishr, 1) := by decide +kernel
theorem dX6_tell_95 : decode mX6_tell.2.1 95 = .ok (.iconst 1, 1) := by decide +kernel
theorem dX6_tell_96 : decode mX6_tell.2.1 96 = .ok (.iand, 1) := by decide +kernel
theorem dX6_tell_97 : decode mX6_tell.2.1 97 = .ok (.iconst 1, 1) := by decide +kernel
theorem dX6_tell_98 : decode mX6_tell.2.1 98 = .ok (.if_icmp .ne 7, 3) := by decide +kernel
theorem dX6_tell_101 : decode mX6_tell.2.1 101 = .ok (.iload_n 2, 1) := by decide +kernel
theorem dX6_tell_102 : decode mX6_tell.2.1 102 = .ok (.goto 10, 3) := by decide +kernel
theorem dX6_tell_105 : decode mX6_tell.2.1 105 = .ok (.aload_n 0, 1) := by decide +kernel
theorem dX6_tell_106 : decode mX6_tell.2.1 106 = .ok (.iload 6, 2) := by decide +kernel
theorem dX6_tell_108 : decode mX6_tell.2.1 108 = .ok (.iconst 3, 1) := by decide +kernel
theorem dX6_tell_109 : decode mX6_tell.2.1 109 = .ok (.invokevirtual 70, 3) := by decide +kernel
theorem dX6_tell_112 : decode mX6_tell.2.1 112 = .ok (.iastore, 1) := by decide +kernel
theorem dX6_tell_113 : decode mX6_tell.2.1 113 = .ok (.iinc 6 1, 3) := by decide +kernel
theorem dX6_tell_116 : decode mX6_tell.2.1 116 = .ok (.goto (-50), 3) := by decide +kernel
theorem dX6_tell_119 : decode mX6_tell.2.1 119 = .ok (.iload 4, 2) := by decide +kernel
theorem dX6_tell_121 : decode mX6_tell.2.1 121 = .ok (.ifCond .lt 16, 3) := by decide +kernel
theorem dX6_tell_124 : decode mX6_tell.2.1 124 = .ok (.iload 5, 2) := by decide +kernel
theorem dX6_tell_126 : decode mX6_tell.2.1 126 = .ok (.invokestatic 168, 3) := by decide +kernel
theorem dX6_tell_129 : decode mX6_tell.2.1 129 = .ok (.iload 4, 2) := by decide +kernel
theorem dX6_tell_131 : decode mX6_tell.2.1 131 = .ok (.invokestatic 168, 3) := by decide +kernel
theorem dX6_tell_134 : decode mX6_tell.2.1 134 = .ok (.if_icmp .ge 17, 3) := by decide +kernel
theorem dX6_tell_137 : decode mX6_tell.2.1 137 = .ok (.aload_n 0, 1) := by decide +kernel
theorem dX6_tell_138 : decode mX6_tell.2.1 138 = .ok (.iload_n 3, 1) := by decide +kernel
theorem dX6_tell_139 : decode mX6_tell.2.1 139 = .ok (.invokevirtual 128, 3) := by decide +kernel
theorem dX6_tell_142 : decode mX6_tell.2.1 142 = .ok (.iload_n 1, 1) := by decide +kernel
theorem dX6_tell_143 : decode mX6_tell.2.1 143 = .ok (.if_icmp .lt 8, 3) := by decide +kernel
theorem dX6_tell_146 : decode mX6_tell.2.1 146 = .ok (.iload 5, 2) := by decide +kernel
theorem dX6_tell_148 : decode mX6_tell.2.1 148 = .ok (.goto 5, 3) := by decide +kernel
theorem dX6_tell_151 : decode mX6_tell.2.1 151 = .ok (.iload 4, 2) := by decide +kernel
theorem dX6_tell_153 : decode mX6_tell.2.1 153 = .ok (.istore 4, 2) := by decide +kernel
theorem dX6_tell_155 : decode mX6_tell.2.1 155 = .ok (.aload_n 0, 1) := by decide +kernel
theorem dX6_tell_156 : decode mX6_tell.2.1 156 = .ok (.getfield 19, 3) := by decide +kernel
theorem dX6_tell_159 : decode mX6_tell.2.1 159 = .ok (.aload_n 0, 1) := by decide +kernel
theorem dX6_tell_160 : decode mX6_tell.2.1 160 = .ok (.getfield 7, 3) := by decide +kernel
theorem dX6_tell_163 : decode mX6_tell.2.1 163 = .ok (.invokestatic 162, 3) := by decide +kernel
theorem dX6_tell_166 : decode mX6_tell.2.1 166 = .ok (.iinc 5 1, 3) := by decide +kernel
theorem dX6_tell_169 : decode mX6_tell.2.1 169 = .ok (.goto (-130), 3) := by decide +kernel
theorem dX6_tell_172 : decode mX6_tell.2.1 172 = .ok (.aload_n 0, 1) := by decide +kernel
theorem dX6_tell_173 : decode mX6_tell.2.1 173 = .ok (.iload 4, 2) := by decide +kernel
theorem dX6_tell_175 : decode mX6_tell.2.1 175 = .ok (.invokevirtual 174, 3) := by decide +kernel
theorem dX6_tell_178 : decode mX6_tell.2.1 178 = .ok (.ireturn, 1) := by decide +kernel
theorem dX6_voice_0 : decode mX6_voice.2.1 0 = .ok (.aload_n 0, 1) := by decide +kernel
theorem dX6_voice_1 : decode mX6_voice.2.1 1 = .ok (.invokevirtual 119, 3) := by decide +kernel
theorem dX6_voice_4 : decode mX6_voice.2.1 4 = .ok (.istore_n 1, 1) := by decide +kernel
theorem dX6_voice_5 : decode mX6_voice.2.1 5 = .ok (.aload_n 0, 1) := by decide +kernel
theorem dX6_voice_6 : decode mX6_voice.2.1 6 = .ok (.iload_n 1, 1) := by decide +kernel
theorem dX6_voice_7 : decode mX6_voice.2.1 7 = .ok (.invokevirtual 128, 3) := by decide +kernel
theorem dX6_voice_10 : decode mX6_voice.2.1 10 = .ok (.istore_n 2, 1) := by decide +kernel
theorem dX6_voice_11 : decode mX6_voice.2.1 11 = .ok (.iconst (-1), 1) := by decide +kernel
theorem dX6_voice_12 : decode mX6_voice.2.1 12 = .ok (.istore_n 3, 1) := by decide +kernel
theorem dX6_voice_13 : decode mX6_voice.2.1 13 = .ok (.iconst (-1), 1) := by decide +kernel
theorem dX6_voice_14 : decode mX6_voice.2.1 14 = .ok (.istore 4, 2) := by decide +kernel
theorem dX6_voice_16 : decode mX6_voice.2.1 16 = .ok (.iconst 0, 1) := by decide +kernel
theorem dX6_voice_17 : decode mX6_voice.2.1 17 = .ok (.istore 5, 2) := by decide +kernel
theorem dX6_voice_19 : decode mX6_voice.2.1 19 = .ok (.iload 5, 2) := by decide +kernel
theorem dX6_voice_21 : decode mX6_voice.2.1 21 = .ok (.aload_n 0, 1) := by decide +kernel
theorem dX6_voice_22 : decode mX6_voice.2.1 22 = .ok (.getfield 7, 3) := by decide +kernel
theorem dX6_voice_25 : decode mX6_voice.2.1 25 = .ok (.iconst 0, 1) := by decide +kernel
theorem dX6_voice_26 : decode mX6_voice.2.1 26 = .ok (.iaload, 1) := by decide +kernel
theorem dX6_voice_27 : decode mX6_voice.2.1 27 = .ok (.if_icmp .ge 88, 3) := by decide +kernel
theorem dX6_voice_30 : decode mX6_voice.2.1 30 = .ok (.aload_n 0, 1) := by decide +kernel
theorem dX6_voice_31 : decode mX6_voice.2.1 31 = .ok (.bipush 6, 2) := by decide +kernel
theorem dX6_voice_33 : decode mX6_voice.2.1 33 = .ok (.iconst 5, 1) := by decide +kernel
theorem dX6_voice_34 : decode mX6_voice.2.1 34 = .ok (.iload 5, 2) := by decide +kernel
theorem dX6_voice_36 : decode mX6_voice.2.1 36 = .ok (.imul, 1) := by decide +kernel
theorem dX6_voice_37 : decode mX6_voice.2.1 37 = .ok (.iadd, 1) := by decide +kernel
theorem dX6_voice_38 : decode mX6_voice.2.1 38 = .ok (.iconst 3, 1) := by decide +kernel
theorem dX6_voice_39 : decode mX6_voice.2.1 39 = .ok (.iadd, 1) := by decide +kernel
theorem dX6_voice_40 : decode mX6_voice.2.1 40 = .ok (.iconst 0, 1) := by decide +kernel
theorem dX6_voice_41 : decode mX6_voice.2.1 41 = .ok (.invokevirtual 57, 3) := by decide +kernel
theorem dX6_voice_44 : decode mX6_voice.2.1 44 = .ok (.istore 6, 2) := by decide +kernel
theorem dX6_voice_46 : decode mX6_voice.2.1 46 = .ok (.aload_n 0, 1) := by decide +kernel
theorem dX6_voice_47 : decode mX6_voice.2.1 47 = .ok (.iload_n 1, 1) := by decide +kernel
theorem dX6_voice_48 : decode mX6_voice.2.1 48 = .ok (.invokevirtual 128, 3) := by decide +kernel
theorem dX6_voice_51 : decode mX6_voice.2.1 51 = .ok (.iload_n 2, 1) := by decide +kernel
theorem dX6_voice_52 : decode mX6_voice.2.1 52 = .ok (.isub, 1) := by decide +kernel
theorem dX6_voice_53 : decode mX6_voice.2.1 53 = .ok (.istore 7, 2) := by decide +kernel
theorem dX6_voice_55 : decode mX6_voice.2.1 55 = .ok (.iload 7, 2) := by decide +kernel
theorem dX6_voice_57 : decode mX6_voice.2.1 57 = .ok (.ifCond .ge 9, 3) := by decide +kernel
theorem dX6_voice_60 : decode mX6_voice.2.1 60 = .ok (.iload 7, 2) := by decide +kernel
theorem dX6_voice_62 : decode mX6_voice.2.1 62 = .ok (.ineg, 1) := by decide +kernel
theorem dX6_voice_63 : decode mX6_voice.2.1 63 = .ok (.goto 5, 3) := by decide +kernel
theorem dX6_voice_66 : decode mX6_voice.2.1 66 = .ok (.iload 7, 2) := by decide +kernel
theorem dX6_voice_68 : decode mX6_voice.2.1 68 = .ok (.istore 7, 2) := by decide +kernel
theorem dX6_voice_70 : decode mX6_voice.2.1 70 = .ok (.aload_n 0, 1) := by decide +kernel
theorem dX6_voice_71 : decode mX6_voice.2.1 71 = .ok (.getfield 7, 3) := by decide +kernel
theorem dX6_voice_74 : decode mX6_voice.2.1 74 = .ok (.bipush 6, 2) := by decide +kernel
theorem dX6_voice_76 : decode mX6_voice.2.1 76 = .ok (.iconst 5, 1) := by decide +kernel
theorem dX6_voice_77 : decode mX6_voice.2.1 77 = .ok (.iload 5, 2) := by decide +kernel
theorem dX6_voice_79 : decode mX6_voice.2.1 79 = .ok (.imul, 1) := by decide +kernel
theorem dX6_voice_80 : decode mX6_voice.2.1 80 = .ok (.iadd, 1) := by decide +kernel
theorem dX6_voice_81 : decode mX6_voice.2.1 81 = .ok (.iconst 3, 1) := by decide +kernel
theorem dX6_voice_82 : decode mX6_voice.2.1 82 = .ok (.iadd, 1) := by decide +kernel
theorem dX6_voice_83 : decode mX6_voice.2.1 83 = .ok (.iload 6, 2) := by decide +kernel
theorem dX6_voice_85 : decode mX6_voice.2.1 85 = .ok (.iastore, 1) := by decide +kernel
theorem dX6_voice_86 : decode mX6_voice.2.1 86 = .ok (.iload 7, 2) := by decide +kernel
theorem dX6_voice_88 : decode mX6_voice.2.1 88 = .ok (.iload 4, 2) := by decide +kernel
theorem dX6_voice_90 : decode mX6_voice.2.1 90 = .ok (.if_icmp .le 8, 3) := by decide +kernel
theorem dX6_voice_93 : decode mX6_voice.2.1 93 = .ok (.iload 5, 2) := by decide +kernel
theorem dX6_voice_95 : decode mX6_voice.2.1 95 = .ok (.goto 4, 3) := by decide +kernel
theorem dX6_voice_98 : decode mX6_voice.2.1 98 = .ok (.iload_n 3, 1) := by decide +kernel
theorem dX6_voice_99 : decode mX6_voice.2.1 99 = .ok (.istore_n 3, 1) := by decide +kernel
theorem dX6_voice_100 : decode mX6_voice.2.1 100 = .ok (.iload 4, 2) := by decide +kernel
theorem dX6_voice_102 : decode mX6_voice.2.1 102 = .ok (.iload 7, 2) := by decide +kernel
theorem dX6_voice_104 : decode mX6_voice.2.1 104 = .ok (.invokestatic 73, 3) := by decide +kernel
theorem dX6_voice_107 : decode mX6_voice.2.1 107 = .ok (.istore 4, 2) := by decide +kernel
theorem dX6_voice_109 : decode mX6_voice.2.1 109 = .ok (.iinc 5 1, 3) := by decide +kernel
theorem dX6_voice_112 : decode mX6_voice.2.1 112 = .ok (.goto (-93), 3) := by decide +kernel
theorem dX6_voice_115 : decode mX6_voice.2.1 115 = .ok (.aload_n 0, 1) := by decide +kernel
theorem dX6_voice_116 : decode mX6_voice.2.1 116 = .ok (.iload_n 3, 1) := by decide +kernel
theorem dX6_voice_117 : decode mX6_voice.2.1 117 = .ok (.invokevirtual 174, 3) := by decide +kernel
theorem dX6_voice_120 : decode mX6_voice.2.1 120 = .ok (.ireturn, 1) := by decide +kernel
theorem dX6_miceFor_0 : decode mX6_miceFor.2.1 0 = .ok (.iload_n 1, 1) := by decide +kernel
theorem dX6_miceFor_1 : decode mX6_miceFor.2.1 1 = .ok (.invokestatic 136, 3) := by decide +kernel
theorem dX6_miceFor_4 : decode mX6_miceFor.2.1 4 = .ok (.ifCond .eq 13, 3) := by decide +kernel
theorem dX6_miceFor_7 : decode mX6_miceFor.2.1 7 = .ok (.iload_n 2, 1) := by decide +kernel
theorem dX6_miceFor_8 : decode mX6_miceFor.2.1 8 = .ok (.i2l, 1) := by decide +kernel
theorem dX6_miceFor_9 : decode mX6_miceFor.2.1 9 = .ok (.lconst 0, 1) := by decide +kernel
theorem dX6_miceFor_10 : decode mX6_miceFor.2.1 10 = .ok (.lconst 1, 1) := by decide +kernel
theorem dX6_miceFor_11 : decode mX6_miceFor.2.1 11 = .ok (.invokestatic 51, 3) := by decide +kernel
theorem dX6_miceFor_14 : decode mX6_miceFor.2.1 14 = .ok (.ifCond .ne 10, 3) := by decide +kernel
theorem dX6_miceFor_17 : decode mX6_miceFor.2.1 17 = .ok (.aload_n 0, 1) := by decide +kernel
theorem dX6_miceFor_18 : decode mX6_miceFor.2.1 18 = .ok (.ldc 43, 2) := by decide +kernel
theorem dX6_miceFor_20 : decode mX6_miceFor.2.1 20 = .ok (.invokevirtual 45, 3) := by decide +kernel
theorem dX6_miceFor_23 : decode mX6_miceFor.2.1 23 = .ok (.ireturn, 1) := by decide +kernel
theorem dX6_miceFor_24 : decode mX6_miceFor.2.1 24 = .ok (.aload_n 0, 1) := by decide +kernel
theorem dX6_miceFor_25 : decode mX6_miceFor.2.1 25 = .ok (.invokevirtual 119, 3) := by decide +kernel
theorem dX6_miceFor_28 : decode mX6_miceFor.2.1 28 = .ok (.istore_n 3, 1) := by decide +kernel
theorem dX6_miceFor_29 : decode mX6_miceFor.2.1 29 = .ok (.aload_n 0, 1) := by decide +kernel
theorem dX6_miceFor_30 : decode mX6_miceFor.2.1 30 = .ok (.getfield 7, 3) := by decide +kernel
theorem dX6_miceFor_33 : decode mX6_miceFor.2.1 33 = .ok (.iconst 4, 1) := by decide +kernel
theorem dX6_miceFor_34 : decode mX6_miceFor.2.1 34 = .ok (.iaload, 1) := by decide +kernel
theorem dX6_miceFor_35 : decode mX6_miceFor.2.1 35 = .ok (.istore 4, 2) := by decide +kernel
theorem dX6_miceFor_37 : decode mX6_miceFor.2.1 37 = .ok (.iconst (-1), 1) := by decide +kernel
theorem dX6_miceFor_38 : decode mX6_miceFor.2.1 38 = .ok (.istore 5, 2) := by decide +kernel
theorem dX6_miceFor_40 : decode mX6_miceFor.2.1 40 = .ok (.iconst 0, 1) := by decide +kernel
theorem dX6_miceFor_41 : decode mX6_miceFor.2.1 41 = .ok (.istore 6, 2) := by decide +kernel
theorem dX6_miceFor_43 : decode mX6_miceFor.2.1 43 = .ok (.iload 6, 2) := by decide +kernel
theorem dX6_miceFor_45 : decode mX6_miceFor.2.1 45 = .ok (.bipush 99, 2) := by decide +kernel
theorem dX6_miceFor_47 : decode mX6_miceFor.2.1 47 = .ok (.if_icmp .gt 57, 3) := by decide +kernel
theorem dX6_miceFor_50 : decode mX6_miceFor.2.1 50 = .ok (.iload 5, 2) := by decide +kernel
theorem dX6_miceFor_52 : decode mX6_miceFor.2.1 52 = .ok (.ifCond .ge 52, 3) := by decide +kernel
theorem dX6_miceFor_55 : decode mX6_miceFor.2.1 55 = .ok (.aload_n 0, 1) := by decide +kernel
theorem dX6_miceFor_56 : decode mX6_miceFor.2.1 56 = .ok (.getfield 7, 3) := by decide +kernel
theorem dX6_miceFor_59 : decode mX6_miceFor.2.1 59 = .ok (.iconst 4, 1) := by decide +kernel
theorem dX6_miceFor_60 : decode mX6_miceFor.2.1 60 = .ok (.iload 6, 2) := by decide +kernel
theorem dX6_miceFor_62 : decode mX6_miceFor.2.1 62 = .ok (.iastore, 1) := by decide +kernel
theorem dX6_miceFor_63 : decode mX6_miceFor.2.1 63 = .ok (.aload_n 0, 1) := by decide +kernel
theorem dX6_miceFor_64 : decode mX6_miceFor.2.1 64 = .ok (.iload_n 3, 1) := by decide +kernel
theorem dX6_miceFor_65 : decode mX6_miceFor.2.1 65 = .ok (.invokevirtual 128, 3) := by decide +kernel
theorem dX6_miceFor_68 : decode mX6_miceFor.2.1 68 = .ok (.iload_n 1, 1) := by decide +kernel
theorem dX6_miceFor_69 : decode mX6_miceFor.2.1 69 = .ok (.if_icmp .lt 7, 3) := by decide +kernel
theorem dX6_miceFor_72 : decode mX6_miceFor.2.1 72 = .ok (.iconst 1, 1) := by decide +kernel
theorem dX6_miceFor_73 : decode mX6_miceFor.2.1 73 = .ok (.goto 4, 3) := by decide +kernel
theorem dX6_miceFor_76 : decode mX6_miceFor.2.1 76 = .ok (.iconst 0, 1) := by decide +kernel
theorem dX6_miceFor_77 : decode mX6_miceFor.2.1 77 = .ok (.iload_n 2, 1) := by decide +kernel
theorem dX6_miceFor_78 : decode mX6_miceFor.2.1 78 = .ok (.iconst 1, 1) := by decide +kernel
theorem dX6_miceFor_79 : decode mX6_miceFor.2.1 79 = .ok (.if_icmp .ne 7, 3) := by decide +kernel
theorem dX6_miceFor_82 : decode mX6_miceFor.2.1 82 = .ok (.iconst 1, 1) := by decide +kernel
theorem dX6_miceFor_83 : decode mX6_miceFor.2.1 83 = .ok (.goto 4, 3) := by decide +kernel
theorem dX6_miceFor_86 : decode mX6_miceFor.2.1 86 = .ok (.iconst 0, 1) := by decide +kernel
theorem dX6_miceFor_87 : decode mX6_miceFor.2.1 87 = .ok (.if_icmp .ne 8, 3) := by decide +kernel
theorem dX6_miceFor_90 : decode mX6_miceFor.2.1 90 = .ok (.iload 6, 2) := by decide +kernel
theorem dX6_miceFor_92 : decode mX6_miceFor.2.1 92 = .ok (.goto 4, 3) := by decide +kernel
theorem dX6_miceFor_95 : decode mX6_miceFor.2.1 95 = .ok (.iconst (-1), 1) := by decide +kernel
theorem dX6_miceFor_96 : decode mX6_miceFor.2.1 96 = .ok (.istore 5, 2) := by decide +kernel
theorem dX6_miceFor_98 : decode mX6_miceFor.2.1 98 = .ok (.iinc 6 1, 3) := by decide +kernel
theorem dX6_miceFor_101 : decode mX6_miceFor.2.1 101 = .ok (.goto (-58), 3) := by decide +kernel
theorem dX6_miceFor_104 : decode mX6_miceFor.2.1 104 = .ok (.aload_n 0, 1) := by decide +kernel
theorem dX6_miceFor_105 : decode mX6_miceFor.2.1 105 = .ok (.getfield 7, 3) := by decide +kernel
theorem dX6_miceFor_108 : decode mX6_miceFor.2.1 108 = .ok (.iconst 4, 1) := by decide +kernel
theorem dX6_miceFor_109 : decode mX6_miceFor.2.1 109 = .ok (.iload 4, 2) := by decide +kernel
theorem dX6_miceFor_111 : decode mX6_miceFor.2.1 111 = .ok (.iastore, 1) := by decide +kernel
theorem dX6_miceFor_112 : decode mX6_miceFor.2.1 112 = .ok (.aload_n 0, 1) := by decide +kernel
theorem dX6_miceFor_113 : decode mX6_miceFor.2.1 113 = .ok (.iload 5, 2) := by decide +kernel
theorem dX6_miceFor_115 : decode mX6_miceFor.2.1 115 = .ok (.invokevirtual 174, 3) := by decide +kernel
theorem dX6_miceFor_118 : decode mX6_miceFor.2.1 118 = .ok (.ireturn, 1) := by decide +kernel
theorem dX6_findsCuts_0 : decode mX6_findsCuts.2.1 0 = .ok (.iconst 1, 1) := by decide +kernel
theorem dX6_findsCuts_1 : decode mX6_findsCuts.2.1 1 = .ok (.istore_n 3, 1) := by decide +kernel
theorem dX6_findsCuts_2 : decode mX6_findsCuts.2.1 2 = .ok (.iload_n 3, 1) := by decide +kernel
theorem dX6_findsCuts_3 : decode mX6_findsCuts.2.1 3 = .ok (.iload_n 1, 1) := by decide +kernel
theorem dX6_findsCuts_4 : decode mX6_findsCuts.2.1 4 = .ok (.if_icmp .gt 70, 3) := by decide +kernel
theorem dX6_findsCuts_7 : decode mX6_findsCuts.2.1 7 = .ok (.aload_n 0, 1) := by decide +kernel
theorem dX6_findsCuts_8 : decode mX6_findsCuts.2.1 8 = .ok (.getfield 40, 3) := by decide +kernel
theorem dX6_findsCuts_11 : decode mX6_findsCuts.2.1 11 = .ok (.iload_n 3, 1) := by decide +kernel
theorem dX6_findsCuts_12 : decode mX6_findsCuts.2.1 12 = .ok (.iconst 0, 1) := by decide +kernel
theorem dX6_findsCuts_13 : decode mX6_findsCuts.2.1 13 = .ok (.iastore, 1) := by decide +kernel
theorem dX6_findsCuts_14 : decode mX6_findsCuts.2.1 14 = .ok (.iconst 1, 1) := by decide +kernel
theorem dX6_findsCuts_15 : decode mX6_findsCuts.2.1 15 = .ok (.istore 4, 2) := by decide +kernel
theorem dX6_findsCuts_17 : decode mX6_findsCuts.2.1 17 = .ok (.iload 4, 2) := by decide +kernel
theorem dX6_findsCuts_19 : decode mX6_findsCuts.2.1 19 = .ok (.iload_n 2, 1) := by decide +kernel
theorem dX6_findsCuts_20 : decode mX6_findsCuts.2.1 20 = .ok (.if_icmp .gt 48, 3) := by decide +kernel
theorem dX6_findsCuts_23 : decode mX6_findsCuts.2.1 23 = .ok (.iload 4, 2) := by decide +kernel
theorem dX6_findsCuts_25 : decode mX6_findsCuts.2.1 25 = .ok (.iload_n 3, 1) := by decide +kernel
theorem dX6_findsCuts_26 : decode mX6_findsCuts.2.1 26 = .ok (.if_icmp .ge 42, 3) := by decide +kernel
theorem dX6_findsCuts_29 : decode mX6_findsCuts.2.1 29 = .ok (.aload_n 0, 1) := by decide +kernel
theorem dX6_findsCuts_30 : decode mX6_findsCuts.2.1 30 = .ok (.getfield 40, 3) := by decide +kernel
theorem dX6_findsCuts_33 : decode mX6_findsCuts.2.1 33 = .ok (.iload_n 3, 1) := by decide +kernel
theorem dX6_findsCuts_34 : decode mX6_findsCuts.2.1 34 = .ok (.iaload, 1) := by decide +kernel
theorem dX6_findsCuts_35 : decode mX6_findsCuts.2.1 35 = .ok (.ifCond .ne 33, 3) := by decide +kernel
theorem dX6_findsCuts_38 : decode mX6_findsCuts.2.1 38 = .ok (.aload_n 0, 1) := by decide +kernel
theorem dX6_findsCuts_39 : decode mX6_findsCuts.2.1 39 = .ok (.getfield 40, 3) := by decide +kernel
theorem dX6_findsCuts_42 : decode mX6_findsCuts.2.1 42 = .ok (.iload_n 3, 1) := by decide +kernel
theorem dX6_findsCuts_43 : decode mX6_findsCuts.2.1 43 = .ok (.aload_n 0, 1) := by decide +kernel
theorem dX6_findsCuts_44 : decode mX6_findsCuts.2.1 44 = .ok (.getfield 40, 3) := by decide +kernel
theorem dX6_findsCuts_47 : decode mX6_findsCuts.2.1 47 = .ok (.iload_n 3, 1) := by decide +kernel
theorem dX6_findsCuts_48 : decode mX6_findsCuts.2.1 48 = .ok (.iload 4, 2) := by decide +kernel
theorem dX6_findsCuts_50 : decode mX6_findsCuts.2.1 50 = .ok (.isub, 1) := by decide +kernel
theorem dX6_findsCuts_51 : decode mX6_findsCuts.2.1 51 = .ok (.iaload, 1) := by decide +kernel
theorem dX6_findsCuts_52 : decode mX6_findsCuts.2.1 52 = .ok (.ifCond .ne 8, 3) := by decide +kernel
theorem dX6_findsCuts_55 : decode mX6_findsCuts.2.1 55 = .ok (.iload 4, 2) := by decide +kernel
theorem dX6_findsCuts_57 : decode mX6_findsCuts.2.1 57 = .ok (.goto 4, 3) := by decide +kernel
theorem dX6_findsCuts_60 : decode mX6_findsCuts.2.1 60 = .ok (.iconst 0, 1) := by decide +kernel
theorem dX6_findsCuts_61 : decode mX6_findsCuts.2.1 61 = .ok (.iastore, 1) := by decide +kernel
theorem dX6_findsCuts_62 : decode mX6_findsCuts.2.1 62 = .ok (.iinc 4 1, 3) := by decide +kernel
theorem dX6_findsCuts_65 : decode mX6_findsCuts.2.1 65 = .ok (.goto (-48), 3) := by decide +kernel
theorem dX6_findsCuts_68 : decode mX6_findsCuts.2.1 68 = .ok (.iinc 3 1, 3) := by decide +kernel
theorem dX6_findsCuts_71 : decode mX6_findsCuts.2.1 71 = .ok (.goto (-69), 3) := by decide +kernel
theorem dX6_findsCuts_74 : decode mX6_findsCuts.2.1 74 = .ok (.return_, 1) := by decide +kernel
theorem dX6_isCut_0 : decode mX6_isCut.2.1 0 = .ok (.iload_n 0, 1) := by decide +kernel
theorem dX6_isCut_1 : decode mX6_isCut.2.1 1 = .ok (.i2l, 1) := by decide +kernel
theorem dX6_isCut_2 : decode mX6_isCut.2.1 2 = .ok (.lconst 1, 1) := by decide +kernel
theorem dX6_isCut_3 : decode mX6_isCut.2.1 3 = .ok (.ldc2_w 177, 3) := by decide +kernel
theorem dX6_isCut_6 : decode mX6_isCut.2.1 6 = .ok (.invokestatic 51, 3) := by decide +kernel
theorem dX6_isCut_9 : decode mX6_isCut.2.1 9 = .ok (.ifCond .eq 19, 3) := by decide +kernel
theorem dX6_isCut_12 : decode mX6_isCut.2.1 12 = .ok (.iload_n 1, 1) := by decide +kernel
theorem dX6_isCut_13 : decode mX6_isCut.2.1 13 = .ok (.i2l, 1) := by decide +kernel
theorem dX6_isCut_14 : decode mX6_isCut.2.1 14 = .ok (.lconst 1, 1) := by decide +kernel
theorem dX6_isCut_15 : decode mX6_isCut.2.1 15 = .ok (.ldc2_w 94, 3) := by decide +kernel
theorem dX6_isCut_18 : decode mX6_isCut.2.1 18 = .ok (.invokestatic 51, 3) := by decide +kernel
theorem dX6_isCut_21 : decode mX6_isCut.2.1 21 = .ok (.ifCond .eq 7, 3) := by decide +kernel
theorem dX6_isCut_24 : decode mX6_isCut.2.1 24 = .ok (.iconst 1, 1) := by decide +kernel
theorem dX6_isCut_25 : decode mX6_isCut.2.1 25 = .ok (.goto 4, 3) := by decide +kernel
theorem dX6_isCut_28 : decode mX6_isCut.2.1 28 = .ok (.iconst 0, 1) := by decide +kernel
theorem dX6_isCut_29 : decode mX6_isCut.2.1 29 = .ok (.ireturn, 1) := by decide +kernel
theorem dX6_wins_0 : decode mX6_wins.2.1 0 = .ok (.iload_n 1, 1) := by decide +kernel
theorem dX6_wins_1 : decode mX6_wins.2.1 1 = .ok (.iload_n 2, 1) := by decide +kernel
theorem dX6_wins_2 : decode mX6_wins.2.1 2 = .ok (.invokestatic 179, 3) := by decide +kernel
theorem dX6_wins_5 : decode mX6_wins.2.1 5 = .ok (.ifCond .ne 10, 3) := by decide +kernel
theorem dX6_wins_8 : decode mX6_wins.2.1 8 = .ok (.aload_n 0, 1) := by decide +kernel
theorem dX6_wins_9 : decode mX6_wins.2.1 9 = .ok (.ldc 43, 2) := by decide +kernel
theorem dX6_wins_11 : decode mX6_wins.2.1 11 = .ok (.invokevirtual 45, 3) := by decide +kernel
theorem dX6_wins_14 : decode mX6_wins.2.1 14 = .ok (.ireturn, 1) := by decide +kernel
theorem dX6_wins_15 : decode mX6_wins.2.1 15 = .ok (.aload_n 0, 1) := by decide +kernel
theorem dX6_wins_16 : decode mX6_wins.2.1 16 = .ok (.iload_n 1, 1) := by decide +kernel
theorem dX6_wins_17 : decode mX6_wins.2.1 17 = .ok (.iload_n 2, 1) := by decide +kernel
theorem dX6_wins_18 : decode mX6_wins.2.1 18 = .ok (.invokevirtual 182, 3) := by decide +kernel
theorem dX6_wins_21 : decode mX6_wins.2.1 21 = .ok (.aload_n 0, 1) := by decide +kernel
theorem dX6_wins_22 : decode mX6_wins.2.1 22 = .ok (.getfield 40, 3) := by decide +kernel
theorem dX6_wins_25 : decode mX6_wins.2.1 25 = .ok (.iload_n 1, 1) := by decide +kernel
theorem dX6_wins_26 : decode mX6_wins.2.1 26 = .ok (.iaload, 1) := by decide +kernel
theorem dX6_wins_27 : decode mX6_wins.2.1 27 = .ok (.ifCond .le 7, 3) := by decide +kernel
theorem dX6_wins_30 : decode mX6_wins.2.1 30 = .ok (.iconst 1, 1) := by decide +kernel
theorem dX6_wins_31 : decode mX6_wins.2.1 31 = .ok (.goto 4, 3) := by decide +kernel
theorem dX6_wins_34 : decode mX6_wins.2.1 34 = .ok (.iconst 0, 1) := by decide +kernel
theorem dX6_wins_35 : decode mX6_wins.2.1 35 = .ok (.ireturn, 1) := by decide +kernel
theorem dX6_cut_0 : decode mX6_cut.2.1 0 = .ok (.iload_n 1, 1) := by decide +kernel
theorem dX6_cut_1 : decode mX6_cut.2.1 1 = .ok (.iload_n 2, 1) := by decide +kernel
theorem dX6_cut_2 : decode mX6_cut.2.1 2 = .ok (.invokestatic 179, 3) := by decide +kernel
theorem dX6_cut_5 : decode mX6_cut.2.1 5 = .ok (.ifCond .ne 10, 3) := by decide +kernel
theorem dX6_cut_8 : decode mX6_cut.2.1 8 = .ok (.aload_n 0, 1) := by decide +kernel
theorem dX6_cut_9 : decode mX6_cut.2.1 9 = .ok (.ldc 43, 2) := by decide +kernel
theorem dX6_cut_11 : decode mX6_cut.2.1 11 = .ok (.invokevirtual 45, 3) := by decide +kernel
theorem dX6_cut_14 : decode mX6_cut.2.1 14 = .ok (.ireturn, 1) := by decide +kernel
theorem dX6_cut_15 : decode mX6_cut.2.1 15 = .ok (.aload_n 0, 1) := by decide +kernel
theorem dX6_cut_16 : decode mX6_cut.2.1 16 = .ok (.iload_n 1, 1) := by decide +kernel
theorem dX6_cut_17 : decode mX6_cut.2.1 17 = .ok (.iload_n 2, 1) := by decide +kernel
theorem dX6_cut_18 : decode mX6_cut.2.1 18 = .ok (.invokevirtual 182, 3) := by decide +kernel
theorem dX6_cut_21 : decode mX6_cut.2.1 21 = .ok (.aload_n 0, 1) := by decide +kernel
theorem dX6_cut_22 : decode mX6_cut.2.1 22 = .ok (.getfield 40, 3) := by decide +kernel
theorem dX6_cut_25 : decode mX6_cut.2.1 25 = .ok (.iload_n 1, 1) := by decide +kernel
theorem dX6_cut_26 : decode mX6_cut.2.1 26 = .ok (.iaload, 1) := by decide +kernel
theorem dX6_cut_27 : decode mX6_cut.2.1 27 = .ok (.ifCond .le 12, 3) := by decide +kernel
theorem dX6_cut_30 : decode mX6_cut.2.1 30 = .ok (.aload_n 0, 1) := by decide +kernel
theorem dX6_cut_31 : decode mX6_cut.2.1 31 = .ok (.getfield 40, 3) := by decide +kernel
theorem dX6_cut_34 : decode mX6_cut.2.1 34 = .ok (.iload_n 1, 1) := by decide +kernel
theorem dX6_cut_35 : decode mX6_cut.2.1 35 = .ok (.iaload, 1) := by decide +kernel
theorem dX6_cut_36 : decode mX6_cut.2.1 36 = .ok (.goto 9, 3) := by decide +kernel
theorem dX6_cut_39 : decode mX6_cut.2.1 39 = .ok (.aload_n 0, 1) := by decide +kernel
theorem dX6_cut_40 : decode mX6_cut.2.1 40 = .ok (.ldc 44, 2) := by decide +kernel
theorem dX6_cut_42 : decode mX6_cut.2.1 42 = .ok (.invokevirtual 45, 3) := by decide +kernel
theorem dX6_cut_45 : decode mX6_cut.2.1 45 = .ok (.ireturn, 1) := by decide +kernel
theorem dX6_isTold_0 : decode mX6_isTold.2.1 0 = .ok (.aload_n 0, 1) := by decide +kernel
theorem dX6_isTold_1 : decode mX6_isTold.2.1 1 = .ok (.getfield 7, 3) := by decide +kernel
theorem dX6_isTold_4 : decode mX6_isTold.2.1 4 = .ok (.aload_n 0, 1) := by decide +kernel
theorem dX6_isTold_5 : decode mX6_isTold.2.1 5 = .ok (.getfield 19, 3) := by decide +kernel
theorem dX6_isTold_8 : decode mX6_isTold.2.1 8 = .ok (.invokestatic 162, 3) := by decide +kernel
theorem dX6_isTold_11 : decode mX6_isTold.2.1 11 = .ok (.iconst 1, 1) := by decide +kernel
theorem dX6_isTold_12 : decode mX6_isTold.2.1 12 = .ok (.istore_n 2, 1) := by decide +kernel
theorem dX6_isTold_13 : decode mX6_isTold.2.1 13 = .ok (.iconst 0, 1) := by decide +kernel
theorem dX6_isTold_14 : decode mX6_isTold.2.1 14 = .ok (.istore_n 3, 1) := by decide +kernel
theorem dX6_isTold_15 : decode mX6_isTold.2.1 15 = .ok (.iload_n 3, 1) := by decide +kernel
theorem dX6_isTold_16 : decode mX6_isTold.2.1 16 = .ok (.aload_n 0, 1) := by decide +kernel
theorem dX6_isTold_17 : decode mX6_isTold.2.1 17 = .ok (.getfield 31, 3) := by decide +kernel
theorem dX6_isTold_20 : decode mX6_isTold.2.1 20 = .ok (.iload_n 1, 1) := by decide +kernel
theorem dX6_isTold_21 : decode mX6_isTold.2.1 21 = .ok (.iaload, 1) := by decide +kernel
theorem dX6_isTold_22 : decode mX6_isTold.2.1 22 = .ok (.if_icmp .ge 53, 3) := by decide +kernel
theorem dX6_isTold_25 : decode mX6_isTold.2.1 25 = .ok (.iload_n 2, 1) := by decide +kernel
theorem dX6_isTold_26 : decode mX6_isTold.2.1 26 = .ok (.ifCond .eq 49, 3) := by decide +kernel
theorem dX6_isTold_29 : decode mX6_isTold.2.1 29 = .ok (.aload_n 0, 1) := by decide +kernel
theorem dX6_isTold_30 : decode mX6_isTold.2.1 30 = .ok (.getfield 34, 3) := by decide +kernel
theorem dX6_isTold_33 : decode mX6_isTold.2.1 33 = .ok (.bipush 40, 2) := by decide +kernel
theorem dX6_isTold_35 : decode mX6_isTold.2.1 35 = .ok (.iload_n 1, 1) := by decide +kernel
theorem dX6_isTold_36 : decode mX6_isTold.2.1 36 = .ok (.imul, 1) := by decide +kernel
theorem dX6_isTold_37 : decode mX6_isTold.2.1 37 = .ok (.iload_n 3, 1) := by decide +kernel
theorem dX6_isTold_38 : decode mX6_isTold.2.1 38 = .ok (.iadd, 1) := by decide +kernel
theorem dX6_isTold_39 : decode mX6_isTold.2.1 39 = .ok (.iaload, 1) := by decide +kernel
theorem dX6_isTold_40 : decode mX6_isTold.2.1 40 = .ok (.istore 4, 2) := by decide +kernel
theorem dX6_isTold_42 : decode mX6_isTold.2.1 42 = .ok (.iload 4, 2) := by decide +kernel
theorem dX6_isTold_44 : decode mX6_isTold.2.1 44 = .ok (.sipush 9999, 3) := by decide +kernel
theorem dX6_isTold_47 : decode mX6_isTold.2.1 47 = .ok (.if_icmp .eq 12, 3) := by decide +kernel
theorem dX6_isTold_50 : decode mX6_isTold.2.1 50 = .ok (.iload 4, 2) := by decide +kernel
theorem dX6_isTold_52 : decode mX6_isTold.2.1 52 = .ok (.aload_n 0, 1) := by decide +kernel
theorem dX6_isTold_53 : decode mX6_isTold.2.1 53 = .ok (.invokevirtual 131, 3) := by decide +kernel
theorem dX6_isTold_56 : decode mX6_isTold.2.1 56 = .ok (.if_icmp .ne 7, 3) := by decide +kernel
theorem dX6_isTold_59 : decode mX6_isTold.2.1 59 = .ok (.iconst 1, 1) := by decide +kernel
theorem dX6_isTold_60 : decode mX6_isTold.2.1 60 = .ok (.goto 4, 3) := by decide +kernel
theorem dX6_isTold_63 : decode mX6_isTold.2.1 63 = .ok (.iconst 0, 1) := by decide +kernel
theorem dX6_isTold_64 : decode mX6_isTold.2.1 64 = .ok (.istore_n 2, 1) := by decide +kernel
theorem dX6_isTold_65 : decode mX6_isTold.2.1 65 = .ok (.aload_n 0, 1) := by decide +kernel
theorem dX6_isTold_66 : decode mX6_isTold.2.1 66 = .ok (.invokevirtual 142, 3) := by decide +kernel
theorem dX6_isTold_69 : decode mX6_isTold.2.1 69 = .ok (.iinc 3 1, 3) := by decide +kernel
theorem dX6_isTold_72 : decode mX6_isTold.2.1 72 = .ok (.goto (-57), 3) := by decide +kernel
theorem dX6_isTold_75 : decode mX6_isTold.2.1 75 = .ok (.aload_n 0, 1) := by decide +kernel
theorem dX6_isTold_76 : decode mX6_isTold.2.1 76 = .ok (.getfield 19, 3) := by decide +kernel
theorem dX6_isTold_79 : decode mX6_isTold.2.1 79 = .ok (.aload_n 0, 1) := by decide +kernel
theorem dX6_isTold_80 : decode mX6_isTold.2.1 80 = .ok (.getfield 7, 3) := by decide +kernel
theorem dX6_isTold_83 : decode mX6_isTold.2.1 83 = .ok (.invokestatic 162, 3) := by decide +kernel
theorem dX6_isTold_86 : decode mX6_isTold.2.1 86 = .ok (.iload_n 2, 1) := by decide +kernel
theorem dX6_isTold_87 : decode mX6_isTold.2.1 87 = .ok (.ireturn, 1) := by decide +kernel
theorem dX6_findsFits_0 : decode mX6_findsFits.2.1 0 = .ok (.bipush 6, 2) := by decide +kernel
theorem dX6_findsFits_2 : decode mX6_findsFits.2.1 2 = .ok (.iconst 5, 1) := by decide +kernel
theorem dX6_findsFits_3 : decode mX6_findsFits.2.1 3 = .ok (.iload_n 2, 1) := by decide +kernel
theorem dX6_findsFits_4 : decode mX6_findsFits.2.1 4 = .ok (.imul, 1) := by decide +kernel
theorem dX6_findsFits_5 : decode mX6_findsFits.2.1 5 = .ok (.iadd, 1) := by decide +kernel
theorem dX6_findsFits_6 : decode mX6_findsFits.2.1 6 = .ok (.iconst 3, 1) := by decide +kernel
theorem dX6_findsFits_7 : decode mX6_findsFits.2.1 7 = .ok (.iadd, 1) := by decide +kernel
theorem dX6_findsFits_8 : decode mX6_findsFits.2.1 8 = .ok (.istore_n 3, 1) := by decide +kernel
theorem dX6_findsFits_9 : decode mX6_findsFits.2.1 9 = .ok (.aload_n 0, 1) := by decide +kernel
theorem dX6_findsFits_10 : decode mX6_findsFits.2.1 10 = .ok (.getfield 7, 3) := by decide +kernel
theorem dX6_findsFits_13 : decode mX6_findsFits.2.1 13 = .ok (.iload_n 3, 1) := by decide +kernel
theorem dX6_findsFits_14 : decode mX6_findsFits.2.1 14 = .ok (.iaload, 1) := by decide +kernel
theorem dX6_findsFits_15 : decode mX6_findsFits.2.1 15 = .ok (.istore 4, 2) := by decide +kernel
theorem dX6_findsFits_17 : decode mX6_findsFits.2.1 17 = .ok (.aload_n 0, 1) := by decide +kernel
theorem dX6_findsFits_18 : decode mX6_findsFits.2.1 18 = .ok (.iconst 0, 1) := by decide +kernel
theorem dX6_findsFits_19 : decode mX6_findsFits.2.1 19 = .ok (.putfield 185, 3) := by decide +kernel
theorem dX6_findsFits_22 : decode mX6_findsFits.2.1 22 = .ok (.bipush 9, 2) := by decide +kernel
theorem dX6_findsFits_24 : decode mX6_findsFits.2.1 24 = .ok (.istore 5, 2) := by decide +kernel
theorem dX6_findsFits_26 : decode mX6_findsFits.2.1 26 = .ok (.iload 5, 2) := by decide +kernel
theorem dX6_findsFits_28 : decode mX6_findsFits.2.1 28 = .ok (.bipush (-9), 2) := by decide +kernel
theorem dX6_findsFits_30 : decode mX6_findsFits.2.1 30 = .ok (.if_icmp .lt 41, 3) := by decide +kernel
theorem dX6_findsFits_33 : decode mX6_findsFits.2.1 33 = .ok (.aload_n 0, 1) := by decide +kernel
theorem dX6_findsFits_34 : decode mX6_findsFits.2.1 34 = .ok (.getfield 7, 3) := by decide +kernel
theorem dX6_findsFits_37 : decode mX6_findsFits.2.1 37 = .ok (.iload_n 3, 1) := by decide +kernel
theorem dX6_findsFits_38 : decode mX6_findsFits.2.1 38 = .ok (.iload 5, 2) := by decide +kernel
theorem dX6_findsFits_40 : decode mX6_findsFits.2.1 40 = .ok (.iastore, 1) := by decide +kernel
theorem dX6_findsFits_41 : decode mX6_findsFits.2.1 41 = .ok (.aload_n 0, 1) := by decide +kernel
theorem dX6_findsFits_42 : decode mX6_findsFits.2.1 42 = .ok (.iload_n 1, 1) := by decide +kernel
theorem dX6_findsFits_43 : decode mX6_findsFits.2.1 43 = .ok (.invokevirtual 189, 3) := by decide +kernel
theorem dX6_findsFits_46 : decode mX6_findsFits.2.1 46 = .ok (.ifCond .eq 19, 3) := by decide +kernel
theorem dX6_findsFits_49 : decode mX6_findsFits.2.1 49 = .ok (.aload_n 0, 1) := by decide +kernel
theorem dX6_findsFits_50 : decode mX6_findsFits.2.1 50 = .ok (.dup, 1) := by decide +kernel
theorem dX6_findsFits_51 : decode mX6_findsFits.2.1 51 = .ok (.getfield 185, 3) := by decide +kernel
theorem dX6_findsFits_54 : decode mX6_findsFits.2.1 54 = .ok (.iconst 1, 1) := by decide +kernel
theorem dX6_findsFits_55 : decode mX6_findsFits.2.1 55 = .ok (.iadd, 1) := by decide +kernel
theorem dX6_findsFits_56 : decode mX6_findsFits.2.1 56 = .ok (.putfield 185, 3) := by decide +kernel
theorem dX6_findsFits_59 : decode mX6_findsFits.2.1 59 = .ok (.aload_n 0, 1) := by decide +kernel
theorem dX6_findsFits_60 : decode mX6_findsFits.2.1 60 = .ok (.iload 5, 2) := by decide +kernel
theorem dX6_findsFits_62 : decode mX6_findsFits.2.1 62 = .ok (.putfield 192, 3) := by decide +kernel
theorem dX6_findsFits_65 : decode mX6_findsFits.2.1 65 = .ok (.iinc 5 (-1), 3) := by decide +kernel
theorem dX6_findsFits_68 : decode mX6_findsFits.2.1 68 = .ok (.goto (-42), 3) := by decide +kernel
theorem dX6_findsFits_71 : decode mX6_findsFits.2.1 71 = .ok (.aload_n 0, 1) := by decide +kernel
theorem dX6_findsFits_72 : decode mX6_findsFits.2.1 72 = .ok (.getfield 7, 3) := by decide +kernel
theorem dX6_findsFits_75 : decode mX6_findsFits.2.1 75 = .ok (.iload_n 3, 1) := by decide +kernel
theorem dX6_findsFits_76 : decode mX6_findsFits.2.1 76 = .ok (.iload 4, 2) := by decide +kernel
theorem dX6_findsFits_78 : decode mX6_findsFits.2.1 78 = .ok (.iastore, 1) := by decide +kernel
theorem dX6_findsFits_79 : decode mX6_findsFits.2.1 79 = .ok (.return_, 1) := by decide +kernel
theorem dX6_wantsFor_0 : decode mX6_wantsFor.2.1 0 = .ok (.aload_n 0, 1) := by decide +kernel
theorem dX6_wantsFor_1 : decode mX6_wantsFor.2.1 1 = .ok (.iload_n 1, 1) := by decide +kernel
theorem dX6_wantsFor_2 : decode mX6_wantsFor.2.1 2 = .ok (.invokevirtual 195, 3) := by decide +kernel
theorem dX6_wantsFor_5 : decode mX6_wantsFor.2.1 5 = .ok (.ifCond .eq 11, 3) := by decide +kernel
theorem dX6_wantsFor_8 : decode mX6_wantsFor.2.1 8 = .ok (.aload_n 0, 1) := by decide +kernel
theorem dX6_wantsFor_9 : decode mX6_wantsFor.2.1 9 = .ok (.iload_n 1, 1) := by decide +kernel
theorem dX6_wantsFor_10 : decode mX6_wantsFor.2.1 10 = .ok (.invokevirtual 195, 3) := by decide +kernel
theorem dX6_wantsFor_13 : decode mX6_wantsFor.2.1 13 = .ok (.goto 17, 3) := by decide +kernel
theorem dX6_wantsFor_16 : decode mX6_wantsFor.2.1 16 = .ok (.aload_n 0, 1) := by decide +kernel
theorem dX6_wantsFor_17 : decode mX6_wantsFor.2.1 17 = .ok (.iload_n 2, 1) := by decide +kernel
theorem dX6_wantsFor_18 : decode mX6_wantsFor.2.1 18 = .ok (.invokevirtual 82, 3) := by decide +kernel
theorem dX6_wantsFor_21 : decode mX6_wantsFor.2.1 21 = .ok (.ifCond .eq 7, 3) := by decide +kernel
theorem dX6_wantsFor_24 : decode mX6_wantsFor.2.1 24 = .ok (.iconst 0, 1) := by decide +kernel
theorem dX6_wantsFor_25 : decode mX6_wantsFor.2.1 25 = .ok (.goto 5, 3) := by decide +kernel
theorem dX6_wantsFor_28 : decode mX6_wantsFor.2.1 28 = .ok (.ldc 43, 2) := by decide +kernel
theorem dX6_wantsFor_30 : decode mX6_wantsFor.2.1 30 = .ok (.ireturn, 1) := by decide +kernel
theorem dX6_fits_0 : decode mX6_fits.2.1 0 = .ok (.aload_n 0, 1) := by decide +kernel
theorem dX6_fits_1 : decode mX6_fits.2.1 1 = .ok (.iload_n 1, 1) := by decide +kernel
theorem dX6_fits_2 : decode mX6_fits.2.1 2 = .ok (.iload_n 2, 1) := by decide +kernel
theorem dX6_fits_3 : decode mX6_fits.2.1 3 = .ok (.invokevirtual 198, 3) := by decide +kernel
theorem dX6_fits_6 : decode mX6_fits.2.1 6 = .ok (.istore_n 3, 1) := by decide +kernel
theorem dX6_fits_7 : decode mX6_fits.2.1 7 = .ok (.iload_n 3, 1) := by decide +kernel
theorem dX6_fits_8 : decode mX6_fits.2.1 8 = .ok (.ifCond .eq 9, 3) := by decide +kernel
theorem dX6_fits_11 : decode mX6_fits.2.1 11 = .ok (.aload_n 0, 1) := by decide +kernel
theorem dX6_fits_12 : decode mX6_fits.2.1 12 = .ok (.iload_n 3, 1) := by decide +kernel
theorem dX6_fits_13 : decode mX6_fits.2.1 13 = .ok (.invokevirtual 45, 3) := by decide +kernel
theorem dX6_fits_16 : decode mX6_fits.2.1 16 = .ok (.ireturn, 1) := by decide +kernel
theorem dX6_fits_17 : decode mX6_fits.2.1 17 = .ok (.aload_n 0, 1) := by decide +kernel
theorem dX6_fits_18 : decode mX6_fits.2.1 18 = .ok (.iload_n 1, 1) := by decide +kernel
theorem dX6_fits_19 : decode mX6_fits.2.1 19 = .ok (.iload_n 2, 1) := by decide +kernel
theorem dX6_fits_20 : decode mX6_fits.2.1 20 = .ok (.invokevirtual 201, 3) := by decide +kernel
theorem dX6_fits_23 : decode mX6_fits.2.1 23 = .ok (.aload_n 0, 1) := by decide +kernel
theorem dX6_fits_24 : decode mX6_fits.2.1 24 = .ok (.getfield 185, 3) := by decide +kernel
theorem dX6_fits_27 : decode mX6_fits.2.1 27 = .ok (.ireturn, 1) := by decide +kernel
theorem dX6_thinks_0 : decode mX6_thinks.2.1 0 = .ok (.aload_n 0, 1) := by decide +kernel
theorem dX6_thinks_1 : decode mX6_thinks.2.1 1 = .ok (.iload_n 1, 1) := by decide +kernel
theorem dX6_thinks_2 : decode mX6_thinks.2.1 2 = .ok (.iload_n 2, 1) := by decide +kernel
theorem dX6_thinks_3 : decode mX6_thinks.2.1 3 = .ok (.invokevirtual 198, 3) := by decide +kernel
theorem dX6_thinks_6 : decode mX6_thinks.2.1 6 = .ok (.istore_n 3, 1) := by decide +kernel
theorem dX6_thinks_7 : decode mX6_thinks.2.1 7 = .ok (.iload_n 3, 1) := by decide +kernel
theorem dX6_thinks_8 : decode mX6_thinks.2.1 8 = .ok (.ifCond .eq 9, 3) := by decide +kernel
theorem dX6_thinks_11 : decode mX6_thinks.2.1 11 = .ok (.aload_n 0, 1) := by decide +kernel
theorem dX6_thinks_12 : decode mX6_thinks.2.1 12 = .ok (.iload_n 3, 1) := by decide +kernel
theorem dX6_thinks_13 : decode mX6_thinks.2.1 13 = .ok (.invokevirtual 45, 3) := by decide +kernel
theorem dX6_thinks_16 : decode mX6_thinks.2.1 16 = .ok (.ireturn, 1) := by decide +kernel
theorem dX6_thinks_17 : decode mX6_thinks.2.1 17 = .ok (.aload_n 0, 1) := by decide +kernel
theorem dX6_thinks_18 : decode mX6_thinks.2.1 18 = .ok (.iload_n 1, 1) := by decide +kernel
theorem dX6_thinks_19 : decode mX6_thinks.2.1 19 = .ok (.iload_n 2, 1) := by decide +kernel
theorem dX6_thinks_20 : decode mX6_thinks.2.1 20 = .ok (.invokevirtual 201, 3) := by decide +kernel
theorem dX6_thinks_23 : decode mX6_thinks.2.1 23 = .ok (.aload_n 0, 1) := by decide +kernel
theorem dX6_thinks_24 : decode mX6_thinks.2.1 24 = .ok (.getfield 185, 3) := by decide +kernel
theorem dX6_thinks_27 : decode mX6_thinks.2.1 27 = .ok (.ifCond .le 10, 3) := by decide +kernel
theorem dX6_thinks_30 : decode mX6_thinks.2.1 30 = .ok (.aload_n 0, 1) := by decide +kernel
theorem dX6_thinks_31 : decode mX6_thinks.2.1 31 = .ok (.getfield 192, 3) := by decide +kernel
theorem dX6_thinks_34 : decode mX6_thinks.2.1 34 = .ok (.goto 9, 3) := by decide +kernel
theorem dX6_thinks_37 : decode mX6_thinks.2.1 37 = .ok (.aload_n 0, 1) := by decide +kernel
theorem dX6_thinks_38 : decode mX6_thinks.2.1 38 = .ok (.ldc 44, 2) := by decide +kernel
theorem dX6_thinks_40 : decode mX6_thinks.2.1 40 = .ok (.invokevirtual 45, 3) := by decide +kernel
theorem dX6_thinks_43 : decode mX6_thinks.2.1 43 = .ok (.ireturn, 1) := by decide +kernel
theorem dX6_draw_0 : decode mX6_draw.2.1 0 = .ok (.aload_n 0, 1) := by decide +kernel
theorem dX6_draw_1 : decode mX6_draw.2.1 1 = .ok (.getfield 7, 3) := by decide +kernel
theorem dX6_draw_4 : decode mX6_draw.2.1 4 = .ok (.iconst 2, 1) := by decide +kernel
theorem dX6_draw_5 : decode mX6_draw.2.1 5 = .ok (.aload_n 0, 1) := by decide +kernel
theorem dX6_draw_6 : decode mX6_draw.2.1 6 = .ok (.getfield 7, 3) := by decide +kernel
theorem dX6_draw_9 : decode mX6_draw.2.1 9 = .ok (.iconst 2, 1) := by decide +kernel
theorem dX6_draw_10 : decode mX6_draw.2.1 10 = .ok (.iaload, 1) := by decide +kernel
theorem dX6_draw_11 : decode mX6_draw.2.1 11 = .ok (.ldc 204, 2) := by decide +kernel
theorem dX6_draw_13 : decode mX6_draw.2.1 13 = .ok (.imul, 1) := by decide +kernel
theorem dX6_draw_14 : decode mX6_draw.2.1 14 = .ok (.sipush 12345, 3) := by decide +kernel
theorem dX6_draw_17 : decode mX6_draw.2.1 17 = .ok (.iadd, 1) := by decide +kernel
theorem dX6_draw_18 : decode mX6_draw.2.1 18 = .ok (.iastore, 1) := by decide +kernel
theorem dX6_draw_19 : decode mX6_draw.2.1 19 = .ok (.aload_n 0, 1) := by decide +kernel
theorem dX6_draw_20 : decode mX6_draw.2.1 20 = .ok (.getfield 7, 3) := by decide +kernel
theorem dX6_draw_23 : decode mX6_draw.2.1 23 = .ok (.iconst 2, 1) := by decide +kernel
theorem dX6_draw_24 : decode mX6_draw.2.1 24 = .ok (.iaload, 1) := by decide +kernel
theorem dX6_draw_25 : decode mX6_draw.2.1 25 = .ok (.bipush 8, 2) := by decide +kernel
theorem dX6_draw_27 : decode mX6_draw.2.1 27 = .ok (.iushr, 1) := by decide +kernel
theorem dX6_draw_28 : decode mX6_draw.2.1 28 = .ok (.ireturn, 1) := by decide +kernel
theorem dX6_weathers_0 : decode mX6_weathers.2.1 0 = .ok (.iload_n 1, 1) := by decide +kernel
theorem dX6_weathers_1 : decode mX6_weathers.2.1 1 = .ok (.i2l, 1) := by decide +kernel
theorem dX6_weathers_2 : decode mX6_weathers.2.1 2 = .ok (.lconst 1, 1) := by decide +kernel
theorem dX6_weathers_3 : decode mX6_weathers.2.1 3 = .ok (.ldc2_w 94, 3) := by decide +kernel
theorem dX6_weathers_6 : decode mX6_weathers.2.1 6 = .ok (.invokestatic 51, 3) := by decide +kernel
theorem dX6_weathers_9 : decode mX6_weathers.2.1 9 = .ok (.ifCond .ne 10, 3) := by decide +kernel
theorem dX6_weathers_12 : decode mX6_weathers.2.1 12 = .ok (.aload_n 0, 1) := by decide +kernel
theorem dX6_weathers_13 : decode mX6_weathers.2.1 13 = .ok (.ldc 43, 2) := by decide +kernel
theorem dX6_weathers_15 : decode mX6_weathers.2.1 15 = .ok (.invokevirtual 45, 3) := by decide +kernel
theorem dX6_weathers_18 : decode mX6_weathers.2.1 18 = .ok (.ireturn, 1) := by decide +kernel
theorem dX6_weathers_19 : decode mX6_weathers.2.1 19 = .ok (.aload_n 0, 1) := by decide +kernel
theorem dX6_weathers_20 : decode mX6_weathers.2.1 20 = .ok (.getfield 7, 3) := by decide +kernel
theorem dX6_weathers_23 : decode mX6_weathers.2.1 23 = .ok (.iconst 1, 1) := by decide +kernel
theorem dX6_weathers_24 : decode mX6_weathers.2.1 24 = .ok (.iaload, 1) := by decide +kernel
theorem dX6_weathers_25 : decode mX6_weathers.2.1 25 = .ok (.iload_n 1, 1) := by decide +kernel
theorem dX6_weathers_26 : decode mX6_weathers.2.1 26 = .ok (.iadd, 1) := by decide +kernel
theorem dX6_weathers_27 : decode mX6_weathers.2.1 27 = .ok (.ldc 147, 2) := by decide +kernel
theorem dX6_weathers_29 : decode mX6_weathers.2.1 29 = .ok (.if_icmp .le 10, 3) := by decide +kernel
theorem dX6_weathers_32 : decode mX6_weathers.2.1 32 = .ok (.aload_n 0, 1) := by decide +kernel
theorem dX6_weathers_33 : decode mX6_weathers.2.1 33 = .ok (.ldc 148, 2) := by decide +kernel
theorem dX6_weathers_35 : decode mX6_weathers.2.1 35 = .ok (.invokevirtual 45, 3) := by decide +kernel
theorem dX6_weathers_38 : decode mX6_weathers.2.1 38 = .ok (.ireturn, 1) := by decide +kernel
theorem dX6_weathers_39 : decode mX6_weathers.2.1 39 = .ok (.iconst 0, 1) := by decide +kernel
theorem dX6_weathers_40 : decode mX6_weathers.2.1 40 = .ok (.istore_n 2, 1) := by decide +kernel
theorem dX6_weathers_41 : decode mX6_weathers.2.1 41 = .ok (.iload_n 2, 1) := by decide +kernel
theorem dX6_weathers_42 : decode mX6_weathers.2.1 42 = .ok (.iload_n 1, 1) := by decide +kernel
theorem dX6_weathers_43 : decode mX6_weathers.2.1 43 = .ok (.if_icmp .ge 39, 3) := by decide +kernel
theorem dX6_weathers_46 : decode mX6_weathers.2.1 46 = .ok (.aload_n 0, 1) := by decide +kernel
theorem dX6_weathers_47 : decode mX6_weathers.2.1 47 = .ok (.getfield 7, 3) := by decide +kernel
theorem dX6_weathers_50 : decode mX6_weathers.2.1 50 = .ok (.iconst 3, 1) := by decide +kernel
theorem dX6_weathers_51 : decode mX6_weathers.2.1 51 = .ok (.aload_n 0, 1) := by decide +kernel
theorem dX6_weathers_52 : decode mX6_weathers.2.1 52 = .ok (.invokevirtual 205, 3) := by decide +kernel
theorem dX6_weathers_55 : decode mX6_weathers.2.1 55 = .ok (.bipush 100, 2) := by decide +kernel
theorem dX6_weathers_57 : decode mX6_weathers.2.1 57 = .ok (.irem, 1) := by decide +kernel
theorem dX6_weathers_58 : decode mX6_weathers.2.1 58 = .ok (.iastore, 1) := by decide +kernel
theorem dX6_weathers_59 : decode mX6_weathers.2.1 59 = .ok (.aload_n 0, 1) := by decide +kernel
theorem dX6_weathers_60 : decode mX6_weathers.2.1 60 = .ok (.getfield 7, 3) := by decide +kernel
theorem dX6_weathers_63 : decode mX6_weathers.2.1 63 = .ok (.iconst 5, 1) := by decide +kernel
theorem dX6_weathers_64 : decode mX6_weathers.2.1 64 = .ok (.aload_n 0, 1) := by decide +kernel
theorem dX6_weathers_65 : decode mX6_weathers.2.1 65 = .ok (.invokevirtual 205, 3) := by decide +kernel
theorem dX6_weathers_68 : decode mX6_weathers.2.1 68 = .ok (.bipush 100, 2) := by decide +kernel
theorem dX6_weathers_70 : decode mX6_weathers.2.1 70 = .ok (.irem, 1) := by decide +kernel
theorem dX6_weathers_71 : decode mX6_weathers.2.1 71 = .ok (.iastore, 1) := by decide +kernel
theorem dX6_weathers_72 : decode mX6_weathers.2.1 72 = .ok (.aload_n 0, 1) := by decide +kernel
theorem dX6_weathers_73 : decode mX6_weathers.2.1 73 = .ok (.invokevirtual 142, 3) := by decide +kernel
theorem dX6_weathers_76 : decode mX6_weathers.2.1 76 = .ok (.iinc 2 1, 3) := by decide +kernel
theorem dX6_weathers_79 : decode mX6_weathers.2.1 79 = .ok (.goto (-38), 3) := by decide +kernel
theorem dX6_weathers_82 : decode mX6_weathers.2.1 82 = .ok (.aload_n 0, 1) := by decide +kernel
theorem dX6_weathers_83 : decode mX6_weathers.2.1 83 = .ok (.invokevirtual 131, 3) := by decide +kernel
theorem dX6_weathers_86 : decode mX6_weathers.2.1 86 = .ok (.ireturn, 1) := by decide +kernel
theorem dX6_odds_0 : decode mX6_odds.2.1 0 = .ok (.iload_n 1, 1) := by decide +kernel
theorem dX6_odds_1 : decode mX6_odds.2.1 1 = .ok (.i2l, 1) := by decide +kernel
theorem dX6_odds_2 : decode mX6_odds.2.1 2 = .ok (.lconst 0, 1) := by decide +kernel
theorem dX6_odds_3 : decode mX6_odds.2.1 3 = .ok (.ldc2_w 208, 3) := by decide +kernel
theorem dX6_odds_6 : decode mX6_odds.2.1 6 = .ok (.invokestatic 51, 3) := by decide +kernel
theorem dX6_odds_9 : decode mX6_odds.2.1 9 = .ok (.ifCond .eq 13, 3) := by decide +kernel
theorem dX6_odds_12 : decode mX6_odds.2.1 12 = .ok (.iload_n 2, 1) := by decide +kernel
theorem dX6_odds_13 : decode mX6_odds.2.1 13 = .ok (.i2l, 1) := by decide +kernel
theorem dX6_odds_14 : decode mX6_odds.2.1 14 = .ok (.lconst 0, 1) := by decide +kernel
theorem dX6_odds_15 : decode mX6_odds.2.1 15 = .ok (.lconst 1, 1) := by decide +kernel
theorem dX6_odds_16 : decode mX6_odds.2.1 16 = .ok (.invokestatic 51, 3) := by decide +kernel
theorem dX6_odds_19 : decode mX6_odds.2.1 19 = .ok (.ifCond .ne 11, 3) := by decide +kernel
theorem dX6_odds_22 : decode mX6_odds.2.1 22 = .ok (.aload_n 0, 1) := by decide +kernel
theorem dX6_odds_23 : decode mX6_odds.2.1 23 = .ok (.ldc 43, 2) := by decide +kernel
theorem dX6_odds_25 : decode mX6_odds.2.1 25 = .ok (.invokevirtual 45, 3) := by decide +kernel
theorem dX6_odds_28 : decode mX6_odds.2.1 28 = .ok (.i2l, 1) := by decide +kernel
theorem dX6_odds_29 : decode mX6_odds.2.1 29 = .ok (.lreturn, 1) := by decide +kernel
theorem dX6_odds_30 : decode mX6_odds.2.1 30 = .ok (.lconst 1, 1) := by decide +kernel
theorem dX6_odds_31 : decode mX6_odds.2.1 31 = .ok (.lstore_n 3, 1) := by decide +kernel
theorem dX6_odds_32 : decode mX6_odds.2.1 32 = .ok (.iconst 0, 1) := by decide +kernel
theorem dX6_odds_33 : decode mX6_odds.2.1 33 = .ok (.istore 5, 2) := by decide +kernel
theorem dX6_odds_35 : decode mX6_odds.2.1 35 = .ok (.iload 5, 2) := by decide +kernel
theorem dX6_odds_37 : decode mX6_odds.2.1 37 = .ok (.iload_n 1, 1) := by decide +kernel
theorem dX6_odds_38 : decode mX6_odds.2.1 38 = .ok (.if_icmp .ge 25, 3) := by decide +kernel
theorem dX6_odds_41 : decode mX6_odds.2.1 41 = .ok (.lload_n 3, 1) := by decide +kernel
theorem dX6_odds_42 : decode mX6_odds.2.1 42 = .ok (.iload_n 2, 1) := by decide +kernel
theorem dX6_odds_43 : decode mX6_odds.2.1 43 = .ok (.ifCond .ne 9, 3) := by decide +kernel
theorem dX6_odds_46 : decode mX6_odds.2.1 46 = .ok (.ldc2_w 210, 3) := by decide +kernel
theorem dX6_odds_49 : decode mX6_odds.2.1 49 = .ok (.goto 6, 3) := by decide +kernel
theorem dX6_odds_52 : decode mX6_odds.2.1 52 = .ok (.ldc2_w 212, 3) := by decide +kernel
theorem dX6_odds_55 : decode mX6_odds.2.1 55 = .ok (.lmul, 1) := by decide +kernel
theorem dX6_odds_56 : decode mX6_odds.2.1 56 = .ok (.lstore_n 3, 1) := by decide +kernel
theorem dX6_odds_57 : decode mX6_odds.2.1 57 = .ok (.iinc 5 1, 3) := by decide +kernel
theorem dX6_odds_60 : decode mX6_odds.2.1 60 = .ok (.goto (-25), 3) := by decide +kernel
theorem dX6_odds_63 : decode mX6_odds.2.1 63 = .ok (.lload_n 3, 1) := by decide +kernel
theorem dX6_odds_64 : decode mX6_odds.2.1 64 = .ok (.lreturn, 1) := by decide +kernel
theorem dX6_seed_0 : decode mX6_seed.2.1 0 = .ok (.aload_n 0, 1) := by decide +kernel
theorem dX6_seed_1 : decode mX6_seed.2.1 1 = .ok (.iconst 2, 1) := by decide +kernel
theorem dX6_seed_2 : decode mX6_seed.2.1 2 = .ok (.iload_n 1, 1) := by decide +kernel
theorem dX6_seed_3 : decode mX6_seed.2.1 3 = .ok (.invokevirtual 57, 3) := by decide +kernel
theorem dX6_seed_6 : decode mX6_seed.2.1 6 = .ok (.ireturn, 1) := by decide +kernel
theorem dX6_feed_0 : decode mX6_feed.2.1 0 = .ok (.iload_n 2, 1) := by decide +kernel
theorem dX6_feed_1 : decode mX6_feed.2.1 1 = .ok (.i2l, 1) := by decide +kernel
theorem dX6_feed_2 : decode mX6_feed.2.1 2 = .ok (.lconst 1, 1) := by decide +kernel
theorem dX6_feed_3 : decode mX6_feed.2.1 3 = .ok (.ldc2_w 166, 3) := by decide +kernel
theorem dX6_feed_6 : decode mX6_feed.2.1 6 = .ok (.invokestatic 51, 3) := by decide +kernel
theorem dX6_feed_9 : decode mX6_feed.2.1 9 = .ok (.ifCond .ne 10, 3) := by decide +kernel
theorem dX6_feed_12 : decode mX6_feed.2.1 12 = .ok (.aload_n 0, 1) := by decide +kernel
theorem dX6_feed_13 : decode mX6_feed.2.1 13 = .ok (.ldc 43, 2) := by decide +kernel
theorem dX6_feed_15 : decode mX6_feed.2.1 15 = .ok (.invokevirtual 45, 3) := by decide +kernel
theorem dX6_feed_18 : decode mX6_feed.2.1 18 = .ok (.ireturn, 1) := by decide +kernel
theorem dX6_feed_19 : decode mX6_feed.2.1 19 = .ok (.aload_n 0, 1) := by decide +kernel
theorem dX6_feed_20 : decode mX6_feed.2.1 20 = .ok (.getfield 214, 3) := by decide +kernel
theorem dX6_feed_23 : decode mX6_feed.2.1 23 = .ok (.iload_n 2, 1) := by decide +kernel
theorem dX6_feed_24 : decode mX6_feed.2.1 24 = .ok (.iadd, 1) := by decide +kernel
theorem dX6_feed_25 : decode mX6_feed.2.1 25 = .ok (.bipush 120, 2) := by decide +kernel
theorem dX6_feed_27 : decode mX6_feed.2.1 27 = .ok (.if_icmp .le 10, 3) := by decide +kernel
theorem dX6_feed_30 : decode mX6_feed.2.1 30 = .ok (.aload_n 0, 1) := by decide +kernel
theorem dX6_feed_31 : decode mX6_feed.2.1 31 = .ok (.ldc 65, 2) := by decide +kernel
theorem dX6_feed_33 : decode mX6_feed.2.1 33 = .ok (.invokevirtual 45, 3) := by decide +kernel
theorem dX6_feed_36 : decode mX6_feed.2.1 36 = .ok (.ireturn, 1) := by decide +kernel
theorem dX6_feed_37 : decode mX6_feed.2.1 37 = .ok (.iload_n 2, 1) := by decide +kernel
theorem dX6_feed_38 : decode mX6_feed.2.1 38 = .ok (.iconst 1, 1) := by decide +kernel
theorem dX6_feed_39 : decode mX6_feed.2.1 39 = .ok (.isub, 1) := by decide +kernel
theorem dX6_feed_40 : decode mX6_feed.2.1 40 = .ok (.istore_n 3, 1) := by decide +kernel
theorem dX6_feed_41 : decode mX6_feed.2.1 41 = .ok (.iload_n 3, 1) := by decide +kernel
theorem dX6_feed_42 : decode mX6_feed.2.1 42 = .ok (.ifCond .lt 38, 3) := by decide +kernel
theorem dX6_feed_45 : decode mX6_feed.2.1 45 = .ok (.aload_n 0, 1) := by decide +kernel
theorem dX6_feed_46 : decode mX6_feed.2.1 46 = .ok (.getfield 25, 3) := by decide +kernel
theorem dX6_feed_49 : decode mX6_feed.2.1 49 = .ok (.aload_n 0, 1) := by decide +kernel
theorem dX6_feed_50 : decode mX6_feed.2.1 50 = .ok (.getfield 214, 3) := by decide +kernel
theorem dX6_feed_53 : decode mX6_feed.2.1 53 = .ok (.iload_n 1, 1) := by decide +kernel
theorem dX6_feed_54 : decode mX6_feed.2.1 54 = .ok (.bipush 8, 2) := by decide +kernel
theorem dX6_feed_56 : decode mX6_feed.2.1 56 = .ok (.iload_n 3, 1) := by decide +kernel
theorem dX6_feed_57 : decode mX6_feed.2.1 57 = .ok (.imul, 1) := by decide +kernel
theorem dX6_feed_58 : decode mX6_feed.2.1 58 = .ok (.ishr, 1) := by decide +kernel
theorem dX6_feed_59 : decode mX6_feed.2.1 59 = .ok (.sipush 255, 3) := by decide +kernel
theorem dX6_feed_62 : decode mX6_feed.2.1 62 = .ok (.iand, 1) := by decide +kernel
theorem dX6_feed_63 : decode mX6_feed.2.1 63 = .ok (.iastore, 1) := by decide +kernel
theorem dX6_feed_64 : decode mX6_feed.2.1 64 = .ok (.aload_n 0, 1) := by decide +kernel
theorem dX6_feed_65 : decode mX6_feed.2.1 65 = .ok (.dup, 1) := by decide +kernel
theorem dX6_feed_66 : decode mX6_feed.2.1 66 = .ok (.getfield 214, 3) := by decide +kernel
theorem dX6_feed_69 : decode mX6_feed.2.1 69 = .ok (.iconst 1, 1) := by decide +kernel
theorem dX6_feed_70 : decode mX6_feed.2.1 70 = .ok (.iadd, 1) := by decide +kernel
theorem dX6_feed_71 : decode mX6_feed.2.1 71 = .ok (.putfield 214, 3) := by decide +kernel
theorem dX6_feed_74 : decode mX6_feed.2.1 74 = .ok (.iinc 3 (-1), 3) := by decide +kernel
theorem dX6_feed_77 : decode mX6_feed.2.1 77 = .ok (.goto (-36), 3) := by decide +kernel
theorem dX6_feed_80 : decode mX6_feed.2.1 80 = .ok (.aload_n 0, 1) := by decide +kernel
theorem dX6_feed_81 : decode mX6_feed.2.1 81 = .ok (.getfield 214, 3) := by decide +kernel
theorem dX6_feed_84 : decode mX6_feed.2.1 84 = .ok (.ireturn, 1) := by decide +kernel
theorem dX6_wipe_0 : decode mX6_wipe.2.1 0 = .ok (.aload_n 0, 1) := by decide +kernel
theorem dX6_wipe_1 : decode mX6_wipe.2.1 1 = .ok (.getfield 214, 3) := by decide +kernel
theorem dX6_wipe_4 : decode mX6_wipe.2.1 4 = .ok (.istore_n 1, 1) := by decide +kernel
theorem dX6_wipe_5 : decode mX6_wipe.2.1 5 = .ok (.aload_n 0, 1) := by decide +kernel
theorem dX6_wipe_6 : decode mX6_wipe.2.1 6 = .ok (.iconst 0, 1) := by decide +kernel
theorem dX6_wipe_7 : decode mX6_wipe.2.1 7 = .ok (.putfield 214, 3) := by decide +kernel
theorem dX6_wipe_10 : decode mX6_wipe.2.1 10 = .ok (.iload_n 1, 1) := by decide +kernel
theorem dX6_wipe_11 : decode mX6_wipe.2.1 11 = .ok (.ireturn, 1) := by decide +kernel
theorem dX6_isLetter_0 : decode mX6_isLetter.2.1 0 = .ok (.iload_n 0, 1) := by decide +kernel
theorem dX6_isLetter_1 : decode mX6_isLetter.2.1 1 = .ok (.bipush 97, 2) := by decide +kernel
theorem dX6_isLetter_3 : decode mX6_isLetter.2.1 3 = .ok (.if_icmp .lt 13, 3) := by decide +kernel
theorem dX6_isLetter_6 : decode mX6_isLetter.2.1 6 = .ok (.iload_n 0, 1) := by decide +kernel
theorem dX6_isLetter_7 : decode mX6_isLetter.2.1 7 = .ok (.bipush 122, 2) := by decide +kernel
theorem dX6_isLetter_9 : decode mX6_isLetter.2.1 9 = .ok (.if_icmp .gt 7, 3) := by decide +kernel
theorem dX6_isLetter_12 : decode mX6_isLetter.2.1 12 = .ok (.iconst 1, 1) := by decide +kernel
theorem dX6_isLetter_13 : decode mX6_isLetter.2.1 13 = .ok (.goto 4, 3) := by decide +kernel
theorem dX6_isLetter_16 : decode mX6_isLetter.2.1 16 = .ok (.iconst 0, 1) := by decide +kernel
theorem dX6_isLetter_17 : decode mX6_isLetter.2.1 17 = .ok (.ireturn, 1) := by decide +kernel
theorem dX6_isDigit_0 : decode mX6_isDigit.2.1 0 = .ok (.iload_n 0, 1) := by decide +kernel
theorem dX6_isDigit_1 : decode mX6_isDigit.2.1 1 = .ok (.bipush 48, 2) := by decide +kernel
theorem dX6_isDigit_3 : decode mX6_isDigit.2.1 3 = .ok (.if_icmp .lt 13, 3) := by decide +kernel
theorem dX6_isDigit_6 : decode mX6_isDigit.2.1 6 = .ok (.iload_n 0, 1) := by decide +kernel
theorem dX6_isDigit_7 : decode mX6_isDigit.2.1 7 = .ok (.bipush 57, 2) := by decide +kernel
theorem dX6_isDigit_9 : decode mX6_isDigit.2.1 9 = .ok (.if_icmp .gt 7, 3) := by decide +kernel
theorem dX6_isDigit_12 : decode mX6_isDigit.2.1 12 = .ok (.iconst 1, 1) := by decide +kernel
theorem dX6_isDigit_13 : decode mX6_isDigit.2.1 13 = .ok (.goto 4, 3) := by decide +kernel
theorem dX6_isDigit_16 : decode mX6_isDigit.2.1 16 = .ok (.iconst 0, 1) := by decide +kernel
theorem dX6_isDigit_17 : decode mX6_isDigit.2.1 17 = .ok (.ireturn, 1) := by decide +kernel
theorem dX6_byteAt_0 : decode mX6_byteAt.2.1 0 = .ok (.iload_n 1, 1) := by decide +kernel
theorem dX6_byteAt_1 : decode mX6_byteAt.2.1 1 = .ok (.aload_n 0, 1) := by decide +kernel
theorem dX6_byteAt_2 : decode mX6_byteAt.2.1 2 = .ok (.getfield 214, 3) := by decide +kernel
theorem dX6_byteAt_5 : decode mX6_byteAt.2.1 5 = .ok (.if_icmp .ge 12, 3) := by decide +kernel
theorem dX6_byteAt_8 : decode mX6_byteAt.2.1 8 = .ok (.aload_n 0, 1) := by decide +kernel
theorem dX6_byteAt_9 : decode mX6_byteAt.2.1 9 = .ok (.getfield 25, 3) := by decide +kernel
theorem dX6_byteAt_12 : decode mX6_byteAt.2.1 12 = .ok (.iload_n 1, 1) := by decide +kernel
theorem dX6_byteAt_13 : decode mX6_byteAt.2.1 13 = .ok (.iaload, 1) := by decide +kernel
theorem dX6_byteAt_14 : decode mX6_byteAt.2.1 14 = .ok (.goto 4, 3) := by decide +kernel
theorem dX6_byteAt_17 : decode mX6_byteAt.2.1 17 = .ok (.iconst (-1), 1) := by decide +kernel
theorem dX6_byteAt_18 : decode mX6_byteAt.2.1 18 = .ok (.ireturn, 1) := by decide +kernel
theorem dX6_nextToken_0 : decode mX6_nextToken.2.1 0 = .ok (.aload_n 0, 1) := by decide +kernel
theorem dX6_nextToken_1 : decode mX6_nextToken.2.1 1 = .ok (.aload_n 0, 1) := by decide +kernel
theorem dX6_nextToken_2 : decode mX6_nextToken.2.1 2 = .ok (.getfield 217, 3) := by decide +kernel
theorem dX6_nextToken_5 : decode mX6_nextToken.2.1 5 = .ok (.putfield 220, 3) := by decide +kernel
theorem dX6_nextToken_8 : decode mX6_nextToken.2.1 8 = .ok (.aload_n 0, 1) := by decide +kernel
theorem dX6_nextToken_9 : decode mX6_nextToken.2.1 9 = .ok (.aload_n 0, 1) := by decide +kernel
theorem dX6_nextToken_10 : decode mX6_nextToken.2.1 10 = .ok (.getfield 220, 3) := by decide +kernel
theorem dX6_nextToken_13 : decode mX6_nextToken.2.1 13 = .ok (.invokevirtual 223, 3) := by decide +kernel
theorem dX6_nextToken_16 : decode mX6_nextToken.2.1 16 = .ok (.bipush 32, 2) := by decide +kernel
theorem dX6_nextToken_18 : decode mX6_nextToken.2.1 18 = .ok (.if_icmp .ne 16, 3) := by decide +kernel
theorem dX6_nextToken_21 : decode mX6_nextToken.2.1 21 = .ok (.aload_n 0, 1) := by decide +kernel
theorem dX6_nextToken_22 : decode mX6_nextToken.2.1 22 = .ok (.dup, 1) := by decide +kernel
theorem dX6_nextToken_23 : decode mX6_nextToken.2.1 23 = .ok (.getfield 220, 3) := by decide +kernel
theorem dX6_nextToken_26 : decode mX6_nextToken.2.1 26 = .ok (.iconst 1, 1) := by decide +kernel
theorem dX6_nextToken_27 : decode mX6_nextToken.2.1 27 = .ok (.iadd, 1) := by decide +kernel
theorem dX6_nextToken_28 : decode mX6_nextToken.2.1 28 = .ok (.putfield 220, 3) := by decide +kernel
theorem dX6_nextToken_31 : decode mX6_nextToken.2.1 31 = .ok (.goto (-23), 3) := by decide +kernel
theorem dX6_nextToken_34 : decode mX6_nextToken.2.1 34 = .ok (.aload_n 0, 1) := by decide +kernel
theorem dX6_nextToken_35 : decode mX6_nextToken.2.1 35 = .ok (.aload_n 0, 1) := by decide +kernel
theorem dX6_nextToken_36 : decode mX6_nextToken.2.1 36 = .ok (.getfield 220, 3) := by decide +kernel
theorem dX6_nextToken_39 : decode mX6_nextToken.2.1 39 = .ok (.putfield 217, 3) := by decide +kernel
theorem dX6_nextToken_42 : decode mX6_nextToken.2.1 42 = .ok (.aload_n 0, 1) := by decide +kernel
theorem dX6_nextToken_43 : decode mX6_nextToken.2.1 43 = .ok (.aload_n 0, 1) := by decide +kernel
theorem dX6_nextToken_44 : decode mX6_nextToken.2.1 44 = .ok (.getfield 220, 3) := by decide +kernel
theorem dX6_nextToken_47 : decode mX6_nextToken.2.1 47 = .ok (.invokevirtual 223, 3) := by decide +kernel
theorem dX6_nextToken_50 : decode mX6_nextToken.2.1 50 = .ok (.istore_n 1, 1) := by decide +kernel
theorem dX6_nextToken_51 : decode mX6_nextToken.2.1 51 = .ok (.aload_n 0, 1) := by decide +kernel
theorem dX6_nextToken_52 : decode mX6_nextToken.2.1 52 = .ok (.iload_n 1, 1) := by decide +kernel
theorem dX6_nextToken_53 : decode mX6_nextToken.2.1 53 = .ok (.ifCond .ge 7, 3) := by decide +kernel
theorem dX6_nextToken_56 : decode mX6_nextToken.2.1 56 = .ok (.iconst 0, 1) := by decide +kernel
theorem dX6_nextToken_57 : decode mX6_nextToken.2.1 57 = .ok (.goto 46, 3) := by decide +kernel
theorem dX6_nextToken_60 : decode mX6_nextToken.2.1 60 = .ok (.iload_n 1, 1) := by decide +kernel
theorem dX6_nextToken_61 : decode mX6_nextToken.2.1 61 = .ok (.invokestatic 226, 3) := by decide +kernel
theorem dX6_nextToken_64 : decode mX6_nextToken.2.1 64 = .ok (.ifCond .eq 7, 3) := by decide +kernel
theorem dX6_nextToken_67 : decode mX6_nextToken.2.1 67 = .ok (.iconst 1, 1) := by decide +kernel
theorem dX6_nextToken_68 : decode mX6_nextToken.2.1 68 = .ok (.goto 35, 3) := by decide +kernel
theorem dX6_nextToken_71 : decode mX6_nextToken.2.1 71 = .ok (.iload_n 1, 1) := by decide +kernel
theorem dX6_nextToken_72 : decode mX6_nextToken.2.1 72 = .ok (.invokestatic 229, 3) := by decide +kernel
theorem dX6_nextToken_75 : decode mX6_nextToken.2.1 75 = .ok (.ifCond .eq 7, 3) := by decide +kernel
theorem dX6_nextToken_78 : decode mX6_nextToken.2.1 78 = .ok (.iconst 2, 1) := by decide +kernel
theorem dX6_nextToken_79 : decode mX6_nextToken.2.1 79 = .ok (.goto 24, 3) := by decide +kernel
theorem dX6_nextToken_82 : decode mX6_nextToken.2.1 82 = .ok (.iload_n 1, 1) := by decide +kernel
theorem dX6_nextToken_83 : decode mX6_nextToken.2.1 83 = .ok (.bipush 59, 2) := by decide +kernel
theorem dX6_nextToken_85 : decode mX6_nextToken.2.1 85 = .ok (.if_icmp .ne 7, 3) := by decide +kernel
theorem dX6_nextToken_88 : decode mX6_nextToken.2.1 88 = .ok (.iconst 3, 1) := by decide +kernel
theorem dX6_nextToken_89 : decode mX6_nextToken.2.1 89 = .ok (.goto 14, 3) := by decide +kernel
theorem dX6_nextToken_92 : decode mX6_nextToken.2.1 92 = .ok (.iload_n 1, 1) := by decide +kernel
theorem dX6_nextToken_93 : decode mX6_nextToken.2.1 93 = .ok (.bipush 45, 2) := by decide +kernel
theorem dX6_nextToken_95 : decode mX6_nextToken.2.1 95 = .ok (.if_icmp .ne 7, 3) := by decide +kernel
theorem dX6_nextToken_98 : decode mX6_nextToken.2.1 98 = .ok (.iconst 5, 1) := by decide +kernel
theorem dX6_nextToken_99 : decode mX6_nextToken.2.1 99 = .ok (.goto 4, 3) := by decide +kernel
theorem dX6_nextToken_102 : decode mX6_nextToken.2.1 102 = .ok (.iconst 4, 1) := by decide +kernel
theorem dX6_nextToken_103 : decode mX6_nextToken.2.1 103 = .ok (.putfield 232, 3) := by decide +kernel
theorem dX6_nextToken_106 : decode mX6_nextToken.2.1 106 = .ok (.aload_n 0, 1) := by decide +kernel
theorem dX6_nextToken_107 : decode mX6_nextToken.2.1 107 = .ok (.iconst 0, 1) := by decide +kernel
theorem dX6_nextToken_108 : decode mX6_nextToken.2.1 108 = .ok (.putfield 235, 3) := by decide +kernel
theorem dX6_nextToken_111 : decode mX6_nextToken.2.1 111 = .ok (.aload_n 0, 1) := by decide +kernel
theorem dX6_nextToken_112 : decode mX6_nextToken.2.1 112 = .ok (.getfield 232, 3) := by decide +kernel
theorem dX6_nextToken_115 : decode mX6_nextToken.2.1 115 = .ok (.iconst 1, 1) := by decide +kernel
theorem dX6_nextToken_116 : decode mX6_nextToken.2.1 116 = .ok (.if_icmp .ne 30, 3) := by decide +kernel
theorem dX6_nextToken_119 : decode mX6_nextToken.2.1 119 = .ok (.aload_n 0, 1) := by decide +kernel
theorem dX6_nextToken_120 : decode mX6_nextToken.2.1 120 = .ok (.aload_n 0, 1) := by decide +kernel
theorem dX6_nextToken_121 : decode mX6_nextToken.2.1 121 = .ok (.getfield 217, 3) := by decide +kernel
theorem dX6_nextToken_124 : decode mX6_nextToken.2.1 124 = .ok (.invokevirtual 223, 3) := by decide +kernel
theorem dX6_nextToken_127 : decode mX6_nextToken.2.1 127 = .ok (.invokestatic 226, 3) := by decide +kernel
theorem dX6_nextToken_130 : decode mX6_nextToken.2.1 130 = .ok (.ifCond .eq 16, 3) := by decide +kernel
theorem dX6_nextToken_133 : decode mX6_nextToken.2.1 133 = .ok (.aload_n 0, 1) := by decide +kernel
theorem dX6_nextToken_134 : decode mX6_nextToken.2.1 134 = .ok (.dup, 1) := by decide +kernel
theorem dX6_nextToken_135 : decode mX6_nextToken.2.1 135 = .ok (.getfield 217, 3) := by decide +kernel
theorem dX6_nextToken_138 : decode mX6_nextToken.2.1 138 = .ok (.iconst 1, 1) := by decide +kernel
theorem dX6_nextToken_139 : decode mX6_nextToken.2.1 139 = .ok (.iadd, 1) := by decide +kernel
theorem dX6_nextToken_140 : decode mX6_nextToken.2.1 140 = .ok (.putfield 217, 3) := by decide +kernel
theorem dX6_nextToken_143 : decode mX6_nextToken.2.1 143 = .ok (.goto (-32), 3) := by decide +kernel
theorem dX6_nextToken_146 : decode mX6_nextToken.2.1 146 = .ok (.aload_n 0, 1) := by decide +kernel
theorem dX6_nextToken_147 : decode mX6_nextToken.2.1 147 = .ok (.getfield 232, 3) := by decide +kernel
theorem dX6_nextToken_150 : decode mX6_nextToken.2.1 150 = .ok (.iconst 2, 1) := by decide +kernel
theorem dX6_nextToken_151 : decode mX6_nextToken.2.1 151 = .ok (.if_icmp .ne 70, 3) := by decide +kernel
theorem dX6_nextToken_154 : decode mX6_nextToken.2.1 154 = .ok (.aload_n 0, 1) := by decide +kernel
theorem dX6_nextToken_155 : decode mX6_nextToken.2.1 155 = .ok (.aload_n 0, 1) := by decide +kernel
theorem dX6_nextToken_156 : decode mX6_nextToken.2.1 156 = .ok (.getfield 217, 3) := by decide +kernel
theorem dX6_nextToken_159 : decode mX6_nextToken.2.1 159 = .ok (.invokevirtual 223, 3) := by decide +kernel
theorem dX6_nextToken_162 : decode mX6_nextToken.2.1 162 = .ok (.invokestatic 229, 3) := by decide +kernel
theorem dX6_nextToken_165 : decode mX6_nextToken.2.1 165 = .ok (.ifCond .eq 56, 3) := by decide +kernel
theorem dX6_nextToken_168 : decode mX6_nextToken.2.1 168 = .ok (.aload_n 0, 1) := by decide +kernel
theorem dX6_nextToken_169 : decode mX6_nextToken.2.1 169 = .ok (.aload_n 0, 1) := by decide +kernel
theorem dX6_nextToken_170 : decode mX6_nextToken.2.1 170 = .ok (.getfield 235, 3) := by decide +kernel
theorem dX6_nextToken_173 : decode mX6_nextToken.2.1 173 = .ok (.sipush 999, 3) := by decide +kernel
theorem dX6_nextToken_176 : decode mX6_nextToken.2.1 176 = .ok (.if_icmp .le 10, 3) := by decide +kernel
theorem dX6_nextToken_179 : decode mX6_nextToken.2.1 179 = .ok (.aload_n 0, 1) := by decide +kernel
theorem dX6_nextToken_180 : decode mX6_nextToken.2.1 180 = .ok (.getfield 235, 3) := by decide +kernel
theorem dX6_nextToken_183 : decode mX6_nextToken.2.1 183 = .ok (.goto 22, 3) := by decide +kernel
theorem dX6_nextToken_186 : decode mX6_nextToken.2.1 186 = .ok (.bipush 10, 2) := by decide +kernel
theorem dX6_nextToken_188 : decode mX6_nextToken.2.1 188 = .ok (.aload_n 0, 1) := by decide +kernel
theorem dX6_nextToken_189 : decode mX6_nextToken.2.1 189 = .ok (.getfield 235, 3) := by decide +kernel
theorem dX6_nextToken_192 : decode mX6_nextToken.2.1 192 = .ok (.imul, 1) := by decide +kernel
theorem dX6_nextToken_193 : decode mX6_nextToken.2.1 193 = .ok (.aload_n 0, 1) := by decide +kernel
theorem dX6_nextToken_194 : decode mX6_nextToken.2.1 194 = .ok (.aload_n 0, 1) := by decide +kernel
theorem dX6_nextToken_195 : decode mX6_nextToken.2.1 195 = .ok (.getfield 217, 3) := by decide +kernel
theorem dX6_nextToken_198 : decode mX6_nextToken.2.1 198 = .ok (.invokevirtual 223, 3) := by decide +kernel
theorem dX6_nextToken_201 : decode mX6_nextToken.2.1 201 = .ok (.iadd, 1) := by decide +kernel
theorem dX6_nextToken_202 : decode mX6_nextToken.2.1 202 = .ok (.bipush 48, 2) := by decide +kernel
theorem dX6_nextToken_204 : decode mX6_nextToken.2.1 204 = .ok (.isub, 1) := by decide +kernel
theorem dX6_nextToken_205 : decode mX6_nextToken.2.1 205 = .ok (.putfield 235, 3) := by decide +kernel
theorem dX6_nextToken_208 : decode mX6_nextToken.2.1 208 = .ok (.aload_n 0, 1) := by decide +kernel
theorem dX6_nextToken_209 : decode mX6_nextToken.2.1 209 = .ok (.dup, 1) := by decide +kernel
theorem dX6_nextToken_210 : decode mX6_nextToken.2.1 210 = .ok (.getfield 217, 3) := by decide +kernel
theorem dX6_nextToken_213 : decode mX6_nextToken.2.1 213 = .ok (.iconst 1, 1) := by decide +kernel
theorem dX6_nextToken_214 : decode mX6_nextToken.2.1 214 = .ok (.iadd, 1) := by decide +kernel
theorem dX6_nextToken_215 : decode mX6_nextToken.2.1 215 = .ok (.putfield 217, 3) := by decide +kernel
theorem dX6_nextToken_218 : decode mX6_nextToken.2.1 218 = .ok (.goto (-72), 3) := by decide +kernel
theorem dX6_nextToken_221 : decode mX6_nextToken.2.1 221 = .ok (.aload_n 0, 1) := by decide +kernel
theorem dX6_nextToken_222 : decode mX6_nextToken.2.1 222 = .ok (.dup, 1) := by decide +kernel
theorem dX6_nextToken_223 : decode mX6_nextToken.2.1 223 = .ok (.getfield 217, 3) := by decide +kernel
theorem dX6_nextToken_226 : decode mX6_nextToken.2.1 226 = .ok (.aload_n 0, 1) := by decide +kernel
theorem dX6_nextToken_227 : decode mX6_nextToken.2.1 227 = .ok (.getfield 232, 3) := by decide +kernel
theorem dX6_nextToken_230 : decode mX6_nextToken.2.1 230 = .ok (.iconst 2, 1) := by decide +kernel
theorem dX6_nextToken_231 : decode mX6_nextToken.2.1 231 = .ok (.if_icmp .le 7, 3) := by decide +kernel
theorem dX6_nextToken_234 : decode mX6_nextToken.2.1 234 = .ok (.iconst 1, 1) := by decide +kernel
theorem dX6_nextToken_235 : decode mX6_nextToken.2.1 235 = .ok (.goto 4, 3) := by decide +kernel
theorem dX6_nextToken_238 : decode mX6_nextToken.2.1 238 = .ok (.iconst 0, 1) := by decide +kernel
theorem dX6_nextToken_239 : decode mX6_nextToken.2.1 239 = .ok (.iadd, 1) := by decide +kernel
theorem dX6_nextToken_240 : decode mX6_nextToken.2.1 240 = .ok (.putfield 217, 3) := by decide +kernel
theorem dX6_nextToken_243 : decode mX6_nextToken.2.1 243 = .ok (.return_, 1) := by decide +kernel
theorem dX6_has3_0 : decode mX6_has3.2.1 0 = .ok (.aload_n 0, 1) := by decide +kernel
theorem dX6_has3_1 : decode mX6_has3.2.1 1 = .ok (.aload_n 0, 1) := by decide +kernel
theorem dX6_has3_2 : decode mX6_has3.2.1 2 = .ok (.getfield 220, 3) := by decide +kernel
theorem dX6_has3_5 : decode mX6_has3.2.1 5 = .ok (.iload_n 1, 1) := by decide +kernel
theorem dX6_has3_6 : decode mX6_has3.2.1 6 = .ok (.iadd, 1) := by decide +kernel
theorem dX6_has3_7 : decode mX6_has3.2.1 7 = .ok (.invokevirtual 223, 3) := by decide +kernel
theorem dX6_has3_10 : decode mX6_has3.2.1 10 = .ok (.iload_n 2, 1) := by decide +kernel
theorem dX6_has3_11 : decode mX6_has3.2.1 11 = .ok (.if_icmp .ne 40, 3) := by decide +kernel
theorem dX6_has3_14 : decode mX6_has3.2.1 14 = .ok (.aload_n 0, 1) := by decide +kernel
theorem dX6_has3_15 : decode mX6_has3.2.1 15 = .ok (.aload_n 0, 1) := by decide +kernel
theorem dX6_has3_16 : decode mX6_has3.2.1 16 = .ok (.getfield 220, 3) := by decide +kernel
theorem dX6_has3_19 : decode mX6_has3.2.1 19 = .ok (.iload_n 1, 1) := by decide +kernel
theorem dX6_has3_20 : decode mX6_has3.2.1 20 = .ok (.iadd, 1) := by decide +kernel
theorem dX6_has3_21 : decode mX6_has3.2.1 21 = .ok (.iconst 1, 1) := by decide +kernel
theorem dX6_has3_22 : decode mX6_has3.2.1 22 = .ok (.iadd, 1) := by decide +kernel
theorem dX6_has3_23 : decode mX6_has3.2.1 23 = .ok (.invokevirtual 223, 3) := by decide +kernel
theorem dX6_has3_26 : decode mX6_has3.2.1 26 = .ok (.iload_n 3, 1) := by decide +kernel
theorem dX6_has3_27 : decode mX6_has3.2.1 27 = .ok (.if_icmp .ne 24, 3) := by decide +kernel
theorem dX6_has3_30 : decode mX6_has3.2.1 30 = .ok (.aload_n 0, 1) := by decide +kernel
theorem dX6_has3_31 : decode mX6_has3.2.1 31 = .ok (.aload_n 0, 1) := by decide +kernel
theorem dX6_has3_32 : decode mX6_has3.2.1 32 = .ok (.getfield 220, 3) := by decide +kernel
theorem dX6_has3_35 : decode mX6_has3.2.1 35 = .ok (.iload_n 1, 1) := by decide +kernel
theorem dX6_has3_36 : decode mX6_has3.2.1 36 = .ok (.iadd, 1) := by decide +kernel
theorem dX6_has3_37 : decode mX6_has3.2.1 37 = .ok (.iconst 2, 1) := by decide +kernel
theorem dX6_has3_38 : decode mX6_has3.2.1 38 = .ok (.iadd, 1) := by decide +kernel
theorem dX6_has3_39 : decode mX6_has3.2.1 39 = .ok (.invokevirtual 223, 3) := by decide +kernel
theorem dX6_has3_42 : decode mX6_has3.2.1 42 = .ok (.iload 4, 2) := by decide +kernel
theorem dX6_has3_44 : decode mX6_has3.2.1 44 = .ok (.if_icmp .ne 7, 3) := by decide +kernel
theorem dX6_has3_47 : decode mX6_has3.2.1 47 = .ok (.iconst 1, 1) := by decide +kernel
theorem dX6_has3_48 : decode mX6_has3.2.1 48 = .ok (.goto 4, 3) := by decide +kernel
theorem dX6_has3_51 : decode mX6_has3.2.1 51 = .ok (.iconst 0, 1) := by decide +kernel
theorem dX6_has3_52 : decode mX6_has3.2.1 52 = .ok (.ireturn, 1) := by decide +kernel
theorem dX6_isWord_0 : decode mX6_isWord.2.1 0 = .ok (.aload_n 0, 1) := by decide +kernel
theorem dX6_isWord_1 : decode mX6_isWord.2.1 1 = .ok (.getfield 232, 3) := by decide +kernel
theorem dX6_isWord_4 : decode mX6_isWord.2.1 4 = .ok (.iconst 1, 1) := by decide +kernel
theorem dX6_isWord_5 : decode mX6_isWord.2.1 5 = .ok (.if_icmp .ne 20, 3) := by decide +kernel
theorem dX6_isWord_8 : decode mX6_isWord.2.1 8 = .ok (.aload_n 0, 1) := by decide +kernel
theorem dX6_isWord_9 : decode mX6_isWord.2.1 9 = .ok (.getfield 217, 3) := by decide +kernel
theorem dX6_isWord_12 : decode mX6_isWord.2.1 12 = .ok (.aload_n 0, 1) := by decide +kernel
theorem dX6_isWord_13 : decode mX6_isWord.2.1 13 = .ok (.getfield 220, 3) := by decide +kernel
theorem dX6_isWord_16 : decode mX6_isWord.2.1 16 = .ok (.isub, 1) := by decide +kernel
theorem dX6_isWord_17 : decode mX6_isWord.2.1 17 = .ok (.iload_n 1, 1) := by decide +kernel
theorem dX6_isWord_18 : decode mX6_isWord.2.1 18 = .ok (.if_icmp .ne 7, 3) := by decide +kernel
theorem dX6_isWord_21 : decode mX6_isWord.2.1 21 = .ok (.iconst 1, 1) := by decide +kernel
theorem dX6_isWord_22 : decode mX6_isWord.2.1 22 = .ok (.goto 4, 3) := by decide +kernel
theorem dX6_isWord_25 : decode mX6_isWord.2.1 25 = .ok (.iconst 0, 1) := by decide +kernel
theorem dX6_isWord_26 : decode mX6_isWord.2.1 26 = .ok (.ireturn, 1) := by decide +kernel
theorem dX6_fails_0 : decode mX6_fails.2.1 0 = .ok (.aload_n 0, 1) := by decide +kernel
theorem dX6_fails_1 : decode mX6_fails.2.1 1 = .ok (.aload_n 0, 1) := by decide +kernel
theorem dX6_fails_2 : decode mX6_fails.2.1 2 = .ok (.getfield 220, 3) := by decide +kernel
theorem dX6_fails_5 : decode mX6_fails.2.1 5 = .ok (.putfield 238, 3) := by decide +kernel
theorem dX6_fails_8 : decode mX6_fails.2.1 8 = .ok (.iconst 0, 1) := by decide +kernel
theorem dX6_fails_9 : decode mX6_fails.2.1 9 = .ok (.ireturn, 1) := by decide +kernel
theorem dX6_isFour_0 : decode mX6_isFour.2.1 0 = .ok (.aload_n 0, 1) := by decide +kernel
theorem dX6_isFour_1 : decode mX6_isFour.2.1 1 = .ok (.iconst 4, 1) := by decide +kernel
theorem dX6_isFour_2 : decode mX6_isFour.2.1 2 = .ok (.invokevirtual 241, 3) := by decide +kernel
theorem dX6_isFour_5 : decode mX6_isFour.2.1 5 = .ok (.ifCond .eq 30, 3) := by decide +kernel
theorem dX6_isFour_8 : decode mX6_isFour.2.1 8 = .ok (.aload_n 0, 1) := by decide +kernel
theorem dX6_isFour_9 : decode mX6_isFour.2.1 9 = .ok (.iconst 0, 1) := by decide +kernel
theorem dX6_isFour_10 : decode mX6_isFour.2.1 10 = .ok (.iload_n 1, 1) := by decide +kernel
theorem dX6_isFour_11 : decode mX6_isFour.2.1 11 = .ok (.iload_n 2, 1) := by decide +kernel
theorem dX6_isFour_12 : decode mX6_isFour.2.1 12 = .ok (.iload_n 3, 1) := by decide +kernel
theorem dX6_isFour_13 : decode mX6_isFour.2.1 13 = .ok (.invokevirtual 244, 3) := by decide +kernel
theorem dX6_isFour_16 : decode mX6_isFour.2.1 16 = .ok (.ifCond .eq 19, 3) := by decide +kernel
theorem dX6_isFour_19 : decode mX6_isFour.2.1 19 = .ok (.aload_n 0, 1) := by decide +kernel
theorem dX6_isFour_20 : decode mX6_isFour.2.1 20 = .ok (.iconst 1, 1) := by decide +kernel
theorem dX6_isFour_21 : decode mX6_isFour.2.1 21 = .ok (.iload_n 2, 1) := by decide +kernel
theorem dX6_isFour_22 : decode mX6_isFour.2.1 22 = .ok (.iload_n 3, 1) := by decide +kernel
theorem dX6_isFour_23 : decode mX6_isFour.2.1 23 = .ok (.iload 4, 2) := by decide +kernel
theorem dX6_isFour_25 : decode mX6_isFour.2.1 25 = .ok (.invokevirtual 244, 3) := by decide +kernel
theorem dX6_isFour_28 : decode mX6_isFour.2.1 28 = .ok (.ifCond .eq 7, 3) := by decide +kernel
theorem dX6_isFour_31 : decode mX6_isFour.2.1 31 = .ok (.iconst 1, 1) := by decide +kernel
theorem dX6_isFour_32 : decode mX6_isFour.2.1 32 = .ok (.goto 4, 3) := by decide +kernel
theorem dX6_isFour_35 : decode mX6_isFour.2.1 35 = .ok (.iconst 0, 1) := by decide +kernel
theorem dX6_isFour_36 : decode mX6_isFour.2.1 36 = .ok (.ireturn, 1) := by decide +kernel
theorem dX6_isFive_0 : decode mX6_isFive.2.1 0 = .ok (.aload_n 0, 1) := by decide +kernel
theorem dX6_isFive_1 : decode mX6_isFive.2.1 1 = .ok (.iconst 5, 1) := by decide +kernel
theorem dX6_isFive_2 : decode mX6_isFive.2.1 2 = .ok (.invokevirtual 241, 3) := by decide +kernel
theorem dX6_isFive_5 : decode mX6_isFive.2.1 5 = .ok (.ifCond .eq 31, 3) := by decide +kernel
theorem dX6_isFive_8 : decode mX6_isFive.2.1 8 = .ok (.aload_n 0, 1) := by decide +kernel
theorem dX6_isFive_9 : decode mX6_isFive.2.1 9 = .ok (.iconst 0, 1) := by decide +kernel
theorem dX6_isFive_10 : decode mX6_isFive.2.1 10 = .ok (.iload_n 1, 1) := by decide +kernel
theorem dX6_isFive_11 : decode mX6_isFive.2.1 11 = .ok (.iload_n 2, 1) := by decide +kernel
theorem dX6_isFive_12 : decode mX6_isFive.2.1 12 = .ok (.iload_n 3, 1) := by decide +kernel
theorem dX6_isFive_13 : decode mX6_isFive.2.1 13 = .ok (.invokevirtual 244, 3) := by decide +kernel
theorem dX6_isFive_16 : decode mX6_isFive.2.1 16 = .ok (.ifCond .eq 20, 3) := by decide +kernel
theorem dX6_isFive_19 : decode mX6_isFive.2.1 19 = .ok (.aload_n 0, 1) := by decide +kernel
theorem dX6_isFive_20 : decode mX6_isFive.2.1 20 = .ok (.iconst 2, 1) := by decide +kernel
theorem dX6_isFive_21 : decode mX6_isFive.2.1 21 = .ok (.iload_n 3, 1) := by decide +kernel
theorem dX6_isFive_22 : decode mX6_isFive.2.1 22 = .ok (.iload 4, 2) := by decide +kernel
theorem dX6_isFive_24 : decode mX6_isFive.2.1 24 = .ok (.iload 5, 2) := by decide +kernel
theorem dX6_isFive_26 : decode mX6_isFive.2.1 26 = .ok (.invokevirtual 244, 3) := by decide +kernel
theorem dX6_isFive_29 : decode mX6_isFive.2.1 29 = .ok (.ifCond .eq 7, 3) := by decide +kernel
theorem dX6_isFive_32 : decode mX6_isFive.2.1 32 = .ok (.iconst 1, 1) := by decide +kernel
theorem dX6_isFive_33 : decode mX6_isFive.2.1 33 = .ok (.goto 4, 3) := by decide +kernel
theorem dX6_isFive_36 : decode mX6_isFive.2.1 36 = .ok (.iconst 0, 1) := by decide +kernel
theorem dX6_isFive_37 : decode mX6_isFive.2.1 37 = .ok (.ireturn, 1) := by decide +kernel
theorem dX6_isSix_0 : decode mX6_isSix.2.1 0 = .ok (.aload_n 0, 1) := by decide +kernel
theorem dX6_isSix_1 : decode mX6_isSix.2.1 1 = .ok (.bipush 6, 2) := by decide +kernel
theorem dX6_isSix_3 : decode mX6_isSix.2.1 3 = .ok (.invokevirtual 241, 3) := by decide +kernel
theorem dX6_isSix_6 : decode mX6_isSix.2.1 6 = .ok (.ifCond .eq 32, 3) := by decide +kernel
theorem dX6_isSix_9 : decode mX6_isSix.2.1 9 = .ok (.aload_n 0, 1) := by decide +kernel
theorem dX6_isSix_10 : decode mX6_isSix.2.1 10 = .ok (.iconst 0, 1) := by decide +kernel
theorem dX6_isSix_11 : decode mX6_isSix.2.1 11 = .ok (.iload_n 1, 1) := by decide +kernel
theorem dX6_isSix_12 : decode mX6_isSix.2.1 12 = .ok (.iload_n 2, 1) := by decide +kernel
theorem dX6_isSix_13 : decode mX6_isSix.2.1 13 = .ok (.iload_n 3, 1) := by decide +kernel
theorem dX6_isSix_14 : decode mX6_isSix.2.1 14 = .ok (.invokevirtual 244, 3) := by decide +kernel
theorem dX6_isSix_17 : decode mX6_isSix.2.1 17 = .ok (.ifCond .eq 21, 3) := by decide +kernel
theorem dX6_isSix_20 : decode mX6_isSix.2.1 20 = .ok (.aload_n 0, 1) := by decide +kernel
theorem dX6_isSix_21 : decode mX6_isSix.2.1 21 = .ok (.iconst 3, 1) := by decide +kernel
theorem dX6_isSix_22 : decode mX6_isSix.2.1 22 = .ok (.iload 4, 2) := by decide +kernel
theorem dX6_isSix_24 : decode mX6_isSix.2.1 24 = .ok (.iload 5, 2) := by decide +kernel
theorem dX6_isSix_26 : decode mX6_isSix.2.1 26 = .ok (.iload 6, 2) := by decide +kernel
theorem dX6_isSix_28 : decode mX6_isSix.2.1 28 = .ok (.invokevirtual 244, 3) := by decide +kernel
theorem dX6_isSix_31 : decode mX6_isSix.2.1 31 = .ok (.ifCond .eq 7, 3) := by decide +kernel
theorem dX6_isSix_34 : decode mX6_isSix.2.1 34 = .ok (.iconst 1, 1) := by decide +kernel
theorem dX6_isSix_35 : decode mX6_isSix.2.1 35 = .ok (.goto 4, 3) := by decide +kernel
theorem dX6_isSix_38 : decode mX6_isSix.2.1 38 = .ok (.iconst 0, 1) := by decide +kernel
theorem dX6_isSix_39 : decode mX6_isSix.2.1 39 = .ok (.ireturn, 1) := by decide +kernel
theorem dX6_isNumber_0 : decode mX6_isNumber.2.1 0 = .ok (.aload_n 0, 1) := by decide +kernel
theorem dX6_isNumber_1 : decode mX6_isNumber.2.1 1 = .ok (.getfield 232, 3) := by decide +kernel
theorem dX6_isNumber_4 : decode mX6_isNumber.2.1 4 = .ok (.iconst 2, 1) := by decide +kernel
theorem dX6_isNumber_5 : decode mX6_isNumber.2.1 5 = .ok (.if_icmp .ne 18, 3) := by decide +kernel
theorem dX6_isNumber_8 : decode mX6_isNumber.2.1 8 = .ok (.aload_n 0, 1) := by decide +kernel
theorem dX6_isNumber_9 : decode mX6_isNumber.2.1 9 = .ok (.getfield 235, 3) := by decide +kernel
theorem dX6_isNumber_12 : decode mX6_isNumber.2.1 12 = .ok (.i2l, 1) := by decide +kernel
theorem dX6_isNumber_13 : decode mX6_isNumber.2.1 13 = .ok (.iload_n 1, 1) := by decide +kernel
theorem dX6_isNumber_14 : decode mX6_isNumber.2.1 14 = .ok (.i2l, 1) := by decide +kernel
theorem dX6_isNumber_15 : decode mX6_isNumber.2.1 15 = .ok (.iload_n 2, 1) := by decide +kernel
theorem dX6_isNumber_16 : decode mX6_isNumber.2.1 16 = .ok (.i2l, 1) := by decide +kernel
theorem dX6_isNumber_17 : decode mX6_isNumber.2.1 17 = .ok (.invokestatic 51, 3) := by decide +kernel
theorem dX6_isNumber_20 : decode mX6_isNumber.2.1 20 = .ok (.ifCond .ne 10, 3) := by decide +kernel
theorem dX6_isNumber_23 : decode mX6_isNumber.2.1 23 = .ok (.aload_n 0, 1) := by decide +kernel
theorem dX6_isNumber_24 : decode mX6_isNumber.2.1 24 = .ok (.invokevirtual 248, 3) := by decide +kernel
theorem dX6_isNumber_27 : decode mX6_isNumber.2.1 27 = .ok (.ifCond .eq 7, 3) := by decide +kernel
theorem dX6_isNumber_30 : decode mX6_isNumber.2.1 30 = .ok (.iconst 1, 1) := by decide +kernel
theorem dX6_isNumber_31 : decode mX6_isNumber.2.1 31 = .ok (.goto 4, 3) := by decide +kernel
theorem dX6_isNumber_34 : decode mX6_isNumber.2.1 34 = .ok (.iconst 0, 1) := by decide +kernel
theorem dX6_isNumber_35 : decode mX6_isNumber.2.1 35 = .ok (.ireturn, 1) := by decide +kernel
theorem dX6_kindHere_0 : decode mX6_kindHere.2.1 0 = .ok (.aload_n 0, 1) := by decide +kernel
theorem dX6_kindHere_1 : decode mX6_kindHere.2.1 1 = .ok (.bipush 102, 2) := by decide +kernel
theorem dX6_kindHere_3 : decode mX6_kindHere.2.1 3 = .ok (.bipush 97, 2) := by decide +kernel
theorem dX6_kindHere_5 : decode mX6_kindHere.2.1 5 = .ok (.bipush 114, 2) := by decide +kernel
theorem dX6_kindHere_7 : decode mX6_kindHere.2.1 7 = .ok (.bipush 109, 2) := by decide +kernel
theorem dX6_kindHere_9 : decode mX6_kindHere.2.1 9 = .ok (.invokevirtual 252, 3) := by decide +kernel
theorem dX6_kindHere_12 : decode mX6_kindHere.2.1 12 = .ok (.ifCond .eq 5, 3) := by decide +kernel
theorem dX6_kindHere_15 : decode mX6_kindHere.2.1 15 = .ok (.iconst 0, 1) := by decide +kernel
theorem dX6_kindHere_16 : decode mX6_kindHere.2.1 16 = .ok (.ireturn, 1) := by decide +kernel
theorem dX6_kindHere_17 : decode mX6_kindHere.2.1 17 = .ok (.aload_n 0, 1) := by decide +kernel
theorem dX6_kindHere_18 : decode mX6_kindHere.2.1 18 = .ok (.bipush 108, 2) := by decide +kernel
theorem dX6_kindHere_20 : decode mX6_kindHere.2.1 20 = .ok (.bipush 97, 2) := by decide +kernel
theorem dX6_kindHere_22 : decode mX6_kindHere.2.1 22 = .ok (.bipush 109, 2) := by decide +kernel
theorem dX6_kindHere_24 : decode mX6_kindHere.2.1 24 = .ok (.bipush 101, 2) := by decide +kernel
theorem dX6_kindHere_26 : decode mX6_kindHere.2.1 26 = .ok (.invokevirtual 252, 3) := by decide +kernel
theorem dX6_kindHere_29 : decode mX6_kindHere.2.1 29 = .ok (.ifCond .eq 5, 3) := by decide +kernel
theorem dX6_kindHere_32 : decode mX6_kindHere.2.1 32 = .ok (.iconst 1, 1) := by decide +kernel
theorem dX6_kindHere_33 : decode mX6_kindHere.2.1 33 = .ok (.ireturn, 1) := by decide +kernel
theorem dX6_kindHere_34 : decode mX6_kindHere.2.1 34 = .ok (.aload_n 0, 1) := by decide +kernel
theorem dX6_kindHere_35 : decode mX6_kindHere.2.1 35 = .ok (.bipush 112, 2) := by decide +kernel
theorem dX6_kindHere_37 : decode mX6_kindHere.2.1 37 = .ok (.bipush 114, 2) := by decide +kernel
theorem dX6_kindHere_39 : decode mX6_kindHere.2.1 39 = .ok (.bipush 111, 2) := by decide +kernel
theorem dX6_kindHere_41 : decode mX6_kindHere.2.1 41 = .ok (.bipush 117, 2) := by decide +kernel
theorem dX6_kindHere_43 : decode mX6_kindHere.2.1 43 = .ok (.bipush 100, 2) := by decide +kernel
theorem dX6_kindHere_45 : decode mX6_kindHere.2.1 45 = .ok (.invokevirtual 255, 3) := by decide +kernel
theorem dX6_kindHere_48 : decode mX6_kindHere.2.1 48 = .ok (.ifCond .eq 5, 3) := by decide +kernel
theorem dX6_kindHere_51 : decode mX6_kindHere.2.1 51 = .ok (.iconst 2, 1) := by decide +kernel
theorem dX6_kindHere_52 : decode mX6_kindHere.2.1 52 = .ok (.ireturn, 1) := by decide +kernel
theorem dX6_kindHere_53 : decode mX6_kindHere.2.1 53 = .ok (.aload_n 0, 1) := by decide +kernel
theorem dX6_kindHere_54 : decode mX6_kindHere.2.1 54 = .ok (.iconst 3, 1) := by decide +kernel
theorem dX6_kindHere_55 : decode mX6_kindHere.2.1 55 = .ok (.invokevirtual 241, 3) := by decide +kernel
theorem dX6_kindHere_58 : decode mX6_kindHere.2.1 58 = .ok (.ifCond .eq 19, 3) := by decide +kernel
theorem dX6_kindHere_61 : decode mX6_kindHere.2.1 61 = .ok (.aload_n 0, 1) := by decide +kernel
theorem dX6_kindHere_62 : decode mX6_kindHere.2.1 62 = .ok (.iconst 0, 1) := by decide +kernel
theorem dX6_kindHere_63 : decode mX6_kindHere.2.1 63 = .ok (.bipush 115, 2) := by decide +kernel
theorem dX6_kindHere_65 : decode mX6_kindHere.2.1 65 = .ok (.bipush 108, 2) := by decide +kernel
theorem dX6_kindHere_67 : decode mX6_kindHere.2.1 67 = .ok (.bipush 121, 2) := by decide +kernel
theorem dX6_kindHere_69 : decode mX6_kindHere.2.1 69 = .ok (.invokevirtual 244, 3) := by decide +kernel
theorem dX6_kindHere_72 : decode mX6_kindHere.2.1 72 = .ok (.ifCond .eq 5, 3) := by decide +kernel
theorem dX6_kindHere_75 : decode mX6_kindHere.2.1 75 = .ok (.iconst 3, 1) := by decide +kernel
theorem dX6_kindHere_76 : decode mX6_kindHere.2.1 76 = .ok (.ireturn, 1) := by decide +kernel
theorem dX6_kindHere_77 : decode mX6_kindHere.2.1 77 = .ok (.aload_n 0, 1) := by decide +kernel
theorem dX6_kindHere_78 : decode mX6_kindHere.2.1 78 = .ok (.bipush 100, 2) := by decide +kernel
theorem dX6_kindHere_80 : decode mX6_kindHere.2.1 80 = .ok (.bipush 101, 2) := by decide +kernel
theorem dX6_kindHere_82 : decode mX6_kindHere.2.1 82 = .ok (.bipush 101, 2) := by decide +kernel
theorem dX6_kindHere_84 : decode mX6_kindHere.2.1 84 = .ok (.bipush 112, 2) := by decide +kernel
theorem dX6_kindHere_86 : decode mX6_kindHere.2.1 86 = .ok (.invokevirtual 252, 3) := by decide +kernel
theorem dX6_kindHere_89 : decode mX6_kindHere.2.1 89 = .ok (.ifCond .eq 5, 3) := by decide +kernel
theorem dX6_kindHere_92 : decode mX6_kindHere.2.1 92 = .ok (.iconst 4, 1) := by decide +kernel
theorem dX6_kindHere_93 : decode mX6_kindHere.2.1 93 = .ok (.ireturn, 1) := by decide +kernel
theorem dX6_kindHere_94 : decode mX6_kindHere.2.1 94 = .ok (.aload_n 0, 1) := by decide +kernel
theorem dX6_kindHere_95 : decode mX6_kindHere.2.1 95 = .ok (.bipush 7, 2) := by decide +kernel
theorem dX6_kindHere_97 : decode mX6_kindHere.2.1 97 = .ok (.invokevirtual 241, 3) := by decide +kernel
theorem dX6_kindHere_100 : decode mX6_kindHere.2.1 100 = .ok (.ifCond .eq 47, 3) := by decide +kernel
theorem dX6_kindHere_103 : decode mX6_kindHere.2.1 103 = .ok (.aload_n 0, 1) := by decide +kernel
theorem dX6_kindHere_104 : decode mX6_kindHere.2.1 104 = .ok (.iconst 0, 1) := by decide +kernel
theorem dX6_kindHere_105 : decode mX6_kindHere.2.1 105 = .ok (.bipush 109, 2) := by decide +kernel
theorem dX6_kindHere_107 : decode mX6_kindHere.2.1 107 = .ok (.bipush 97, 2) := by decide +kernel
theorem dX6_kindHere_109 : decode mX6_kindHere.2.1 109 = .ok (.bipush 99, 2) := by decide +kernel
theorem dX6_kindHere_111 : decode mX6_kindHere.2.1 111 = .ok (.invokevirtual 244, 3) := by decide +kernel
theorem dX6_kindHere_114 : decode mX6_kindHere.2.1 114 = .ok (.ifCond .eq 33, 3) := by decide +kernel
theorem dX6_kindHere_117 : decode mX6_kindHere.2.1 117 = .ok (.aload_n 0, 1) := by decide +kernel
theorem dX6_kindHere_118 : decode mX6_kindHere.2.1 118 = .ok (.iconst 3, 1) := by decide +kernel
theorem dX6_kindHere_119 : decode mX6_kindHere.2.1 119 = .ok (.bipush 104, 2) := by decide +kernel
theorem dX6_kindHere_121 : decode mX6_kindHere.2.1 121 = .ok (.bipush 105, 2) := by decide +kernel
theorem dX6_kindHere_123 : decode mX6_kindHere.2.1 123 = .ok (.bipush 110, 2) := by decide +kernel
theorem dX6_kindHere_125 : decode mX6_kindHere.2.1 125 = .ok (.invokevirtual 244, 3) := by decide +kernel
theorem dX6_kindHere_128 : decode mX6_kindHere.2.1 128 = .ok (.ifCond .eq 19, 3) := by decide +kernel
theorem dX6_kindHere_131 : decode mX6_kindHere.2.1 131 = .ok (.aload_n 0, 1) := by decide +kernel
theorem dX6_kindHere_132 : decode mX6_kindHere.2.1 132 = .ok (.iconst 4, 1) := by decide +kernel
theorem dX6_kindHere_133 : decode mX6_kindHere.2.1 133 = .ok (.bipush 105, 2) := by decide +kernel
theorem dX6_kindHere_135 : decode mX6_kindHere.2.1 135 = .ok (.bipush 110, 2) := by decide +kernel
theorem dX6_kindHere_137 : decode mX6_kindHere.2.1 137 = .ok (.bipush 101, 2) := by decide +kernel
theorem dX6_kindHere_139 : decode mX6_kindHere.2.1 139 = .ok (.invokevirtual 244, 3) := by decide +kernel
theorem dX6_kindHere_142 : decode mX6_kindHere.2.1 142 = .ok (.ifCond .eq 5, 3) := by decide +kernel
theorem dX6_kindHere_145 : decode mX6_kindHere.2.1 145 = .ok (.iconst 5, 1) := by decide +kernel
theorem dX6_kindHere_146 : decode mX6_kindHere.2.1 146 = .ok (.ireturn, 1) := by decide +kernel
theorem dX6_kindHere_147 : decode mX6_kindHere.2.1 147 = .ok (.aload_n 0, 1) := by decide +kernel
theorem dX6_kindHere_148 : decode mX6_kindHere.2.1 148 = .ok (.iconst 3, 1) := by decide +kernel
theorem dX6_kindHere_149 : decode mX6_kindHere.2.1 149 = .ok (.invokevirtual 241, 3) := by decide +kernel
theorem dX6_kindHere_152 : decode mX6_kindHere.2.1 152 = .ok (.ifCond .eq 22, 3) := by decide +kernel
theorem dX6_kindHere_155 : decode mX6_kindHere.2.1 155 = .ok (.aload_n 0, 1) := by decide +kernel
theorem dX6_kindHere_156 : decode mX6_kindHere.2.1 156 = .ok (.iconst 0, 1) := by decide +kernel
theorem dX6_kindHere_157 : decode mX6_kindHere.2.1 157 = .ok (.bipush 111, 2) := by decide +kernel
theorem dX6_kindHere_159 : decode mX6_kindHere.2.1 159 = .ok (.bipush 108, 2) := by decide +kernel
theorem dX6_kindHere_161 : decode mX6_kindHere.2.1 161 = .ok (.bipush 100, 2) := by decide +kernel
theorem dX6_kindHere_163 : decode mX6_kindHere.2.1 163 = .ok (.invokevirtual 244, 3) := by decide +kernel
theorem dX6_kindHere_166 : decode mX6_kindHere.2.1 166 = .ok (.ifCond .eq 8, 3) := by decide +kernel
theorem dX6_kindHere_169 : decode mX6_kindHere.2.1 169 = .ok (.bipush 6, 2) := by decide +kernel
theorem dX6_kindHere_171 : decode mX6_kindHere.2.1 171 = .ok (.goto 4, 3) := by decide +kernel
theorem dX6_kindHere_174 : decode mX6_kindHere.2.1 174 = .ok (.iconst (-1), 1) := by decide +kernel
theorem dX6_kindHere_175 : decode mX6_kindHere.2.1 175 = .ok (.ireturn, 1) := by decide +kernel
theorem dX6_handsHere_0 : decode mX6_handsHere.2.1 0 = .ok (.aload_n 0, 1) := by decide +kernel
theorem dX6_handsHere_1 : decode mX6_handsHere.2.1 1 = .ok (.bipush 104, 2) := by decide +kernel
theorem dX6_handsHere_3 : decode mX6_handsHere.2.1 3 = .ok (.bipush 97, 2) := by decide +kernel
theorem dX6_handsHere_5 : decode mX6_handsHere.2.1 5 = .ok (.bipush 110, 2) := by decide +kernel
theorem dX6_handsHere_7 : decode mX6_handsHere.2.1 7 = .ok (.bipush 100, 2) := by decide +kernel
theorem dX6_handsHere_9 : decode mX6_handsHere.2.1 9 = .ok (.bipush 115, 2) := by decide +kernel
theorem dX6_handsHere_11 : decode mX6_handsHere.2.1 11 = .ok (.invokevirtual 255, 3) := by decide +kernel
theorem dX6_handsHere_14 : decode mX6_handsHere.2.1 14 = .ok (.ifCond .ne 5, 3) := by decide +kernel
theorem dX6_handsHere_17 : decode mX6_handsHere.2.1 17 = .ok (.iconst 1, 1) := by decide +kernel
theorem dX6_handsHere_18 : decode mX6_handsHere.2.1 18 = .ok (.ireturn, 1) := by decide +kernel
theorem dX6_handsHere_19 : decode mX6_handsHere.2.1 19 = .ok (.aload_n 0, 1) := by decide +kernel
theorem dX6_handsHere_20 : decode mX6_handsHere.2.1 20 = .ok (.invokevirtual 259, 3) := by decide +kernel
theorem dX6_handsHere_23 : decode mX6_handsHere.2.1 23 = .ok (.aload_n 0, 1) := by decide +kernel
theorem dX6_handsHere_24 : decode mX6_handsHere.2.1 24 = .ok (.iconst 1, 1) := by decide +kernel
theorem dX6_handsHere_25 : decode mX6_handsHere.2.1 25 = .ok (.bipush 20, 2) := by decide +kernel
theorem dX6_handsHere_27 : decode mX6_handsHere.2.1 27 = .ok (.invokevirtual 262, 3) := by decide +kernel
theorem dX6_handsHere_30 : decode mX6_handsHere.2.1 30 = .ok (.ifCond .ne 5, 3) := by decide +kernel
theorem dX6_handsHere_33 : decode mX6_handsHere.2.1 33 = .ok (.iconst 0, 1) := by decide +kernel
theorem dX6_handsHere_34 : decode mX6_handsHere.2.1 34 = .ok (.ireturn, 1) := by decide +kernel
theorem dX6_handsHere_35 : decode mX6_handsHere.2.1 35 = .ok (.aload_n 0, 1) := by decide +kernel
theorem dX6_handsHere_36 : decode mX6_handsHere.2.1 36 = .ok (.getfield 7, 3) := by decide +kernel
theorem dX6_handsHere_39 : decode mX6_handsHere.2.1 39 = .ok (.bipush 6, 2) := by decide +kernel
theorem dX6_handsHere_41 : decode mX6_handsHere.2.1 41 = .ok (.iconst 5, 1) := by decide +kernel
theorem dX6_handsHere_42 : decode mX6_handsHere.2.1 42 = .ok (.aload_n 0, 1) := by decide +kernel
theorem dX6_handsHere_43 : decode mX6_handsHere.2.1 43 = .ok (.getfield 7, 3) := by decide +kernel
theorem dX6_handsHere_46 : decode mX6_handsHere.2.1 46 = .ok (.iconst 0, 1) := by decide +kernel
theorem dX6_handsHere_47 : decode mX6_handsHere.2.1 47 = .ok (.iaload, 1) := by decide +kernel
theorem dX6_handsHere_48 : decode mX6_handsHere.2.1 48 = .ok (.iconst 1, 1) := by decide +kernel
theorem dX6_handsHere_49 : decode mX6_handsHere.2.1 49 = .ok (.isub, 1) := by decide +kernel
theorem dX6_handsHere_50 : decode mX6_handsHere.2.1 50 = .ok (.imul, 1) := by decide +kernel
theorem dX6_handsHere_51 : decode mX6_handsHere.2.1 51 = .ok (.iadd, 1) := by decide +kernel
theorem dX6_handsHere_52 : decode mX6_handsHere.2.1 52 = .ok (.iconst 2, 1) := by decide +kernel
theorem dX6_handsHere_53 : decode mX6_handsHere.2.1 53 = .ok (.iadd, 1) := by decide +kernel
theorem dX6_handsHere_54 : decode mX6_handsHere.2.1 54 = .ok (.aload_n 0, 1) := by decide +kernel
theorem dX6_handsHere_55 : decode mX6_handsHere.2.1 55 = .ok (.getfield 235, 3) := by decide +kernel
theorem dX6_handsHere_58 : decode mX6_handsHere.2.1 58 = .ok (.iastore, 1) := by decide +kernel
theorem dX6_handsHere_59 : decode mX6_handsHere.2.1 59 = .ok (.aload_n 0, 1) := by decide +kernel
theorem dX6_handsHere_60 : decode mX6_handsHere.2.1 60 = .ok (.invokevirtual 259, 3) := by decide +kernel
theorem dX6_handsHere_63 : decode mX6_handsHere.2.1 63 = .ok (.iconst 1, 1) := by decide +kernel
theorem dX6_handsHere_64 : decode mX6_handsHere.2.1 64 = .ok (.ireturn, 1) := by decide +kernel
theorem dX6_thinksHere_0 : decode mX6_thinksHere.2.1 0 = .ok (.aload_n 0, 1) := by decide +kernel
theorem dX6_thinksHere_1 : decode mX6_thinksHere.2.1 1 = .ok (.bipush 116, 2) := by decide +kernel
theorem dX6_thinksHere_3 : decode mX6_thinksHere.2.1 3 = .ok (.bipush 104, 2) := by decide +kernel
theorem dX6_thinksHere_5 : decode mX6_thinksHere.2.1 5 = .ok (.bipush 105, 2) := by decide +kernel
theorem dX6_thinksHere_7 : decode mX6_thinksHere.2.1 7 = .ok (.bipush 110, 2) := by decide +kernel
theorem dX6_thinksHere_9 : decode mX6_thinksHere.2.1 9 = .ok (.bipush 107, 2) := by decide +kernel
theorem dX6_thinksHere_11 : decode mX6_thinksHere.2.1 11 = .ok (.bipush 115, 2) := by decide +kernel
theorem dX6_thinksHere_13 : decode mX6_thinksHere.2.1 13 = .ok (.invokevirtual 265, 3) := by decide +kernel
theorem dX6_thinksHere_16 : decode mX6_thinksHere.2.1 16 = .ok (.ifCond .ne 5, 3) := by decide +kernel
theorem dX6_thinksHere_19 : decode mX6_thinksHere.2.1 19 = .ok (.iconst 1, 1) := by decide +kernel
theorem dX6_thinksHere_20 : decode mX6_thinksHere.2.1 20 = .ok (.ireturn, 1) := by decide +kernel
theorem dX6_thinksHere_21 : decode mX6_thinksHere.2.1 21 = .ok (.aload_n 0, 1) := by decide +kernel
theorem dX6_thinksHere_22 : decode mX6_thinksHere.2.1 22 = .ok (.invokevirtual 259, 3) := by decide +kernel
theorem dX6_thinksHere_25 : decode mX6_thinksHere.2.1 25 = .ok (.aload_n 0, 1) := by decide +kernel
theorem dX6_thinksHere_26 : decode mX6_thinksHere.2.1 26 = .ok (.getfield 232, 3) := by decide +kernel
theorem dX6_thinksHere_29 : decode mX6_thinksHere.2.1 29 = .ok (.iconst 5, 1) := by decide +kernel
theorem dX6_thinksHere_30 : decode mX6_thinksHere.2.1 30 = .ok (.if_icmp .ne 7, 3) := by decide +kernel
theorem dX6_thinksHere_33 : decode mX6_thinksHere.2.1 33 = .ok (.iconst 1, 1) := by decide +kernel
theorem dX6_thinksHere_34 : decode mX6_thinksHere.2.1 34 = .ok (.goto 4, 3) := by decide +kernel
theorem dX6_thinksHere_37 : decode mX6_thinksHere.2.1 37 = .ok (.iconst 0, 1) := by decide +kernel
theorem dX6_thinksHere_38 : decode mX6_thinksHere.2.1 38 = .ok (.istore_n 1, 1) := by decide +kernel
theorem dX6_thinksHere_39 : decode mX6_thinksHere.2.1 39 = .ok (.iload_n 1, 1) := by decide +kernel
theorem dX6_thinksHere_40 : decode mX6_thinksHere.2.1 40 = .ok (.ifCond .eq 7, 3) := by decide +kernel
theorem dX6_thinksHere_43 : decode mX6_thinksHere.2.1 43 = .ok (.aload_n 0, 1) := by decide +kernel
theorem dX6_thinksHere_44 : decode mX6_thinksHere.2.1 44 = .ok (.invokevirtual 259, 3) := by decide +kernel
theorem dX6_thinksHere_47 : decode mX6_thinksHere.2.1 47 = .ok (.aload_n 0, 1) := by decide +kernel
theorem dX6_thinksHere_48 : decode mX6_thinksHere.2.1 48 = .ok (.iconst 0, 1) := by decide +kernel
theorem dX6_thinksHere_49 : decode mX6_thinksHere.2.1 49 = .ok (.bipush 9, 2) := by decide +kernel
theorem dX6_thinksHere_51 : decode mX6_thinksHere.2.1 51 = .ok (.invokevirtual 262, 3) := by decide +kernel
theorem dX6_thinksHere_54 : decode mX6_thinksHere.2.1 54 = .ok (.ifCond .ne 5, 3) := by decide +kernel
theorem dX6_thinksHere_57 : decode mX6_thinksHere.2.1 57 = .ok (.iconst 0, 1) := by decide +kernel
theorem dX6_thinksHere_58 : decode mX6_thinksHere.2.1 58 = .ok (.ireturn, 1) := by decide +kernel
theorem dX6_thinksHere_59 : decode mX6_thinksHere.2.1 59 = .ok (.aload_n 0, 1) := by decide +kernel
theorem dX6_thinksHere_60 : decode mX6_thinksHere.2.1 60 = .ok (.getfield 7, 3) := by decide +kernel
theorem dX6_thinksHere_63 : decode mX6_thinksHere.2.1 63 = .ok (.bipush 6, 2) := by decide +kernel
theorem dX6_thinksHere_65 : decode mX6_thinksHere.2.1 65 = .ok (.iconst 5, 1) := by decide +kernel
theorem dX6_thinksHere_66 : decode mX6_thinksHere.2.1 66 = .ok (.aload_n 0, 1) := by decide +kernel
theorem dX6_thinksHere_67 : decode mX6_thinksHere.2.1 67 = .ok (.getfield 7, 3) := by decide +kernel
theorem dX6_thinksHere_70 : decode mX6_thinksHere.2.1 70 = .ok (.iconst 0, 1) := by decide +kernel
theorem dX6_thinksHere_71 : decode mX6_thinksHere.2.1 71 = .ok (.iaload, 1) := by decide +kernel
theorem dX6_thinksHere_72 : decode mX6_thinksHere.2.1 72 = .ok (.iconst 1, 1) := by decide +kernel
theorem dX6_thinksHere_73 : decode mX6_thinksHere.2.1 73 = .ok (.isub, 1) := by decide +kernel
theorem dX6_thinksHere_74 : decode mX6_thinksHere.2.1 74 = .ok (.imul, 1) := by decide +kernel
theorem dX6_thinksHere_75 : decode mX6_thinksHere.2.1 75 = .ok (.iadd, 1) := by decide +kernel
theorem dX6_thinksHere_76 : decode mX6_thinksHere.2.1 76 = .ok (.iconst 3, 1) := by decide +kernel
theorem dX6_thinksHere_77 : decode mX6_thinksHere.2.1 77 = .ok (.iadd, 1) := by decide +kernel
theorem dX6_thinksHere_78 : decode mX6_thinksHere.2.1 78 = .ok (.iload_n 1, 1) := by decide +kernel
theorem dX6_thinksHere_79 : decode mX6_thinksHere.2.1 79 = .ok (.ifCond .eq 11, 3) := by decide +kernel
theorem dX6_thinksHere_82 : decode mX6_thinksHere.2.1 82 = .ok (.aload_n 0, 1) := by decide +kernel
theorem dX6_thinksHere_83 : decode mX6_thinksHere.2.1 83 = .ok (.getfield 235, 3) := by decide +kernel
theorem dX6_thinksHere_86 : decode mX6_thinksHere.2.1 86 = .ok (.ineg, 1) := by decide +kernel
theorem dX6_thinksHere_87 : decode mX6_thinksHere.2.1 87 = .ok (.goto 7, 3) := by decide +kernel
theorem dX6_thinksHere_90 : decode mX6_thinksHere.2.1 90 = .ok (.aload_n 0, 1) := by decide +kernel
theorem dX6_thinksHere_91 : decode mX6_thinksHere.2.1 91 = .ok (.getfield 235, 3) := by decide +kernel
theorem dX6_thinksHere_94 : decode mX6_thinksHere.2.1 94 = .ok (.iastore, 1) := by decide +kernel
theorem dX6_thinksHere_95 : decode mX6_thinksHere.2.1 95 = .ok (.aload_n 0, 1) := by decide +kernel
theorem dX6_thinksHere_96 : decode mX6_thinksHere.2.1 96 = .ok (.invokevirtual 259, 3) := by decide +kernel
theorem dX6_thinksHere_99 : decode mX6_thinksHere.2.1 99 = .ok (.iconst 1, 1) := by decide +kernel
theorem dX6_thinksHere_100 : decode mX6_thinksHere.2.1 100 = .ok (.ireturn, 1) := by decide +kernel
theorem dX6_farmHere_0 : decode mX6_farmHere.2.1 0 = .ok (.aload_n 0, 1) := by decide +kernel
theorem dX6_farmHere_1 : decode mX6_farmHere.2.1 1 = .ok (.getfield 7, 3) := by decide +kernel
theorem dX6_farmHere_4 : decode mX6_farmHere.2.1 4 = .ok (.iconst 0, 1) := by decide +kernel
theorem dX6_farmHere_5 : decode mX6_farmHere.2.1 5 = .ok (.iaload, 1) := by decide +kernel
theorem dX6_farmHere_6 : decode mX6_farmHere.2.1 6 = .ok (.bipush 8, 2) := by decide +kernel
theorem dX6_farmHere_8 : decode mX6_farmHere.2.1 8 = .ok (.if_icmp .ne 8, 3) := by decide +kernel
theorem dX6_farmHere_11 : decode mX6_farmHere.2.1 11 = .ok (.aload_n 0, 1) := by decide +kernel
theorem dX6_farmHere_12 : decode mX6_farmHere.2.1 12 = .ok (.invokevirtual 248, 3) := by decide +kernel
theorem dX6_farmHere_15 : decode mX6_farmHere.2.1 15 = .ok (.ireturn, 1) := by decide +kernel
theorem dX6_farmHere_16 : decode mX6_farmHere.2.1 16 = .ok (.aload_n 0, 1) := by decide +kernel
theorem dX6_farmHere_17 : decode mX6_farmHere.2.1 17 = .ok (.invokevirtual 259, 3) := by decide +kernel
theorem dX6_farmHere_20 : decode mX6_farmHere.2.1 20 = .ok (.aload_n 0, 1) := by decide +kernel
theorem dX6_farmHere_21 : decode mX6_farmHere.2.1 21 = .ok (.iconst 0, 1) := by decide +kernel
theorem dX6_farmHere_22 : decode mX6_farmHere.2.1 22 = .ok (.sipush 999, 3) := by decide +kernel
theorem dX6_farmHere_25 : decode mX6_farmHere.2.1 25 = .ok (.invokevirtual 262, 3) := by decide +kernel
theorem dX6_farmHere_28 : decode mX6_farmHere.2.1 28 = .ok (.ifCond .ne 5, 3) := by decide +kernel
theorem dX6_farmHere_31 : decode mX6_farmHere.2.1 31 = .ok (.iconst 0, 1) := by decide +kernel
theorem dX6_farmHere_32 : decode mX6_farmHere.2.1 32 = .ok (.ireturn, 1) := by decide +kernel
theorem dX6_farmHere_33 : decode mX6_farmHere.2.1 33 = .ok (.aload_n 0, 1) := by decide +kernel
theorem dX6_farmHere_34 : decode mX6_farmHere.2.1 34 = .ok (.iload_n 1, 1) := by decide +kernel
theorem dX6_farmHere_35 : decode mX6_farmHere.2.1 35 = .ok (.aload_n 0, 1) := by decide +kernel
theorem dX6_farmHere_36 : decode mX6_farmHere.2.1 36 = .ok (.getfield 235, 3) := by decide +kernel
theorem dX6_farmHere_39 : decode mX6_farmHere.2.1 39 = .ok (.invokevirtual 66, 3) := by decide +kernel
theorem dX6_farmHere_42 : decode mX6_farmHere.2.1 42 = .ok (.aload_n 0, 1) := by decide +kernel
theorem dX6_farmHere_43 : decode mX6_farmHere.2.1 43 = .ok (.invokevirtual 259, 3) := by decide +kernel
theorem dX6_farmHere_46 : decode mX6_farmHere.2.1 46 = .ok (.aload_n 0, 1) := by decide +kernel
theorem dX6_farmHere_47 : decode mX6_farmHere.2.1 47 = .ok (.invokevirtual 269, 3) := by decide +kernel
theorem dX6_farmHere_50 : decode mX6_farmHere.2.1 50 = .ok (.ifCond .eq 14, 3) := by decide +kernel
theorem dX6_farmHere_53 : decode mX6_farmHere.2.1 53 = .ok (.aload_n 0, 1) := by decide +kernel
theorem dX6_farmHere_54 : decode mX6_farmHere.2.1 54 = .ok (.invokevirtual 272, 3) := by decide +kernel
theorem dX6_farmHere_57 : decode mX6_farmHere.2.1 57 = .ok (.ifCond .eq 7, 3) := by decide +kernel
theorem dX6_farmHere_60 : decode mX6_farmHere.2.1 60 = .ok (.iconst 1, 1) := by decide +kernel
theorem dX6_farmHere_61 : decode mX6_farmHere.2.1 61 = .ok (.goto 4, 3) := by decide +kernel
theorem dX6_farmHere_64 : decode mX6_farmHere.2.1 64 = .ok (.iconst 0, 1) := by decide +kernel
theorem dX6_farmHere_65 : decode mX6_farmHere.2.1 65 = .ok (.ireturn, 1) := by decide +kernel
theorem dX6_weatherHere_0 : decode mX6_weatherHere.2.1 0 = .ok (.aload_n 0, 1) := by decide +kernel
theorem dX6_weatherHere_1 : decode mX6_weatherHere.2.1 1 = .ok (.invokevirtual 259, 3) := by decide +kernel
theorem dX6_weatherHere_4 : decode mX6_weatherHere.2.1 4 = .ok (.aload_n 0, 1) := by decide +kernel
theorem dX6_weatherHere_5 : decode mX6_weatherHere.2.1 5 = .ok (.iconst 0, 1) := by decide +kernel
theorem dX6_weatherHere_6 : decode mX6_weatherHere.2.1 6 = .ok (.bipush 99, 2) := by decide +kernel
theorem dX6_weatherHere_8 : decode mX6_weatherHere.2.1 8 = .ok (.invokevirtual 262, 3) := by decide +kernel
theorem dX6_weatherHere_11 : decode mX6_weatherHere.2.1 11 = .ok (.ifCond .ne 5, 3) := by decide +kernel
theorem dX6_weatherHere_14 : decode mX6_weatherHere.2.1 14 = .ok (.iconst 0, 1) := by decide +kernel
theorem dX6_weatherHere_15 : decode mX6_weatherHere.2.1 15 = .ok (.ireturn, 1) := by decide +kernel
theorem dX6_weatherHere_16 : decode mX6_weatherHere.2.1 16 = .ok (.aload_n 0, 1) := by decide +kernel
theorem dX6_weatherHere_17 : decode mX6_weatherHere.2.1 17 = .ok (.getfield 7, 3) := by decide +kernel
theorem dX6_weatherHere_20 : decode mX6_weatherHere.2.1 20 = .ok (.iconst 3, 1) := by decide +kernel
theorem dX6_weatherHere_21 : decode mX6_weatherHere.2.1 21 = .ok (.iload_n 1, 1) := by decide +kernel
theorem dX6_weatherHere_22 : decode mX6_weatherHere.2.1 22 = .ok (.iadd, 1) := by decide +kernel
theorem dX6_weatherHere_23 : decode mX6_weatherHere.2.1 23 = .ok (.aload_n 0, 1) := by decide +kernel
theorem dX6_weatherHere_24 : decode mX6_weatherHere.2.1 24 = .ok (.getfield 235, 3) := by decide +kernel
theorem dX6_weatherHere_27 : decode mX6_weatherHere.2.1 27 = .ok (.iastore, 1) := by decide +kernel
theorem dX6_weatherHere_28 : decode mX6_weatherHere.2.1 28 = .ok (.aload_n 0, 1) := by decide +kernel
theorem dX6_weatherHere_29 : decode mX6_weatherHere.2.1 29 = .ok (.invokevirtual 259, 3) := by decide +kernel
theorem dX6_weatherHere_32 : decode mX6_weatherHere.2.1 32 = .ok (.iconst 1, 1) := by decide +kernel
theorem dX6_weatherHere_33 : decode mX6_weatherHere.2.1 33 = .ok (.ireturn, 1) := by decide +kernel
theorem dX6_itemHere_0 : decode mX6_itemHere.2.1 0 = .ok (.aload_n 0, 1) := by decide +kernel
theorem dX6_itemHere_1 : decode mX6_itemHere.2.1 1 = .ok (.invokevirtual 275, 3) := by decide +kernel
theorem dX6_itemHere_4 : decode mX6_itemHere.2.1 4 = .ok (.istore_n 1, 1) := by decide +kernel
theorem dX6_itemHere_5 : decode mX6_itemHere.2.1 5 = .ok (.iload_n 1, 1) := by decide +kernel
theorem dX6_itemHere_6 : decode mX6_itemHere.2.1 6 = .ok (.ifCond .lt 9, 3) := by decide +kernel
theorem dX6_itemHere_9 : decode mX6_itemHere.2.1 9 = .ok (.aload_n 0, 1) := by decide +kernel
theorem dX6_itemHere_10 : decode mX6_itemHere.2.1 10 = .ok (.iload_n 1, 1) := by decide +kernel
theorem dX6_itemHere_11 : decode mX6_itemHere.2.1 11 = .ok (.invokevirtual 278, 3) := by decide +kernel
theorem dX6_itemHere_14 : decode mX6_itemHere.2.1 14 = .ok (.ireturn, 1) := by decide +kernel
theorem dX6_itemHere_15 : decode mX6_itemHere.2.1 15 = .ok (.aload_n 0, 1) := by decide +kernel
theorem dX6_itemHere_16 : decode mX6_itemHere.2.1 16 = .ok (.iconst 3, 1) := by decide +kernel
theorem dX6_itemHere_17 : decode mX6_itemHere.2.1 17 = .ok (.invokevirtual 241, 3) := by decide +kernel
theorem dX6_itemHere_20 : decode mX6_itemHere.2.1 20 = .ok (.ifCond .eq 23, 3) := by decide +kernel
theorem dX6_itemHere_23 : decode mX6_itemHere.2.1 23 = .ok (.aload_n 0, 1) := by decide +kernel
theorem dX6_itemHere_24 : decode mX6_itemHere.2.1 24 = .ok (.iconst 0, 1) := by decide +kernel
theorem dX6_itemHere_25 : decode mX6_itemHere.2.1 25 = .ok (.bipush 119, 2) := by decide +kernel
theorem dX6_itemHere_27 : decode mX6_itemHere.2.1 27 = .ok (.bipush 101, 2) := by decide +kernel
theorem dX6_itemHere_29 : decode mX6_itemHere.2.1 29 = .ok (.bipush 116, 2) := by decide +kernel
theorem dX6_itemHere_31 : decode mX6_itemHere.2.1 31 = .ok (.invokevirtual 244, 3) := by decide +kernel
theorem dX6_itemHere_34 : decode mX6_itemHere.2.1 34 = .ok (.ifCond .eq 9, 3) := by decide +kernel
theorem dX6_itemHere_37 : decode mX6_itemHere.2.1 37 = .ok (.aload_n 0, 1) := by decide +kernel
theorem dX6_itemHere_38 : decode mX6_itemHere.2.1 38 = .ok (.iconst 0, 1) := by decide +kernel
theorem dX6_itemHere_39 : decode mX6_itemHere.2.1 39 = .ok (.invokevirtual 281, 3) := by decide +kernel
theorem dX6_itemHere_42 : decode mX6_itemHere.2.1 42 = .ok (.ireturn, 1) := by decide +kernel
theorem dX6_itemHere_43 : decode mX6_itemHere.2.1 43 = .ok (.aload_n 0, 1) := by decide +kernel
theorem dX6_itemHere_44 : decode mX6_itemHere.2.1 44 = .ok (.bipush 109, 2) := by decide +kernel
theorem dX6_itemHere_46 : decode mX6_itemHere.2.1 46 = .ok (.bipush 105, 2) := by decide +kernel
theorem dX6_itemHere_48 : decode mX6_itemHere.2.1 48 = .ok (.bipush 99, 2) := by decide +kernel
theorem dX6_itemHere_50 : decode mX6_itemHere.2.1 50 = .ok (.bipush 101, 2) := by decide +kernel
theorem dX6_itemHere_52 : decode mX6_itemHere.2.1 52 = .ok (.invokevirtual 252, 3) := by decide +kernel
theorem dX6_itemHere_55 : decode mX6_itemHere.2.1 55 = .ok (.ifCond .eq 9, 3) := by decide +kernel
theorem dX6_itemHere_58 : decode mX6_itemHere.2.1 58 = .ok (.aload_n 0, 1) := by decide +kernel
theorem dX6_itemHere_59 : decode mX6_itemHere.2.1 59 = .ok (.iconst 1, 1) := by decide +kernel
theorem dX6_itemHere_60 : decode mX6_itemHere.2.1 60 = .ok (.invokevirtual 281, 3) := by decide +kernel
theorem dX6_itemHere_63 : decode mX6_itemHere.2.1 63 = .ok (.ireturn, 1) := by decide +kernel
theorem dX6_itemHere_64 : decode mX6_itemHere.2.1 64 = .ok (.aload_n 0, 1) := by decide +kernel
theorem dX6_itemHere_65 : decode mX6_itemHere.2.1 65 = .ok (.bipush 114, 2) := by decide +kernel
theorem dX6_itemHere_67 : decode mX6_itemHere.2.1 67 = .ok (.bipush 97, 2) := by decide +kernel
theorem dX6_itemHere_69 : decode mX6_itemHere.2.1 69 = .ok (.bipush 105, 2) := by decide +kernel
theorem dX6_itemHere_71 : decode mX6_itemHere.2.1 71 = .ok (.bipush 110, 2) := by decide +kernel
theorem dX6_itemHere_73 : decode mX6_itemHere.2.1 73 = .ok (.invokevirtual 252, 3) := by decide +kernel
theorem dX6_itemHere_76 : decode mX6_itemHere.2.1 76 = .ok (.ifCond .eq 11, 3) := by decide +kernel
theorem dX6_itemHere_79 : decode mX6_itemHere.2.1 79 = .ok (.aload_n 0, 1) := by decide +kernel
theorem dX6_itemHere_80 : decode mX6_itemHere.2.1 80 = .ok (.iconst 2, 1) := by decide +kernel
theorem dX6_itemHere_81 : decode mX6_itemHere.2.1 81 = .ok (.invokevirtual 281, 3) := by decide +kernel
theorem dX6_itemHere_84 : decode mX6_itemHere.2.1 84 = .ok (.goto 7, 3) := by decide +kernel
theorem dX6_itemHere_87 : decode mX6_itemHere.2.1 87 = .ok (.aload_n 0, 1) := by decide +kernel
theorem dX6_itemHere_88 : decode mX6_itemHere.2.1 88 = .ok (.invokevirtual 248, 3) := by decide +kernel
theorem dX6_itemHere_91 : decode mX6_itemHere.2.1 91 = .ok (.ireturn, 1) := by decide +kernel
theorem dX6_text_0 : decode mX6_text.2.1 0 = .ok (.aload_n 0, 1) := by decide +kernel
theorem dX6_text_1 : decode mX6_text.2.1 1 = .ok (.getfield 7, 3) := by decide +kernel
theorem dX6_text_4 : decode mX6_text.2.1 4 = .ok (.aload_n 0, 1) := by decide +kernel
theorem dX6_text_5 : decode mX6_text.2.1 5 = .ok (.getfield 16, 3) := by decide +kernel
theorem dX6_text_8 : decode mX6_text.2.1 8 = .ok (.invokestatic 162, 3) := by decide +kernel
theorem dX6_text_11 : decode mX6_text.2.1 11 = .ok (.aload_n 0, 1) := by decide +kernel
theorem dX6_text_12 : decode mX6_text.2.1 12 = .ok (.iconst 0, 1) := by decide +kernel
theorem dX6_text_13 : decode mX6_text.2.1 13 = .ok (.putfield 217, 3) := by decide +kernel
theorem dX6_text_16 : decode mX6_text.2.1 16 = .ok (.aload_n 0, 1) := by decide +kernel
theorem dX6_text_17 : decode mX6_text.2.1 17 = .ok (.invokevirtual 259, 3) := by decide +kernel
theorem dX6_text_20 : decode mX6_text.2.1 20 = .ok (.iconst 1, 1) := by decide +kernel
theorem dX6_text_21 : decode mX6_text.2.1 21 = .ok (.istore_n 1, 1) := by decide +kernel
theorem dX6_text_22 : decode mX6_text.2.1 22 = .ok (.aload_n 0, 1) := by decide +kernel
theorem dX6_text_23 : decode mX6_text.2.1 23 = .ok (.invokevirtual 284, 3) := by decide +kernel
theorem dX6_text_26 : decode mX6_text.2.1 26 = .ok (.istore_n 2, 1) := by decide +kernel
theorem dX6_text_27 : decode mX6_text.2.1 27 = .ok (.iload_n 2, 1) := by decide +kernel
theorem dX6_text_28 : decode mX6_text.2.1 28 = .ok (.ifCond .eq 26, 3) := by decide +kernel
theorem dX6_text_31 : decode mX6_text.2.1 31 = .ok (.aload_n 0, 1) := by decide +kernel
theorem dX6_text_32 : decode mX6_text.2.1 32 = .ok (.getfield 232, 3) := by decide +kernel
theorem dX6_text_35 : decode mX6_text.2.1 35 = .ok (.iconst 3, 1) := by decide +kernel
theorem dX6_text_36 : decode mX6_text.2.1 36 = .ok (.if_icmp .ne 18, 3) := by decide +kernel
theorem dX6_text_39 : decode mX6_text.2.1 39 = .ok (.aload_n 0, 1) := by decide +kernel
theorem dX6_text_40 : decode mX6_text.2.1 40 = .ok (.invokevirtual 259, 3) := by decide +kernel
theorem dX6_text_43 : decode mX6_text.2.1 43 = .ok (.aload_n 0, 1) := by decide +kernel
theorem dX6_text_44 : decode mX6_text.2.1 44 = .ok (.invokevirtual 284, 3) := by decide +kernel
theorem dX6_text_47 : decode mX6_text.2.1 47 = .ok (.istore_n 2, 1) := by decide +kernel
theorem dX6_text_48 : decode mX6_text.2.1 48 = .ok (.iinc 1 1, 3) := by decide +kernel
theorem dX6_text_51 : decode mX6_text.2.1 51 = .ok (.goto (-24), 3) := by decide +kernel
theorem dX6_text_54 : decode mX6_text.2.1 54 = .ok (.iload_n 2, 1) := by decide +kernel
theorem dX6_text_55 : decode mX6_text.2.1 55 = .ok (.ifCond .eq 21, 3) := by decide +kernel
theorem dX6_text_58 : decode mX6_text.2.1 58 = .ok (.aload_n 0, 1) := by decide +kernel
theorem dX6_text_59 : decode mX6_text.2.1 59 = .ok (.getfield 232, 3) := by decide +kernel
theorem dX6_text_62 : decode mX6_text.2.1 62 = .ok (.ifCond .eq 10, 3) := by decide +kernel
theorem dX6_text_65 : decode mX6_text.2.1 65 = .ok (.aload_n 0, 1) := by decide +kernel
theorem dX6_text_66 : decode mX6_text.2.1 66 = .ok (.invokevirtual 248, 3) := by decide +kernel
theorem dX6_text_69 : decode mX6_text.2.1 69 = .ok (.ifCond .eq 7, 3) := by decide +kernel
theorem dX6_text_72 : decode mX6_text.2.1 72 = .ok (.iconst 1, 1) := by decide +kernel
theorem dX6_text_73 : decode mX6_text.2.1 73 = .ok (.goto 4, 3) := by decide +kernel
theorem dX6_text_76 : decode mX6_text.2.1 76 = .ok (.iconst 0, 1) := by decide +kernel
theorem dX6_text_77 : decode mX6_text.2.1 77 = .ok (.istore_n 2, 1) := by decide +kernel
theorem dX6_text_78 : decode mX6_text.2.1 78 = .ok (.aload_n 0, 1) := by decide +kernel
theorem dX6_text_79 : decode mX6_text.2.1 79 = .ok (.iconst 0, 1) := by decide +kernel
theorem dX6_text_80 : decode mX6_text.2.1 80 = .ok (.putfield 214, 3) := by decide +kernel
theorem dX6_text_83 : decode mX6_text.2.1 83 = .ok (.iload_n 2, 1) := by decide +kernel
theorem dX6_text_84 : decode mX6_text.2.1 84 = .ok (.ifCond .ne 14, 3) := by decide +kernel
theorem dX6_text_87 : decode mX6_text.2.1 87 = .ok (.aload_n 0, 1) := by decide +kernel
theorem dX6_text_88 : decode mX6_text.2.1 88 = .ok (.getfield 16, 3) := by decide +kernel
theorem dX6_text_91 : decode mX6_text.2.1 91 = .ok (.aload_n 0, 1) := by decide +kernel
theorem dX6_text_92 : decode mX6_text.2.1 92 = .ok (.getfield 7, 3) := by decide +kernel
theorem dX6_text_95 : decode mX6_text.2.1 95 = .ok (.invokestatic 162, 3) := by decide +kernel
theorem dX6_text_98 : decode mX6_text.2.1 98 = .ok (.iload_n 2, 1) := by decide +kernel
theorem dX6_text_99 : decode mX6_text.2.1 99 = .ok (.ifCond .eq 7, 3) := by decide +kernel
theorem dX6_text_102 : decode mX6_text.2.1 102 = .ok (.iload_n 1, 1) := by decide +kernel
theorem dX6_text_103 : decode mX6_text.2.1 103 = .ok (.goto 9, 3) := by decide +kernel
theorem dX6_text_106 : decode mX6_text.2.1 106 = .ok (.iconst (-1), 1) := by decide +kernel
theorem dX6_text_107 : decode mX6_text.2.1 107 = .ok (.aload_n 0, 1) := by decide +kernel
theorem dX6_text_108 : decode mX6_text.2.1 108 = .ok (.getfield 238, 3) := by decide +kernel
theorem dX6_text_111 : decode mX6_text.2.1 111 = .ok (.isub, 1) := by decide +kernel
theorem dX6_text_112 : decode mX6_text.2.1 112 = .ok (.ireturn, 1) := by decide +kernel
theorem dX6_hold_0 : decode mX6_hold.2.1 0 = .ok (.iload_n 1, 1) := by decide +kernel
theorem dX6_hold_1 : decode mX6_hold.2.1 1 = .ok (.i2l, 1) := by decide +kernel
theorem dX6_hold_2 : decode mX6_hold.2.1 2 = .ok (.lconst 0, 1) := by decide +kernel
theorem dX6_hold_3 : decode mX6_hold.2.1 3 = .ok (.ldc2_w 98, 3) := by decide +kernel
theorem dX6_hold_6 : decode mX6_hold.2.1 6 = .ok (.invokestatic 51, 3) := by decide +kernel
theorem dX6_hold_9 : decode mX6_hold.2.1 9 = .ok (.ifCond .eq 16, 3) := by decide +kernel
theorem dX6_hold_12 : decode mX6_hold.2.1 12 = .ok (.iload_n 2, 1) := by decide +kernel
theorem dX6_hold_13 : decode mX6_hold.2.1 13 = .ok (.iconst (-1), 1) := by decide +kernel
theorem dX6_hold_14 : decode mX6_hold.2.1 14 = .ok (.if_icmp .eq 18, 3) := by decide +kernel
theorem dX6_hold_17 : decode mX6_hold.2.1 17 = .ok (.aload_n 0, 1) := by decide +kernel
theorem dX6_hold_18 : decode mX6_hold.2.1 18 = .ok (.iload_n 2, 1) := by decide +kernel
theorem dX6_hold_19 : decode mX6_hold.2.1 19 = .ok (.invokevirtual 82, 3) := by decide +kernel
theorem dX6_hold_22 : decode mX6_hold.2.1 22 = .ok (.ifCond .ne 10, 3) := by decide +kernel
theorem dX6_hold_25 : decode mX6_hold.2.1 25 = .ok (.aload_n 0, 1) := by decide +kernel
theorem dX6_hold_26 : decode mX6_hold.2.1 26 = .ok (.ldc 43, 2) := by decide +kernel
theorem dX6_hold_28 : decode mX6_hold.2.1 28 = .ok (.invokevirtual 45, 3) := by decide +kernel
theorem dX6_hold_31 : decode mX6_hold.2.1 31 = .ok (.ireturn, 1) := by decide +kernel
theorem dX6_hold_32 : decode mX6_hold.2.1 32 = .ok (.aload_n 0, 1) := by decide +kernel
theorem dX6_hold_33 : decode mX6_hold.2.1 33 = .ok (.getfield 7, 3) := by decide +kernel
theorem dX6_hold_36 : decode mX6_hold.2.1 36 = .ok (.bipush 46, 2) := by decide +kernel
theorem dX6_hold_38 : decode mX6_hold.2.1 38 = .ok (.iload_n 1, 1) := by decide +kernel
theorem dX6_hold_39 : decode mX6_hold.2.1 39 = .ok (.iadd, 1) := by decide +kernel
theorem dX6_hold_40 : decode mX6_hold.2.1 40 = .ok (.iload_n 2, 1) := by decide +kernel
theorem dX6_hold_41 : decode mX6_hold.2.1 41 = .ok (.iastore, 1) := by decide +kernel
theorem dX6_hold_42 : decode mX6_hold.2.1 42 = .ok (.iconst 1, 1) := by decide +kernel
theorem dX6_hold_43 : decode mX6_hold.2.1 43 = .ok (.ireturn, 1) := by decide +kernel
theorem dX6_isUnder_0 : decode mX6_isUnder.2.1 0 = .ok (.iload_n 1, 1) := by decide +kernel
theorem dX6_isUnder_1 : decode mX6_isUnder.2.1 1 = .ok (.ifCond .eq 44, 3) := by decide +kernel
theorem dX6_isUnder_4 : decode mX6_isUnder.2.1 4 = .ok (.iload_n 0, 1) := by decide +kernel
theorem dX6_isUnder_5 : decode mX6_isUnder.2.1 5 = .ok (.iload_n 1, 1) := by decide +kernel
theorem dX6_isUnder_6 : decode mX6_isUnder.2.1 6 = .ok (.if_icmp .eq 39, 3) := by decide +kernel
theorem dX6_isUnder_9 : decode mX6_isUnder.2.1 9 = .ok (.iload_n 1, 1) := by decide +kernel
theorem dX6_isUnder_10 : decode mX6_isUnder.2.1 10 = .ok (.iconst 2, 1) := by decide +kernel
theorem dX6_isUnder_11 : decode mX6_isUnder.2.1 11 = .ok (.if_icmp .ne 13, 3) := by decide +kernel
theorem dX6_isUnder_14 : decode mX6_isUnder.2.1 14 = .ok (.iload_n 0, 1) := by decide +kernel
theorem dX6_isUnder_15 : decode mX6_isUnder.2.1 15 = .ok (.iconst 3, 1) := by decide +kernel
theorem dX6_isUnder_16 : decode mX6_isUnder.2.1 16 = .ok (.if_icmp .eq 29, 3) := by decide +kernel
theorem dX6_isUnder_19 : decode mX6_isUnder.2.1 19 = .ok (.iload_n 0, 1) := by decide +kernel
theorem dX6_isUnder_20 : decode mX6_isUnder.2.1 20 = .ok (.iconst 4, 1) := by decide +kernel
theorem dX6_isUnder_21 : decode mX6_isUnder.2.1 21 = .ok (.if_icmp .eq 24, 3) := by decide +kernel
theorem dX6_isUnder_24 : decode mX6_isUnder.2.1 24 = .ok (.iload_n 1, 1) := by decide +kernel
theorem dX6_isUnder_25 : decode mX6_isUnder.2.1 25 = .ok (.iconst 3, 1) := by decide +kernel
theorem dX6_isUnder_26 : decode mX6_isUnder.2.1 26 = .ok (.if_icmp .ne 8, 3) := by decide +kernel
theorem dX6_isUnder_29 : decode mX6_isUnder.2.1 29 = .ok (.iload_n 0, 1) := by decide +kernel
theorem dX6_isUnder_30 : decode mX6_isUnder.2.1 30 = .ok (.iconst 4, 1) := by decide +kernel
theorem dX6_isUnder_31 : decode mX6_isUnder.2.1 31 = .ok (.if_icmp .eq 14, 3) := by decide +kernel
theorem dX6_isUnder_34 : decode mX6_isUnder.2.1 34 = .ok (.iload_n 1, 1) := by decide +kernel
theorem dX6_isUnder_35 : decode mX6_isUnder.2.1 35 = .ok (.iconst 1, 1) := by decide +kernel
theorem dX6_isUnder_36 : decode mX6_isUnder.2.1 36 = .ok (.if_icmp .ne 13, 3) := by decide +kernel
theorem dX6_isUnder_39 : decode mX6_isUnder.2.1 39 = .ok (.iload_n 0, 1) := by decide +kernel
theorem dX6_isUnder_40 : decode mX6_isUnder.2.1 40 = .ok (.bipush 6, 2) := by decide +kernel
theorem dX6_isUnder_42 : decode mX6_isUnder.2.1 42 = .ok (.if_icmp .ne 7, 3) := by decide +kernel
theorem dX6_isUnder_45 : decode mX6_isUnder.2.1 45 = .ok (.iconst 1, 1) := by decide +kernel
theorem dX6_isUnder_46 : decode mX6_isUnder.2.1 46 = .ok (.goto 4, 3) := by decide +kernel
theorem dX6_isUnder_49 : decode mX6_isUnder.2.1 49 = .ok (.iconst 0, 1) := by decide +kernel
theorem dX6_isUnder_50 : decode mX6_isUnder.2.1 50 = .ok (.ireturn, 1) := by decide +kernel
theorem dX6_as_0 : decode mX6_as.2.1 0 = .ok (.iload_n 1, 1) := by decide +kernel
theorem dX6_as_1 : decode mX6_as.2.1 1 = .ok (.i2l, 1) := by decide +kernel
theorem dX6_as_2 : decode mX6_as.2.1 2 = .ok (.lconst 0, 1) := by decide +kernel
theorem dX6_as_3 : decode mX6_as.2.1 3 = .ok (.ldc2_w 98, 3) := by decide +kernel
theorem dX6_as_6 : decode mX6_as.2.1 6 = .ok (.invokestatic 51, 3) := by decide +kernel
theorem dX6_as_9 : decode mX6_as.2.1 9 = .ok (.ifCond .eq 15, 3) := by decide +kernel
theorem dX6_as_12 : decode mX6_as.2.1 12 = .ok (.iload_n 2, 1) := by decide +kernel
theorem dX6_as_13 : decode mX6_as.2.1 13 = .ok (.i2l, 1) := by decide +kernel
theorem dX6_as_14 : decode mX6_as.2.1 14 = .ok (.lconst 0, 1) := by decide +kernel
theorem dX6_as_15 : decode mX6_as.2.1 15 = .ok (.ldc2_w 61, 3) := by decide +kernel
theorem dX6_as_18 : decode mX6_as.2.1 18 = .ok (.invokestatic 51, 3) := by decide +kernel
theorem dX6_as_21 : decode mX6_as.2.1 21 = .ok (.ifCond .ne 10, 3) := by decide +kernel
theorem dX6_as_24 : decode mX6_as.2.1 24 = .ok (.aload_n 0, 1) := by decide +kernel
theorem dX6_as_25 : decode mX6_as.2.1 25 = .ok (.ldc 43, 2) := by decide +kernel
theorem dX6_as_27 : decode mX6_as.2.1 27 = .ok (.invokevirtual 45, 3) := by decide +kernel
theorem dX6_as_30 : decode mX6_as.2.1 30 = .ok (.ireturn, 1) := by decide +kernel
theorem dX6_as_31 : decode mX6_as.2.1 31 = .ok (.aload_n 0, 1) := by decide +kernel
theorem dX6_as_32 : decode mX6_as.2.1 32 = .ok (.getfield 7, 3) := by decide +kernel
theorem dX6_as_35 : decode mX6_as.2.1 35 = .ok (.bipush 46, 2) := by decide +kernel
theorem dX6_as_37 : decode mX6_as.2.1 37 = .ok (.iload_n 1, 1) := by decide +kernel
theorem dX6_as_38 : decode mX6_as.2.1 38 = .ok (.iadd, 1) := by decide +kernel
theorem dX6_as_39 : decode mX6_as.2.1 39 = .ok (.iaload, 1) := by decide +kernel
theorem dX6_as_40 : decode mX6_as.2.1 40 = .ok (.istore_n 3, 1) := by decide +kernel
theorem dX6_as_41 : decode mX6_as.2.1 41 = .ok (.iload_n 3, 1) := by decide +kernel
theorem dX6_as_42 : decode mX6_as.2.1 42 = .ok (.ifCond .ge 11, 3) := by decide +kernel
theorem dX6_as_45 : decode mX6_as.2.1 45 = .ok (.aload_n 0, 1) := by decide +kernel
theorem dX6_as_46 : decode mX6_as.2.1 46 = .ok (.ldc_w 287, 3) := by decide +kernel
theorem dX6_as_49 : decode mX6_as.2.1 49 = .ok (.invokevirtual 45, 3) := by decide +kernel
theorem dX6_as_52 : decode mX6_as.2.1 52 = .ok (.ireturn, 1) := by decide +kernel
theorem dX6_as_53 : decode mX6_as.2.1 53 = .ok (.aload_n 0, 1) := by decide +kernel
theorem dX6_as_54 : decode mX6_as.2.1 54 = .ok (.iload_n 3, 1) := by decide +kernel
theorem dX6_as_55 : decode mX6_as.2.1 55 = .ok (.iconst 0, 1) := by decide +kernel
theorem dX6_as_56 : decode mX6_as.2.1 56 = .ok (.invokevirtual 70, 3) := by decide +kernel
theorem dX6_as_59 : decode mX6_as.2.1 59 = .ok (.iload_n 2, 1) := by decide +kernel
theorem dX6_as_60 : decode mX6_as.2.1 60 = .ok (.invokestatic 288, 3) := by decide +kernel
theorem dX6_as_63 : decode mX6_as.2.1 63 = .ok (.ifCond .eq 7, 3) := by decide +kernel
theorem dX6_as_66 : decode mX6_as.2.1 66 = .ok (.iload_n 3, 1) := by decide +kernel
theorem dX6_as_67 : decode mX6_as.2.1 67 = .ok (.goto 10, 3) := by decide +kernel
theorem dX6_as_70 : decode mX6_as.2.1 70 = .ok (.aload_n 0, 1) := by decide +kernel
theorem dX6_as_71 : decode mX6_as.2.1 71 = .ok (.ldc_w 291, 3) := by decide +kernel
theorem dX6_as_74 : decode mX6_as.2.1 74 = .ok (.invokevirtual 45, 3) := by decide +kernel
theorem dX6_as_77 : decode mX6_as.2.1 77 = .ok (.ireturn, 1) := by decide +kernel
theorem dX6_isSheet_0 : decode mX6_isSheet.2.1 0 = .ok (.iload_n 0, 1) := by decide +kernel
theorem dX6_isSheet_1 : decode mX6_isSheet.2.1 1 = .ok (.ifCond .lt 12, 3) := by decide +kernel
theorem dX6_isSheet_4 : decode mX6_isSheet.2.1 4 = .ok (.iload_n 0, 1) := by decide +kernel
theorem dX6_isSheet_5 : decode mX6_isSheet.2.1 5 = .ok (.iconst 4, 1) := by decide +kernel
theorem dX6_isSheet_6 : decode mX6_isSheet.2.1 6 = .ok (.if_icmp .ge 7, 3) := by decide +kernel
theorem dX6_isSheet_9 : decode mX6_isSheet.2.1 9 = .ok (.iconst 1, 1) := by decide +kernel
theorem dX6_isSheet_10 : decode mX6_isSheet.2.1 10 = .ok (.goto 4, 3) := by decide +kernel
theorem dX6_isSheet_13 : decode mX6_isSheet.2.1 13 = .ok (.iconst 0, 1) := by decide +kernel
theorem dX6_isSheet_14 : decode mX6_isSheet.2.1 14 = .ok (.ireturn, 1) := by decide +kernel
theorem dX6_sheet_0 : decode mX6_sheet.2.1 0 = .ok (.iload_n 1, 1) := by decide +kernel
theorem dX6_sheet_1 : decode mX6_sheet.2.1 1 = .ok (.invokestatic 292, 3) := by decide +kernel
theorem dX6_sheet_4 : decode mX6_sheet.2.1 4 = .ok (.ifCond .eq 25, 3) := by decide +kernel
theorem dX6_sheet_7 : decode mX6_sheet.2.1 7 = .ok (.iload_n 2, 1) := by decide +kernel
theorem dX6_sheet_8 : decode mX6_sheet.2.1 8 = .ok (.ifCond .eq 28, 3) := by decide +kernel
theorem dX6_sheet_11 : decode mX6_sheet.2.1 11 = .ok (.iload_n 2, 1) := by decide +kernel
theorem dX6_sheet_12 : decode mX6_sheet.2.1 12 = .ok (.bipush 8, 2) := by decide +kernel
theorem dX6_sheet_14 : decode mX6_sheet.2.1 14 = .ok (.if_icmp .eq 22, 3) := by decide +kernel
theorem dX6_sheet_17 : decode mX6_sheet.2.1 17 = .ok (.iload_n 2, 1) := by decide +kernel
theorem dX6_sheet_18 : decode mX6_sheet.2.1 18 = .ok (.bipush 16, 2) := by decide +kernel
theorem dX6_sheet_20 : decode mX6_sheet.2.1 20 = .ok (.if_icmp .eq 16, 3) := by decide +kernel
theorem dX6_sheet_23 : decode mX6_sheet.2.1 23 = .ok (.iload_n 2, 1) := by decide +kernel
theorem dX6_sheet_24 : decode mX6_sheet.2.1 24 = .ok (.bipush 32, 2) := by decide +kernel
theorem dX6_sheet_26 : decode mX6_sheet.2.1 26 = .ok (.if_icmp .eq 10, 3) := by decide +kernel
theorem dX6_sheet_29 : decode mX6_sheet.2.1 29 = .ok (.aload_n 0, 1) := by decide +kernel
theorem dX6_sheet_30 : decode mX6_sheet.2.1 30 = .ok (.ldc 43, 2) := by decide +kernel
theorem dX6_sheet_32 : decode mX6_sheet.2.1 32 = .ok (.invokevirtual 45, 3) := by decide +kernel
theorem dX6_sheet_35 : decode mX6_sheet.2.1 35 = .ok (.ireturn, 1) := by decide +kernel
theorem dX6_sheet_36 : decode mX6_sheet.2.1 36 = .ok (.iload_n 3, 1) := by decide +kernel
theorem dX6_sheet_37 : decode mX6_sheet.2.1 37 = .ok (.ifCond .ge 11, 3) := by decide +kernel
theorem dX6_sheet_40 : decode mX6_sheet.2.1 40 = .ok (.aload_n 0, 1) := by decide +kernel
theorem dX6_sheet_41 : decode mX6_sheet.2.1 41 = .ok (.ldc_w 295, 3) := by decide +kernel
theorem dX6_sheet_44 : decode mX6_sheet.2.1 44 = .ok (.invokevirtual 45, 3) := by decide +kernel
theorem dX6_sheet_47 : decode mX6_sheet.2.1 47 = .ok (.ireturn, 1) := by decide +kernel
theorem dX6_sheet_48 : decode mX6_sheet.2.1 48 = .ok (.iload_n 3, 1) := by decide +kernel
theorem dX6_sheet_49 : decode mX6_sheet.2.1 49 = .ok (.bipush 40, 2) := by decide +kernel
theorem dX6_sheet_51 : decode mX6_sheet.2.1 51 = .ok (.if_icmp .le 10, 3) := by decide +kernel
theorem dX6_sheet_54 : decode mX6_sheet.2.1 54 = .ok (.aload_n 0, 1) := by decide +kernel
theorem dX6_sheet_55 : decode mX6_sheet.2.1 55 = .ok (.ldc 43, 2) := by decide +kernel
theorem dX6_sheet_57 : decode mX6_sheet.2.1 57 = .ok (.invokevirtual 45, 3) := by decide +kernel
theorem dX6_sheet_60 : decode mX6_sheet.2.1 60 = .ok (.ireturn, 1) := by decide +kernel
theorem dX6_sheet_61 : decode mX6_sheet.2.1 61 = .ok (.aload_n 0, 1) := by decide +kernel
theorem dX6_sheet_62 : decode mX6_sheet.2.1 62 = .ok (.getfield 28, 3) := by decide +kernel
theorem dX6_sheet_65 : decode mX6_sheet.2.1 65 = .ok (.iload_n 1, 1) := by decide +kernel
theorem dX6_sheet_66 : decode mX6_sheet.2.1 66 = .ok (.iload_n 2, 1) := by decide +kernel
theorem dX6_sheet_67 : decode mX6_sheet.2.1 67 = .ok (.ifCond .ne 7, 3) := by decide +kernel
theorem dX6_sheet_70 : decode mX6_sheet.2.1 70 = .ok (.iconst (-1), 1) := by decide +kernel
theorem dX6_sheet_71 : decode mX6_sheet.2.1 71 = .ok (.goto 4, 3) := by decide +kernel
theorem dX6_sheet_74 : decode mX6_sheet.2.1 74 = .ok (.iload_n 2, 1) := by decide +kernel
theorem dX6_sheet_75 : decode mX6_sheet.2.1 75 = .ok (.iastore, 1) := by decide +kernel
theorem dX6_sheet_76 : decode mX6_sheet.2.1 76 = .ok (.aload_n 0, 1) := by decide +kernel
theorem dX6_sheet_77 : decode mX6_sheet.2.1 77 = .ok (.getfield 31, 3) := by decide +kernel
theorem dX6_sheet_80 : decode mX6_sheet.2.1 80 = .ok (.iload_n 1, 1) := by decide +kernel
theorem dX6_sheet_81 : decode mX6_sheet.2.1 81 = .ok (.iload_n 2, 1) := by decide +kernel
theorem dX6_sheet_82 : decode mX6_sheet.2.1 82 = .ok (.ifCond .ne 7, 3) := by decide +kernel
theorem dX6_sheet_85 : decode mX6_sheet.2.1 85 = .ok (.iconst 0, 1) := by decide +kernel
theorem dX6_sheet_86 : decode mX6_sheet.2.1 86 = .ok (.goto 4, 3) := by decide +kernel
theorem dX6_sheet_89 : decode mX6_sheet.2.1 89 = .ok (.iload_n 3, 1) := by decide +kernel
theorem dX6_sheet_90 : decode mX6_sheet.2.1 90 = .ok (.iastore, 1) := by decide +kernel
theorem dX6_sheet_91 : decode mX6_sheet.2.1 91 = .ok (.iconst 0, 1) := by decide +kernel
theorem dX6_sheet_92 : decode mX6_sheet.2.1 92 = .ok (.istore 4, 2) := by decide +kernel
theorem dX6_sheet_94 : decode mX6_sheet.2.1 94 = .ok (.iload 4, 2) := by decide +kernel
theorem dX6_sheet_96 : decode mX6_sheet.2.1 96 = .ok (.bipush 40, 2) := by decide +kernel
theorem dX6_sheet_98 : decode mX6_sheet.2.1 98 = .ok (.if_icmp .ge 22, 3) := by decide +kernel
theorem dX6_sheet_101 : decode mX6_sheet.2.1 101 = .ok (.aload_n 0, 1) := by decide +kernel
theorem dX6_sheet_102 : decode mX6_sheet.2.1 102 = .ok (.getfield 34, 3) := by decide +kernel
theorem dX6_sheet_105 : decode mX6_sheet.2.1 105 = .ok (.bipush 40, 2) := by decide +kernel
theorem dX6_sheet_107 : decode mX6_sheet.2.1 107 = .ok (.iload_n 1, 1) := by decide +kernel
theorem dX6_sheet_108 : decode mX6_sheet.2.1 108 = .ok (.imul, 1) := by decide +kernel
theorem dX6_sheet_109 : decode mX6_sheet.2.1 109 = .ok (.iload 4, 2) := by decide +kernel
theorem dX6_sheet_111 : decode mX6_sheet.2.1 111 = .ok (.iadd, 1) := by decide +kernel
theorem dX6_sheet_112 : decode mX6_sheet.2.1 112 = .ok (.iconst 0, 1) := by decide +kernel
theorem dX6_sheet_113 : decode mX6_sheet.2.1 113 = .ok (.iastore, 1) := by decide +kernel
theorem dX6_sheet_114 : decode mX6_sheet.2.1 114 = .ok (.iinc 4 1, 3) := by decide +kernel
theorem dX6_sheet_117 : decode mX6_sheet.2.1 117 = .ok (.goto (-23), 3) := by decide +kernel
theorem dX6_sheet_120 : decode mX6_sheet.2.1 120 = .ok (.aload_n 0, 1) := by decide +kernel
theorem dX6_sheet_121 : decode mX6_sheet.2.1 121 = .ok (.getfield 31, 3) := by decide +kernel
theorem dX6_sheet_124 : decode mX6_sheet.2.1 124 = .ok (.iload_n 1, 1) := by decide +kernel
theorem dX6_sheet_125 : decode mX6_sheet.2.1 125 = .ok (.iaload, 1) := by decide +kernel
theorem dX6_sheet_126 : decode mX6_sheet.2.1 126 = .ok (.ireturn, 1) := by decide +kernel
theorem dX6_write_0 : decode mX6_write.2.1 0 = .ok (.iload_n 1, 1) := by decide +kernel
theorem dX6_write_1 : decode mX6_write.2.1 1 = .ok (.invokestatic 292, 3) := by decide +kernel
theorem dX6_write_4 : decode mX6_write.2.1 4 = .ok (.ifCond .ne 10, 3) := by decide +kernel
theorem dX6_write_7 : decode mX6_write.2.1 7 = .ok (.aload_n 0, 1) := by decide +kernel
theorem dX6_write_8 : decode mX6_write.2.1 8 = .ok (.ldc 43, 2) := by decide +kernel
theorem dX6_write_10 : decode mX6_write.2.1 10 = .ok (.invokevirtual 45, 3) := by decide +kernel
theorem dX6_write_13 : decode mX6_write.2.1 13 = .ok (.ireturn, 1) := by decide +kernel
theorem dX6_write_14 : decode mX6_write.2.1 14 = .ok (.aload_n 0, 1) := by decide +kernel
theorem dX6_write_15 : decode mX6_write.2.1 15 = .ok (.getfield 28, 3) := by decide +kernel
theorem dX6_write_18 : decode mX6_write.2.1 18 = .ok (.iload_n 1, 1) := by decide +kernel
theorem dX6_write_19 : decode mX6_write.2.1 19 = .ok (.iaload, 1) := by decide +kernel
theorem dX6_write_20 : decode mX6_write.2.1 20 = .ok (.ifCond .ge 11, 3) := by decide +kernel
theorem dX6_write_23 : decode mX6_write.2.1 23 = .ok (.aload_n 0, 1) := by decide +kernel
theorem dX6_write_24 : decode mX6_write.2.1 24 = .ok (.ldc_w 287, 3) := by decide +kernel
theorem dX6_write_27 : decode mX6_write.2.1 27 = .ok (.invokevirtual 45, 3) := by decide +kernel
theorem dX6_write_30 : decode mX6_write.2.1 30 = .ok (.ireturn, 1) := by decide +kernel
theorem dX6_write_31 : decode mX6_write.2.1 31 = .ok (.iload_n 2, 1) := by decide +kernel
theorem dX6_write_32 : decode mX6_write.2.1 32 = .ok (.i2l, 1) := by decide +kernel
theorem dX6_write_33 : decode mX6_write.2.1 33 = .ok (.lconst 0, 1) := by decide +kernel
theorem dX6_write_34 : decode mX6_write.2.1 34 = .ok (.aload_n 0, 1) := by decide +kernel
theorem dX6_write_35 : decode mX6_write.2.1 35 = .ok (.getfield 31, 3) := by decide +kernel
theorem dX6_write_38 : decode mX6_write.2.1 38 = .ok (.iload_n 1, 1) := by decide +kernel
theorem dX6_write_39 : decode mX6_write.2.1 39 = .ok (.iaload, 1) := by decide +kernel
theorem dX6_write_40 : decode mX6_write.2.1 40 = .ok (.iconst 1, 1) := by decide +kernel
theorem dX6_write_41 : decode mX6_write.2.1 41 = .ok (.isub, 1) := by decide +kernel
theorem dX6_write_42 : decode mX6_write.2.1 42 = .ok (.i2l, 1) := by decide +kernel
theorem dX6_write_43 : decode mX6_write.2.1 43 = .ok (.invokestatic 51, 3) := by decide +kernel
theorem dX6_write_46 : decode mX6_write.2.1 46 = .ok (.ifCond .ne 10, 3) := by decide +kernel
theorem dX6_write_49 : decode mX6_write.2.1 49 = .ok (.aload_n 0, 1) := by decide +kernel
theorem dX6_write_50 : decode mX6_write.2.1 50 = .ok (.ldc 43, 2) := by decide +kernel
theorem dX6_write_52 : decode mX6_write.2.1 52 = .ok (.invokevirtual 45, 3) := by decide +kernel
theorem dX6_write_55 : decode mX6_write.2.1 55 = .ok (.ireturn, 1) := by decide +kernel
theorem dX6_write_56 : decode mX6_write.2.1 56 = .ok (.aload_n 0, 1) := by decide +kernel
theorem dX6_write_57 : decode mX6_write.2.1 57 = .ok (.getfield 34, 3) := by decide +kernel
theorem dX6_write_60 : decode mX6_write.2.1 60 = .ok (.bipush 40, 2) := by decide +kernel
theorem dX6_write_62 : decode mX6_write.2.1 62 = .ok (.iload_n 1, 1) := by decide +kernel
theorem dX6_write_63 : decode mX6_write.2.1 63 = .ok (.imul, 1) := by decide +kernel
theorem dX6_write_64 : decode mX6_write.2.1 64 = .ok (.iload_n 2, 1) := by decide +kernel
theorem dX6_write_65 : decode mX6_write.2.1 65 = .ok (.iadd, 1) := by decide +kernel
theorem dX6_write_66 : decode mX6_write.2.1 66 = .ok (.aload_n 0, 1) := by decide +kernel
theorem dX6_write_67 : decode mX6_write.2.1 67 = .ok (.getfield 28, 3) := by decide +kernel
theorem dX6_write_70 : decode mX6_write.2.1 70 = .ok (.iload_n 1, 1) := by decide +kernel
theorem dX6_write_71 : decode mX6_write.2.1 71 = .ok (.iaload, 1) := by decide +kernel
theorem dX6_write_72 : decode mX6_write.2.1 72 = .ok (.bipush 8, 2) := by decide +kernel
theorem dX6_write_74 : decode mX6_write.2.1 74 = .ok (.if_icmp .ne 8, 3) := by decide +kernel
theorem dX6_write_77 : decode mX6_write.2.1 77 = .ok (.iload_n 3, 1) := by decide +kernel
theorem dX6_write_78 : decode mX6_write.2.1 78 = .ok (.i2b, 1) := by decide +kernel
theorem dX6_write_79 : decode mX6_write.2.1 79 = .ok (.goto 20, 3) := by decide +kernel
theorem dX6_write_82 : decode mX6_write.2.1 82 = .ok (.aload_n 0, 1) := by decide +kernel
theorem dX6_write_83 : decode mX6_write.2.1 83 = .ok (.getfield 28, 3) := by decide +kernel
theorem dX6_write_86 : decode mX6_write.2.1 86 = .ok (.iload_n 1, 1) := by decide +kernel
theorem dX6_write_87 : decode mX6_write.2.1 87 = .ok (.iaload, 1) := by decide +kernel
theorem dX6_write_88 : decode mX6_write.2.1 88 = .ok (.bipush 16, 2) := by decide +kernel
theorem dX6_write_90 : decode mX6_write.2.1 90 = .ok (.if_icmp .ne 8, 3) := by decide +kernel
theorem dX6_write_93 : decode mX6_write.2.1 93 = .ok (.iload_n 3, 1) := by decide +kernel
theorem dX6_write_94 : decode mX6_write.2.1 94 = .ok (.i2s, 1) := by decide +kernel
theorem dX6_write_95 : decode mX6_write.2.1 95 = .ok (.goto 4, 3) := by decide +kernel
theorem dX6_write_98 : decode mX6_write.2.1 98 = .ok (.iload_n 3, 1) := by decide +kernel
theorem dX6_write_99 : decode mX6_write.2.1 99 = .ok (.iastore, 1) := by decide +kernel
theorem dX6_write_100 : decode mX6_write.2.1 100 = .ok (.iconst 1, 1) := by decide +kernel
theorem dX6_write_101 : decode mX6_write.2.1 101 = .ok (.ireturn, 1) := by decide +kernel
theorem dX6_copy_0 : decode mX6_copy.2.1 0 = .ok (.iload_n 1, 1) := by decide +kernel
theorem dX6_copy_1 : decode mX6_copy.2.1 1 = .ok (.invokestatic 292, 3) := by decide +kernel
theorem dX6_copy_4 : decode mX6_copy.2.1 4 = .ok (.ifCond .eq 10, 3) := by decide +kernel
theorem dX6_copy_7 : decode mX6_copy.2.1 7 = .ok (.iload_n 3, 1) := by decide +kernel
theorem dX6_copy_8 : decode mX6_copy.2.1 8 = .ok (.invokestatic 292, 3) := by decide +kernel
theorem dX6_copy_11 : decode mX6_copy.2.1 11 = .ok (.ifCond .ne 10, 3) := by decide +kernel
theorem dX6_copy_14 : decode mX6_copy.2.1 14 = .ok (.aload_n 0, 1) := by decide +kernel
theorem dX6_copy_15 : decode mX6_copy.2.1 15 = .ok (.ldc 43, 2) := by decide +kernel
theorem dX6_copy_17 : decode mX6_copy.2.1 17 = .ok (.invokevirtual 45, 3) := by decide +kernel
theorem dX6_copy_20 : decode mX6_copy.2.1 20 = .ok (.ireturn, 1) := by decide +kernel
theorem dX6_copy_21 : decode mX6_copy.2.1 21 = .ok (.aload_n 0, 1) := by decide +kernel
theorem dX6_copy_22 : decode mX6_copy.2.1 22 = .ok (.getfield 28, 3) := by decide +kernel
theorem dX6_copy_25 : decode mX6_copy.2.1 25 = .ok (.iload_n 1, 1) := by decide +kernel
theorem dX6_copy_26 : decode mX6_copy.2.1 26 = .ok (.iaload, 1) := by decide +kernel
theorem dX6_copy_27 : decode mX6_copy.2.1 27 = .ok (.ifCond .lt 12, 3) := by decide +kernel
theorem dX6_copy_30 : decode mX6_copy.2.1 30 = .ok (.aload_n 0, 1) := by decide +kernel
theorem dX6_copy_31 : decode mX6_copy.2.1 31 = .ok (.getfield 28, 3) := by decide +kernel
theorem dX6_copy_34 : decode mX6_copy.2.1 34 = .ok (.iload_n 3, 1) := by decide +kernel
theorem dX6_copy_35 : decode mX6_copy.2.1 35 = .ok (.iaload, 1) := by decide +kernel
theorem dX6_copy_36 : decode mX6_copy.2.1 36 = .ok (.ifCond .ge 11, 3) := by decide +kernel
theorem dX6_copy_39 : decode mX6_copy.2.1 39 = .ok (.aload_n 0, 1) := by decide +kernel
theorem dX6_copy_40 : decode mX6_copy.2.1 40 = .ok (.ldc_w 287, 3) := by decide +kernel
theorem dX6_copy_43 : decode mX6_copy.2.1 43 = .ok (.invokevirtual 45, 3) := by decide +kernel
theorem dX6_copy_46 : decode mX6_copy.2.1 46 = .ok (.ireturn, 1) := by decide +kernel
theorem dX6_copy_47 : decode mX6_copy.2.1 47 = .ok (.aload_n 0, 1) := by decide +kernel
theorem dX6_copy_48 : decode mX6_copy.2.1 48 = .ok (.getfield 28, 3) := by decide +kernel
theorem dX6_copy_51 : decode mX6_copy.2.1 51 = .ok (.iload_n 1, 1) := by decide +kernel
theorem dX6_copy_52 : decode mX6_copy.2.1 52 = .ok (.iaload, 1) := by decide +kernel
theorem dX6_copy_53 : decode mX6_copy.2.1 53 = .ok (.aload_n 0, 1) := by decide +kernel
theorem dX6_copy_54 : decode mX6_copy.2.1 54 = .ok (.getfield 28, 3) := by decide +kernel
theorem dX6_copy_57 : decode mX6_copy.2.1 57 = .ok (.iload_n 3, 1) := by decide +kernel
theorem dX6_copy_58 : decode mX6_copy.2.1 58 = .ok (.iaload, 1) := by decide +kernel
theorem dX6_copy_59 : decode mX6_copy.2.1 59 = .ok (.if_icmp .eq 11, 3) := by decide +kernel
theorem dX6_copy_62 : decode mX6_copy.2.1 62 = .ok (.aload_n 0, 1) := by decide +kernel
theorem dX6_copy_63 : decode mX6_copy.2.1 63 = .ok (.ldc_w 291, 3) := by decide +kernel
theorem dX6_copy_66 : decode mX6_copy.2.1 66 = .ok (.invokevirtual 45, 3) := by decide +kernel
theorem dX6_copy_69 : decode mX6_copy.2.1 69 = .ok (.ireturn, 1) := by decide +kernel
theorem dX6_copy_70 : decode mX6_copy.2.1 70 = .ok (.iload_n 2, 1) := by decide +kernel
theorem dX6_copy_71 : decode mX6_copy.2.1 71 = .ok (.ifCond .lt 40, 3) := by decide +kernel
theorem dX6_copy_74 : decode mX6_copy.2.1 74 = .ok (.iload 4, 2) := by decide +kernel
theorem dX6_copy_76 : decode mX6_copy.2.1 76 = .ok (.ifCond .lt 35, 3) := by decide +kernel
theorem dX6_copy_79 : decode mX6_copy.2.1 79 = .ok (.iload 5, 2) := by decide +kernel
theorem dX6_copy_81 : decode mX6_copy.2.1 81 = .ok (.ifCond .lt 30, 3) := by decide +kernel
theorem dX6_copy_84 : decode mX6_copy.2.1 84 = .ok (.iload 5, 2) := by decide +kernel
theorem dX6_copy_86 : decode mX6_copy.2.1 86 = .ok (.aload_n 0, 1) := by decide +kernel
theorem dX6_copy_87 : decode mX6_copy.2.1 87 = .ok (.getfield 31, 3) := by decide +kernel
theorem dX6_copy_90 : decode mX6_copy.2.1 90 = .ok (.iload_n 1, 1) := by decide +kernel
theorem dX6_copy_91 : decode mX6_copy.2.1 91 = .ok (.iaload, 1) := by decide +kernel
theorem dX6_copy_92 : decode mX6_copy.2.1 92 = .ok (.iload_n 2, 1) := by decide +kernel
theorem dX6_copy_93 : decode mX6_copy.2.1 93 = .ok (.isub, 1) := by decide +kernel
theorem dX6_copy_94 : decode mX6_copy.2.1 94 = .ok (.if_icmp .gt 17, 3) := by decide +kernel
theorem dX6_copy_97 : decode mX6_copy.2.1 97 = .ok (.iload 5, 2) := by decide +kernel
theorem dX6_copy_99 : decode mX6_copy.2.1 99 = .ok (.aload_n 0, 1) := by decide +kernel
theorem dX6_copy_100 : decode mX6_copy.2.1 100 = .ok (.getfield 31, 3) := by decide +kernel
theorem dX6_copy_103 : decode mX6_copy.2.1 103 = .ok (.iload_n 3, 1) := by decide +kernel
theorem dX6_copy_104 : decode mX6_copy.2.1 104 = .ok (.iaload, 1) := by decide +kernel
theorem dX6_copy_105 : decode mX6_copy.2.1 105 = .ok (.iload 4, 2) := by decide +kernel
theorem dX6_copy_107 : decode mX6_copy.2.1 107 = .ok (.isub, 1) := by decide +kernel
theorem dX6_copy_108 : decode mX6_copy.2.1 108 = .ok (.if_icmp .le 10, 3) := by decide +kernel
theorem dX6_copy_111 : decode mX6_copy.2.1 111 = .ok (.aload_n 0, 1) := by decide +kernel
theorem dX6_copy_112 : decode mX6_copy.2.1 112 = .ok (.ldc 43, 2) := by decide +kernel
theorem dX6_copy_114 : decode mX6_copy.2.1 114 = .ok (.invokevirtual 45, 3) := by decide +kernel
theorem dX6_copy_117 : decode mX6_copy.2.1 117 = .ok (.ireturn, 1) := by decide +kernel
theorem dX6_copy_118 : decode mX6_copy.2.1 118 = .ok (.bipush 40, 2) := by decide +kernel
theorem dX6_copy_120 : decode mX6_copy.2.1 120 = .ok (.iload_n 1, 1) := by decide +kernel
theorem dX6_copy_121 : decode mX6_copy.2.1 121 = .ok (.imul, 1) := by decide +kernel
theorem dX6_copy_122 : decode mX6_copy.2.1 122 = .ok (.iload_n 2, 1) := by decide +kernel
theorem dX6_copy_123 : decode mX6_copy.2.1 123 = .ok (.iadd, 1) := by decide +kernel
theorem dX6_copy_124 : decode mX6_copy.2.1 124 = .ok (.istore 6, 2) := by decide +kernel
theorem dX6_copy_126 : decode mX6_copy.2.1 126 = .ok (.bipush 40, 2) := by decide +kernel
theorem dX6_copy_128 : decode mX6_copy.2.1 128 = .ok (.iload_n 3, 1) := by decide +kernel
theorem dX6_copy_129 : decode mX6_copy.2.1 129 = .ok (.imul, 1) := by decide +kernel
theorem dX6_copy_130 : decode mX6_copy.2.1 130 = .ok (.iload 4, 2) := by decide +kernel
theorem dX6_copy_132 : decode mX6_copy.2.1 132 = .ok (.iadd, 1) := by decide +kernel
theorem dX6_copy_133 : decode mX6_copy.2.1 133 = .ok (.istore 7, 2) := by decide +kernel
theorem dX6_copy_135 : decode mX6_copy.2.1 135 = .ok (.iconst 0, 1) := by decide +kernel
theorem dX6_copy_136 : decode mX6_copy.2.1 136 = .ok (.istore 8, 2) := by decide +kernel
theorem dX6_copy_138 : decode mX6_copy.2.1 138 = .ok (.iload 8, 2) := by decide +kernel
theorem dX6_copy_140 : decode mX6_copy.2.1 140 = .ok (.iload 5, 2) := by decide +kernel
theorem dX6_copy_142 : decode mX6_copy.2.1 142 = .ok (.if_icmp .ge 50, 3) := by decide +kernel
theorem dX6_copy_145 : decode mX6_copy.2.1 145 = .ok (.iload 6, 2) := by decide +kernel
theorem dX6_copy_147 : decode mX6_copy.2.1 147 = .ok (.iload 7, 2) := by decide +kernel
theorem dX6_copy_149 : decode mX6_copy.2.1 149 = .ok (.if_icmp .ge 13, 3) := by decide +kernel
theorem dX6_copy_152 : decode mX6_copy.2.1 152 = .ok (.iload 5, 2) := by decide +kernel
theorem dX6_copy_154 : decode mX6_copy.2.1 154 = .ok (.iconst 1, 1) := by decide +kernel
theorem dX6_copy_155 : decode mX6_copy.2.1 155 = .ok (.isub, 1) := by decide +kernel
theorem dX6_copy_156 : decode mX6_copy.2.1 156 = .ok (.iload 8, 2) := by decide +kernel
theorem dX6_copy_158 : decode mX6_copy.2.1 158 = .ok (.isub, 1) := by decide +kernel
theorem dX6_copy_159 : decode mX6_copy.2.1 159 = .ok (.goto 5, 3) := by decide +kernel
theorem dX6_copy_162 : decode mX6_copy.2.1 162 = .ok (.iload 8, 2) := by decide +kernel
theorem dX6_copy_164 : decode mX6_copy.2.1 164 = .ok (.istore 9, 2) := by decide +kernel
theorem dX6_copy_166 : decode mX6_copy.2.1 166 = .ok (.aload_n 0, 1) := by decide +kernel
theorem dX6_copy_167 : decode mX6_copy.2.1 167 = .ok (.getfield 34, 3) := by decide +kernel
theorem dX6_copy_170 : decode mX6_copy.2.1 170 = .ok (.iload 7, 2) := by decide +kernel
theorem dX6_copy_172 : decode mX6_copy.2.1 172 = .ok (.iload 9, 2) := by decide +kernel
theorem dX6_copy_174 : decode mX6_copy.2.1 174 = .ok (.iadd, 1) := by decide +kernel
theorem dX6_copy_175 : decode mX6_copy.2.1 175 = .ok (.aload_n 0, 1) := by decide +kernel
theorem dX6_copy_176 : decode mX6_copy.2.1 176 = .ok (.getfield 34, 3) := by decide +kernel
theorem dX6_copy_179 : decode mX6_copy.2.1 179 = .ok (.iload 6, 2) := by decide +kernel
theorem dX6_copy_181 : decode mX6_copy.2.1 181 = .ok (.iload 9, 2) := by decide +kernel
theorem dX6_copy_183 : decode mX6_copy.2.1 183 = .ok (.iadd, 1) := by decide +kernel
theorem dX6_copy_184 : decode mX6_copy.2.1 184 = .ok (.iaload, 1) := by decide +kernel
theorem dX6_copy_185 : decode mX6_copy.2.1 185 = .ok (.iastore, 1) := by decide +kernel
theorem dX6_copy_186 : decode mX6_copy.2.1 186 = .ok (.iinc 8 1, 3) := by decide +kernel
theorem dX6_copy_189 : decode mX6_copy.2.1 189 = .ok (.goto (-51), 3) := by decide +kernel
theorem dX6_copy_192 : decode mX6_copy.2.1 192 = .ok (.iload 5, 2) := by decide +kernel
theorem dX6_copy_194 : decode mX6_copy.2.1 194 = .ok (.ireturn, 1) := by decide +kernel
theorem dX6_wants_0 : decode mX6_wants.2.1 0 = .ok (.iload_n 1, 1) := by decide +kernel
theorem dX6_wants_1 : decode mX6_wants.2.1 1 = .ok (.invokestatic 292, 3) := by decide +kernel
theorem dX6_wants_4 : decode mX6_wants.2.1 4 = .ok (.ifCond .ne 8, 3) := by decide +kernel
theorem dX6_wants_7 : decode mX6_wants.2.1 7 = .ok (.ldc 43, 2) := by decide +kernel
theorem dX6_wants_9 : decode mX6_wants.2.1 9 = .ok (.goto 19, 3) := by decide +kernel
theorem dX6_wants_12 : decode mX6_wants.2.1 12 = .ok (.aload_n 0, 1) := by decide +kernel
theorem dX6_wants_13 : decode mX6_wants.2.1 13 = .ok (.getfield 28, 3) := by decide +kernel
theorem dX6_wants_16 : decode mX6_wants.2.1 16 = .ok (.iload_n 1, 1) := by decide +kernel
theorem dX6_wants_17 : decode mX6_wants.2.1 17 = .ok (.iaload, 1) := by decide +kernel
theorem dX6_wants_18 : decode mX6_wants.2.1 18 = .ok (.ifCond .ge 9, 3) := by decide +kernel
theorem dX6_wants_21 : decode mX6_wants.2.1 21 = .ok (.ldc_w 287, 3) := by decide +kernel
theorem dX6_wants_24 : decode mX6_wants.2.1 24 = .ok (.goto 4, 3) := by decide +kernel
theorem dX6_wants_27 : decode mX6_wants.2.1 27 = .ok (.iconst 0, 1) := by decide +kernel
theorem dX6_wants_28 : decode mX6_wants.2.1 28 = .ok (.ireturn, 1) := by decide +kernel
theorem dX6_load_0 : decode mX6_load.2.1 0 = .ok (.aload_n 0, 1) := by decide +kernel
theorem dX6_load_1 : decode mX6_load.2.1 1 = .ok (.iload_n 1, 1) := by decide +kernel
theorem dX6_load_2 : decode mX6_load.2.1 2 = .ok (.invokevirtual 195, 3) := by decide +kernel
theorem dX6_load_5 : decode mX6_load.2.1 5 = .ok (.ifCond .eq 13, 3) := by decide +kernel
theorem dX6_load_8 : decode mX6_load.2.1 8 = .ok (.aload_n 0, 1) := by decide +kernel
theorem dX6_load_9 : decode mX6_load.2.1 9 = .ok (.aload_n 0, 1) := by decide +kernel
theorem dX6_load_10 : decode mX6_load.2.1 10 = .ok (.iload_n 1, 1) := by decide +kernel
theorem dX6_load_11 : decode mX6_load.2.1 11 = .ok (.invokevirtual 195, 3) := by decide +kernel
theorem dX6_load_14 : decode mX6_load.2.1 14 = .ok (.invokevirtual 45, 3) := by decide +kernel
theorem dX6_load_17 : decode mX6_load.2.1 17 = .ok (.ireturn, 1) := by decide +kernel
theorem dX6_load_18 : decode mX6_load.2.1 18 = .ok (.iconst 0, 1) := by decide +kernel
theorem dX6_load_19 : decode mX6_load.2.1 19 = .ok (.istore_n 2, 1) := by decide +kernel
theorem dX6_load_20 : decode mX6_load.2.1 20 = .ok (.iload_n 2, 1) := by decide +kernel
theorem dX6_load_21 : decode mX6_load.2.1 21 = .ok (.aload_n 0, 1) := by decide +kernel
theorem dX6_load_22 : decode mX6_load.2.1 22 = .ok (.getfield 31, 3) := by decide +kernel
theorem dX6_load_25 : decode mX6_load.2.1 25 = .ok (.iload_n 1, 1) := by decide +kernel
theorem dX6_load_26 : decode mX6_load.2.1 26 = .ok (.iaload, 1) := by decide +kernel
theorem dX6_load_27 : decode mX6_load.2.1 27 = .ok (.if_icmp .ge 63, 3) := by decide +kernel
theorem dX6_load_30 : decode mX6_load.2.1 30 = .ok (.aload_n 0, 1) := by decide +kernel
theorem dX6_load_31 : decode mX6_load.2.1 31 = .ok (.iload_n 2, 1) := by decide +kernel
theorem dX6_load_32 : decode mX6_load.2.1 32 = .ok (.invokevirtual 82, 3) := by decide +kernel
theorem dX6_load_35 : decode mX6_load.2.1 35 = .ok (.ifCond .eq 55, 3) := by decide +kernel
theorem dX6_load_38 : decode mX6_load.2.1 38 = .ok (.aload_n 0, 1) := by decide +kernel
theorem dX6_load_39 : decode mX6_load.2.1 39 = .ok (.getfield 34, 3) := by decide +kernel
theorem dX6_load_42 : decode mX6_load.2.1 42 = .ok (.bipush 40, 2) := by decide +kernel
theorem dX6_load_44 : decode mX6_load.2.1 44 = .ok (.iload_n 1, 1) := by decide +kernel
theorem dX6_load_45 : decode mX6_load.2.1 45 = .ok (.imul, 1) := by decide +kernel
theorem dX6_load_46 : decode mX6_load.2.1 46 = .ok (.iload_n 2, 1) := by decide +kernel
theorem dX6_load_47 : decode mX6_load.2.1 47 = .ok (.iadd, 1) := by decide +kernel
theorem dX6_load_48 : decode mX6_load.2.1 48 = .ok (.iaload, 1) := by decide +kernel
theorem dX6_load_49 : decode mX6_load.2.1 49 = .ok (.i2l, 1) := by decide +kernel
theorem dX6_load_50 : decode mX6_load.2.1 50 = .ok (.lconst 0, 1) := by decide +kernel
theorem dX6_load_51 : decode mX6_load.2.1 51 = .ok (.ldc2_w 63, 3) := by decide +kernel
theorem dX6_load_54 : decode mX6_load.2.1 54 = .ok (.invokestatic 51, 3) := by decide +kernel
theorem dX6_load_57 : decode mX6_load.2.1 57 = .ok (.ifCond .eq 33, 3) := by decide +kernel
theorem dX6_load_60 : decode mX6_load.2.1 60 = .ok (.aload_n 0, 1) := by decide +kernel
theorem dX6_load_61 : decode mX6_load.2.1 61 = .ok (.getfield 7, 3) := by decide +kernel
theorem dX6_load_64 : decode mX6_load.2.1 64 = .ok (.bipush 6, 2) := by decide +kernel
theorem dX6_load_66 : decode mX6_load.2.1 66 = .ok (.iconst 5, 1) := by decide +kernel
theorem dX6_load_67 : decode mX6_load.2.1 67 = .ok (.iload_n 2, 1) := by decide +kernel
theorem dX6_load_68 : decode mX6_load.2.1 68 = .ok (.imul, 1) := by decide +kernel
theorem dX6_load_69 : decode mX6_load.2.1 69 = .ok (.iadd, 1) := by decide +kernel
theorem dX6_load_70 : decode mX6_load.2.1 70 = .ok (.iconst 1, 1) := by decide +kernel
theorem dX6_load_71 : decode mX6_load.2.1 71 = .ok (.iadd, 1) := by decide +kernel
theorem dX6_load_72 : decode mX6_load.2.1 72 = .ok (.aload_n 0, 1) := by decide +kernel
theorem dX6_load_73 : decode mX6_load.2.1 73 = .ok (.getfield 34, 3) := by decide +kernel
theorem dX6_load_76 : decode mX6_load.2.1 76 = .ok (.bipush 40, 2) := by decide +kernel
theorem dX6_load_78 : decode mX6_load.2.1 78 = .ok (.iload_n 1, 1) := by decide +kernel
theorem dX6_load_79 : decode mX6_load.2.1 79 = .ok (.imul, 1) := by decide +kernel
theorem dX6_load_80 : decode mX6_load.2.1 80 = .ok (.iload_n 2, 1) := by decide +kernel
theorem dX6_load_81 : decode mX6_load.2.1 81 = .ok (.iadd, 1) := by decide +kernel
theorem dX6_load_82 : decode mX6_load.2.1 82 = .ok (.iaload, 1) := by decide +kernel
theorem dX6_load_83 : decode mX6_load.2.1 83 = .ok (.iastore, 1) := by decide +kernel
theorem dX6_load_84 : decode mX6_load.2.1 84 = .ok (.iinc 2 1, 3) := by decide +kernel
theorem dX6_load_87 : decode mX6_load.2.1 87 = .ok (.goto (-67), 3) := by decide +kernel
theorem dX6_load_90 : decode mX6_load.2.1 90 = .ok (.iload_n 2, 1) := by decide +kernel
theorem dX6_load_91 : decode mX6_load.2.1 91 = .ok (.ireturn, 1) := by decide +kernel
theorem dX6_judge_0 : decode mX6_judge.2.1 0 = .ok (.aload_n 0, 1) := by decide +kernel
theorem dX6_judge_1 : decode mX6_judge.2.1 1 = .ok (.iload_n 1, 1) := by decide +kernel
theorem dX6_judge_2 : decode mX6_judge.2.1 2 = .ok (.invokevirtual 195, 3) := by decide +kernel
theorem dX6_judge_5 : decode mX6_judge.2.1 5 = .ok (.ifCond .eq 13, 3) := by decide +kernel
theorem dX6_judge_8 : decode mX6_judge.2.1 8 = .ok (.aload_n 0, 1) := by decide +kernel
theorem dX6_judge_9 : decode mX6_judge.2.1 9 = .ok (.aload_n 0, 1) := by decide +kernel
theorem dX6_judge_10 : decode mX6_judge.2.1 10 = .ok (.iload_n 1, 1) := by decide +kernel
theorem dX6_judge_11 : decode mX6_judge.2.1 11 = .ok (.invokevirtual 195, 3) := by decide +kernel
theorem dX6_judge_14 : decode mX6_judge.2.1 14 = .ok (.invokevirtual 45, 3) := by decide +kernel
theorem dX6_judge_17 : decode mX6_judge.2.1 17 = .ok (.ireturn, 1) := by decide +kernel
theorem dX6_judge_18 : decode mX6_judge.2.1 18 = .ok (.iconst 0, 1) := by decide +kernel
theorem dX6_judge_19 : decode mX6_judge.2.1 19 = .ok (.istore_n 2, 1) := by decide +kernel
theorem dX6_judge_20 : decode mX6_judge.2.1 20 = .ok (.iload_n 2, 1) := by decide +kernel
theorem dX6_judge_21 : decode mX6_judge.2.1 21 = .ok (.aload_n 0, 1) := by decide +kernel
theorem dX6_judge_22 : decode mX6_judge.2.1 22 = .ok (.getfield 31, 3) := by decide +kernel
theorem dX6_judge_25 : decode mX6_judge.2.1 25 = .ok (.iload_n 1, 1) := by decide +kernel
theorem dX6_judge_26 : decode mX6_judge.2.1 26 = .ok (.iaload, 1) := by decide +kernel
theorem dX6_judge_27 : decode mX6_judge.2.1 27 = .ok (.if_icmp .ge 36, 3) := by decide +kernel
theorem dX6_judge_30 : decode mX6_judge.2.1 30 = .ok (.aload_n 0, 1) := by decide +kernel
theorem dX6_judge_31 : decode mX6_judge.2.1 31 = .ok (.iload_n 2, 1) := by decide +kernel
theorem dX6_judge_32 : decode mX6_judge.2.1 32 = .ok (.invokevirtual 82, 3) := by decide +kernel
theorem dX6_judge_35 : decode mX6_judge.2.1 35 = .ok (.ifCond .eq 28, 3) := by decide +kernel
theorem dX6_judge_38 : decode mX6_judge.2.1 38 = .ok (.aload_n 0, 1) := by decide +kernel
theorem dX6_judge_39 : decode mX6_judge.2.1 39 = .ok (.getfield 34, 3) := by decide +kernel
theorem dX6_judge_42 : decode mX6_judge.2.1 42 = .ok (.bipush 40, 2) := by decide +kernel
theorem dX6_judge_44 : decode mX6_judge.2.1 44 = .ok (.iload_n 1, 1) := by decide +kernel
theorem dX6_judge_45 : decode mX6_judge.2.1 45 = .ok (.imul, 1) := by decide +kernel
theorem dX6_judge_46 : decode mX6_judge.2.1 46 = .ok (.iload_n 2, 1) := by decide +kernel
theorem dX6_judge_47 : decode mX6_judge.2.1 47 = .ok (.iadd, 1) := by decide +kernel
theorem dX6_judge_48 : decode mX6_judge.2.1 48 = .ok (.iaload, 1) := by decide +kernel
theorem dX6_judge_49 : decode mX6_judge.2.1 49 = .ok (.aload_n 0, 1) := by decide +kernel
theorem dX6_judge_50 : decode mX6_judge.2.1 50 = .ok (.iload_n 2, 1) := by decide +kernel
theorem dX6_judge_51 : decode mX6_judge.2.1 51 = .ok (.invokevirtual 88, 3) := by decide +kernel
theorem dX6_judge_54 : decode mX6_judge.2.1 54 = .ok (.if_icmp .ne 9, 3) := by decide +kernel
theorem dX6_judge_57 : decode mX6_judge.2.1 57 = .ok (.iinc 2 1, 3) := by decide +kernel
theorem dX6_judge_60 : decode mX6_judge.2.1 60 = .ok (.goto (-40), 3) := by decide +kernel
theorem dX6_judge_63 : decode mX6_judge.2.1 63 = .ok (.iload_n 2, 1) := by decide +kernel
theorem dX6_judge_64 : decode mX6_judge.2.1 64 = .ok (.aload_n 0, 1) := by decide +kernel
theorem dX6_judge_65 : decode mX6_judge.2.1 65 = .ok (.getfield 31, 3) := by decide +kernel
theorem dX6_judge_68 : decode mX6_judge.2.1 68 = .ok (.iload_n 1, 1) := by decide +kernel
theorem dX6_judge_69 : decode mX6_judge.2.1 69 = .ok (.iaload, 1) := by decide +kernel
theorem dX6_judge_70 : decode mX6_judge.2.1 70 = .ok (.if_icmp .ge 9, 3) := by decide +kernel
theorem dX6_judge_73 : decode mX6_judge.2.1 73 = .ok (.iconst 1, 1) := by decide +kernel
theorem dX6_judge_74 : decode mX6_judge.2.1 74 = .ok (.iload_n 2, 1) := by decide +kernel
theorem dX6_judge_75 : decode mX6_judge.2.1 75 = .ok (.iadd, 1) := by decide +kernel
theorem dX6_judge_76 : decode mX6_judge.2.1 76 = .ok (.goto 4, 3) := by decide +kernel
theorem dX6_judge_79 : decode mX6_judge.2.1 79 = .ok (.iconst 0, 1) := by decide +kernel
theorem dX6_judge_80 : decode mX6_judge.2.1 80 = .ok (.ireturn, 1) := by decide +kernel
theorem dX6_image_0 : decode mX6_image.2.1 0 = .ok (.aload_n 0, 1) := by decide +kernel
theorem dX6_image_1 : decode mX6_image.2.1 1 = .ok (.getfield 7, 3) := by decide +kernel
theorem dX6_image_4 : decode mX6_image.2.1 4 = .ok (.aload_n 0, 1) := by decide +kernel
theorem dX6_image_5 : decode mX6_image.2.1 5 = .ok (.getfield 13, 3) := by decide +kernel
theorem dX6_image_8 : decode mX6_image.2.1 8 = .ok (.invokestatic 162, 3) := by decide +kernel
theorem dX6_image_11 : decode mX6_image.2.1 11 = .ok (.aload_n 0, 1) := by decide +kernel
theorem dX6_image_12 : decode mX6_image.2.1 12 = .ok (.iconst 1, 1) := by decide +kernel
theorem dX6_image_13 : decode mX6_image.2.1 13 = .ok (.putfield 296, 3) := by decide +kernel
theorem dX6_image_16 : decode mX6_image.2.1 16 = .ok (.iconst 1, 1) := by decide +kernel
theorem dX6_image_17 : decode mX6_image.2.1 17 = .ok (.ireturn, 1) := by decide +kernel
theorem dX6_undo_0 : decode mX6_undo.2.1 0 = .ok (.aload_n 0, 1) := by decide +kernel
theorem dX6_undo_1 : decode mX6_undo.2.1 1 = .ok (.getfield 296, 3) := by decide +kernel
theorem dX6_undo_4 : decode mX6_undo.2.1 4 = .ok (.ifCond .ne 10, 3) := by decide +kernel
theorem dX6_undo_7 : decode mX6_undo.2.1 7 = .ok (.aload_n 0, 1) := by decide +kernel
theorem dX6_undo_8 : decode mX6_undo.2.1 8 = .ok (.ldc 44, 2) := by decide +kernel
theorem dX6_undo_10 : decode mX6_undo.2.1 10 = .ok (.invokevirtual 45, 3) := by decide +kernel
theorem dX6_undo_13 : decode mX6_undo.2.1 13 = .ok (.ireturn, 1) := by decide +kernel
theorem dX6_undo_14 : decode mX6_undo.2.1 14 = .ok (.aload_n 0, 1) := by decide +kernel
theorem dX6_undo_15 : decode mX6_undo.2.1 15 = .ok (.getfield 13, 3) := by decide +kernel
theorem dX6_undo_18 : decode mX6_undo.2.1 18 = .ok (.aload_n 0, 1) := by decide +kernel
theorem dX6_undo_19 : decode mX6_undo.2.1 19 = .ok (.getfield 7, 3) := by decide +kernel
theorem dX6_undo_22 : decode mX6_undo.2.1 22 = .ok (.invokestatic 162, 3) := by decide +kernel
theorem dX6_undo_25 : decode mX6_undo.2.1 25 = .ok (.aload_n 0, 1) := by decide +kernel
theorem dX6_undo_26 : decode mX6_undo.2.1 26 = .ok (.getfield 7, 3) := by decide +kernel
theorem dX6_undo_29 : decode mX6_undo.2.1 29 = .ok (.iconst 1, 1) := by decide +kernel
theorem dX6_undo_30 : decode mX6_undo.2.1 30 = .ok (.iaload, 1) := by decide +kernel
theorem dX6_undo_31 : decode mX6_undo.2.1 31 = .ok (.ireturn, 1) := by decide +kernel
theorem dX6_tear_0 : decode mX6_tear.2.1 0 = .ok (.aload_n 0, 1) := by decide +kernel
theorem dX6_tear_1 : decode mX6_tear.2.1 1 = .ok (.getfield 296, 3) := by decide +kernel
theorem dX6_tear_4 : decode mX6_tear.2.1 4 = .ok (.istore_n 1, 1) := by decide +kernel
theorem dX6_tear_5 : decode mX6_tear.2.1 5 = .ok (.aload_n 0, 1) := by decide +kernel
theorem dX6_tear_6 : decode mX6_tear.2.1 6 = .ok (.iconst 0, 1) := by decide +kernel
theorem dX6_tear_7 : decode mX6_tear.2.1 7 = .ok (.putfield 296, 3) := by decide +kernel
theorem dX6_tear_10 : decode mX6_tear.2.1 10 = .ok (.iload_n 1, 1) := by decide +kernel
theorem dX6_tear_11 : decode mX6_tear.2.1 11 = .ok (.ifCond .eq 7, 3) := by decide +kernel
theorem dX6_tear_14 : decode mX6_tear.2.1 14 = .ok (.iconst 1, 1) := by decide +kernel
theorem dX6_tear_15 : decode mX6_tear.2.1 15 = .ok (.goto 4, 3) := by decide +kernel
theorem dX6_tear_18 : decode mX6_tear.2.1 18 = .ok (.iconst 0, 1) := by decide +kernel
theorem dX6_tear_19 : decode mX6_tear.2.1 19 = .ok (.ireturn, 1) := by decide +kernel
theorem dX6_count_0 : decode mX6_count.2.1 0 = .ok (.iconst 0, 1) := by decide +kernel
theorem dX6_count_1 : decode mX6_count.2.1 1 = .ok (.istore_n 2, 1) := by decide +kernel
theorem dX6_count_2 : decode mX6_count.2.1 2 = .ok (.iload_n 1, 1) := by decide +kernel
theorem dX6_count_3 : decode mX6_count.2.1 3 = .ok (.tableswitch 127 0 7 #[45, 52, 59, 67, 73, 79, 84, 91], 45) := by decide +kernel
theorem dX6_count_48 : decode mX6_count.2.1 48 = .ok (.aload_n 0, 1) := by decide +kernel
theorem dX6_count_49 : decode mX6_count.2.1 49 = .ok (.getfield 7, 3) := by decide +kernel
theorem dX6_count_52 : decode mX6_count.2.1 52 = .ok (.iconst 1, 1) := by decide +kernel
theorem dX6_count_53 : decode mX6_count.2.1 53 = .ok (.iaload, 1) := by decide +kernel
theorem dX6_count_54 : decode mX6_count.2.1 54 = .ok (.ireturn, 1) := by decide +kernel
theorem dX6_count_55 : decode mX6_count.2.1 55 = .ok (.aload_n 0, 1) := by decide +kernel
theorem dX6_count_56 : decode mX6_count.2.1 56 = .ok (.getfield 7, 3) := by decide +kernel
theorem dX6_count_59 : decode mX6_count.2.1 59 = .ok (.iconst 0, 1) := by decide +kernel
theorem dX6_count_60 : decode mX6_count.2.1 60 = .ok (.iaload, 1) := by decide +kernel
theorem dX6_count_61 : decode mX6_count.2.1 61 = .ok (.ireturn, 1) := by decide +kernel
theorem dX6_count_62 : decode mX6_count.2.1 62 = .ok (.aload_n 0, 1) := by decide +kernel
theorem dX6_count_63 : decode mX6_count.2.1 63 = .ok (.invokevirtual 119, 3) := by decide +kernel
theorem dX6_count_66 : decode mX6_count.2.1 66 = .ok (.invokestatic 168, 3) := by decide +kernel
theorem dX6_count_69 : decode mX6_count.2.1 69 = .ok (.ireturn, 1) := by decide +kernel
theorem dX6_count_70 : decode mX6_count.2.1 70 = .ok (.aload_n 0, 1) := by decide +kernel
theorem dX6_count_71 : decode mX6_count.2.1 71 = .ok (.iconst 2, 1) := by decide +kernel
theorem dX6_count_72 : decode mX6_count.2.1 72 = .ok (.invokevirtual 153, 3) := by decide +kernel
theorem dX6_count_75 : decode mX6_count.2.1 75 = .ok (.ireturn, 1) := by decide +kernel
theorem dX6_count_76 : decode mX6_count.2.1 76 = .ok (.aload_n 0, 1) := by decide +kernel
theorem dX6_count_77 : decode mX6_count.2.1 77 = .ok (.iconst 3, 1) := by decide +kernel
theorem dX6_count_78 : decode mX6_count.2.1 78 = .ok (.invokevirtual 153, 3) := by decide +kernel
theorem dX6_count_81 : decode mX6_count.2.1 81 = .ok (.ireturn, 1) := by decide +kernel
theorem dX6_count_82 : decode mX6_count.2.1 82 = .ok (.aload_n 0, 1) := by decide +kernel
theorem dX6_count_83 : decode mX6_count.2.1 83 = .ok (.getfield 214, 3) := by decide +kernel
theorem dX6_count_86 : decode mX6_count.2.1 86 = .ok (.ireturn, 1) := by decide +kernel
theorem dX6_count_87 : decode mX6_count.2.1 87 = .ok (.aload_n 0, 1) := by decide +kernel
theorem dX6_count_88 : decode mX6_count.2.1 88 = .ok (.getfield 7, 3) := by decide +kernel
theorem dX6_count_91 : decode mX6_count.2.1 91 = .ok (.iconst 2, 1) := by decide +kernel
theorem dX6_count_92 : decode mX6_count.2.1 92 = .ok (.iaload, 1) := by decide +kernel
theorem dX6_count_93 : decode mX6_count.2.1 93 = .ok (.ireturn, 1) := by decide +kernel
theorem dX6_count_94 : decode mX6_count.2.1 94 = .ok (.iconst 0, 1) := by decide +kernel
theorem dX6_count_95 : decode mX6_count.2.1 95 = .ok (.istore_n 3, 1) := by decide +kernel
theorem dX6_count_96 : decode mX6_count.2.1 96 = .ok (.iload_n 3, 1) := by decide +kernel
theorem dX6_count_97 : decode mX6_count.2.1 97 = .ok (.bipush 10, 2) := by decide +kernel
theorem dX6_count_99 : decode mX6_count.2.1 99 = .ok (.if_icmp .ge 29, 3) := by decide +kernel
theorem dX6_count_102 : decode mX6_count.2.1 102 = .ok (.iload_n 2, 1) := by decide +kernel
theorem dX6_count_103 : decode mX6_count.2.1 103 = .ok (.aload_n 0, 1) := by decide +kernel
theorem dX6_count_104 : decode mX6_count.2.1 104 = .ok (.getfield 7, 3) := by decide +kernel
theorem dX6_count_107 : decode mX6_count.2.1 107 = .ok (.bipush 46, 2) := by decide +kernel
theorem dX6_count_109 : decode mX6_count.2.1 109 = .ok (.iload_n 3, 1) := by decide +kernel
theorem dX6_count_110 : decode mX6_count.2.1 110 = .ok (.iadd, 1) := by decide +kernel
theorem dX6_count_111 : decode mX6_count.2.1 111 = .ok (.iaload, 1) := by decide +kernel
theorem dX6_count_112 : decode mX6_count.2.1 112 = .ok (.ifCond .ge 7, 3) := by decide +kernel
theorem dX6_count_115 : decode mX6_count.2.1 115 = .ok (.iconst 0, 1) := by decide +kernel
theorem dX6_count_116 : decode mX6_count.2.1 116 = .ok (.goto 4, 3) := by decide +kernel
theorem dX6_count_119 : decode mX6_count.2.1 119 = .ok (.iconst 1, 1) := by decide +kernel
theorem dX6_count_120 : decode mX6_count.2.1 120 = .ok (.iadd, 1) := by decide +kernel
theorem dX6_count_121 : decode mX6_count.2.1 121 = .ok (.istore_n 2, 1) := by decide +kernel
theorem dX6_count_122 : decode mX6_count.2.1 122 = .ok (.iinc 3 1, 3) := by decide +kernel
theorem dX6_count_125 : decode mX6_count.2.1 125 = .ok (.goto (-29), 3) := by decide +kernel
theorem dX6_count_128 : decode mX6_count.2.1 128 = .ok (.iload_n 2, 1) := by decide +kernel
theorem dX6_count_129 : decode mX6_count.2.1 129 = .ok (.ireturn, 1) := by decide +kernel
theorem dX6_count_130 : decode mX6_count.2.1 130 = .ok (.aload_n 0, 1) := by decide +kernel
theorem dX6_count_131 : decode mX6_count.2.1 131 = .ok (.ldc 43, 2) := by decide +kernel
theorem dX6_count_133 : decode mX6_count.2.1 133 = .ok (.invokevirtual 45, 3) := by decide +kernel
theorem dX6_count_136 : decode mX6_count.2.1 136 = .ok (.ireturn, 1) := by decide +kernel
theorem dX6_status_0 : decode mX6_status.2.1 0 = .ok (.iload_n 1, 1) := by decide +kernel
theorem dX6_status_1 : decode mX6_status.2.1 1 = .ok (.i2l, 1) := by decide +kernel
theorem dX6_status_2 : decode mX6_status.2.1 2 = .ok (.ldc2_w 300, 3) := by decide +kernel
theorem dX6_status_5 : decode mX6_status.2.1 5 = .ok (.ldc2_w 61, 3) := by decide +kernel
theorem dX6_status_8 : decode mX6_status.2.1 8 = .ok (.invokestatic 51, 3) := by decide +kernel
theorem dX6_status_11 : decode mX6_status.2.1 11 = .ok (.ifCond .eq 14, 3) := by decide +kernel
theorem dX6_status_14 : decode mX6_status.2.1 14 = .ok (.aload_n 0, 1) := by decide +kernel
theorem dX6_status_15 : decode mX6_status.2.1 15 = .ok (.getfield 22, 3) := by decide +kernel
theorem dX6_status_18 : decode mX6_status.2.1 18 = .ok (.iload_n 1, 1) := by decide +kernel
theorem dX6_status_19 : decode mX6_status.2.1 19 = .ok (.iconst 1, 1) := by decide +kernel
theorem dX6_status_20 : decode mX6_status.2.1 20 = .ok (.iadd, 1) := by decide +kernel
theorem dX6_status_21 : decode mX6_status.2.1 21 = .ok (.iaload, 1) := by decide +kernel
theorem dX6_status_22 : decode mX6_status.2.1 22 = .ok (.goto 9, 3) := by decide +kernel
theorem dX6_status_25 : decode mX6_status.2.1 25 = .ok (.aload_n 0, 1) := by decide +kernel
theorem dX6_status_26 : decode mX6_status.2.1 26 = .ok (.ldc 43, 2) := by decide +kernel
theorem dX6_status_28 : decode mX6_status.2.1 28 = .ok (.invokevirtual 45, 3) := by decide +kernel
theorem dX6_status_31 : decode mX6_status.2.1 31 = .ok (.ireturn, 1) := by decide +kernel
