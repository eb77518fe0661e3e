/-! decode rows -/
theorem dX5_weather_0 : decode mX5_weather.2.1 0 = .ok (.iload_n 1, 1) := by decide +kernel
theorem dX5_weather_1 : decode mX5_weather.2.1 1 = .ok (.iconst 0, 1) := by decide +kernel
theorem dX5_weather_2 : decode mX5_weather.2.1 2 = .ok (.iconst 2, 1) := by decide +kernel
theorem dX5_weather_3 : decode mX5_weather.2.1 3 = .ok (.invokestatic 53, 3) := by decide +kernel
theorem dX5_weather_6 : decode mX5_weather.2.1 6 = .ok (.ifCond .eq 13, 3) := by decide +kernel
theorem dX5_weather_9 : decode mX5_weather.2.1 9 = .ok (.iload_n 2, 1) := by decide +kernel
theorem dX5_weather_10 : decode mX5_weather.2.1 10 = .ok (.iconst 0, 1) := by decide +kernel
theorem dX5_weather_11 : decode mX5_weather.2.1 11 = .ok (.bipush 99, 2) := by decide +kernel
theorem dX5_weather_13 : decode mX5_weather.2.1 13 = .ok (.invokestatic 53, 3) := by decide +kernel
theorem dX5_weather_16 : decode mX5_weather.2.1 16 = .ok (.ifCond .ne 9, 3) := by decide +kernel
theorem dX5_weather_19 : decode mX5_weather.2.1 19 = .ok (.aload_n 0, 1) := by decide +kernel
theorem dX5_weather_20 : decode mX5_weather.2.1 20 = .ok (.iconst 0, 1) := by decide +kernel
theorem dX5_weather_21 : decode mX5_weather.2.1 21 = .ok (.invokevirtual 57, 3) := by decide +kernel
theorem dX5_weather_24 : decode mX5_weather.2.1 24 = .ok (.ireturn, 1) := by decide +kernel
theorem dX5_weather_25 : decode mX5_weather.2.1 25 = .ok (.aload_n 0, 1) := by decide +kernel
theorem dX5_weather_26 : decode mX5_weather.2.1 26 = .ok (.getfield 10, 3) := by decide +kernel
theorem dX5_weather_29 : decode mX5_weather.2.1 29 = .ok (.getfield 61, 3) := by decide +kernel
theorem dX5_weather_32 : decode mX5_weather.2.1 32 = .ok (.iload_n 1, 1) := by decide +kernel
theorem dX5_weather_33 : decode mX5_weather.2.1 33 = .ok (.iaload, 1) := by decide +kernel
theorem dX5_weather_34 : decode mX5_weather.2.1 34 = .ok (.istore_n 3, 1) := by decide +kernel
theorem dX5_weather_35 : decode mX5_weather.2.1 35 = .ok (.aload_n 0, 1) := by decide +kernel
theorem dX5_weather_36 : decode mX5_weather.2.1 36 = .ok (.getfield 10, 3) := by decide +kernel
theorem dX5_weather_39 : decode mX5_weather.2.1 39 = .ok (.getfield 61, 3) := by decide +kernel
theorem dX5_weather_42 : decode mX5_weather.2.1 42 = .ok (.iload_n 1, 1) := by decide +kernel
theorem dX5_weather_43 : decode mX5_weather.2.1 43 = .ok (.iload_n 2, 1) := by decide +kernel
theorem dX5_weather_44 : decode mX5_weather.2.1 44 = .ok (.iastore, 1) := by decide +kernel
theorem dX5_weather_45 : decode mX5_weather.2.1 45 = .ok (.iload_n 3, 1) := by decide +kernel
theorem dX5_weather_46 : decode mX5_weather.2.1 46 = .ok (.ireturn, 1) := by decide +kernel
theorem dX5_farm_0 : decode mX5_farm.2.1 0 = .ok (.iconst 0, 1) := by decide +kernel
theorem dX5_farm_1 : decode mX5_farm.2.1 1 = .ok (.iload_n 1, 1) := by decide +kernel
theorem dX5_farm_2 : decode mX5_farm.2.1 2 = .ok (.invokestatic 64, 3) := by decide +kernel
theorem dX5_farm_5 : decode mX5_farm.2.1 5 = .ok (.ifCond .eq 11, 3) := by decide +kernel
theorem dX5_farm_8 : decode mX5_farm.2.1 8 = .ok (.iconst 1, 1) := by decide +kernel
theorem dX5_farm_9 : decode mX5_farm.2.1 9 = .ok (.iload_n 2, 1) := by decide +kernel
theorem dX5_farm_10 : decode mX5_farm.2.1 10 = .ok (.invokestatic 64, 3) := by decide +kernel
theorem dX5_farm_13 : decode mX5_farm.2.1 13 = .ok (.ifCond .ne 9, 3) := by decide +kernel
theorem dX5_farm_16 : decode mX5_farm.2.1 16 = .ok (.aload_n 0, 1) := by decide +kernel
theorem dX5_farm_17 : decode mX5_farm.2.1 17 = .ok (.iconst 0, 1) := by decide +kernel
theorem dX5_farm_18 : decode mX5_farm.2.1 18 = .ok (.invokevirtual 57, 3) := by decide +kernel
theorem dX5_farm_21 : decode mX5_farm.2.1 21 = .ok (.ireturn, 1) := by decide +kernel
theorem dX5_farm_22 : decode mX5_farm.2.1 22 = .ok (.aload_n 0, 1) := by decide +kernel
theorem dX5_farm_23 : decode mX5_farm.2.1 23 = .ok (.getfield 10, 3) := by decide +kernel
theorem dX5_farm_26 : decode mX5_farm.2.1 26 = .ok (.invokevirtual 70, 3) := by decide +kernel
theorem dX5_farm_29 : decode mX5_farm.2.1 29 = .ok (.ifCond .eq 9, 3) := by decide +kernel
theorem dX5_farm_32 : decode mX5_farm.2.1 32 = .ok (.aload_n 0, 1) := by decide +kernel
theorem dX5_farm_33 : decode mX5_farm.2.1 33 = .ok (.iconst 1, 1) := by decide +kernel
theorem dX5_farm_34 : decode mX5_farm.2.1 34 = .ok (.invokevirtual 57, 3) := by decide +kernel
theorem dX5_farm_37 : decode mX5_farm.2.1 37 = .ok (.ireturn, 1) := by decide +kernel
theorem dX5_farm_38 : decode mX5_farm.2.1 38 = .ok (.aload_n 0, 1) := by decide +kernel
theorem dX5_farm_39 : decode mX5_farm.2.1 39 = .ok (.getfield 10, 3) := by decide +kernel
theorem dX5_farm_42 : decode mX5_farm.2.1 42 = .ok (.iload_n 1, 1) := by decide +kernel
theorem dX5_farm_43 : decode mX5_farm.2.1 43 = .ok (.iload_n 2, 1) := by decide +kernel
theorem dX5_farm_44 : decode mX5_farm.2.1 44 = .ok (.invokevirtual 74, 3) := by decide +kernel
theorem dX5_farm_47 : decode mX5_farm.2.1 47 = .ok (.ireturn, 1) := by decide +kernel
theorem dX5_of_0 : decode mX5_of.2.1 0 = .ok (.aload_n 0, 1) := by decide +kernel
theorem dX5_of_1 : decode mX5_of.2.1 1 = .ok (.getfield 10, 3) := by decide +kernel
theorem dX5_of_4 : decode mX5_of.2.1 4 = .ok (.iload_n 1, 1) := by decide +kernel
theorem dX5_of_5 : decode mX5_of.2.1 5 = .ok (.invokevirtual 78, 3) := by decide +kernel
theorem dX5_of_8 : decode mX5_of.2.1 8 = .ok (.ifCond .eq 13, 3) := by decide +kernel
theorem dX5_of_11 : decode mX5_of.2.1 11 = .ok (.iload_n 2, 1) := by decide +kernel
theorem dX5_of_12 : decode mX5_of.2.1 12 = .ok (.iconst 0, 1) := by decide +kernel
theorem dX5_of_13 : decode mX5_of.2.1 13 = .ok (.bipush 7, 2) := by decide +kernel
theorem dX5_of_15 : decode mX5_of.2.1 15 = .ok (.invokestatic 53, 3) := by decide +kernel
theorem dX5_of_18 : decode mX5_of.2.1 18 = .ok (.ifCond .ne 9, 3) := by decide +kernel
theorem dX5_of_21 : decode mX5_of.2.1 21 = .ok (.aload_n 0, 1) := by decide +kernel
theorem dX5_of_22 : decode mX5_of.2.1 22 = .ok (.iconst 0, 1) := by decide +kernel
theorem dX5_of_23 : decode mX5_of.2.1 23 = .ok (.invokevirtual 57, 3) := by decide +kernel
theorem dX5_of_26 : decode mX5_of.2.1 26 = .ok (.ireturn, 1) := by decide +kernel
theorem dX5_of_27 : decode mX5_of.2.1 27 = .ok (.aload_n 0, 1) := by decide +kernel
theorem dX5_of_28 : decode mX5_of.2.1 28 = .ok (.getfield 10, 3) := by decide +kernel
theorem dX5_of_31 : decode mX5_of.2.1 31 = .ok (.getfield 82, 3) := by decide +kernel
theorem dX5_of_34 : decode mX5_of.2.1 34 = .ok (.iload_n 1, 1) := by decide +kernel
theorem dX5_of_35 : decode mX5_of.2.1 35 = .ok (.aaload, 1) := by decide +kernel
theorem dX5_of_36 : decode mX5_of.2.1 36 = .ok (.astore_n 3, 1) := by decide +kernel
theorem dX5_of_37 : decode mX5_of.2.1 37 = .ok (.aload_n 0, 1) := by decide +kernel
theorem dX5_of_38 : decode mX5_of.2.1 38 = .ok (.getfield 10, 3) := by decide +kernel
theorem dX5_of_41 : decode mX5_of.2.1 41 = .ok (.getfield 61, 3) := by decide +kernel
theorem dX5_of_44 : decode mX5_of.2.1 44 = .ok (.iconst 0, 1) := by decide +kernel
theorem dX5_of_45 : decode mX5_of.2.1 45 = .ok (.iaload, 1) := by decide +kernel
theorem dX5_of_46 : decode mX5_of.2.1 46 = .ok (.istore 4, 2) := by decide +kernel
theorem dX5_of_48 : decode mX5_of.2.1 48 = .ok (.iload_n 2, 1) := by decide +kernel
theorem dX5_of_49 : decode mX5_of.2.1 49 = .ok (.tableswitch 50 5 7 #[27, 38, 45], 27) := by decide +kernel
theorem dX5_of_76 : decode mX5_of.2.1 76 = .ok (.aload_n 3, 1) := by decide +kernel
theorem dX5_of_77 : decode mX5_of.2.1 77 = .ok (.aload_n 3, 1) := by decide +kernel
theorem dX5_of_78 : decode mX5_of.2.1 78 = .ok (.getfield 86, 3) := by decide +kernel
theorem dX5_of_81 : decode mX5_of.2.1 81 = .ok (.iload 4, 2) := by decide +kernel
theorem dX5_of_83 : decode mX5_of.2.1 83 = .ok (.invokevirtual 90, 3) := by decide +kernel
theorem dX5_of_86 : decode mX5_of.2.1 86 = .ok (.ireturn, 1) := by decide +kernel
theorem dX5_of_87 : decode mX5_of.2.1 87 = .ok (.aload_n 3, 1) := by decide +kernel
theorem dX5_of_88 : decode mX5_of.2.1 88 = .ok (.iload 4, 2) := by decide +kernel
theorem dX5_of_90 : decode mX5_of.2.1 90 = .ok (.invokevirtual 93, 3) := by decide +kernel
theorem dX5_of_93 : decode mX5_of.2.1 93 = .ok (.ireturn, 1) := by decide +kernel
theorem dX5_of_94 : decode mX5_of.2.1 94 = .ok (.aload_n 3, 1) := by decide +kernel
theorem dX5_of_95 : decode mX5_of.2.1 95 = .ok (.invokevirtual 96, 3) := by decide +kernel
theorem dX5_of_98 : decode mX5_of.2.1 98 = .ok (.ireturn, 1) := by decide +kernel
theorem dX5_of_99 : decode mX5_of.2.1 99 = .ok (.aload_n 3, 1) := by decide +kernel
theorem dX5_of_100 : decode mX5_of.2.1 100 = .ok (.iload_n 2, 1) := by decide +kernel
theorem dX5_of_101 : decode mX5_of.2.1 101 = .ok (.invokevirtual 100, 3) := by decide +kernel
theorem dX5_of_104 : decode mX5_of.2.1 104 = .ok (.ireturn, 1) := by decide +kernel
theorem dX5_change_0 : decode mX5_change.2.1 0 = .ok (.aload_n 0, 1) := by decide +kernel
theorem dX5_change_1 : decode mX5_change.2.1 1 = .ok (.getfield 10, 3) := by decide +kernel
theorem dX5_change_4 : decode mX5_change.2.1 4 = .ok (.iload_n 1, 1) := by decide +kernel
theorem dX5_change_5 : decode mX5_change.2.1 5 = .ok (.invokevirtual 78, 3) := by decide +kernel
theorem dX5_change_8 : decode mX5_change.2.1 8 = .ok (.ifCond .eq 11, 3) := by decide +kernel
theorem dX5_change_11 : decode mX5_change.2.1 11 = .ok (.iload_n 2, 1) := by decide +kernel
theorem dX5_change_12 : decode mX5_change.2.1 12 = .ok (.iload_n 3, 1) := by decide +kernel
theorem dX5_change_13 : decode mX5_change.2.1 13 = .ok (.invokestatic 64, 3) := by decide +kernel
theorem dX5_change_16 : decode mX5_change.2.1 16 = .ok (.ifCond .ne 9, 3) := by decide +kernel
theorem dX5_change_19 : decode mX5_change.2.1 19 = .ok (.aload_n 0, 1) := by decide +kernel
theorem dX5_change_20 : decode mX5_change.2.1 20 = .ok (.iconst 0, 1) := by decide +kernel
theorem dX5_change_21 : decode mX5_change.2.1 21 = .ok (.invokevirtual 57, 3) := by decide +kernel
theorem dX5_change_24 : decode mX5_change.2.1 24 = .ok (.ireturn, 1) := by decide +kernel
theorem dX5_change_25 : decode mX5_change.2.1 25 = .ok (.aload_n 0, 1) := by decide +kernel
theorem dX5_change_26 : decode mX5_change.2.1 26 = .ok (.getfield 10, 3) := by decide +kernel
theorem dX5_change_29 : decode mX5_change.2.1 29 = .ok (.getfield 82, 3) := by decide +kernel
theorem dX5_change_32 : decode mX5_change.2.1 32 = .ok (.iload_n 1, 1) := by decide +kernel
theorem dX5_change_33 : decode mX5_change.2.1 33 = .ok (.aaload, 1) := by decide +kernel
theorem dX5_change_34 : decode mX5_change.2.1 34 = .ok (.astore 4, 2) := by decide +kernel
theorem dX5_change_36 : decode mX5_change.2.1 36 = .ok (.aload 4, 2) := by decide +kernel
theorem dX5_change_38 : decode mX5_change.2.1 38 = .ok (.iload_n 2, 1) := by decide +kernel
theorem dX5_change_39 : decode mX5_change.2.1 39 = .ok (.invokevirtual 100, 3) := by decide +kernel
theorem dX5_change_42 : decode mX5_change.2.1 42 = .ok (.istore 5, 2) := by decide +kernel
theorem dX5_change_44 : decode mX5_change.2.1 44 = .ok (.aload 4, 2) := by decide +kernel
theorem dX5_change_46 : decode mX5_change.2.1 46 = .ok (.iload_n 2, 1) := by decide +kernel
theorem dX5_change_47 : decode mX5_change.2.1 47 = .ok (.iload_n 3, 1) := by decide +kernel
theorem dX5_change_48 : decode mX5_change.2.1 48 = .ok (.invokevirtual 103, 3) := by decide +kernel
theorem dX5_change_51 : decode mX5_change.2.1 51 = .ok (.iload 5, 2) := by decide +kernel
theorem dX5_change_53 : decode mX5_change.2.1 53 = .ok (.ireturn, 1) := by decide +kernel
theorem dX5_left_0 : decode mX5_left.2.1 0 = .ok (.aload_n 0, 1) := by decide +kernel
theorem dX5_left_1 : decode mX5_left.2.1 1 = .ok (.getfield 10, 3) := by decide +kernel
theorem dX5_left_4 : decode mX5_left.2.1 4 = .ok (.iload_n 1, 1) := by decide +kernel
theorem dX5_left_5 : decode mX5_left.2.1 5 = .ok (.invokevirtual 78, 3) := by decide +kernel
theorem dX5_left_8 : decode mX5_left.2.1 8 = .ok (.ifCond .eq 14, 3) := by decide +kernel
theorem dX5_left_11 : decode mX5_left.2.1 11 = .ok (.iload_n 2, 1) := by decide +kernel
theorem dX5_left_12 : decode mX5_left.2.1 12 = .ok (.iconst 0, 1) := by decide +kernel
theorem dX5_left_13 : decode mX5_left.2.1 13 = .ok (.sipush 999, 3) := by decide +kernel
theorem dX5_left_16 : decode mX5_left.2.1 16 = .ok (.invokestatic 53, 3) := by decide +kernel
theorem dX5_left_19 : decode mX5_left.2.1 19 = .ok (.ifCond .ne 9, 3) := by decide +kernel
theorem dX5_left_22 : decode mX5_left.2.1 22 = .ok (.aload_n 0, 1) := by decide +kernel
theorem dX5_left_23 : decode mX5_left.2.1 23 = .ok (.iconst 0, 1) := by decide +kernel
theorem dX5_left_24 : decode mX5_left.2.1 24 = .ok (.invokevirtual 57, 3) := by decide +kernel
theorem dX5_left_27 : decode mX5_left.2.1 27 = .ok (.ireturn, 1) := by decide +kernel
theorem dX5_left_28 : decode mX5_left.2.1 28 = .ok (.aload_n 0, 1) := by decide +kernel
theorem dX5_left_29 : decode mX5_left.2.1 29 = .ok (.getfield 10, 3) := by decide +kernel
theorem dX5_left_32 : decode mX5_left.2.1 32 = .ok (.getfield 82, 3) := by decide +kernel
theorem dX5_left_35 : decode mX5_left.2.1 35 = .ok (.iload_n 1, 1) := by decide +kernel
theorem dX5_left_36 : decode mX5_left.2.1 36 = .ok (.aaload, 1) := by decide +kernel
theorem dX5_left_37 : decode mX5_left.2.1 37 = .ok (.iload_n 2, 1) := by decide +kernel
theorem dX5_left_38 : decode mX5_left.2.1 38 = .ok (.aload_n 0, 1) := by decide +kernel
theorem dX5_left_39 : decode mX5_left.2.1 39 = .ok (.getfield 10, 3) := by decide +kernel
theorem dX5_left_42 : decode mX5_left.2.1 42 = .ok (.getfield 61, 3) := by decide +kernel
theorem dX5_left_45 : decode mX5_left.2.1 45 = .ok (.iconst 0, 1) := by decide +kernel
theorem dX5_left_46 : decode mX5_left.2.1 46 = .ok (.iaload, 1) := by decide +kernel
theorem dX5_left_47 : decode mX5_left.2.1 47 = .ok (.invokevirtual 107, 3) := by decide +kernel
theorem dX5_left_50 : decode mX5_left.2.1 50 = .ok (.ireturn, 1) := by decide +kernel
theorem dX5_last_0 : decode mX5_last.2.1 0 = .ok (.aload_n 0, 1) := by decide +kernel
theorem dX5_last_1 : decode mX5_last.2.1 1 = .ok (.getfield 10, 3) := by decide +kernel
theorem dX5_last_4 : decode mX5_last.2.1 4 = .ok (.invokevirtual 110, 3) := by decide +kernel
theorem dX5_last_7 : decode mX5_last.2.1 7 = .ok (.ireturn, 1) := by decide +kernel
theorem dX5_first_0 : decode mX5_first.2.1 0 = .ok (.aload_n 0, 1) := by decide +kernel
theorem dX5_first_1 : decode mX5_first.2.1 1 = .ok (.getfield 10, 3) := by decide +kernel
theorem dX5_first_4 : decode mX5_first.2.1 4 = .ok (.invokevirtual 113, 3) := by decide +kernel
theorem dX5_first_7 : decode mX5_first.2.1 7 = .ok (.ireturn, 1) := by decide +kernel
theorem dX5_next_0 : decode mX5_next.2.1 0 = .ok (.aload_n 0, 1) := by decide +kernel
theorem dX5_next_1 : decode mX5_next.2.1 1 = .ok (.getfield 10, 3) := by decide +kernel
theorem dX5_next_4 : decode mX5_next.2.1 4 = .ok (.aload_n 0, 1) := by decide +kernel
theorem dX5_next_5 : decode mX5_next.2.1 5 = .ok (.getfield 10, 3) := by decide +kernel
theorem dX5_next_8 : decode mX5_next.2.1 8 = .ok (.invokevirtual 116, 3) := by decide +kernel
theorem dX5_next_11 : decode mX5_next.2.1 11 = .ok (.invokevirtual 119, 3) := by decide +kernel
theorem dX5_next_14 : decode mX5_next.2.1 14 = .ok (.ireturn, 1) := by decide +kernel
theorem dX5_lean_0 : decode mX5_lean.2.1 0 = .ok (.aload_n 0, 1) := by decide +kernel
theorem dX5_lean_1 : decode mX5_lean.2.1 1 = .ok (.getfield 10, 3) := by decide +kernel
theorem dX5_lean_4 : decode mX5_lean.2.1 4 = .ok (.invokevirtual 122, 3) := by decide +kernel
theorem dX5_lean_7 : decode mX5_lean.2.1 7 = .ok (.ireturn, 1) := by decide +kernel
theorem dX5_answer_0 : decode mX5_answer.2.1 0 = .ok (.iload_n 1, 1) := by decide +kernel
theorem dX5_answer_1 : decode mX5_answer.2.1 1 = .ok (.invokestatic 125, 3) := by decide +kernel
theorem dX5_answer_4 : decode mX5_answer.2.1 4 = .ok (.ifCond .ne 9, 3) := by decide +kernel
theorem dX5_answer_7 : decode mX5_answer.2.1 7 = .ok (.aload_n 0, 1) := by decide +kernel
theorem dX5_answer_8 : decode mX5_answer.2.1 8 = .ok (.iconst 0, 1) := by decide +kernel
theorem dX5_answer_9 : decode mX5_answer.2.1 9 = .ok (.invokevirtual 57, 3) := by decide +kernel
theorem dX5_answer_12 : decode mX5_answer.2.1 12 = .ok (.ireturn, 1) := by decide +kernel
theorem dX5_answer_13 : decode mX5_answer.2.1 13 = .ok (.aload_n 0, 1) := by decide +kernel
theorem dX5_answer_14 : decode mX5_answer.2.1 14 = .ok (.getfield 10, 3) := by decide +kernel
theorem dX5_answer_17 : decode mX5_answer.2.1 17 = .ok (.iload_n 1, 1) := by decide +kernel
theorem dX5_answer_18 : decode mX5_answer.2.1 18 = .ok (.invokevirtual 128, 3) := by decide +kernel
theorem dX5_answer_21 : decode mX5_answer.2.1 21 = .ok (.ireturn, 1) := by decide +kernel
theorem dX5_go_0 : decode mX5_go.2.1 0 = .ok (.iload_n 1, 1) := by decide +kernel
theorem dX5_go_1 : decode mX5_go.2.1 1 = .ok (.iconst 1, 1) := by decide +kernel
theorem dX5_go_2 : decode mX5_go.2.1 2 = .ok (.bipush 60, 2) := by decide +kernel
theorem dX5_go_4 : decode mX5_go.2.1 4 = .ok (.invokestatic 53, 3) := by decide +kernel
theorem dX5_go_7 : decode mX5_go.2.1 7 = .ok (.ifCond .ne 9, 3) := by decide +kernel
theorem dX5_go_10 : decode mX5_go.2.1 10 = .ok (.aload_n 0, 1) := by decide +kernel
theorem dX5_go_11 : decode mX5_go.2.1 11 = .ok (.iconst 0, 1) := by decide +kernel
theorem dX5_go_12 : decode mX5_go.2.1 12 = .ok (.invokevirtual 57, 3) := by decide +kernel
theorem dX5_go_15 : decode mX5_go.2.1 15 = .ok (.ireturn, 1) := by decide +kernel
theorem dX5_go_16 : decode mX5_go.2.1 16 = .ok (.aload_n 0, 1) := by decide +kernel
theorem dX5_go_17 : decode mX5_go.2.1 17 = .ok (.getfield 10, 3) := by decide +kernel
theorem dX5_go_20 : decode mX5_go.2.1 20 = .ok (.getfield 131, 3) := by decide +kernel
theorem dX5_go_23 : decode mX5_go.2.1 23 = .ok (.iload_n 1, 1) := by decide +kernel
theorem dX5_go_24 : decode mX5_go.2.1 24 = .ok (.iadd, 1) := by decide +kernel
theorem dX5_go_25 : decode mX5_go.2.1 25 = .ok (.ldc 134, 2) := by decide +kernel
theorem dX5_go_27 : decode mX5_go.2.1 27 = .ok (.if_icmp .le 9, 3) := by decide +kernel
theorem dX5_go_30 : decode mX5_go.2.1 30 = .ok (.aload_n 0, 1) := by decide +kernel
theorem dX5_go_31 : decode mX5_go.2.1 31 = .ok (.iconst 4, 1) := by decide +kernel
theorem dX5_go_32 : decode mX5_go.2.1 32 = .ok (.invokevirtual 57, 3) := by decide +kernel
theorem dX5_go_35 : decode mX5_go.2.1 35 = .ok (.ireturn, 1) := by decide +kernel
theorem dX5_go_36 : decode mX5_go.2.1 36 = .ok (.iconst 0, 1) := by decide +kernel
theorem dX5_go_37 : decode mX5_go.2.1 37 = .ok (.istore_n 2, 1) := by decide +kernel
theorem dX5_go_38 : decode mX5_go.2.1 38 = .ok (.iload_n 2, 1) := by decide +kernel
theorem dX5_go_39 : decode mX5_go.2.1 39 = .ok (.iload_n 1, 1) := by decide +kernel
theorem dX5_go_40 : decode mX5_go.2.1 40 = .ok (.if_icmp .ge 16, 3) := by decide +kernel
theorem dX5_go_43 : decode mX5_go.2.1 43 = .ok (.aload_n 0, 1) := by decide +kernel
theorem dX5_go_44 : decode mX5_go.2.1 44 = .ok (.getfield 10, 3) := by decide +kernel
theorem dX5_go_47 : decode mX5_go.2.1 47 = .ok (.invokevirtual 135, 3) := by decide +kernel
theorem dX5_go_50 : decode mX5_go.2.1 50 = .ok (.iinc 2 1, 3) := by decide +kernel
theorem dX5_go_53 : decode mX5_go.2.1 53 = .ok (.goto (-15), 3) := by decide +kernel
theorem dX5_go_56 : decode mX5_go.2.1 56 = .ok (.aload_n 0, 1) := by decide +kernel
theorem dX5_go_57 : decode mX5_go.2.1 57 = .ok (.getfield 10, 3) := by decide +kernel
theorem dX5_go_60 : decode mX5_go.2.1 60 = .ok (.invokevirtual 122, 3) := by decide +kernel
theorem dX5_go_63 : decode mX5_go.2.1 63 = .ok (.ireturn, 1) := by decide +kernel
theorem dX5_now_0 : decode mX5_now.2.1 0 = .ok (.iload_n 1, 1) := by decide +kernel
theorem dX5_now_1 : decode mX5_now.2.1 1 = .ok (.tableswitch 90 0 5 #[39, 47, 56, 65, 73, 82], 39) := by decide +kernel
theorem dX5_now_40 : decode mX5_now.2.1 40 = .ok (.aload_n 0, 1) := by decide +kernel
theorem dX5_now_41 : decode mX5_now.2.1 41 = .ok (.getfield 10, 3) := by decide +kernel
theorem dX5_now_44 : decode mX5_now.2.1 44 = .ok (.getfield 131, 3) := by decide +kernel
theorem dX5_now_47 : decode mX5_now.2.1 47 = .ok (.ireturn, 1) := by decide +kernel
theorem dX5_now_48 : decode mX5_now.2.1 48 = .ok (.aload_n 0, 1) := by decide +kernel
theorem dX5_now_49 : decode mX5_now.2.1 49 = .ok (.getfield 10, 3) := by decide +kernel
theorem dX5_now_52 : decode mX5_now.2.1 52 = .ok (.iconst 2, 1) := by decide +kernel
theorem dX5_now_53 : decode mX5_now.2.1 53 = .ok (.invokevirtual 138, 3) := by decide +kernel
theorem dX5_now_56 : decode mX5_now.2.1 56 = .ok (.ireturn, 1) := by decide +kernel
theorem dX5_now_57 : decode mX5_now.2.1 57 = .ok (.aload_n 0, 1) := by decide +kernel
theorem dX5_now_58 : decode mX5_now.2.1 58 = .ok (.getfield 10, 3) := by decide +kernel
theorem dX5_now_61 : decode mX5_now.2.1 61 = .ok (.iconst 3, 1) := by decide +kernel
theorem dX5_now_62 : decode mX5_now.2.1 62 = .ok (.invokevirtual 138, 3) := by decide +kernel
theorem dX5_now_65 : decode mX5_now.2.1 65 = .ok (.ireturn, 1) := by decide +kernel
theorem dX5_now_66 : decode mX5_now.2.1 66 = .ok (.aload_n 0, 1) := by decide +kernel
theorem dX5_now_67 : decode mX5_now.2.1 67 = .ok (.getfield 10, 3) := by decide +kernel
theorem dX5_now_70 : decode mX5_now.2.1 70 = .ok (.invokevirtual 141, 3) := by decide +kernel
theorem dX5_now_73 : decode mX5_now.2.1 73 = .ok (.ireturn, 1) := by decide +kernel
theorem dX5_now_74 : decode mX5_now.2.1 74 = .ok (.aload_n 0, 1) := by decide +kernel
theorem dX5_now_75 : decode mX5_now.2.1 75 = .ok (.getfield 10, 3) := by decide +kernel
theorem dX5_now_78 : decode mX5_now.2.1 78 = .ok (.iconst 1, 1) := by decide +kernel
theorem dX5_now_79 : decode mX5_now.2.1 79 = .ok (.invokevirtual 138, 3) := by decide +kernel
theorem dX5_now_82 : decode mX5_now.2.1 82 = .ok (.ireturn, 1) := by decide +kernel
theorem dX5_now_83 : decode mX5_now.2.1 83 = .ok (.aload_n 0, 1) := by decide +kernel
theorem dX5_now_84 : decode mX5_now.2.1 84 = .ok (.getfield 10, 3) := by decide +kernel
theorem dX5_now_87 : decode mX5_now.2.1 87 = .ok (.invokevirtual 116, 3) := by decide +kernel
theorem dX5_now_90 : decode mX5_now.2.1 90 = .ok (.ireturn, 1) := by decide +kernel
theorem dX5_now_91 : decode mX5_now.2.1 91 = .ok (.aload_n 0, 1) := by decide +kernel
theorem dX5_now_92 : decode mX5_now.2.1 92 = .ok (.iconst 0, 1) := by decide +kernel
theorem dX5_now_93 : decode mX5_now.2.1 93 = .ok (.invokevirtual 57, 3) := by decide +kernel
theorem dX5_now_96 : decode mX5_now.2.1 96 = .ok (.ireturn, 1) := by decide +kernel
theorem dX5_holder_0 : decode mX5_holder.2.1 0 = .ok (.iload_n 1, 1) := by decide +kernel
theorem dX5_holder_1 : decode mX5_holder.2.1 1 = .ok (.invokestatic 144, 3) := by decide +kernel
theorem dX5_holder_4 : decode mX5_holder.2.1 4 = .ok (.ifCond .ne 9, 3) := by decide +kernel
theorem dX5_holder_7 : decode mX5_holder.2.1 7 = .ok (.aload_n 0, 1) := by decide +kernel
theorem dX5_holder_8 : decode mX5_holder.2.1 8 = .ok (.iconst 0, 1) := by decide +kernel
theorem dX5_holder_9 : decode mX5_holder.2.1 9 = .ok (.invokevirtual 57, 3) := by decide +kernel
theorem dX5_holder_12 : decode mX5_holder.2.1 12 = .ok (.ireturn, 1) := by decide +kernel
theorem dX5_holder_13 : decode mX5_holder.2.1 13 = .ok (.aload_n 0, 1) := by decide +kernel
theorem dX5_holder_14 : decode mX5_holder.2.1 14 = .ok (.iload_n 1, 1) := by decide +kernel
theorem dX5_holder_15 : decode mX5_holder.2.1 15 = .ok (.invokevirtual 147, 3) := by decide +kernel
theorem dX5_holder_18 : decode mX5_holder.2.1 18 = .ok (.invokevirtual 110, 3) := by decide +kernel
theorem dX5_holder_21 : decode mX5_holder.2.1 21 = .ok (.ireturn, 1) := by decide +kernel
theorem dX5_ahead_0 : decode mX5_ahead.2.1 0 = .ok (.aload_n 0, 1) := by decide +kernel
theorem dX5_ahead_1 : decode mX5_ahead.2.1 1 = .ok (.getfield 10, 3) := by decide +kernel
theorem dX5_ahead_4 : decode mX5_ahead.2.1 4 = .ok (.iload_n 1, 1) := by decide +kernel
theorem dX5_ahead_5 : decode mX5_ahead.2.1 5 = .ok (.invokevirtual 78, 3) := by decide +kernel
theorem dX5_ahead_8 : decode mX5_ahead.2.1 8 = .ok (.ifCond .eq 19, 3) := by decide +kernel
theorem dX5_ahead_11 : decode mX5_ahead.2.1 11 = .ok (.iload_n 2, 1) := by decide +kernel
theorem dX5_ahead_12 : decode mX5_ahead.2.1 12 = .ok (.iconst 2, 1) := by decide +kernel
theorem dX5_ahead_13 : decode mX5_ahead.2.1 13 = .ok (.iconst 4, 1) := by decide +kernel
theorem dX5_ahead_14 : decode mX5_ahead.2.1 14 = .ok (.invokestatic 53, 3) := by decide +kernel
theorem dX5_ahead_17 : decode mX5_ahead.2.1 17 = .ok (.ifCond .eq 10, 3) := by decide +kernel
theorem dX5_ahead_20 : decode mX5_ahead.2.1 20 = .ok (.iload_n 3, 1) := by decide +kernel
theorem dX5_ahead_21 : decode mX5_ahead.2.1 21 = .ok (.invokestatic 144, 3) := by decide +kernel
theorem dX5_ahead_24 : decode mX5_ahead.2.1 24 = .ok (.ifCond .ne 9, 3) := by decide +kernel
theorem dX5_ahead_27 : decode mX5_ahead.2.1 27 = .ok (.aload_n 0, 1) := by decide +kernel
theorem dX5_ahead_28 : decode mX5_ahead.2.1 28 = .ok (.iconst 0, 1) := by decide +kernel
theorem dX5_ahead_29 : decode mX5_ahead.2.1 29 = .ok (.invokevirtual 57, 3) := by decide +kernel
theorem dX5_ahead_32 : decode mX5_ahead.2.1 32 = .ok (.ireturn, 1) := by decide +kernel
theorem dX5_ahead_33 : decode mX5_ahead.2.1 33 = .ok (.aload_n 0, 1) := by decide +kernel
theorem dX5_ahead_34 : decode mX5_ahead.2.1 34 = .ok (.iload_n 3, 1) := by decide +kernel
theorem dX5_ahead_35 : decode mX5_ahead.2.1 35 = .ok (.invokevirtual 147, 3) := by decide +kernel
theorem dX5_ahead_38 : decode mX5_ahead.2.1 38 = .ok (.getfield 82, 3) := by decide +kernel
theorem dX5_ahead_41 : decode mX5_ahead.2.1 41 = .ok (.iload_n 1, 1) := by decide +kernel
theorem dX5_ahead_42 : decode mX5_ahead.2.1 42 = .ok (.aaload, 1) := by decide +kernel
theorem dX5_ahead_43 : decode mX5_ahead.2.1 43 = .ok (.iload_n 2, 1) := by decide +kernel
theorem dX5_ahead_44 : decode mX5_ahead.2.1 44 = .ok (.invokevirtual 100, 3) := by decide +kernel
theorem dX5_ahead_47 : decode mX5_ahead.2.1 47 = .ok (.ireturn, 1) := by decide +kernel
theorem dX5_leans_0 : decode mX5_leans.2.1 0 = .ok (.iload_n 1, 1) := by decide +kernel
theorem dX5_leans_1 : decode mX5_leans.2.1 1 = .ok (.invokestatic 144, 3) := by decide +kernel
theorem dX5_leans_4 : decode mX5_leans.2.1 4 = .ok (.ifCond .ne 9, 3) := by decide +kernel
theorem dX5_leans_7 : decode mX5_leans.2.1 7 = .ok (.aload_n 0, 1) := by decide +kernel
theorem dX5_leans_8 : decode mX5_leans.2.1 8 = .ok (.iconst 0, 1) := by decide +kernel
theorem dX5_leans_9 : decode mX5_leans.2.1 9 = .ok (.invokevirtual 57, 3) := by decide +kernel
theorem dX5_leans_12 : decode mX5_leans.2.1 12 = .ok (.ireturn, 1) := by decide +kernel
theorem dX5_leans_13 : decode mX5_leans.2.1 13 = .ok (.aload_n 0, 1) := by decide +kernel
theorem dX5_leans_14 : decode mX5_leans.2.1 14 = .ok (.iload_n 1, 1) := by decide +kernel
theorem dX5_leans_15 : decode mX5_leans.2.1 15 = .ok (.invokevirtual 147, 3) := by decide +kernel
theorem dX5_leans_18 : decode mX5_leans.2.1 18 = .ok (.invokevirtual 122, 3) := by decide +kernel
theorem dX5_leans_21 : decode mX5_leans.2.1 21 = .ok (.ireturn, 1) := by decide +kernel
theorem dX5_when_0 : decode mX5_when.2.1 0 = .ok (.aload_n 0, 1) := by decide +kernel
theorem dX5_when_1 : decode mX5_when.2.1 1 = .ok (.getfield 10, 3) := by decide +kernel
theorem dX5_when_4 : decode mX5_when.2.1 4 = .ok (.iload_n 1, 1) := by decide +kernel
theorem dX5_when_5 : decode mX5_when.2.1 5 = .ok (.invokevirtual 78, 3) := by decide +kernel
theorem dX5_when_8 : decode mX5_when.2.1 8 = .ok (.ifCond .ne 9, 3) := by decide +kernel
theorem dX5_when_11 : decode mX5_when.2.1 11 = .ok (.aload_n 0, 1) := by decide +kernel
theorem dX5_when_12 : decode mX5_when.2.1 12 = .ok (.iconst 0, 1) := by decide +kernel
theorem dX5_when_13 : decode mX5_when.2.1 13 = .ok (.invokevirtual 57, 3) := by decide +kernel
theorem dX5_when_16 : decode mX5_when.2.1 16 = .ok (.ireturn, 1) := by decide +kernel
theorem dX5_when_17 : decode mX5_when.2.1 17 = .ok (.aload_n 0, 1) := by decide +kernel
theorem dX5_when_18 : decode mX5_when.2.1 18 = .ok (.getfield 19, 3) := by decide +kernel
theorem dX5_when_21 : decode mX5_when.2.1 21 = .ok (.aload_n 0, 1) := by decide +kernel
theorem dX5_when_22 : decode mX5_when.2.1 22 = .ok (.getfield 10, 3) := by decide +kernel
theorem dX5_when_25 : decode mX5_when.2.1 25 = .ok (.invokevirtual 151, 3) := by decide +kernel
theorem dX5_when_28 : decode mX5_when.2.1 28 = .ok (.iconst 0, 1) := by decide +kernel
theorem dX5_when_29 : decode mX5_when.2.1 29 = .ok (.istore_n 2, 1) := by decide +kernel
theorem dX5_when_30 : decode mX5_when.2.1 30 = .ok (.iload_n 2, 1) := by decide +kernel
theorem dX5_when_31 : decode mX5_when.2.1 31 = .ok (.bipush 60, 2) := by decide +kernel
theorem dX5_when_33 : decode mX5_when.2.1 33 = .ok (.if_icmp .gt 29, 3) := by decide +kernel
theorem dX5_when_36 : decode mX5_when.2.1 36 = .ok (.aload_n 0, 1) := by decide +kernel
theorem dX5_when_37 : decode mX5_when.2.1 37 = .ok (.getfield 19, 3) := by decide +kernel
theorem dX5_when_40 : decode mX5_when.2.1 40 = .ok (.iload_n 1, 1) := by decide +kernel
theorem dX5_when_41 : decode mX5_when.2.1 41 = .ok (.invokevirtual 155, 3) := by decide +kernel
theorem dX5_when_44 : decode mX5_when.2.1 44 = .ok (.ifCond .eq 5, 3) := by decide +kernel
theorem dX5_when_47 : decode mX5_when.2.1 47 = .ok (.iload_n 2, 1) := by decide +kernel
theorem dX5_when_48 : decode mX5_when.2.1 48 = .ok (.ireturn, 1) := by decide +kernel
theorem dX5_when_49 : decode mX5_when.2.1 49 = .ok (.aload_n 0, 1) := by decide +kernel
theorem dX5_when_50 : decode mX5_when.2.1 50 = .ok (.getfield 19, 3) := by decide +kernel
theorem dX5_when_53 : decode mX5_when.2.1 53 = .ok (.invokevirtual 135, 3) := by decide +kernel
theorem dX5_when_56 : decode mX5_when.2.1 56 = .ok (.iinc 2 1, 3) := by decide +kernel
theorem dX5_when_59 : decode mX5_when.2.1 59 = .ok (.goto (-29), 3) := by decide +kernel
theorem dX5_when_62 : decode mX5_when.2.1 62 = .ok (.aload_n 0, 1) := by decide +kernel
theorem dX5_when_63 : decode mX5_when.2.1 63 = .ok (.iconst 3, 1) := by decide +kernel
theorem dX5_when_64 : decode mX5_when.2.1 64 = .ok (.invokevirtual 57, 3) := by decide +kernel
theorem dX5_when_67 : decode mX5_when.2.1 67 = .ok (.ireturn, 1) := by decide +kernel
theorem dX5_tie_0 : decode mX5_tie.2.1 0 = .ok (.aload_n 0, 1) := by decide +kernel
theorem dX5_tie_1 : decode mX5_tie.2.1 1 = .ok (.getfield 19, 3) := by decide +kernel
theorem dX5_tie_4 : decode mX5_tie.2.1 4 = .ok (.aload_n 0, 1) := by decide +kernel
theorem dX5_tie_5 : decode mX5_tie.2.1 5 = .ok (.getfield 10, 3) := by decide +kernel
theorem dX5_tie_8 : decode mX5_tie.2.1 8 = .ok (.invokevirtual 151, 3) := by decide +kernel
theorem dX5_tie_11 : decode mX5_tie.2.1 11 = .ok (.iconst 0, 1) := by decide +kernel
theorem dX5_tie_12 : decode mX5_tie.2.1 12 = .ok (.istore_n 1, 1) := by decide +kernel
theorem dX5_tie_13 : decode mX5_tie.2.1 13 = .ok (.iload_n 1, 1) := by decide +kernel
theorem dX5_tie_14 : decode mX5_tie.2.1 14 = .ok (.bipush 60, 2) := by decide +kernel
theorem dX5_tie_16 : decode mX5_tie.2.1 16 = .ok (.if_icmp .gt 32, 3) := by decide +kernel
theorem dX5_tie_19 : decode mX5_tie.2.1 19 = .ok (.aload_n 0, 1) := by decide +kernel
theorem dX5_tie_20 : decode mX5_tie.2.1 20 = .ok (.getfield 19, 3) := by decide +kernel
theorem dX5_tie_23 : decode mX5_tie.2.1 23 = .ok (.invokevirtual 110, 3) := by decide +kernel
theorem dX5_tie_26 : decode mX5_tie.2.1 26 = .ok (.invokestatic 158, 3) := by decide +kernel
theorem dX5_tie_29 : decode mX5_tie.2.1 29 = .ok (.iconst 1, 1) := by decide +kernel
theorem dX5_tie_30 : decode mX5_tie.2.1 30 = .ok (.if_icmp .le 5, 3) := by decide +kernel
theorem dX5_tie_33 : decode mX5_tie.2.1 33 = .ok (.iload_n 1, 1) := by decide +kernel
theorem dX5_tie_34 : decode mX5_tie.2.1 34 = .ok (.ireturn, 1) := by decide +kernel
theorem dX5_tie_35 : decode mX5_tie.2.1 35 = .ok (.aload_n 0, 1) := by decide +kernel
theorem dX5_tie_36 : decode mX5_tie.2.1 36 = .ok (.getfield 19, 3) := by decide +kernel
theorem dX5_tie_39 : decode mX5_tie.2.1 39 = .ok (.invokevirtual 135, 3) := by decide +kernel
theorem dX5_tie_42 : decode mX5_tie.2.1 42 = .ok (.iinc 1 1, 3) := by decide +kernel
theorem dX5_tie_45 : decode mX5_tie.2.1 45 = .ok (.goto (-32), 3) := by decide +kernel
theorem dX5_tie_48 : decode mX5_tie.2.1 48 = .ok (.aload_n 0, 1) := by decide +kernel
theorem dX5_tie_49 : decode mX5_tie.2.1 49 = .ok (.iconst 3, 1) := by decide +kernel
theorem dX5_tie_50 : decode mX5_tie.2.1 50 = .ok (.invokevirtual 57, 3) := by decide +kernel
theorem dX5_tie_53 : decode mX5_tie.2.1 53 = .ok (.ireturn, 1) := by decide +kernel
theorem dX5_turns_0 : decode mX5_turns.2.1 0 = .ok (.iload_n 1, 1) := by decide +kernel
theorem dX5_turns_1 : decode mX5_turns.2.1 1 = .ok (.invokestatic 125, 3) := by decide +kernel
theorem dX5_turns_4 : decode mX5_turns.2.1 4 = .ok (.ifCond .ne 9, 3) := by decide +kernel
theorem dX5_turns_7 : decode mX5_turns.2.1 7 = .ok (.aload_n 0, 1) := by decide +kernel
theorem dX5_turns_8 : decode mX5_turns.2.1 8 = .ok (.iconst 0, 1) := by decide +kernel
theorem dX5_turns_9 : decode mX5_turns.2.1 9 = .ok (.invokevirtual 57, 3) := by decide +kernel
theorem dX5_turns_12 : decode mX5_turns.2.1 12 = .ok (.ireturn, 1) := by decide +kernel
theorem dX5_turns_13 : decode mX5_turns.2.1 13 = .ok (.aload_n 0, 1) := by decide +kernel
theorem dX5_turns_14 : decode mX5_turns.2.1 14 = .ok (.getfield 10, 3) := by decide +kernel
theorem dX5_turns_17 : decode mX5_turns.2.1 17 = .ok (.iload_n 1, 1) := by decide +kernel
theorem dX5_turns_18 : decode mX5_turns.2.1 18 = .ok (.invokevirtual 128, 3) := by decide +kernel
theorem dX5_turns_21 : decode mX5_turns.2.1 21 = .ok (.istore_n 2, 1) := by decide +kernel
theorem dX5_turns_22 : decode mX5_turns.2.1 22 = .ok (.aload_n 0, 1) := by decide +kernel
theorem dX5_turns_23 : decode mX5_turns.2.1 23 = .ok (.getfield 19, 3) := by decide +kernel
theorem dX5_turns_26 : decode mX5_turns.2.1 26 = .ok (.aload_n 0, 1) := by decide +kernel
theorem dX5_turns_27 : decode mX5_turns.2.1 27 = .ok (.getfield 10, 3) := by decide +kernel
theorem dX5_turns_30 : decode mX5_turns.2.1 30 = .ok (.invokevirtual 151, 3) := by decide +kernel
theorem dX5_turns_33 : decode mX5_turns.2.1 33 = .ok (.iconst 1, 1) := by decide +kernel
theorem dX5_turns_34 : decode mX5_turns.2.1 34 = .ok (.istore_n 3, 1) := by decide +kernel
theorem dX5_turns_35 : decode mX5_turns.2.1 35 = .ok (.iload_n 3, 1) := by decide +kernel
theorem dX5_turns_36 : decode mX5_turns.2.1 36 = .ok (.bipush 60, 2) := by decide +kernel
theorem dX5_turns_38 : decode mX5_turns.2.1 38 = .ok (.if_icmp .gt 30, 3) := by decide +kernel
theorem dX5_turns_41 : decode mX5_turns.2.1 41 = .ok (.aload_n 0, 1) := by decide +kernel
theorem dX5_turns_42 : decode mX5_turns.2.1 42 = .ok (.getfield 19, 3) := by decide +kernel
theorem dX5_turns_45 : decode mX5_turns.2.1 45 = .ok (.invokevirtual 135, 3) := by decide +kernel
theorem dX5_turns_48 : decode mX5_turns.2.1 48 = .ok (.aload_n 0, 1) := by decide +kernel
theorem dX5_turns_49 : decode mX5_turns.2.1 49 = .ok (.getfield 19, 3) := by decide +kernel
theorem dX5_turns_52 : decode mX5_turns.2.1 52 = .ok (.iload_n 1, 1) := by decide +kernel
theorem dX5_turns_53 : decode mX5_turns.2.1 53 = .ok (.invokevirtual 128, 3) := by decide +kernel
theorem dX5_turns_56 : decode mX5_turns.2.1 56 = .ok (.iload_n 2, 1) := by decide +kernel
theorem dX5_turns_57 : decode mX5_turns.2.1 57 = .ok (.if_icmp .eq 5, 3) := by decide +kernel
theorem dX5_turns_60 : decode mX5_turns.2.1 60 = .ok (.iload_n 3, 1) := by decide +kernel
theorem dX5_turns_61 : decode mX5_turns.2.1 61 = .ok (.ireturn, 1) := by decide +kernel
theorem dX5_turns_62 : decode mX5_turns.2.1 62 = .ok (.iinc 3 1, 3) := by decide +kernel
theorem dX5_turns_65 : decode mX5_turns.2.1 65 = .ok (.goto (-30), 3) := by decide +kernel
theorem dX5_turns_68 : decode mX5_turns.2.1 68 = .ok (.aload_n 0, 1) := by decide +kernel
theorem dX5_turns_69 : decode mX5_turns.2.1 69 = .ok (.iconst 3, 1) := by decide +kernel
theorem dX5_turns_70 : decode mX5_turns.2.1 70 = .ok (.invokevirtual 57, 3) := by decide +kernel
theorem dX5_turns_73 : decode mX5_turns.2.1 73 = .ok (.ireturn, 1) := by decide +kernel
theorem dX5_mostHands_0 : decode mX5_mostHands.2.1 0 = .ok (.aload_n 0, 1) := by decide +kernel
theorem dX5_mostHands_1 : decode mX5_mostHands.2.1 1 = .ok (.getfield 10, 3) := by decide +kernel
theorem dX5_mostHands_4 : decode mX5_mostHands.2.1 4 = .ok (.iload_n 1, 1) := by decide +kernel
theorem dX5_mostHands_5 : decode mX5_mostHands.2.1 5 = .ok (.invokevirtual 78, 3) := by decide +kernel
theorem dX5_mostHands_8 : decode mX5_mostHands.2.1 8 = .ok (.ifCond .ne 9, 3) := by decide +kernel
theorem dX5_mostHands_11 : decode mX5_mostHands.2.1 11 = .ok (.aload_n 0, 1) := by decide +kernel
theorem dX5_mostHands_12 : decode mX5_mostHands.2.1 12 = .ok (.iconst 0, 1) := by decide +kernel
theorem dX5_mostHands_13 : decode mX5_mostHands.2.1 13 = .ok (.invokevirtual 57, 3) := by decide +kernel
theorem dX5_mostHands_16 : decode mX5_mostHands.2.1 16 = .ok (.ireturn, 1) := by decide +kernel
theorem dX5_mostHands_17 : decode mX5_mostHands.2.1 17 = .ok (.aload_n 0, 1) := by decide +kernel
theorem dX5_mostHands_18 : decode mX5_mostHands.2.1 18 = .ok (.getfield 19, 3) := by decide +kernel
theorem dX5_mostHands_21 : decode mX5_mostHands.2.1 21 = .ok (.aload_n 0, 1) := by decide +kernel
theorem dX5_mostHands_22 : decode mX5_mostHands.2.1 22 = .ok (.getfield 10, 3) := by decide +kernel
theorem dX5_mostHands_25 : decode mX5_mostHands.2.1 25 = .ok (.invokevirtual 151, 3) := by decide +kernel
theorem dX5_mostHands_28 : decode mX5_mostHands.2.1 28 = .ok (.getstatic 163, 3) := by decide +kernel
theorem dX5_mostHands_31 : decode mX5_mostHands.2.1 31 = .ok (.iconst 2, 1) := by decide +kernel
theorem dX5_mostHands_32 : decode mX5_mostHands.2.1 32 = .ok (.iaload, 1) := by decide +kernel
theorem dX5_mostHands_33 : decode mX5_mostHands.2.1 33 = .ok (.istore_n 2, 1) := by decide +kernel
theorem dX5_mostHands_34 : decode mX5_mostHands.2.1 34 = .ok (.iload_n 2, 1) := by decide +kernel
theorem dX5_mostHands_35 : decode mX5_mostHands.2.1 35 = .ok (.getstatic 166, 3) := by decide +kernel
theorem dX5_mostHands_38 : decode mX5_mostHands.2.1 38 = .ok (.iconst 2, 1) := by decide +kernel
theorem dX5_mostHands_39 : decode mX5_mostHands.2.1 39 = .ok (.iaload, 1) := by decide +kernel
theorem dX5_mostHands_40 : decode mX5_mostHands.2.1 40 = .ok (.if_icmp .lt 36, 3) := by decide +kernel
theorem dX5_mostHands_43 : decode mX5_mostHands.2.1 43 = .ok (.aload_n 0, 1) := by decide +kernel
theorem dX5_mostHands_44 : decode mX5_mostHands.2.1 44 = .ok (.getfield 19, 3) := by decide +kernel
theorem dX5_mostHands_47 : decode mX5_mostHands.2.1 47 = .ok (.getfield 82, 3) := by decide +kernel
theorem dX5_mostHands_50 : decode mX5_mostHands.2.1 50 = .ok (.iload_n 1, 1) := by decide +kernel
theorem dX5_mostHands_51 : decode mX5_mostHands.2.1 51 = .ok (.aaload, 1) := by decide +kernel
theorem dX5_mostHands_52 : decode mX5_mostHands.2.1 52 = .ok (.iconst 2, 1) := by decide +kernel
theorem dX5_mostHands_53 : decode mX5_mostHands.2.1 53 = .ok (.iload_n 2, 1) := by decide +kernel
theorem dX5_mostHands_54 : decode mX5_mostHands.2.1 54 = .ok (.invokevirtual 103, 3) := by decide +kernel
theorem dX5_mostHands_57 : decode mX5_mostHands.2.1 57 = .ok (.aload_n 0, 1) := by decide +kernel
theorem dX5_mostHands_58 : decode mX5_mostHands.2.1 58 = .ok (.getfield 19, 3) := by decide +kernel
theorem dX5_mostHands_61 : decode mX5_mostHands.2.1 61 = .ok (.iload_n 1, 1) := by decide +kernel
theorem dX5_mostHands_62 : decode mX5_mostHands.2.1 62 = .ok (.invokevirtual 155, 3) := by decide +kernel
theorem dX5_mostHands_65 : decode mX5_mostHands.2.1 65 = .ok (.ifCond .eq 5, 3) := by decide +kernel
theorem dX5_mostHands_68 : decode mX5_mostHands.2.1 68 = .ok (.iload_n 2, 1) := by decide +kernel
theorem dX5_mostHands_69 : decode mX5_mostHands.2.1 69 = .ok (.ireturn, 1) := by decide +kernel
theorem dX5_mostHands_70 : decode mX5_mostHands.2.1 70 = .ok (.iinc 2 (-1), 3) := by decide +kernel
theorem dX5_mostHands_73 : decode mX5_mostHands.2.1 73 = .ok (.goto (-39), 3) := by decide +kernel
theorem dX5_mostHands_76 : decode mX5_mostHands.2.1 76 = .ok (.aload_n 0, 1) := by decide +kernel
theorem dX5_mostHands_77 : decode mX5_mostHands.2.1 77 = .ok (.iconst 3, 1) := by decide +kernel
theorem dX5_mostHands_78 : decode mX5_mostHands.2.1 78 = .ok (.invokevirtual 57, 3) := by decide +kernel
theorem dX5_mostHands_81 : decode mX5_mostHands.2.1 81 = .ok (.ireturn, 1) := by decide +kernel
theorem dX5_fewestHands_0 : decode mX5_fewestHands.2.1 0 = .ok (.aload_n 0, 1) := by decide +kernel
theorem dX5_fewestHands_1 : decode mX5_fewestHands.2.1 1 = .ok (.getfield 10, 3) := by decide +kernel
theorem dX5_fewestHands_4 : decode mX5_fewestHands.2.1 4 = .ok (.iload_n 1, 1) := by decide +kernel
theorem dX5_fewestHands_5 : decode mX5_fewestHands.2.1 5 = .ok (.invokevirtual 78, 3) := by decide +kernel
theorem dX5_fewestHands_8 : decode mX5_fewestHands.2.1 8 = .ok (.ifCond .ne 9, 3) := by decide +kernel
theorem dX5_fewestHands_11 : decode mX5_fewestHands.2.1 11 = .ok (.aload_n 0, 1) := by decide +kernel
theorem dX5_fewestHands_12 : decode mX5_fewestHands.2.1 12 = .ok (.iconst 0, 1) := by decide +kernel
theorem dX5_fewestHands_13 : decode mX5_fewestHands.2.1 13 = .ok (.invokevirtual 57, 3) := by decide +kernel
theorem dX5_fewestHands_16 : decode mX5_fewestHands.2.1 16 = .ok (.ireturn, 1) := by decide +kernel
theorem dX5_fewestHands_17 : decode mX5_fewestHands.2.1 17 = .ok (.aload_n 0, 1) := by decide +kernel
theorem dX5_fewestHands_18 : decode mX5_fewestHands.2.1 18 = .ok (.getfield 19, 3) := by decide +kernel
theorem dX5_fewestHands_21 : decode mX5_fewestHands.2.1 21 = .ok (.aload_n 0, 1) := by decide +kernel
theorem dX5_fewestHands_22 : decode mX5_fewestHands.2.1 22 = .ok (.getfield 10, 3) := by decide +kernel
theorem dX5_fewestHands_25 : decode mX5_fewestHands.2.1 25 = .ok (.invokevirtual 151, 3) := by decide +kernel
theorem dX5_fewestHands_28 : decode mX5_fewestHands.2.1 28 = .ok (.getstatic 166, 3) := by decide +kernel
theorem dX5_fewestHands_31 : decode mX5_fewestHands.2.1 31 = .ok (.iconst 2, 1) := by decide +kernel
theorem dX5_fewestHands_32 : decode mX5_fewestHands.2.1 32 = .ok (.iaload, 1) := by decide +kernel
theorem dX5_fewestHands_33 : decode mX5_fewestHands.2.1 33 = .ok (.istore_n 2, 1) := by decide +kernel
theorem dX5_fewestHands_34 : decode mX5_fewestHands.2.1 34 = .ok (.iload_n 2, 1) := by decide +kernel
theorem dX5_fewestHands_35 : decode mX5_fewestHands.2.1 35 = .ok (.getstatic 163, 3) := by decide +kernel
theorem dX5_fewestHands_38 : decode mX5_fewestHands.2.1 38 = .ok (.iconst 2, 1) := by decide +kernel
theorem dX5_fewestHands_39 : decode mX5_fewestHands.2.1 39 = .ok (.iaload, 1) := by decide +kernel
theorem dX5_fewestHands_40 : decode mX5_fewestHands.2.1 40 = .ok (.if_icmp .gt 39, 3) := by decide +kernel
theorem dX5_fewestHands_43 : decode mX5_fewestHands.2.1 43 = .ok (.aload_n 0, 1) := by decide +kernel
theorem dX5_fewestHands_44 : decode mX5_fewestHands.2.1 44 = .ok (.getfield 19, 3) := by decide +kernel
theorem dX5_fewestHands_47 : decode mX5_fewestHands.2.1 47 = .ok (.getfield 82, 3) := by decide +kernel
theorem dX5_fewestHands_50 : decode mX5_fewestHands.2.1 50 = .ok (.iload_n 1, 1) := by decide +kernel
theorem dX5_fewestHands_51 : decode mX5_fewestHands.2.1 51 = .ok (.aaload, 1) := by decide +kernel
theorem dX5_fewestHands_52 : decode mX5_fewestHands.2.1 52 = .ok (.iconst 2, 1) := by decide +kernel
theorem dX5_fewestHands_53 : decode mX5_fewestHands.2.1 53 = .ok (.iload_n 2, 1) := by decide +kernel
theorem dX5_fewestHands_54 : decode mX5_fewestHands.2.1 54 = .ok (.invokevirtual 103, 3) := by decide +kernel
theorem dX5_fewestHands_57 : decode mX5_fewestHands.2.1 57 = .ok (.aload_n 0, 1) := by decide +kernel
theorem dX5_fewestHands_58 : decode mX5_fewestHands.2.1 58 = .ok (.getfield 19, 3) := by decide +kernel
theorem dX5_fewestHands_61 : decode mX5_fewestHands.2.1 61 = .ok (.invokevirtual 113, 3) := by decide +kernel
theorem dX5_fewestHands_64 : decode mX5_fewestHands.2.1 64 = .ok (.iload_n 1, 1) := by decide +kernel
theorem dX5_fewestHands_65 : decode mX5_fewestHands.2.1 65 = .ok (.invokestatic 169, 3) := by decide +kernel
theorem dX5_fewestHands_68 : decode mX5_fewestHands.2.1 68 = .ok (.ifCond .eq 5, 3) := by decide +kernel
theorem dX5_fewestHands_71 : decode mX5_fewestHands.2.1 71 = .ok (.iload_n 2, 1) := by decide +kernel
theorem dX5_fewestHands_72 : decode mX5_fewestHands.2.1 72 = .ok (.ireturn, 1) := by decide +kernel
theorem dX5_fewestHands_73 : decode mX5_fewestHands.2.1 73 = .ok (.iinc 2 1, 3) := by decide +kernel
theorem dX5_fewestHands_76 : decode mX5_fewestHands.2.1 76 = .ok (.goto (-42), 3) := by decide +kernel
theorem dX5_fewestHands_79 : decode mX5_fewestHands.2.1 79 = .ok (.aload_n 0, 1) := by decide +kernel
theorem dX5_fewestHands_80 : decode mX5_fewestHands.2.1 80 = .ok (.iconst 3, 1) := by decide +kernel
theorem dX5_fewestHands_81 : decode mX5_fewestHands.2.1 81 = .ok (.invokevirtual 57, 3) := by decide +kernel
theorem dX5_fewestHands_84 : decode mX5_fewestHands.2.1 84 = .ok (.ireturn, 1) := by decide +kernel
theorem dX5_lend_0 : decode mX5_lend.2.1 0 = .ok (.aload_n 0, 1) := by decide +kernel
theorem dX5_lend_1 : decode mX5_lend.2.1 1 = .ok (.getfield 10, 3) := by decide +kernel
theorem dX5_lend_4 : decode mX5_lend.2.1 4 = .ok (.iload_n 1, 1) := by decide +kernel
theorem dX5_lend_5 : decode mX5_lend.2.1 5 = .ok (.invokevirtual 78, 3) := by decide +kernel
theorem dX5_lend_8 : decode mX5_lend.2.1 8 = .ok (.ifCond .ne 9, 3) := by decide +kernel
theorem dX5_lend_11 : decode mX5_lend.2.1 11 = .ok (.aload_n 0, 1) := by decide +kernel
theorem dX5_lend_12 : decode mX5_lend.2.1 12 = .ok (.iconst 0, 1) := by decide +kernel
theorem dX5_lend_13 : decode mX5_lend.2.1 13 = .ok (.invokevirtual 57, 3) := by decide +kernel
theorem dX5_lend_16 : decode mX5_lend.2.1 16 = .ok (.ireturn, 1) := by decide +kernel
theorem dX5_lend_17 : decode mX5_lend.2.1 17 = .ok (.iconst 0, 1) := by decide +kernel
theorem dX5_lend_18 : decode mX5_lend.2.1 18 = .ok (.istore_n 2, 1) := by decide +kernel
theorem dX5_lend_19 : decode mX5_lend.2.1 19 = .ok (.iload_n 2, 1) := by decide +kernel
theorem dX5_lend_20 : decode mX5_lend.2.1 20 = .ok (.aload_n 0, 1) := by decide +kernel
theorem dX5_lend_21 : decode mX5_lend.2.1 21 = .ok (.getfield 10, 3) := by decide +kernel
theorem dX5_lend_24 : decode mX5_lend.2.1 24 = .ok (.getfield 172, 3) := by decide +kernel
theorem dX5_lend_27 : decode mX5_lend.2.1 27 = .ok (.if_icmp .ge 50, 3) := by decide +kernel
theorem dX5_lend_30 : decode mX5_lend.2.1 30 = .ok (.iconst 0, 1) := by decide +kernel
theorem dX5_lend_31 : decode mX5_lend.2.1 31 = .ok (.istore_n 3, 1) := by decide +kernel
theorem dX5_lend_32 : decode mX5_lend.2.1 32 = .ok (.iload_n 3, 1) := by decide +kernel
theorem dX5_lend_33 : decode mX5_lend.2.1 33 = .ok (.aload_n 0, 1) := by decide +kernel
theorem dX5_lend_34 : decode mX5_lend.2.1 34 = .ok (.getfield 10, 3) := by decide +kernel
theorem dX5_lend_37 : decode mX5_lend.2.1 37 = .ok (.getfield 172, 3) := by decide +kernel
theorem dX5_lend_40 : decode mX5_lend.2.1 40 = .ok (.if_icmp .ge 31, 3) := by decide +kernel
theorem dX5_lend_43 : decode mX5_lend.2.1 43 = .ok (.iload_n 2, 1) := by decide +kernel
theorem dX5_lend_44 : decode mX5_lend.2.1 44 = .ok (.iload_n 3, 1) := by decide +kernel
theorem dX5_lend_45 : decode mX5_lend.2.1 45 = .ok (.if_icmp .eq 20, 3) := by decide +kernel
theorem dX5_lend_48 : decode mX5_lend.2.1 48 = .ok (.aload_n 0, 1) := by decide +kernel
theorem dX5_lend_49 : decode mX5_lend.2.1 49 = .ok (.iload_n 1, 1) := by decide +kernel
theorem dX5_lend_50 : decode mX5_lend.2.1 50 = .ok (.iload_n 2, 1) := by decide +kernel
theorem dX5_lend_51 : decode mX5_lend.2.1 51 = .ok (.iload_n 3, 1) := by decide +kernel
theorem dX5_lend_52 : decode mX5_lend.2.1 52 = .ok (.invokevirtual 175, 3) := by decide +kernel
theorem dX5_lend_55 : decode mX5_lend.2.1 55 = .ok (.ifCond .eq 10, 3) := by decide +kernel
theorem dX5_lend_58 : decode mX5_lend.2.1 58 = .ok (.bipush 8, 2) := by decide +kernel
theorem dX5_lend_60 : decode mX5_lend.2.1 60 = .ok (.iload_n 2, 1) := by decide +kernel
theorem dX5_lend_61 : decode mX5_lend.2.1 61 = .ok (.imul, 1) := by decide +kernel
theorem dX5_lend_62 : decode mX5_lend.2.1 62 = .ok (.iload_n 3, 1) := by decide +kernel
theorem dX5_lend_63 : decode mX5_lend.2.1 63 = .ok (.iadd, 1) := by decide +kernel
theorem dX5_lend_64 : decode mX5_lend.2.1 64 = .ok (.ireturn, 1) := by decide +kernel
theorem dX5_lend_65 : decode mX5_lend.2.1 65 = .ok (.iinc 3 1, 3) := by decide +kernel
theorem dX5_lend_68 : decode mX5_lend.2.1 68 = .ok (.goto (-36), 3) := by decide +kernel
theorem dX5_lend_71 : decode mX5_lend.2.1 71 = .ok (.iinc 2 1, 3) := by decide +kernel
theorem dX5_lend_74 : decode mX5_lend.2.1 74 = .ok (.goto (-55), 3) := by decide +kernel
theorem dX5_lend_77 : decode mX5_lend.2.1 77 = .ok (.aload_n 0, 1) := by decide +kernel
theorem dX5_lend_78 : decode mX5_lend.2.1 78 = .ok (.iconst 3, 1) := by decide +kernel
theorem dX5_lend_79 : decode mX5_lend.2.1 79 = .ok (.invokevirtual 57, 3) := by decide +kernel
theorem dX5_lend_82 : decode mX5_lend.2.1 82 = .ok (.ireturn, 1) := by decide +kernel
theorem dX5_isLatestIfLent_0 : decode mX5_isLatestIfLent.2.1 0 = .ok (.aload_n 0, 1) := by decide +kernel
theorem dX5_isLatestIfLent_1 : decode mX5_isLatestIfLent.2.1 1 = .ok (.getfield 19, 3) := by decide +kernel
theorem dX5_isLatestIfLent_4 : decode mX5_isLatestIfLent.2.1 4 = .ok (.aload_n 0, 1) := by decide +kernel
theorem dX5_isLatestIfLent_5 : decode mX5_isLatestIfLent.2.1 5 = .ok (.getfield 10, 3) := by decide +kernel
theorem dX5_isLatestIfLent_8 : decode mX5_isLatestIfLent.2.1 8 = .ok (.invokevirtual 151, 3) := by decide +kernel
theorem dX5_isLatestIfLent_11 : decode mX5_isLatestIfLent.2.1 11 = .ok (.aload_n 0, 1) := by decide +kernel
theorem dX5_isLatestIfLent_12 : decode mX5_isLatestIfLent.2.1 12 = .ok (.getfield 19, 3) := by decide +kernel
theorem dX5_isLatestIfLent_15 : decode mX5_isLatestIfLent.2.1 15 = .ok (.getfield 82, 3) := by decide +kernel
theorem dX5_isLatestIfLent_18 : decode mX5_isLatestIfLent.2.1 18 = .ok (.iload_n 2, 1) := by decide +kernel
theorem dX5_isLatestIfLent_19 : decode mX5_isLatestIfLent.2.1 19 = .ok (.aaload, 1) := by decide +kernel
theorem dX5_isLatestIfLent_20 : decode mX5_isLatestIfLent.2.1 20 = .ok (.astore 4, 2) := by decide +kernel
theorem dX5_isLatestIfLent_22 : decode mX5_isLatestIfLent.2.1 22 = .ok (.aload_n 0, 1) := by decide +kernel
theorem dX5_isLatestIfLent_23 : decode mX5_isLatestIfLent.2.1 23 = .ok (.getfield 19, 3) := by decide +kernel
theorem dX5_isLatestIfLent_26 : decode mX5_isLatestIfLent.2.1 26 = .ok (.getfield 82, 3) := by decide +kernel
theorem dX5_isLatestIfLent_29 : decode mX5_isLatestIfLent.2.1 29 = .ok (.iload_n 3, 1) := by decide +kernel
theorem dX5_isLatestIfLent_30 : decode mX5_isLatestIfLent.2.1 30 = .ok (.aaload, 1) := by decide +kernel
theorem dX5_isLatestIfLent_31 : decode mX5_isLatestIfLent.2.1 31 = .ok (.astore 5, 2) := by decide +kernel
theorem dX5_isLatestIfLent_33 : decode mX5_isLatestIfLent.2.1 33 = .ok (.aload 4, 2) := by decide +kernel
theorem dX5_isLatestIfLent_35 : decode mX5_isLatestIfLent.2.1 35 = .ok (.getfield 178, 3) := by decide +kernel
theorem dX5_isLatestIfLent_38 : decode mX5_isLatestIfLent.2.1 38 = .ok (.getstatic 166, 3) := by decide +kernel
theorem dX5_isLatestIfLent_41 : decode mX5_isLatestIfLent.2.1 41 = .ok (.iconst 2, 1) := by decide +kernel
theorem dX5_isLatestIfLent_42 : decode mX5_isLatestIfLent.2.1 42 = .ok (.iaload, 1) := by decide +kernel
theorem dX5_isLatestIfLent_43 : decode mX5_isLatestIfLent.2.1 43 = .ok (.if_icmp .le 16, 3) := by decide +kernel
theorem dX5_isLatestIfLent_46 : decode mX5_isLatestIfLent.2.1 46 = .ok (.aload 5, 2) := by decide +kernel
theorem dX5_isLatestIfLent_48 : decode mX5_isLatestIfLent.2.1 48 = .ok (.getfield 178, 3) := by decide +kernel
theorem dX5_isLatestIfLent_51 : decode mX5_isLatestIfLent.2.1 51 = .ok (.getstatic 163, 3) := by decide +kernel
theorem dX5_isLatestIfLent_54 : decode mX5_isLatestIfLent.2.1 54 = .ok (.iconst 2, 1) := by decide +kernel
theorem dX5_isLatestIfLent_55 : decode mX5_isLatestIfLent.2.1 55 = .ok (.iaload, 1) := by decide +kernel
theorem dX5_isLatestIfLent_56 : decode mX5_isLatestIfLent.2.1 56 = .ok (.if_icmp .lt 5, 3) := by decide +kernel
theorem dX5_isLatestIfLent_59 : decode mX5_isLatestIfLent.2.1 59 = .ok (.iconst 0, 1) := by decide +kernel
theorem dX5_isLatestIfLent_60 : decode mX5_isLatestIfLent.2.1 60 = .ok (.ireturn, 1) := by decide +kernel
theorem dX5_isLatestIfLent_61 : decode mX5_isLatestIfLent.2.1 61 = .ok (.aload 4, 2) := by decide +kernel
theorem dX5_isLatestIfLent_63 : decode mX5_isLatestIfLent.2.1 63 = .ok (.iconst 2, 1) := by decide +kernel
theorem dX5_isLatestIfLent_64 : decode mX5_isLatestIfLent.2.1 64 = .ok (.aload 4, 2) := by decide +kernel
theorem dX5_isLatestIfLent_66 : decode mX5_isLatestIfLent.2.1 66 = .ok (.getfield 178, 3) := by decide +kernel
theorem dX5_isLatestIfLent_69 : decode mX5_isLatestIfLent.2.1 69 = .ok (.iconst 1, 1) := by decide +kernel
theorem dX5_isLatestIfLent_70 : decode mX5_isLatestIfLent.2.1 70 = .ok (.isub, 1) := by decide +kernel
theorem dX5_isLatestIfLent_71 : decode mX5_isLatestIfLent.2.1 71 = .ok (.invokevirtual 103, 3) := by decide +kernel
theorem dX5_isLatestIfLent_74 : decode mX5_isLatestIfLent.2.1 74 = .ok (.aload 5, 2) := by decide +kernel
theorem dX5_isLatestIfLent_76 : decode mX5_isLatestIfLent.2.1 76 = .ok (.iconst 2, 1) := by decide +kernel
theorem dX5_isLatestIfLent_77 : decode mX5_isLatestIfLent.2.1 77 = .ok (.aload 5, 2) := by decide +kernel
theorem dX5_isLatestIfLent_79 : decode mX5_isLatestIfLent.2.1 79 = .ok (.getfield 178, 3) := by decide +kernel
theorem dX5_isLatestIfLent_82 : decode mX5_isLatestIfLent.2.1 82 = .ok (.iconst 1, 1) := by decide +kernel
theorem dX5_isLatestIfLent_83 : decode mX5_isLatestIfLent.2.1 83 = .ok (.iadd, 1) := by decide +kernel
theorem dX5_isLatestIfLent_84 : decode mX5_isLatestIfLent.2.1 84 = .ok (.invokevirtual 103, 3) := by decide +kernel
theorem dX5_isLatestIfLent_87 : decode mX5_isLatestIfLent.2.1 87 = .ok (.aload_n 0, 1) := by decide +kernel
theorem dX5_isLatestIfLent_88 : decode mX5_isLatestIfLent.2.1 88 = .ok (.getfield 19, 3) := by decide +kernel
theorem dX5_isLatestIfLent_91 : decode mX5_isLatestIfLent.2.1 91 = .ok (.iload_n 1, 1) := by decide +kernel
theorem dX5_isLatestIfLent_92 : decode mX5_isLatestIfLent.2.1 92 = .ok (.invokevirtual 155, 3) := by decide +kernel
theorem dX5_isLatestIfLent_95 : decode mX5_isLatestIfLent.2.1 95 = .ok (.ireturn, 1) := by decide +kernel
theorem dX5_kinds_0 : decode mX5_kinds.2.1 0 = .ok (.aload_n 0, 1) := by decide +kernel
theorem dX5_kinds_1 : decode mX5_kinds.2.1 1 = .ok (.getfield 10, 3) := by decide +kernel
theorem dX5_kinds_4 : decode mX5_kinds.2.1 4 = .ok (.iload_n 1, 1) := by decide +kernel
theorem dX5_kinds_5 : decode mX5_kinds.2.1 5 = .ok (.invokevirtual 78, 3) := by decide +kernel
theorem dX5_kinds_8 : decode mX5_kinds.2.1 8 = .ok (.ifCond .ne 9, 3) := by decide +kernel
theorem dX5_kinds_11 : decode mX5_kinds.2.1 11 = .ok (.aload_n 0, 1) := by decide +kernel
theorem dX5_kinds_12 : decode mX5_kinds.2.1 12 = .ok (.iconst 0, 1) := by decide +kernel
theorem dX5_kinds_13 : decode mX5_kinds.2.1 13 = .ok (.invokevirtual 57, 3) := by decide +kernel
theorem dX5_kinds_16 : decode mX5_kinds.2.1 16 = .ok (.ireturn, 1) := by decide +kernel
theorem dX5_kinds_17 : decode mX5_kinds.2.1 17 = .ok (.aload_n 0, 1) := by decide +kernel
theorem dX5_kinds_18 : decode mX5_kinds.2.1 18 = .ok (.getfield 19, 3) := by decide +kernel
theorem dX5_kinds_21 : decode mX5_kinds.2.1 21 = .ok (.aload_n 0, 1) := by decide +kernel
theorem dX5_kinds_22 : decode mX5_kinds.2.1 22 = .ok (.getfield 10, 3) := by decide +kernel
theorem dX5_kinds_25 : decode mX5_kinds.2.1 25 = .ok (.invokevirtual 151, 3) := by decide +kernel
theorem dX5_kinds_28 : decode mX5_kinds.2.1 28 = .ok (.iconst 0, 1) := by decide +kernel
theorem dX5_kinds_29 : decode mX5_kinds.2.1 29 = .ok (.istore_n 2, 1) := by decide +kernel
theorem dX5_kinds_30 : decode mX5_kinds.2.1 30 = .ok (.iconst 0, 1) := by decide +kernel
theorem dX5_kinds_31 : decode mX5_kinds.2.1 31 = .ok (.istore_n 3, 1) := by decide +kernel
theorem dX5_kinds_32 : decode mX5_kinds.2.1 32 = .ok (.iload_n 3, 1) := by decide +kernel
theorem dX5_kinds_33 : decode mX5_kinds.2.1 33 = .ok (.bipush 7, 2) := by decide +kernel
theorem dX5_kinds_35 : decode mX5_kinds.2.1 35 = .ok (.if_icmp .ge 40, 3) := by decide +kernel
theorem dX5_kinds_38 : decode mX5_kinds.2.1 38 = .ok (.aload_n 0, 1) := by decide +kernel
theorem dX5_kinds_39 : decode mX5_kinds.2.1 39 = .ok (.getfield 19, 3) := by decide +kernel
theorem dX5_kinds_42 : decode mX5_kinds.2.1 42 = .ok (.getfield 82, 3) := by decide +kernel
theorem dX5_kinds_45 : decode mX5_kinds.2.1 45 = .ok (.iload_n 1, 1) := by decide +kernel
theorem dX5_kinds_46 : decode mX5_kinds.2.1 46 = .ok (.aaload, 1) := by decide +kernel
theorem dX5_kinds_47 : decode mX5_kinds.2.1 47 = .ok (.iconst 0, 1) := by decide +kernel
theorem dX5_kinds_48 : decode mX5_kinds.2.1 48 = .ok (.iload_n 3, 1) := by decide +kernel
theorem dX5_kinds_49 : decode mX5_kinds.2.1 49 = .ok (.invokevirtual 103, 3) := by decide +kernel
theorem dX5_kinds_52 : decode mX5_kinds.2.1 52 = .ok (.aload_n 0, 1) := by decide +kernel
theorem dX5_kinds_53 : decode mX5_kinds.2.1 53 = .ok (.getfield 19, 3) := by decide +kernel
theorem dX5_kinds_56 : decode mX5_kinds.2.1 56 = .ok (.iload_n 1, 1) := by decide +kernel
theorem dX5_kinds_57 : decode mX5_kinds.2.1 57 = .ok (.invokevirtual 155, 3) := by decide +kernel
theorem dX5_kinds_60 : decode mX5_kinds.2.1 60 = .ok (.ifCond .eq 9, 3) := by decide +kernel
theorem dX5_kinds_63 : decode mX5_kinds.2.1 63 = .ok (.iload_n 2, 1) := by decide +kernel
theorem dX5_kinds_64 : decode mX5_kinds.2.1 64 = .ok (.iconst 1, 1) := by decide +kernel
theorem dX5_kinds_65 : decode mX5_kinds.2.1 65 = .ok (.iload_n 3, 1) := by decide +kernel
theorem dX5_kinds_66 : decode mX5_kinds.2.1 66 = .ok (.ishl, 1) := by decide +kernel
theorem dX5_kinds_67 : decode mX5_kinds.2.1 67 = .ok (.ior, 1) := by decide +kernel
theorem dX5_kinds_68 : decode mX5_kinds.2.1 68 = .ok (.istore_n 2, 1) := by decide +kernel
theorem dX5_kinds_69 : decode mX5_kinds.2.1 69 = .ok (.iinc 3 1, 3) := by decide +kernel
theorem dX5_kinds_72 : decode mX5_kinds.2.1 72 = .ok (.goto (-40), 3) := by decide +kernel
theorem dX5_kinds_75 : decode mX5_kinds.2.1 75 = .ok (.iload_n 2, 1) := by decide +kernel
theorem dX5_kinds_76 : decode mX5_kinds.2.1 76 = .ok (.ireturn, 1) := by decide +kernel
theorem dX5_wetFor_0 : decode mX5_wetFor.2.1 0 = .ok (.aload_n 0, 1) := by decide +kernel
theorem dX5_wetFor_1 : decode mX5_wetFor.2.1 1 = .ok (.getfield 10, 3) := by decide +kernel
theorem dX5_wetFor_4 : decode mX5_wetFor.2.1 4 = .ok (.iload_n 1, 1) := by decide +kernel
theorem dX5_wetFor_5 : decode mX5_wetFor.2.1 5 = .ok (.invokevirtual 78, 3) := by decide +kernel
theorem dX5_wetFor_8 : decode mX5_wetFor.2.1 8 = .ok (.ifCond .ne 9, 3) := by decide +kernel
theorem dX5_wetFor_11 : decode mX5_wetFor.2.1 11 = .ok (.aload_n 0, 1) := by decide +kernel
theorem dX5_wetFor_12 : decode mX5_wetFor.2.1 12 = .ok (.iconst 0, 1) := by decide +kernel
theorem dX5_wetFor_13 : decode mX5_wetFor.2.1 13 = .ok (.invokevirtual 57, 3) := by decide +kernel
theorem dX5_wetFor_16 : decode mX5_wetFor.2.1 16 = .ok (.ireturn, 1) := by decide +kernel
theorem dX5_wetFor_17 : decode mX5_wetFor.2.1 17 = .ok (.aload_n 0, 1) := by decide +kernel
theorem dX5_wetFor_18 : decode mX5_wetFor.2.1 18 = .ok (.getfield 19, 3) := by decide +kernel
theorem dX5_wetFor_21 : decode mX5_wetFor.2.1 21 = .ok (.aload_n 0, 1) := by decide +kernel
theorem dX5_wetFor_22 : decode mX5_wetFor.2.1 22 = .ok (.getfield 10, 3) := by decide +kernel
theorem dX5_wetFor_25 : decode mX5_wetFor.2.1 25 = .ok (.invokevirtual 151, 3) := by decide +kernel
theorem dX5_wetFor_28 : decode mX5_wetFor.2.1 28 = .ok (.iconst 0, 1) := by decide +kernel
theorem dX5_wetFor_29 : decode mX5_wetFor.2.1 29 = .ok (.istore_n 2, 1) := by decide +kernel
theorem dX5_wetFor_30 : decode mX5_wetFor.2.1 30 = .ok (.iload_n 2, 1) := by decide +kernel
theorem dX5_wetFor_31 : decode mX5_wetFor.2.1 31 = .ok (.bipush 99, 2) := by decide +kernel
theorem dX5_wetFor_33 : decode mX5_wetFor.2.1 33 = .ok (.if_icmp .gt 32, 3) := by decide +kernel
theorem dX5_wetFor_36 : decode mX5_wetFor.2.1 36 = .ok (.aload_n 0, 1) := by decide +kernel
theorem dX5_wetFor_37 : decode mX5_wetFor.2.1 37 = .ok (.getfield 19, 3) := by decide +kernel
theorem dX5_wetFor_40 : decode mX5_wetFor.2.1 40 = .ok (.getfield 61, 3) := by decide +kernel
theorem dX5_wetFor_43 : decode mX5_wetFor.2.1 43 = .ok (.iconst 0, 1) := by decide +kernel
theorem dX5_wetFor_44 : decode mX5_wetFor.2.1 44 = .ok (.iload_n 2, 1) := by decide +kernel
theorem dX5_wetFor_45 : decode mX5_wetFor.2.1 45 = .ok (.iastore, 1) := by decide +kernel
theorem dX5_wetFor_46 : decode mX5_wetFor.2.1 46 = .ok (.aload_n 0, 1) := by decide +kernel
theorem dX5_wetFor_47 : decode mX5_wetFor.2.1 47 = .ok (.getfield 19, 3) := by decide +kernel
theorem dX5_wetFor_50 : decode mX5_wetFor.2.1 50 = .ok (.iload_n 1, 1) := by decide +kernel
theorem dX5_wetFor_51 : decode mX5_wetFor.2.1 51 = .ok (.invokevirtual 155, 3) := by decide +kernel
theorem dX5_wetFor_54 : decode mX5_wetFor.2.1 54 = .ok (.ifCond .eq 5, 3) := by decide +kernel
theorem dX5_wetFor_57 : decode mX5_wetFor.2.1 57 = .ok (.iload_n 2, 1) := by decide +kernel
theorem dX5_wetFor_58 : decode mX5_wetFor.2.1 58 = .ok (.ireturn, 1) := by decide +kernel
theorem dX5_wetFor_59 : decode mX5_wetFor.2.1 59 = .ok (.iinc 2 1, 3) := by decide +kernel
theorem dX5_wetFor_62 : decode mX5_wetFor.2.1 62 = .ok (.goto (-32), 3) := by decide +kernel
theorem dX5_wetFor_65 : decode mX5_wetFor.2.1 65 = .ok (.aload_n 0, 1) := by decide +kernel
theorem dX5_wetFor_66 : decode mX5_wetFor.2.1 66 = .ok (.iconst 3, 1) := by decide +kernel
theorem dX5_wetFor_67 : decode mX5_wetFor.2.1 67 = .ok (.invokevirtual 57, 3) := by decide +kernel
theorem dX5_wetFor_70 : decode mX5_wetFor.2.1 70 = .ok (.ireturn, 1) := by decide +kernel
theorem dX5_tell_0 : decode mX5_tell.2.1 0 = .ok (.iload_n 1, 1) := by decide +kernel
theorem dX5_tell_1 : decode mX5_tell.2.1 1 = .ok (.invokestatic 125, 3) := by decide +kernel
theorem dX5_tell_4 : decode mX5_tell.2.1 4 = .ok (.ifCond .eq 11, 3) := by decide +kernel
theorem dX5_tell_7 : decode mX5_tell.2.1 7 = .ok (.iconst 3, 1) := by decide +kernel
theorem dX5_tell_8 : decode mX5_tell.2.1 8 = .ok (.iload_n 2, 1) := by decide +kernel
theorem dX5_tell_9 : decode mX5_tell.2.1 9 = .ok (.invokestatic 64, 3) := by decide +kernel
theorem dX5_tell_12 : decode mX5_tell.2.1 12 = .ok (.ifCond .ne 9, 3) := by decide +kernel
theorem dX5_tell_15 : decode mX5_tell.2.1 15 = .ok (.aload_n 0, 1) := by decide +kernel
theorem dX5_tell_16 : decode mX5_tell.2.1 16 = .ok (.iconst 0, 1) := by decide +kernel
theorem dX5_tell_17 : decode mX5_tell.2.1 17 = .ok (.invokevirtual 57, 3) := by decide +kernel
theorem dX5_tell_20 : decode mX5_tell.2.1 20 = .ok (.ireturn, 1) := by decide +kernel
theorem dX5_tell_21 : decode mX5_tell.2.1 21 = .ok (.aload_n 0, 1) := by decide +kernel
theorem dX5_tell_22 : decode mX5_tell.2.1 22 = .ok (.getfield 19, 3) := by decide +kernel
theorem dX5_tell_25 : decode mX5_tell.2.1 25 = .ok (.aload_n 0, 1) := by decide +kernel
theorem dX5_tell_26 : decode mX5_tell.2.1 26 = .ok (.getfield 10, 3) := by decide +kernel
theorem dX5_tell_29 : decode mX5_tell.2.1 29 = .ok (.invokevirtual 151, 3) := by decide +kernel
theorem dX5_tell_32 : decode mX5_tell.2.1 32 = .ok (.aload_n 0, 1) := by decide +kernel
theorem dX5_tell_33 : decode mX5_tell.2.1 33 = .ok (.getfield 10, 3) := by decide +kernel
theorem dX5_tell_36 : decode mX5_tell.2.1 36 = .ok (.invokevirtual 110, 3) := by decide +kernel
theorem dX5_tell_39 : decode mX5_tell.2.1 39 = .ok (.istore_n 3, 1) := by decide +kernel
theorem dX5_tell_40 : decode mX5_tell.2.1 40 = .ok (.iconst (-1), 1) := by decide +kernel
theorem dX5_tell_41 : decode mX5_tell.2.1 41 = .ok (.istore 4, 2) := by decide +kernel
theorem dX5_tell_43 : decode mX5_tell.2.1 43 = .ok (.iconst 0, 1) := by decide +kernel
theorem dX5_tell_44 : decode mX5_tell.2.1 44 = .ok (.istore 5, 2) := by decide +kernel
theorem dX5_tell_46 : decode mX5_tell.2.1 46 = .ok (.iload 5, 2) := by decide +kernel
theorem dX5_tell_48 : decode mX5_tell.2.1 48 = .ok (.iconst 1, 1) := by decide +kernel
theorem dX5_tell_49 : decode mX5_tell.2.1 49 = .ok (.aload_n 0, 1) := by decide +kernel
theorem dX5_tell_50 : decode mX5_tell.2.1 50 = .ok (.getfield 10, 3) := by decide +kernel
theorem dX5_tell_53 : decode mX5_tell.2.1 53 = .ok (.getfield 172, 3) := by decide +kernel
theorem dX5_tell_56 : decode mX5_tell.2.1 56 = .ok (.ishl, 1) := by decide +kernel
theorem dX5_tell_57 : decode mX5_tell.2.1 57 = .ok (.if_icmp .ge 53, 3) := by decide +kernel
theorem dX5_tell_60 : decode mX5_tell.2.1 60 = .ok (.iload 4, 2) := by decide +kernel
theorem dX5_tell_62 : decode mX5_tell.2.1 62 = .ok (.ifCond .lt 19, 3) := by decide +kernel
theorem dX5_tell_65 : decode mX5_tell.2.1 65 = .ok (.iload 5, 2) := by decide +kernel
theorem dX5_tell_67 : decode mX5_tell.2.1 67 = .ok (.invokestatic 158, 3) := by decide +kernel
theorem dX5_tell_70 : decode mX5_tell.2.1 70 = .ok (.iload 4, 2) := by decide +kernel
theorem dX5_tell_72 : decode mX5_tell.2.1 72 = .ok (.invokestatic 158, 3) := by decide +kernel
theorem dX5_tell_75 : decode mX5_tell.2.1 75 = .ok (.if_icmp .lt 6, 3) := by decide +kernel
theorem dX5_tell_78 : decode mX5_tell.2.1 78 = .ok (.goto 26, 3) := by decide +kernel
theorem dX5_tell_81 : decode mX5_tell.2.1 81 = .ok (.aload_n 0, 1) := by decide +kernel
theorem dX5_tell_82 : decode mX5_tell.2.1 82 = .ok (.iload 5, 2) := by decide +kernel
theorem dX5_tell_84 : decode mX5_tell.2.1 84 = .ok (.iload_n 2, 1) := by decide +kernel
theorem dX5_tell_85 : decode mX5_tell.2.1 85 = .ok (.invokevirtual 181, 3) := by decide +kernel
theorem dX5_tell_88 : decode mX5_tell.2.1 88 = .ok (.aload_n 0, 1) := by decide +kernel
theorem dX5_tell_89 : decode mX5_tell.2.1 89 = .ok (.getfield 19, 3) := by decide +kernel
theorem dX5_tell_92 : decode mX5_tell.2.1 92 = .ok (.iload_n 3, 1) := by decide +kernel
theorem dX5_tell_93 : decode mX5_tell.2.1 93 = .ok (.invokevirtual 184, 3) := by decide +kernel
theorem dX5_tell_96 : decode mX5_tell.2.1 96 = .ok (.iload_n 1, 1) := by decide +kernel
theorem dX5_tell_97 : decode mX5_tell.2.1 97 = .ok (.if_icmp .lt 7, 3) := by decide +kernel
theorem dX5_tell_100 : decode mX5_tell.2.1 100 = .ok (.iload 5, 2) := by decide +kernel
theorem dX5_tell_102 : decode mX5_tell.2.1 102 = .ok (.istore 4, 2) := by decide +kernel
theorem dX5_tell_104 : decode mX5_tell.2.1 104 = .ok (.iinc 5 1, 3) := by decide +kernel
theorem dX5_tell_107 : decode mX5_tell.2.1 107 = .ok (.goto (-61), 3) := by decide +kernel
theorem dX5_tell_110 : decode mX5_tell.2.1 110 = .ok (.iload 4, 2) := by decide +kernel
theorem dX5_tell_112 : decode mX5_tell.2.1 112 = .ok (.ifCond .lt 8, 3) := by decide +kernel
theorem dX5_tell_115 : decode mX5_tell.2.1 115 = .ok (.iload 4, 2) := by decide +kernel
theorem dX5_tell_117 : decode mX5_tell.2.1 117 = .ok (.goto 8, 3) := by decide +kernel
theorem dX5_tell_120 : decode mX5_tell.2.1 120 = .ok (.aload_n 0, 1) := by decide +kernel
theorem dX5_tell_121 : decode mX5_tell.2.1 121 = .ok (.iconst 3, 1) := by decide +kernel
theorem dX5_tell_122 : decode mX5_tell.2.1 122 = .ok (.invokevirtual 57, 3) := by decide +kernel
theorem dX5_tell_125 : decode mX5_tell.2.1 125 = .ok (.ireturn, 1) := by decide +kernel
theorem dX5_tryOpinion_0 : decode mX5_tryOpinion.2.1 0 = .ok (.iconst 0, 1) := by decide +kernel
theorem dX5_tryOpinion_1 : decode mX5_tryOpinion.2.1 1 = .ok (.istore_n 3, 1) := by decide +kernel
theorem dX5_tryOpinion_2 : decode mX5_tryOpinion.2.1 2 = .ok (.iload_n 3, 1) := by decide +kernel
theorem dX5_tryOpinion_3 : decode mX5_tryOpinion.2.1 3 = .ok (.aload_n 0, 1) := by decide +kernel
theorem dX5_tryOpinion_4 : decode mX5_tryOpinion.2.1 4 = .ok (.getfield 10, 3) := by decide +kernel
theorem dX5_tryOpinion_7 : decode mX5_tryOpinion.2.1 7 = .ok (.getfield 172, 3) := by decide +kernel
theorem dX5_tryOpinion_10 : decode mX5_tryOpinion.2.1 10 = .ok (.if_icmp .ge 45, 3) := by decide +kernel
theorem dX5_tryOpinion_13 : decode mX5_tryOpinion.2.1 13 = .ok (.aload_n 0, 1) := by decide +kernel
theorem dX5_tryOpinion_14 : decode mX5_tryOpinion.2.1 14 = .ok (.getfield 19, 3) := by decide +kernel
theorem dX5_tryOpinion_17 : decode mX5_tryOpinion.2.1 17 = .ok (.getfield 82, 3) := by decide +kernel
theorem dX5_tryOpinion_20 : decode mX5_tryOpinion.2.1 20 = .ok (.iload_n 3, 1) := by decide +kernel
theorem dX5_tryOpinion_21 : decode mX5_tryOpinion.2.1 21 = .ok (.aaload, 1) := by decide +kernel
theorem dX5_tryOpinion_22 : decode mX5_tryOpinion.2.1 22 = .ok (.iload_n 1, 1) := by decide +kernel
theorem dX5_tryOpinion_23 : decode mX5_tryOpinion.2.1 23 = .ok (.iload_n 3, 1) := by decide +kernel
theorem dX5_tryOpinion_24 : decode mX5_tryOpinion.2.1 24 = .ok (.invokestatic 169, 3) := by decide +kernel
theorem dX5_tryOpinion_27 : decode mX5_tryOpinion.2.1 27 = .ok (.ifCond .eq 7, 3) := by decide +kernel
theorem dX5_tryOpinion_30 : decode mX5_tryOpinion.2.1 30 = .ok (.iload_n 2, 1) := by decide +kernel
theorem dX5_tryOpinion_31 : decode mX5_tryOpinion.2.1 31 = .ok (.goto 15, 3) := by decide +kernel
theorem dX5_tryOpinion_34 : decode mX5_tryOpinion.2.1 34 = .ok (.aload_n 0, 1) := by decide +kernel
theorem dX5_tryOpinion_35 : decode mX5_tryOpinion.2.1 35 = .ok (.getfield 10, 3) := by decide +kernel
theorem dX5_tryOpinion_38 : decode mX5_tryOpinion.2.1 38 = .ok (.getfield 82, 3) := by decide +kernel
theorem dX5_tryOpinion_41 : decode mX5_tryOpinion.2.1 41 = .ok (.iload_n 3, 1) := by decide +kernel
theorem dX5_tryOpinion_42 : decode mX5_tryOpinion.2.1 42 = .ok (.aaload, 1) := by decide +kernel
theorem dX5_tryOpinion_43 : decode mX5_tryOpinion.2.1 43 = .ok (.getfield 187, 3) := by decide +kernel
theorem dX5_tryOpinion_46 : decode mX5_tryOpinion.2.1 46 = .ok (.putfield 187, 3) := by decide +kernel
theorem dX5_tryOpinion_49 : decode mX5_tryOpinion.2.1 49 = .ok (.iinc 3 1, 3) := by decide +kernel
theorem dX5_tryOpinion_52 : decode mX5_tryOpinion.2.1 52 = .ok (.goto (-50), 3) := by decide +kernel
theorem dX5_tryOpinion_55 : decode mX5_tryOpinion.2.1 55 = .ok (.return_, 1) := by decide +kernel
theorem dX5_voice_0 : decode mX5_voice.2.1 0 = .ok (.aload_n 0, 1) := by decide +kernel
theorem dX5_voice_1 : decode mX5_voice.2.1 1 = .ok (.getfield 10, 3) := by decide +kernel
theorem dX5_voice_4 : decode mX5_voice.2.1 4 = .ok (.getfield 172, 3) := by decide +kernel
theorem dX5_voice_7 : decode mX5_voice.2.1 7 = .ok (.ifCond .ne 9, 3) := by decide +kernel
theorem dX5_voice_10 : decode mX5_voice.2.1 10 = .ok (.aload_n 0, 1) := by decide +kernel
theorem dX5_voice_11 : decode mX5_voice.2.1 11 = .ok (.iconst 3, 1) := by decide +kernel
theorem dX5_voice_12 : decode mX5_voice.2.1 12 = .ok (.invokevirtual 57, 3) := by decide +kernel
theorem dX5_voice_15 : decode mX5_voice.2.1 15 = .ok (.ireturn, 1) := by decide +kernel
theorem dX5_voice_16 : decode mX5_voice.2.1 16 = .ok (.aload_n 0, 1) := by decide +kernel
theorem dX5_voice_17 : decode mX5_voice.2.1 17 = .ok (.getfield 10, 3) := by decide +kernel
theorem dX5_voice_20 : decode mX5_voice.2.1 20 = .ok (.invokevirtual 110, 3) := by decide +kernel
theorem dX5_voice_23 : decode mX5_voice.2.1 23 = .ok (.istore_n 1, 1) := by decide +kernel
theorem dX5_voice_24 : decode mX5_voice.2.1 24 = .ok (.aload_n 0, 1) := by decide +kernel
theorem dX5_voice_25 : decode mX5_voice.2.1 25 = .ok (.getfield 10, 3) := by decide +kernel
theorem dX5_voice_28 : decode mX5_voice.2.1 28 = .ok (.iload_n 1, 1) := by decide +kernel
theorem dX5_voice_29 : decode mX5_voice.2.1 29 = .ok (.invokevirtual 184, 3) := by decide +kernel
theorem dX5_voice_32 : decode mX5_voice.2.1 32 = .ok (.istore_n 2, 1) := by decide +kernel
theorem dX5_voice_33 : decode mX5_voice.2.1 33 = .ok (.aload_n 0, 1) := by decide +kernel
theorem dX5_voice_34 : decode mX5_voice.2.1 34 = .ok (.getfield 19, 3) := by decide +kernel
theorem dX5_voice_37 : decode mX5_voice.2.1 37 = .ok (.aload_n 0, 1) := by decide +kernel
theorem dX5_voice_38 : decode mX5_voice.2.1 38 = .ok (.getfield 10, 3) := by decide +kernel
theorem dX5_voice_41 : decode mX5_voice.2.1 41 = .ok (.invokevirtual 151, 3) := by decide +kernel
theorem dX5_voice_44 : decode mX5_voice.2.1 44 = .ok (.iconst 0, 1) := by decide +kernel
theorem dX5_voice_45 : decode mX5_voice.2.1 45 = .ok (.istore_n 3, 1) := by decide +kernel
theorem dX5_voice_46 : decode mX5_voice.2.1 46 = .ok (.iconst (-1), 1) := by decide +kernel
theorem dX5_voice_47 : decode mX5_voice.2.1 47 = .ok (.istore 4, 2) := by decide +kernel
theorem dX5_voice_49 : decode mX5_voice.2.1 49 = .ok (.iconst 0, 1) := by decide +kernel
theorem dX5_voice_50 : decode mX5_voice.2.1 50 = .ok (.istore 5, 2) := by decide +kernel
theorem dX5_voice_52 : decode mX5_voice.2.1 52 = .ok (.iload 5, 2) := by decide +kernel
theorem dX5_voice_54 : decode mX5_voice.2.1 54 = .ok (.aload_n 0, 1) := by decide +kernel
theorem dX5_voice_55 : decode mX5_voice.2.1 55 = .ok (.getfield 10, 3) := by decide +kernel
theorem dX5_voice_58 : decode mX5_voice.2.1 58 = .ok (.getfield 172, 3) := by decide +kernel
theorem dX5_voice_61 : decode mX5_voice.2.1 61 = .ok (.if_icmp .ge 47, 3) := by decide +kernel
theorem dX5_voice_64 : decode mX5_voice.2.1 64 = .ok (.aload_n 0, 1) := by decide +kernel
theorem dX5_voice_65 : decode mX5_voice.2.1 65 = .ok (.iconst 1, 1) := by decide +kernel
theorem dX5_voice_66 : decode mX5_voice.2.1 66 = .ok (.iload 5, 2) := by decide +kernel
theorem dX5_voice_68 : decode mX5_voice.2.1 68 = .ok (.ishl, 1) := by decide +kernel
theorem dX5_voice_69 : decode mX5_voice.2.1 69 = .ok (.iconst 0, 1) := by decide +kernel
theorem dX5_voice_70 : decode mX5_voice.2.1 70 = .ok (.invokevirtual 181, 3) := by decide +kernel
theorem dX5_voice_73 : decode mX5_voice.2.1 73 = .ok (.aload_n 0, 1) := by decide +kernel
theorem dX5_voice_74 : decode mX5_voice.2.1 74 = .ok (.getfield 19, 3) := by decide +kernel
theorem dX5_voice_77 : decode mX5_voice.2.1 77 = .ok (.iload_n 1, 1) := by decide +kernel
theorem dX5_voice_78 : decode mX5_voice.2.1 78 = .ok (.invokevirtual 184, 3) := by decide +kernel
theorem dX5_voice_81 : decode mX5_voice.2.1 81 = .ok (.iload_n 2, 1) := by decide +kernel
theorem dX5_voice_82 : decode mX5_voice.2.1 82 = .ok (.isub, 1) := by decide +kernel
theorem dX5_voice_83 : decode mX5_voice.2.1 83 = .ok (.invokestatic 190, 3) := by decide +kernel
theorem dX5_voice_86 : decode mX5_voice.2.1 86 = .ok (.istore 6, 2) := by decide +kernel
theorem dX5_voice_88 : decode mX5_voice.2.1 88 = .ok (.iload 6, 2) := by decide +kernel
theorem dX5_voice_90 : decode mX5_voice.2.1 90 = .ok (.iload 4, 2) := by decide +kernel
theorem dX5_voice_92 : decode mX5_voice.2.1 92 = .ok (.if_icmp .le 10, 3) := by decide +kernel
theorem dX5_voice_95 : decode mX5_voice.2.1 95 = .ok (.iload 6, 2) := by decide +kernel
theorem dX5_voice_97 : decode mX5_voice.2.1 97 = .ok (.istore 4, 2) := by decide +kernel
theorem dX5_voice_99 : decode mX5_voice.2.1 99 = .ok (.iload 5, 2) := by decide +kernel
theorem dX5_voice_101 : decode mX5_voice.2.1 101 = .ok (.istore_n 3, 1) := by decide +kernel
theorem dX5_voice_102 : decode mX5_voice.2.1 102 = .ok (.iinc 5 1, 3) := by decide +kernel
theorem dX5_voice_105 : decode mX5_voice.2.1 105 = .ok (.goto (-53), 3) := by decide +kernel
theorem dX5_voice_108 : decode mX5_voice.2.1 108 = .ok (.iload_n 3, 1) := by decide +kernel
theorem dX5_voice_109 : decode mX5_voice.2.1 109 = .ok (.ireturn, 1) := by decide +kernel
theorem dX5_miceFor_0 : decode mX5_miceFor.2.1 0 = .ok (.iload_n 1, 1) := by decide +kernel
theorem dX5_miceFor_1 : decode mX5_miceFor.2.1 1 = .ok (.invokestatic 125, 3) := by decide +kernel
theorem dX5_miceFor_4 : decode mX5_miceFor.2.1 4 = .ok (.ifCond .eq 12, 3) := by decide +kernel
theorem dX5_miceFor_7 : decode mX5_miceFor.2.1 7 = .ok (.iload_n 2, 1) := by decide +kernel
theorem dX5_miceFor_8 : decode mX5_miceFor.2.1 8 = .ok (.iconst 0, 1) := by decide +kernel
theorem dX5_miceFor_9 : decode mX5_miceFor.2.1 9 = .ok (.iconst 1, 1) := by decide +kernel
theorem dX5_miceFor_10 : decode mX5_miceFor.2.1 10 = .ok (.invokestatic 53, 3) := by decide +kernel
theorem dX5_miceFor_13 : decode mX5_miceFor.2.1 13 = .ok (.ifCond .ne 9, 3) := by decide +kernel
theorem dX5_miceFor_16 : decode mX5_miceFor.2.1 16 = .ok (.aload_n 0, 1) := by decide +kernel
theorem dX5_miceFor_17 : decode mX5_miceFor.2.1 17 = .ok (.iconst 0, 1) := by decide +kernel
theorem dX5_miceFor_18 : decode mX5_miceFor.2.1 18 = .ok (.invokevirtual 57, 3) := by decide +kernel
theorem dX5_miceFor_21 : decode mX5_miceFor.2.1 21 = .ok (.ireturn, 1) := by decide +kernel
theorem dX5_miceFor_22 : decode mX5_miceFor.2.1 22 = .ok (.aload_n 0, 1) := by decide +kernel
theorem dX5_miceFor_23 : decode mX5_miceFor.2.1 23 = .ok (.getfield 19, 3) := by decide +kernel
theorem dX5_miceFor_26 : decode mX5_miceFor.2.1 26 = .ok (.aload_n 0, 1) := by decide +kernel
theorem dX5_miceFor_27 : decode mX5_miceFor.2.1 27 = .ok (.getfield 10, 3) := by decide +kernel
theorem dX5_miceFor_30 : decode mX5_miceFor.2.1 30 = .ok (.invokevirtual 151, 3) := by decide +kernel
theorem dX5_miceFor_33 : decode mX5_miceFor.2.1 33 = .ok (.iconst 0, 1) := by decide +kernel
theorem dX5_miceFor_34 : decode mX5_miceFor.2.1 34 = .ok (.istore_n 3, 1) := by decide +kernel
theorem dX5_miceFor_35 : decode mX5_miceFor.2.1 35 = .ok (.iload_n 3, 1) := by decide +kernel
theorem dX5_miceFor_36 : decode mX5_miceFor.2.1 36 = .ok (.bipush 99, 2) := by decide +kernel
theorem dX5_miceFor_38 : decode mX5_miceFor.2.1 38 = .ok (.if_icmp .gt 33, 3) := by decide +kernel
theorem dX5_miceFor_41 : decode mX5_miceFor.2.1 41 = .ok (.aload_n 0, 1) := by decide +kernel
theorem dX5_miceFor_42 : decode mX5_miceFor.2.1 42 = .ok (.getfield 19, 3) := by decide +kernel
theorem dX5_miceFor_45 : decode mX5_miceFor.2.1 45 = .ok (.getfield 61, 3) := by decide +kernel
theorem dX5_miceFor_48 : decode mX5_miceFor.2.1 48 = .ok (.iconst 1, 1) := by decide +kernel
theorem dX5_miceFor_49 : decode mX5_miceFor.2.1 49 = .ok (.iload_n 3, 1) := by decide +kernel
theorem dX5_miceFor_50 : decode mX5_miceFor.2.1 50 = .ok (.iastore, 1) := by decide +kernel
theorem dX5_miceFor_51 : decode mX5_miceFor.2.1 51 = .ok (.aload_n 0, 1) := by decide +kernel
theorem dX5_miceFor_52 : decode mX5_miceFor.2.1 52 = .ok (.getfield 19, 3) := by decide +kernel
theorem dX5_miceFor_55 : decode mX5_miceFor.2.1 55 = .ok (.iload_n 1, 1) := by decide +kernel
theorem dX5_miceFor_56 : decode mX5_miceFor.2.1 56 = .ok (.invokevirtual 128, 3) := by decide +kernel
theorem dX5_miceFor_59 : decode mX5_miceFor.2.1 59 = .ok (.iload_n 2, 1) := by decide +kernel
theorem dX5_miceFor_60 : decode mX5_miceFor.2.1 60 = .ok (.if_icmp .ne 5, 3) := by decide +kernel
theorem dX5_miceFor_63 : decode mX5_miceFor.2.1 63 = .ok (.iload_n 3, 1) := by decide +kernel
theorem dX5_miceFor_64 : decode mX5_miceFor.2.1 64 = .ok (.ireturn, 1) := by decide +kernel
theorem dX5_miceFor_65 : decode mX5_miceFor.2.1 65 = .ok (.iinc 3 1, 3) := by decide +kernel
theorem dX5_miceFor_68 : decode mX5_miceFor.2.1 68 = .ok (.goto (-33), 3) := by decide +kernel
theorem dX5_miceFor_71 : decode mX5_miceFor.2.1 71 = .ok (.aload_n 0, 1) := by decide +kernel
theorem dX5_miceFor_72 : decode mX5_miceFor.2.1 72 = .ok (.iconst 3, 1) := by decide +kernel
theorem dX5_miceFor_73 : decode mX5_miceFor.2.1 73 = .ok (.invokevirtual 57, 3) := by decide +kernel
theorem dX5_miceFor_76 : decode mX5_miceFor.2.1 76 = .ok (.ireturn, 1) := by decide +kernel
theorem dX5_wins_0 : decode mX5_wins.2.1 0 = .ok (.iload_n 1, 1) := by decide +kernel
theorem dX5_wins_1 : decode mX5_wins.2.1 1 = .ok (.iload_n 2, 1) := by decide +kernel
theorem dX5_wins_2 : decode mX5_wins.2.1 2 = .ok (.invokestatic 195, 3) := by decide +kernel
theorem dX5_wins_5 : decode mX5_wins.2.1 5 = .ok (.ifCond .ne 9, 3) := by decide +kernel
theorem dX5_wins_8 : decode mX5_wins.2.1 8 = .ok (.aload_n 0, 1) := by decide +kernel
theorem dX5_wins_9 : decode mX5_wins.2.1 9 = .ok (.iconst 0, 1) := by decide +kernel
theorem dX5_wins_10 : decode mX5_wins.2.1 10 = .ok (.invokevirtual 57, 3) := by decide +kernel
theorem dX5_wins_13 : decode mX5_wins.2.1 13 = .ok (.ireturn, 1) := by decide +kernel
theorem dX5_wins_14 : decode mX5_wins.2.1 14 = .ok (.iload_n 1, 1) := by decide +kernel
theorem dX5_wins_15 : decode mX5_wins.2.1 15 = .ok (.iload_n 2, 1) := by decide +kernel
theorem dX5_wins_16 : decode mX5_wins.2.1 16 = .ok (.invokestatic 198, 3) := by decide +kernel
theorem dX5_wins_19 : decode mX5_wins.2.1 19 = .ok (.ifCond .le 7, 3) := by decide +kernel
theorem dX5_wins_22 : decode mX5_wins.2.1 22 = .ok (.iconst 1, 1) := by decide +kernel
theorem dX5_wins_23 : decode mX5_wins.2.1 23 = .ok (.goto 4, 3) := by decide +kernel
theorem dX5_wins_26 : decode mX5_wins.2.1 26 = .ok (.iconst 0, 1) := by decide +kernel
theorem dX5_wins_27 : decode mX5_wins.2.1 27 = .ok (.ireturn, 1) := by decide +kernel
theorem dX5_cut_0 : decode mX5_cut.2.1 0 = .ok (.iload_n 1, 1) := by decide +kernel
theorem dX5_cut_1 : decode mX5_cut.2.1 1 = .ok (.iload_n 2, 1) := by decide +kernel
theorem dX5_cut_2 : decode mX5_cut.2.1 2 = .ok (.invokestatic 195, 3) := by decide +kernel
theorem dX5_cut_5 : decode mX5_cut.2.1 5 = .ok (.ifCond .ne 9, 3) := by decide +kernel
theorem dX5_cut_8 : decode mX5_cut.2.1 8 = .ok (.aload_n 0, 1) := by decide +kernel
theorem dX5_cut_9 : decode mX5_cut.2.1 9 = .ok (.iconst 0, 1) := by decide +kernel
theorem dX5_cut_10 : decode mX5_cut.2.1 10 = .ok (.invokevirtual 57, 3) := by decide +kernel
theorem dX5_cut_13 : decode mX5_cut.2.1 13 = .ok (.ireturn, 1) := by decide +kernel
theorem dX5_cut_14 : decode mX5_cut.2.1 14 = .ok (.iload_n 1, 1) := by decide +kernel
theorem dX5_cut_15 : decode mX5_cut.2.1 15 = .ok (.iload_n 2, 1) := by decide +kernel
theorem dX5_cut_16 : decode mX5_cut.2.1 16 = .ok (.invokestatic 198, 3) := by decide +kernel
theorem dX5_cut_19 : decode mX5_cut.2.1 19 = .ok (.istore_n 3, 1) := by decide +kernel
theorem dX5_cut_20 : decode mX5_cut.2.1 20 = .ok (.iload_n 3, 1) := by decide +kernel
theorem dX5_cut_21 : decode mX5_cut.2.1 21 = .ok (.ifCond .le 7, 3) := by decide +kernel
theorem dX5_cut_24 : decode mX5_cut.2.1 24 = .ok (.iload_n 3, 1) := by decide +kernel
theorem dX5_cut_25 : decode mX5_cut.2.1 25 = .ok (.goto 8, 3) := by decide +kernel
theorem dX5_cut_28 : decode mX5_cut.2.1 28 = .ok (.aload_n 0, 1) := by decide +kernel
theorem dX5_cut_29 : decode mX5_cut.2.1 29 = .ok (.iconst 3, 1) := by decide +kernel
theorem dX5_cut_30 : decode mX5_cut.2.1 30 = .ok (.invokevirtual 57, 3) := by decide +kernel
theorem dX5_cut_33 : decode mX5_cut.2.1 33 = .ok (.ireturn, 1) := by decide +kernel
theorem dX5_isCutting_0 : decode mX5_isCutting.2.1 0 = .ok (.iload_n 0, 1) := by decide +kernel
theorem dX5_isCutting_1 : decode mX5_isCutting.2.1 1 = .ok (.iconst 1, 1) := by decide +kernel
theorem dX5_isCutting_2 : decode mX5_isCutting.2.1 2 = .ok (.sipush 200, 3) := by decide +kernel
theorem dX5_isCutting_5 : decode mX5_isCutting.2.1 5 = .ok (.invokestatic 53, 3) := by decide +kernel
theorem dX5_isCutting_8 : decode mX5_isCutting.2.1 8 = .ok (.ifCond .eq 17, 3) := by decide +kernel
theorem dX5_isCutting_11 : decode mX5_isCutting.2.1 11 = .ok (.iload_n 1, 1) := by decide +kernel
theorem dX5_isCutting_12 : decode mX5_isCutting.2.1 12 = .ok (.iconst 1, 1) := by decide +kernel
theorem dX5_isCutting_13 : decode mX5_isCutting.2.1 13 = .ok (.bipush 20, 2) := by decide +kernel
theorem dX5_isCutting_15 : decode mX5_isCutting.2.1 15 = .ok (.invokestatic 53, 3) := by decide +kernel
theorem dX5_isCutting_18 : decode mX5_isCutting.2.1 18 = .ok (.ifCond .eq 7, 3) := by decide +kernel
theorem dX5_isCutting_21 : decode mX5_isCutting.2.1 21 = .ok (.iconst 1, 1) := by decide +kernel
theorem dX5_isCutting_22 : decode mX5_isCutting.2.1 22 = .ok (.goto 4, 3) := by decide +kernel
theorem dX5_isCutting_25 : decode mX5_isCutting.2.1 25 = .ok (.iconst 0, 1) := by decide +kernel
theorem dX5_isCutting_26 : decode mX5_isCutting.2.1 26 = .ok (.ireturn, 1) := by decide +kernel
theorem dX5_winningCut_0 : decode mX5_winningCut.2.1 0 = .ok (.iload_n 0, 1) := by decide +kernel
theorem dX5_winningCut_1 : decode mX5_winningCut.2.1 1 = .ok (.iconst 1, 1) := by decide +kernel
theorem dX5_winningCut_2 : decode mX5_winningCut.2.1 2 = .ok (.isub, 1) := by decide +kernel
theorem dX5_winningCut_3 : decode mX5_winningCut.2.1 3 = .ok (.iconst 1, 1) := by decide +kernel
theorem dX5_winningCut_4 : decode mX5_winningCut.2.1 4 = .ok (.iload_n 1, 1) := by decide +kernel
theorem dX5_winningCut_5 : decode mX5_winningCut.2.1 5 = .ok (.invokestatic 201, 3) := by decide +kernel
theorem dX5_winningCut_8 : decode mX5_winningCut.2.1 8 = .ok (.iconst 1, 1) := by decide +kernel
theorem dX5_winningCut_9 : decode mX5_winningCut.2.1 9 = .ok (.iadd, 1) := by decide +kernel
theorem dX5_winningCut_10 : decode mX5_winningCut.2.1 10 = .ok (.irem, 1) := by decide +kernel
theorem dX5_winningCut_11 : decode mX5_winningCut.2.1 11 = .ok (.ireturn, 1) := by decide +kernel
theorem dX5_fits_0 : decode mX5_fits.2.1 0 = .ok (.aload_n 0, 1) := by decide +kernel
theorem dX5_fits_1 : decode mX5_fits.2.1 1 = .ok (.iload_n 1, 1) := by decide +kernel
theorem dX5_fits_2 : decode mX5_fits.2.1 2 = .ok (.iload_n 2, 1) := by decide +kernel
theorem dX5_fits_3 : decode mX5_fits.2.1 3 = .ok (.invokevirtual 204, 3) := by decide +kernel
theorem dX5_fits_6 : decode mX5_fits.2.1 6 = .ok (.istore_n 3, 1) := by decide +kernel
theorem dX5_fits_7 : decode mX5_fits.2.1 7 = .ok (.iload_n 3, 1) := by decide +kernel
theorem dX5_fits_8 : decode mX5_fits.2.1 8 = .ok (.iconst (-1), 1) := by decide +kernel
theorem dX5_fits_9 : decode mX5_fits.2.1 9 = .ok (.if_icmp .eq 9, 3) := by decide +kernel
theorem dX5_fits_12 : decode mX5_fits.2.1 12 = .ok (.aload_n 0, 1) := by decide +kernel
theorem dX5_fits_13 : decode mX5_fits.2.1 13 = .ok (.iload_n 3, 1) := by decide +kernel
theorem dX5_fits_14 : decode mX5_fits.2.1 14 = .ok (.invokevirtual 57, 3) := by decide +kernel
theorem dX5_fits_17 : decode mX5_fits.2.1 17 = .ok (.ireturn, 1) := by decide +kernel
theorem dX5_fits_18 : decode mX5_fits.2.1 18 = .ok (.iconst 0, 1) := by decide +kernel
theorem dX5_fits_19 : decode mX5_fits.2.1 19 = .ok (.istore 4, 2) := by decide +kernel
theorem dX5_fits_21 : decode mX5_fits.2.1 21 = .ok (.getstatic 166, 3) := by decide +kernel
theorem dX5_fits_24 : decode mX5_fits.2.1 24 = .ok (.iconst 3, 1) := by decide +kernel
theorem dX5_fits_25 : decode mX5_fits.2.1 25 = .ok (.iaload, 1) := by decide +kernel
theorem dX5_fits_26 : decode mX5_fits.2.1 26 = .ok (.istore 5, 2) := by decide +kernel
theorem dX5_fits_28 : decode mX5_fits.2.1 28 = .ok (.iload 5, 2) := by decide +kernel
theorem dX5_fits_30 : decode mX5_fits.2.1 30 = .ok (.getstatic 163, 3) := by decide +kernel
theorem dX5_fits_33 : decode mX5_fits.2.1 33 = .ok (.iconst 3, 1) := by decide +kernel
theorem dX5_fits_34 : decode mX5_fits.2.1 34 = .ok (.iaload, 1) := by decide +kernel
theorem dX5_fits_35 : decode mX5_fits.2.1 35 = .ok (.if_icmp .gt 28, 3) := by decide +kernel
theorem dX5_fits_38 : decode mX5_fits.2.1 38 = .ok (.aload_n 0, 1) := by decide +kernel
theorem dX5_fits_39 : decode mX5_fits.2.1 39 = .ok (.aload_n 0, 1) := by decide +kernel
theorem dX5_fits_40 : decode mX5_fits.2.1 40 = .ok (.getfield 40, 3) := by decide +kernel
theorem dX5_fits_43 : decode mX5_fits.2.1 43 = .ok (.iload_n 1, 1) := by decide +kernel
theorem dX5_fits_44 : decode mX5_fits.2.1 44 = .ok (.aaload, 1) := by decide +kernel
theorem dX5_fits_45 : decode mX5_fits.2.1 45 = .ok (.iload_n 2, 1) := by decide +kernel
theorem dX5_fits_46 : decode mX5_fits.2.1 46 = .ok (.iload 5, 2) := by decide +kernel
theorem dX5_fits_48 : decode mX5_fits.2.1 48 = .ok (.invokevirtual 207, 3) := by decide +kernel
theorem dX5_fits_51 : decode mX5_fits.2.1 51 = .ok (.ifCond .eq 6, 3) := by decide +kernel
theorem dX5_fits_54 : decode mX5_fits.2.1 54 = .ok (.iinc 4 1, 3) := by decide +kernel
theorem dX5_fits_57 : decode mX5_fits.2.1 57 = .ok (.iinc 5 1, 3) := by decide +kernel
theorem dX5_fits_60 : decode mX5_fits.2.1 60 = .ok (.goto (-32), 3) := by decide +kernel
theorem dX5_fits_63 : decode mX5_fits.2.1 63 = .ok (.iload 4, 2) := by decide +kernel
theorem dX5_fits_65 : decode mX5_fits.2.1 65 = .ok (.ireturn, 1) := by decide +kernel
theorem dX5_thinks_0 : decode mX5_thinks.2.1 0 = .ok (.aload_n 0, 1) := by decide +kernel
theorem dX5_thinks_1 : decode mX5_thinks.2.1 1 = .ok (.iload_n 1, 1) := by decide +kernel
theorem dX5_thinks_2 : decode mX5_thinks.2.1 2 = .ok (.iload_n 2, 1) := by decide +kernel
theorem dX5_thinks_3 : decode mX5_thinks.2.1 3 = .ok (.invokevirtual 204, 3) := by decide +kernel
theorem dX5_thinks_6 : decode mX5_thinks.2.1 6 = .ok (.istore_n 3, 1) := by decide +kernel
theorem dX5_thinks_7 : decode mX5_thinks.2.1 7 = .ok (.iload_n 3, 1) := by decide +kernel
theorem dX5_thinks_8 : decode mX5_thinks.2.1 8 = .ok (.iconst (-1), 1) := by decide +kernel
theorem dX5_thinks_9 : decode mX5_thinks.2.1 9 = .ok (.if_icmp .eq 9, 3) := by decide +kernel
theorem dX5_thinks_12 : decode mX5_thinks.2.1 12 = .ok (.aload_n 0, 1) := by decide +kernel
theorem dX5_thinks_13 : decode mX5_thinks.2.1 13 = .ok (.iload_n 3, 1) := by decide +kernel
theorem dX5_thinks_14 : decode mX5_thinks.2.1 14 = .ok (.invokevirtual 57, 3) := by decide +kernel
theorem dX5_thinks_17 : decode mX5_thinks.2.1 17 = .ok (.ireturn, 1) := by decide +kernel
theorem dX5_thinks_18 : decode mX5_thinks.2.1 18 = .ok (.getstatic 166, 3) := by decide +kernel
theorem dX5_thinks_21 : decode mX5_thinks.2.1 21 = .ok (.iconst 3, 1) := by decide +kernel
theorem dX5_thinks_22 : decode mX5_thinks.2.1 22 = .ok (.iaload, 1) := by decide +kernel
theorem dX5_thinks_23 : decode mX5_thinks.2.1 23 = .ok (.istore 4, 2) := by decide +kernel
theorem dX5_thinks_25 : decode mX5_thinks.2.1 25 = .ok (.iload 4, 2) := by decide +kernel
theorem dX5_thinks_27 : decode mX5_thinks.2.1 27 = .ok (.getstatic 163, 3) := by decide +kernel
theorem dX5_thinks_30 : decode mX5_thinks.2.1 30 = .ok (.iconst 3, 1) := by decide +kernel
theorem dX5_thinks_31 : decode mX5_thinks.2.1 31 = .ok (.iaload, 1) := by decide +kernel
theorem dX5_thinks_32 : decode mX5_thinks.2.1 32 = .ok (.if_icmp .gt 28, 3) := by decide +kernel
theorem dX5_thinks_35 : decode mX5_thinks.2.1 35 = .ok (.aload_n 0, 1) := by decide +kernel
theorem dX5_thinks_36 : decode mX5_thinks.2.1 36 = .ok (.aload_n 0, 1) := by decide +kernel
theorem dX5_thinks_37 : decode mX5_thinks.2.1 37 = .ok (.getfield 40, 3) := by decide +kernel
theorem dX5_thinks_40 : decode mX5_thinks.2.1 40 = .ok (.iload_n 1, 1) := by decide +kernel
theorem dX5_thinks_41 : decode mX5_thinks.2.1 41 = .ok (.aaload, 1) := by decide +kernel
theorem dX5_thinks_42 : decode mX5_thinks.2.1 42 = .ok (.iload_n 2, 1) := by decide +kernel
theorem dX5_thinks_43 : decode mX5_thinks.2.1 43 = .ok (.iload 4, 2) := by decide +kernel
theorem dX5_thinks_45 : decode mX5_thinks.2.1 45 = .ok (.invokevirtual 207, 3) := by decide +kernel
theorem dX5_thinks_48 : decode mX5_thinks.2.1 48 = .ok (.ifCond .eq 6, 3) := by decide +kernel
theorem dX5_thinks_51 : decode mX5_thinks.2.1 51 = .ok (.iload 4, 2) := by decide +kernel
theorem dX5_thinks_53 : decode mX5_thinks.2.1 53 = .ok (.ireturn, 1) := by decide +kernel
theorem dX5_thinks_54 : decode mX5_thinks.2.1 54 = .ok (.iinc 4 1, 3) := by decide +kernel
theorem dX5_thinks_57 : decode mX5_thinks.2.1 57 = .ok (.goto (-32), 3) := by decide +kernel
theorem dX5_thinks_60 : decode mX5_thinks.2.1 60 = .ok (.aload_n 0, 1) := by decide +kernel
theorem dX5_thinks_61 : decode mX5_thinks.2.1 61 = .ok (.iconst 3, 1) := by decide +kernel
theorem dX5_thinks_62 : decode mX5_thinks.2.1 62 = .ok (.invokevirtual 57, 3) := by decide +kernel
theorem dX5_thinks_65 : decode mX5_thinks.2.1 65 = .ok (.ireturn, 1) := by decide +kernel
theorem dX5_refusalOfFit_0 : decode mX5_refusalOfFit.2.1 0 = .ok (.aload_n 0, 1) := by decide +kernel
theorem dX5_refusalOfFit_1 : decode mX5_refusalOfFit.2.1 1 = .ok (.iload_n 1, 1) := by decide +kernel
theorem dX5_refusalOfFit_2 : decode mX5_refusalOfFit.2.1 2 = .ok (.invokevirtual 211, 3) := by decide +kernel
theorem dX5_refusalOfFit_5 : decode mX5_refusalOfFit.2.1 5 = .ok (.istore_n 3, 1) := by decide +kernel
theorem dX5_refusalOfFit_6 : decode mX5_refusalOfFit.2.1 6 = .ok (.iload_n 3, 1) := by decide +kernel
theorem dX5_refusalOfFit_7 : decode mX5_refusalOfFit.2.1 7 = .ok (.iconst (-1), 1) := by decide +kernel
theorem dX5_refusalOfFit_8 : decode mX5_refusalOfFit.2.1 8 = .ok (.if_icmp .eq 5, 3) := by decide +kernel
theorem dX5_refusalOfFit_11 : decode mX5_refusalOfFit.2.1 11 = .ok (.iload_n 3, 1) := by decide +kernel
theorem dX5_refusalOfFit_12 : decode mX5_refusalOfFit.2.1 12 = .ok (.ireturn, 1) := by decide +kernel
theorem dX5_refusalOfFit_13 : decode mX5_refusalOfFit.2.1 13 = .ok (.aload_n 0, 1) := by decide +kernel
theorem dX5_refusalOfFit_14 : decode mX5_refusalOfFit.2.1 14 = .ok (.getfield 10, 3) := by decide +kernel
theorem dX5_refusalOfFit_17 : decode mX5_refusalOfFit.2.1 17 = .ok (.iload_n 2, 1) := by decide +kernel
theorem dX5_refusalOfFit_18 : decode mX5_refusalOfFit.2.1 18 = .ok (.invokevirtual 78, 3) := by decide +kernel
theorem dX5_refusalOfFit_21 : decode mX5_refusalOfFit.2.1 21 = .ok (.ifCond .eq 7, 3) := by decide +kernel
theorem dX5_refusalOfFit_24 : decode mX5_refusalOfFit.2.1 24 = .ok (.iconst (-1), 1) := by decide +kernel
theorem dX5_refusalOfFit_25 : decode mX5_refusalOfFit.2.1 25 = .ok (.goto 4, 3) := by decide +kernel
theorem dX5_refusalOfFit_28 : decode mX5_refusalOfFit.2.1 28 = .ok (.iconst 0, 1) := by decide +kernel
theorem dX5_refusalOfFit_29 : decode mX5_refusalOfFit.2.1 29 = .ok (.ireturn, 1) := by decide +kernel
theorem dX5_opinionFits_0 : decode mX5_opinionFits.2.1 0 = .ok (.aload_n 0, 1) := by decide +kernel
theorem dX5_opinionFits_1 : decode mX5_opinionFits.2.1 1 = .ok (.getfield 19, 3) := by decide +kernel
theorem dX5_opinionFits_4 : decode mX5_opinionFits.2.1 4 = .ok (.aload_n 0, 1) := by decide +kernel
theorem dX5_opinionFits_5 : decode mX5_opinionFits.2.1 5 = .ok (.getfield 10, 3) := by decide +kernel
theorem dX5_opinionFits_8 : decode mX5_opinionFits.2.1 8 = .ok (.invokevirtual 151, 3) := by decide +kernel
theorem dX5_opinionFits_11 : decode mX5_opinionFits.2.1 11 = .ok (.aload_n 0, 1) := by decide +kernel
theorem dX5_opinionFits_12 : decode mX5_opinionFits.2.1 12 = .ok (.getfield 19, 3) := by decide +kernel
theorem dX5_opinionFits_15 : decode mX5_opinionFits.2.1 15 = .ok (.getfield 82, 3) := by decide +kernel
theorem dX5_opinionFits_18 : decode mX5_opinionFits.2.1 18 = .ok (.iload_n 2, 1) := by decide +kernel
theorem dX5_opinionFits_19 : decode mX5_opinionFits.2.1 19 = .ok (.aaload, 1) := by decide +kernel
theorem dX5_opinionFits_20 : decode mX5_opinionFits.2.1 20 = .ok (.iload_n 3, 1) := by decide +kernel
theorem dX5_opinionFits_21 : decode mX5_opinionFits.2.1 21 = .ok (.putfield 187, 3) := by decide +kernel
theorem dX5_opinionFits_24 : decode mX5_opinionFits.2.1 24 = .ok (.iconst 0, 1) := by decide +kernel
theorem dX5_opinionFits_25 : decode mX5_opinionFits.2.1 25 = .ok (.istore 4, 2) := by decide +kernel
theorem dX5_opinionFits_27 : decode mX5_opinionFits.2.1 27 = .ok (.iload 4, 2) := by decide +kernel
theorem dX5_opinionFits_29 : decode mX5_opinionFits.2.1 29 = .ok (.aload_n 1, 1) := by decide +kernel
theorem dX5_opinionFits_30 : decode mX5_opinionFits.2.1 30 = .ok (.getfield 214, 3) := by decide +kernel
theorem dX5_opinionFits_33 : decode mX5_opinionFits.2.1 33 = .ok (.if_icmp .ge 52, 3) := by decide +kernel
theorem dX5_opinionFits_36 : decode mX5_opinionFits.2.1 36 = .ok (.iload 4, 2) := by decide +kernel
theorem dX5_opinionFits_38 : decode mX5_opinionFits.2.1 38 = .ok (.ifCond .le 10, 3) := by decide +kernel
theorem dX5_opinionFits_41 : decode mX5_opinionFits.2.1 41 = .ok (.aload_n 0, 1) := by decide +kernel
theorem dX5_opinionFits_42 : decode mX5_opinionFits.2.1 42 = .ok (.getfield 19, 3) := by decide +kernel
theorem dX5_opinionFits_45 : decode mX5_opinionFits.2.1 45 = .ok (.invokevirtual 135, 3) := by decide +kernel
theorem dX5_opinionFits_48 : decode mX5_opinionFits.2.1 48 = .ok (.aload_n 1, 1) := by decide +kernel
theorem dX5_opinionFits_49 : decode mX5_opinionFits.2.1 49 = .ok (.getfield 217, 3) := by decide +kernel
theorem dX5_opinionFits_52 : decode mX5_opinionFits.2.1 52 = .ok (.iload 4, 2) := by decide +kernel
theorem dX5_opinionFits_54 : decode mX5_opinionFits.2.1 54 = .ok (.iaload, 1) := by decide +kernel
theorem dX5_opinionFits_55 : decode mX5_opinionFits.2.1 55 = .ok (.istore 5, 2) := by decide +kernel
theorem dX5_opinionFits_57 : decode mX5_opinionFits.2.1 57 = .ok (.iload 5, 2) := by decide +kernel
theorem dX5_opinionFits_59 : decode mX5_opinionFits.2.1 59 = .ok (.sipush 9999, 3) := by decide +kernel
theorem dX5_opinionFits_62 : decode mX5_opinionFits.2.1 62 = .ok (.if_icmp .eq 17, 3) := by decide +kernel
theorem dX5_opinionFits_65 : decode mX5_opinionFits.2.1 65 = .ok (.iload 5, 2) := by decide +kernel
theorem dX5_opinionFits_67 : decode mX5_opinionFits.2.1 67 = .ok (.aload_n 0, 1) := by decide +kernel
theorem dX5_opinionFits_68 : decode mX5_opinionFits.2.1 68 = .ok (.getfield 19, 3) := by decide +kernel
theorem dX5_opinionFits_71 : decode mX5_opinionFits.2.1 71 = .ok (.invokevirtual 122, 3) := by decide +kernel
theorem dX5_opinionFits_74 : decode mX5_opinionFits.2.1 74 = .ok (.if_icmp .eq 5, 3) := by decide +kernel
theorem dX5_opinionFits_77 : decode mX5_opinionFits.2.1 77 = .ok (.iconst 0, 1) := by decide +kernel
theorem dX5_opinionFits_78 : decode mX5_opinionFits.2.1 78 = .ok (.ireturn, 1) := by decide +kernel
theorem dX5_opinionFits_79 : decode mX5_opinionFits.2.1 79 = .ok (.iinc 4 1, 3) := by decide +kernel
theorem dX5_opinionFits_82 : decode mX5_opinionFits.2.1 82 = .ok (.goto (-55), 3) := by decide +kernel
theorem dX5_opinionFits_85 : decode mX5_opinionFits.2.1 85 = .ok (.iconst 1, 1) := by decide +kernel
theorem dX5_opinionFits_86 : decode mX5_opinionFits.2.1 86 = .ok (.ireturn, 1) := by decide +kernel
theorem dX5_weathers_0 : decode mX5_weathers.2.1 0 = .ok (.iload_n 1, 1) := by decide +kernel
theorem dX5_weathers_1 : decode mX5_weathers.2.1 1 = .ok (.iconst 1, 1) := by decide +kernel
theorem dX5_weathers_2 : decode mX5_weathers.2.1 2 = .ok (.bipush 20, 2) := by decide +kernel
theorem dX5_weathers_4 : decode mX5_weathers.2.1 4 = .ok (.invokestatic 53, 3) := by decide +kernel
theorem dX5_weathers_7 : decode mX5_weathers.2.1 7 = .ok (.ifCond .ne 9, 3) := by decide +kernel
theorem dX5_weathers_10 : decode mX5_weathers.2.1 10 = .ok (.aload_n 0, 1) := by decide +kernel
theorem dX5_weathers_11 : decode mX5_weathers.2.1 11 = .ok (.iconst 0, 1) := by decide +kernel
theorem dX5_weathers_12 : decode mX5_weathers.2.1 12 = .ok (.invokevirtual 57, 3) := by decide +kernel
theorem dX5_weathers_15 : decode mX5_weathers.2.1 15 = .ok (.ireturn, 1) := by decide +kernel
theorem dX5_weathers_16 : decode mX5_weathers.2.1 16 = .ok (.aload_n 0, 1) := by decide +kernel
theorem dX5_weathers_17 : decode mX5_weathers.2.1 17 = .ok (.getfield 10, 3) := by decide +kernel
theorem dX5_weathers_20 : decode mX5_weathers.2.1 20 = .ok (.getfield 131, 3) := by decide +kernel
theorem dX5_weathers_23 : decode mX5_weathers.2.1 23 = .ok (.iload_n 1, 1) := by decide +kernel
theorem dX5_weathers_24 : decode mX5_weathers.2.1 24 = .ok (.iadd, 1) := by decide +kernel
theorem dX5_weathers_25 : decode mX5_weathers.2.1 25 = .ok (.ldc 134, 2) := by decide +kernel
theorem dX5_weathers_27 : decode mX5_weathers.2.1 27 = .ok (.if_icmp .le 9, 3) := by decide +kernel
theorem dX5_weathers_30 : decode mX5_weathers.2.1 30 = .ok (.aload_n 0, 1) := by decide +kernel
theorem dX5_weathers_31 : decode mX5_weathers.2.1 31 = .ok (.iconst 4, 1) := by decide +kernel
theorem dX5_weathers_32 : decode mX5_weathers.2.1 32 = .ok (.invokevirtual 57, 3) := by decide +kernel
theorem dX5_weathers_35 : decode mX5_weathers.2.1 35 = .ok (.ireturn, 1) := by decide +kernel
theorem dX5_weathers_36 : decode mX5_weathers.2.1 36 = .ok (.iconst 0, 1) := by decide +kernel
theorem dX5_weathers_37 : decode mX5_weathers.2.1 37 = .ok (.istore_n 2, 1) := by decide +kernel
theorem dX5_weathers_38 : decode mX5_weathers.2.1 38 = .ok (.iload_n 2, 1) := by decide +kernel
theorem dX5_weathers_39 : decode mX5_weathers.2.1 39 = .ok (.iload_n 1, 1) := by decide +kernel
theorem dX5_weathers_40 : decode mX5_weathers.2.1 40 = .ok (.if_icmp .ge 54, 3) := by decide +kernel
theorem dX5_weathers_43 : decode mX5_weathers.2.1 43 = .ok (.aload_n 0, 1) := by decide +kernel
theorem dX5_weathers_44 : decode mX5_weathers.2.1 44 = .ok (.getfield 10, 3) := by decide +kernel
theorem dX5_weathers_47 : decode mX5_weathers.2.1 47 = .ok (.getfield 61, 3) := by decide +kernel
theorem dX5_weathers_50 : decode mX5_weathers.2.1 50 = .ok (.iconst 0, 1) := by decide +kernel
theorem dX5_weathers_51 : decode mX5_weathers.2.1 51 = .ok (.aload_n 0, 1) := by decide +kernel
theorem dX5_weathers_52 : decode mX5_weathers.2.1 52 = .ok (.getfield 10, 3) := by decide +kernel
theorem dX5_weathers_55 : decode mX5_weathers.2.1 55 = .ok (.invokevirtual 220, 3) := by decide +kernel
theorem dX5_weathers_58 : decode mX5_weathers.2.1 58 = .ok (.bipush 100, 2) := by decide +kernel
theorem dX5_weathers_60 : decode mX5_weathers.2.1 60 = .ok (.irem, 1) := by decide +kernel
theorem dX5_weathers_61 : decode mX5_weathers.2.1 61 = .ok (.iastore, 1) := by decide +kernel
theorem dX5_weathers_62 : decode mX5_weathers.2.1 62 = .ok (.aload_n 0, 1) := by decide +kernel
theorem dX5_weathers_63 : decode mX5_weathers.2.1 63 = .ok (.getfield 10, 3) := by decide +kernel
theorem dX5_weathers_66 : decode mX5_weathers.2.1 66 = .ok (.getfield 61, 3) := by decide +kernel
theorem dX5_weathers_69 : decode mX5_weathers.2.1 69 = .ok (.iconst 2, 1) := by decide +kernel
theorem dX5_weathers_70 : decode mX5_weathers.2.1 70 = .ok (.aload_n 0, 1) := by decide +kernel
theorem dX5_weathers_71 : decode mX5_weathers.2.1 71 = .ok (.getfield 10, 3) := by decide +kernel
theorem dX5_weathers_74 : decode mX5_weathers.2.1 74 = .ok (.invokevirtual 220, 3) := by decide +kernel
theorem dX5_weathers_77 : decode mX5_weathers.2.1 77 = .ok (.bipush 100, 2) := by decide +kernel
theorem dX5_weathers_79 : decode mX5_weathers.2.1 79 = .ok (.irem, 1) := by decide +kernel
theorem dX5_weathers_80 : decode mX5_weathers.2.1 80 = .ok (.iastore, 1) := by decide +kernel
theorem dX5_weathers_81 : decode mX5_weathers.2.1 81 = .ok (.aload_n 0, 1) := by decide +kernel
theorem dX5_weathers_82 : decode mX5_weathers.2.1 82 = .ok (.getfield 10, 3) := by decide +kernel
theorem dX5_weathers_85 : decode mX5_weathers.2.1 85 = .ok (.invokevirtual 135, 3) := by decide +kernel
theorem dX5_weathers_88 : decode mX5_weathers.2.1 88 = .ok (.iinc 2 1, 3) := by decide +kernel
theorem dX5_weathers_91 : decode mX5_weathers.2.1 91 = .ok (.goto (-53), 3) := by decide +kernel
theorem dX5_weathers_94 : decode mX5_weathers.2.1 94 = .ok (.aload_n 0, 1) := by decide +kernel
theorem dX5_weathers_95 : decode mX5_weathers.2.1 95 = .ok (.getfield 10, 3) := by decide +kernel
theorem dX5_weathers_98 : decode mX5_weathers.2.1 98 = .ok (.invokevirtual 122, 3) := by decide +kernel
theorem dX5_weathers_101 : decode mX5_weathers.2.1 101 = .ok (.ireturn, 1) := by decide +kernel
theorem dX5_odds_0 : decode mX5_odds.2.1 0 = .ok (.iload_n 1, 1) := by decide +kernel
theorem dX5_odds_1 : decode mX5_odds.2.1 1 = .ok (.iconst 0, 1) := by decide +kernel
theorem dX5_odds_2 : decode mX5_odds.2.1 2 = .ok (.bipush 12, 2) := by decide +kernel
theorem dX5_odds_4 : decode mX5_odds.2.1 4 = .ok (.invokestatic 53, 3) := by decide +kernel
theorem dX5_odds_7 : decode mX5_odds.2.1 7 = .ok (.ifCond .eq 12, 3) := by decide +kernel
theorem dX5_odds_10 : decode mX5_odds.2.1 10 = .ok (.iload_n 2, 1) := by decide +kernel
theorem dX5_odds_11 : decode mX5_odds.2.1 11 = .ok (.iconst 0, 1) := by decide +kernel
theorem dX5_odds_12 : decode mX5_odds.2.1 12 = .ok (.iconst 1, 1) := by decide +kernel
theorem dX5_odds_13 : decode mX5_odds.2.1 13 = .ok (.invokestatic 53, 3) := by decide +kernel
theorem dX5_odds_16 : decode mX5_odds.2.1 16 = .ok (.ifCond .ne 10, 3) := by decide +kernel
theorem dX5_odds_19 : decode mX5_odds.2.1 19 = .ok (.aload_n 0, 1) := by decide +kernel
theorem dX5_odds_20 : decode mX5_odds.2.1 20 = .ok (.iconst 0, 1) := by decide +kernel
theorem dX5_odds_21 : decode mX5_odds.2.1 21 = .ok (.invokevirtual 57, 3) := by decide +kernel
theorem dX5_odds_24 : decode mX5_odds.2.1 24 = .ok (.i2l, 1) := by decide +kernel
theorem dX5_odds_25 : decode mX5_odds.2.1 25 = .ok (.lreturn, 1) := by decide +kernel
theorem dX5_odds_26 : decode mX5_odds.2.1 26 = .ok (.iload_n 2, 1) := by decide +kernel
theorem dX5_odds_27 : decode mX5_odds.2.1 27 = .ok (.ifCond .ne 9, 3) := by decide +kernel
theorem dX5_odds_30 : decode mX5_odds.2.1 30 = .ok (.ldc2_w 223, 3) := by decide +kernel
theorem dX5_odds_33 : decode mX5_odds.2.1 33 = .ok (.goto 6, 3) := by decide +kernel
theorem dX5_odds_36 : decode mX5_odds.2.1 36 = .ok (.ldc2_w 225, 3) := by decide +kernel
theorem dX5_odds_39 : decode mX5_odds.2.1 39 = .ok (.lstore_n 3, 1) := by decide +kernel
theorem dX5_odds_40 : decode mX5_odds.2.1 40 = .ok (.lconst 1, 1) := by decide +kernel
theorem dX5_odds_41 : decode mX5_odds.2.1 41 = .ok (.lstore 5, 2) := by decide +kernel
theorem dX5_odds_43 : decode mX5_odds.2.1 43 = .ok (.iconst 0, 1) := by decide +kernel
theorem dX5_odds_44 : decode mX5_odds.2.1 44 = .ok (.istore 7, 2) := by decide +kernel
theorem dX5_odds_46 : decode mX5_odds.2.1 46 = .ok (.iload 7, 2) := by decide +kernel
theorem dX5_odds_48 : decode mX5_odds.2.1 48 = .ok (.iload_n 1, 1) := by decide +kernel
theorem dX5_odds_49 : decode mX5_odds.2.1 49 = .ok (.if_icmp .ge 15, 3) := by decide +kernel
theorem dX5_odds_52 : decode mX5_odds.2.1 52 = .ok (.lload 5, 2) := by decide +kernel
theorem dX5_odds_54 : decode mX5_odds.2.1 54 = .ok (.lload_n 3, 1) := by decide +kernel
theorem dX5_odds_55 : decode mX5_odds.2.1 55 = .ok (.lmul, 1) := by decide +kernel
theorem dX5_odds_56 : decode mX5_odds.2.1 56 = .ok (.lstore 5, 2) := by decide +kernel
theorem dX5_odds_58 : decode mX5_odds.2.1 58 = .ok (.iinc 7 1, 3) := by decide +kernel
theorem dX5_odds_61 : decode mX5_odds.2.1 61 = .ok (.goto (-15), 3) := by decide +kernel
theorem dX5_odds_64 : decode mX5_odds.2.1 64 = .ok (.lload 5, 2) := by decide +kernel
theorem dX5_odds_66 : decode mX5_odds.2.1 66 = .ok (.lreturn, 1) := by decide +kernel
theorem dX5_seed_0 : decode mX5_seed.2.1 0 = .ok (.aload_n 0, 1) := by decide +kernel
theorem dX5_seed_1 : decode mX5_seed.2.1 1 = .ok (.getfield 10, 3) := by decide +kernel
theorem dX5_seed_4 : decode mX5_seed.2.1 4 = .ok (.getfield 227, 3) := by decide +kernel
theorem dX5_seed_7 : decode mX5_seed.2.1 7 = .ok (.istore_n 2, 1) := by decide +kernel
theorem dX5_seed_8 : decode mX5_seed.2.1 8 = .ok (.aload_n 0, 1) := by decide +kernel
theorem dX5_seed_9 : decode mX5_seed.2.1 9 = .ok (.getfield 10, 3) := by decide +kernel
theorem dX5_seed_12 : decode mX5_seed.2.1 12 = .ok (.iload_n 1, 1) := by decide +kernel
theorem dX5_seed_13 : decode mX5_seed.2.1 13 = .ok (.putfield 227, 3) := by decide +kernel
theorem dX5_seed_16 : decode mX5_seed.2.1 16 = .ok (.iload_n 2, 1) := by decide +kernel
theorem dX5_seed_17 : decode mX5_seed.2.1 17 = .ok (.ireturn, 1) := by decide +kernel
theorem dX5_feed_0 : decode mX5_feed.2.1 0 = .ok (.iload_n 2, 1) := by decide +kernel
theorem dX5_feed_1 : decode mX5_feed.2.1 1 = .ok (.iconst 1, 1) := by decide +kernel
theorem dX5_feed_2 : decode mX5_feed.2.1 2 = .ok (.iconst 4, 1) := by decide +kernel
theorem dX5_feed_3 : decode mX5_feed.2.1 3 = .ok (.invokestatic 53, 3) := by decide +kernel
theorem dX5_feed_6 : decode mX5_feed.2.1 6 = .ok (.ifCond .ne 9, 3) := by decide +kernel
theorem dX5_feed_9 : decode mX5_feed.2.1 9 = .ok (.aload_n 0, 1) := by decide +kernel
theorem dX5_feed_10 : decode mX5_feed.2.1 10 = .ok (.iconst 0, 1) := by decide +kernel
theorem dX5_feed_11 : decode mX5_feed.2.1 11 = .ok (.invokevirtual 57, 3) := by decide +kernel
theorem dX5_feed_14 : decode mX5_feed.2.1 14 = .ok (.ireturn, 1) := by decide +kernel
theorem dX5_feed_15 : decode mX5_feed.2.1 15 = .ok (.aload_n 0, 1) := by decide +kernel
theorem dX5_feed_16 : decode mX5_feed.2.1 16 = .ok (.getfield 25, 3) := by decide +kernel
theorem dX5_feed_19 : decode mX5_feed.2.1 19 = .ok (.getfield 230, 3) := by decide +kernel
theorem dX5_feed_22 : decode mX5_feed.2.1 22 = .ok (.iload_n 2, 1) := by decide +kernel
theorem dX5_feed_23 : decode mX5_feed.2.1 23 = .ok (.iadd, 1) := by decide +kernel
theorem dX5_feed_24 : decode mX5_feed.2.1 24 = .ok (.bipush 120, 2) := by decide +kernel
theorem dX5_feed_26 : decode mX5_feed.2.1 26 = .ok (.if_icmp .le 9, 3) := by decide +kernel
theorem dX5_feed_29 : decode mX5_feed.2.1 29 = .ok (.aload_n 0, 1) := by decide +kernel
theorem dX5_feed_30 : decode mX5_feed.2.1 30 = .ok (.iconst 1, 1) := by decide +kernel
theorem dX5_feed_31 : decode mX5_feed.2.1 31 = .ok (.invokevirtual 57, 3) := by decide +kernel
theorem dX5_feed_34 : decode mX5_feed.2.1 34 = .ok (.ireturn, 1) := by decide +kernel
theorem dX5_feed_35 : decode mX5_feed.2.1 35 = .ok (.iload_n 2, 1) := by decide +kernel
theorem dX5_feed_36 : decode mX5_feed.2.1 36 = .ok (.iconst 1, 1) := by decide +kernel
theorem dX5_feed_37 : decode mX5_feed.2.1 37 = .ok (.isub, 1) := by decide +kernel
theorem dX5_feed_38 : decode mX5_feed.2.1 38 = .ok (.istore_n 3, 1) := by decide +kernel
theorem dX5_feed_39 : decode mX5_feed.2.1 39 = .ok (.iload_n 3, 1) := by decide +kernel
theorem dX5_feed_40 : decode mX5_feed.2.1 40 = .ok (.ifCond .lt 23, 3) := by decide +kernel
theorem dX5_feed_43 : decode mX5_feed.2.1 43 = .ok (.aload_n 0, 1) := by decide +kernel
theorem dX5_feed_44 : decode mX5_feed.2.1 44 = .ok (.getfield 25, 3) := by decide +kernel
theorem dX5_feed_47 : decode mX5_feed.2.1 47 = .ok (.iload_n 1, 1) := by decide +kernel
theorem dX5_feed_48 : decode mX5_feed.2.1 48 = .ok (.bipush 8, 2) := by decide +kernel
theorem dX5_feed_50 : decode mX5_feed.2.1 50 = .ok (.iload_n 3, 1) := by decide +kernel
theorem dX5_feed_51 : decode mX5_feed.2.1 51 = .ok (.imul, 1) := by decide +kernel
theorem dX5_feed_52 : decode mX5_feed.2.1 52 = .ok (.iushr, 1) := by decide +kernel
theorem dX5_feed_53 : decode mX5_feed.2.1 53 = .ok (.i2b, 1) := by decide +kernel
theorem dX5_feed_54 : decode mX5_feed.2.1 54 = .ok (.invokevirtual 233, 3) := by decide +kernel
theorem dX5_feed_57 : decode mX5_feed.2.1 57 = .ok (.iinc 3 (-1), 3) := by decide +kernel
theorem dX5_feed_60 : decode mX5_feed.2.1 60 = .ok (.goto (-21), 3) := by decide +kernel
theorem dX5_feed_63 : decode mX5_feed.2.1 63 = .ok (.aload_n 0, 1) := by decide +kernel
theorem dX5_feed_64 : decode mX5_feed.2.1 64 = .ok (.getfield 25, 3) := by decide +kernel
theorem dX5_feed_67 : decode mX5_feed.2.1 67 = .ok (.getfield 230, 3) := by decide +kernel
theorem dX5_feed_70 : decode mX5_feed.2.1 70 = .ok (.ireturn, 1) := by decide +kernel
theorem dX5_wipe_0 : decode mX5_wipe.2.1 0 = .ok (.aload_n 0, 1) := by decide +kernel
theorem dX5_wipe_1 : decode mX5_wipe.2.1 1 = .ok (.getfield 25, 3) := by decide +kernel
theorem dX5_wipe_4 : decode mX5_wipe.2.1 4 = .ok (.getfield 230, 3) := by decide +kernel
theorem dX5_wipe_7 : decode mX5_wipe.2.1 7 = .ok (.istore_n 1, 1) := by decide +kernel
theorem dX5_wipe_8 : decode mX5_wipe.2.1 8 = .ok (.aload_n 0, 1) := by decide +kernel
theorem dX5_wipe_9 : decode mX5_wipe.2.1 9 = .ok (.getfield 25, 3) := by decide +kernel
theorem dX5_wipe_12 : decode mX5_wipe.2.1 12 = .ok (.iconst 0, 1) := by decide +kernel
theorem dX5_wipe_13 : decode mX5_wipe.2.1 13 = .ok (.putfield 230, 3) := by decide +kernel
theorem dX5_wipe_16 : decode mX5_wipe.2.1 16 = .ok (.iload_n 1, 1) := by decide +kernel
theorem dX5_wipe_17 : decode mX5_wipe.2.1 17 = .ok (.ireturn, 1) := by decide +kernel
theorem dX5_text_0 : decode mX5_text.2.1 0 = .ok (.aload_n 0, 1) := by decide +kernel
theorem dX5_text_1 : decode mX5_text.2.1 1 = .ok (.getfield 19, 3) := by decide +kernel
theorem dX5_text_4 : decode mX5_text.2.1 4 = .ok (.aload_n 0, 1) := by decide +kernel
theorem dX5_text_5 : decode mX5_text.2.1 5 = .ok (.getfield 10, 3) := by decide +kernel
theorem dX5_text_8 : decode mX5_text.2.1 8 = .ok (.invokevirtual 151, 3) := by decide +kernel
theorem dX5_text_11 : decode mX5_text.2.1 11 = .ok (.aload_n 0, 1) := by decide +kernel
theorem dX5_text_12 : decode mX5_text.2.1 12 = .ok (.getfield 34, 3) := by decide +kernel
theorem dX5_text_15 : decode mX5_text.2.1 15 = .ok (.invokevirtual 237, 3) := by decide +kernel
theorem dX5_text_18 : decode mX5_text.2.1 18 = .ok (.istore_n 1, 1) := by decide +kernel
theorem dX5_text_19 : decode mX5_text.2.1 19 = .ok (.iload_n 1, 1) := by decide +kernel
theorem dX5_text_20 : decode mX5_text.2.1 20 = .ok (.ifCond .le 14, 3) := by decide +kernel
theorem dX5_text_23 : decode mX5_text.2.1 23 = .ok (.aload_n 0, 1) := by decide +kernel
theorem dX5_text_24 : decode mX5_text.2.1 24 = .ok (.getfield 10, 3) := by decide +kernel
theorem dX5_text_27 : decode mX5_text.2.1 27 = .ok (.aload_n 0, 1) := by decide +kernel
theorem dX5_text_28 : decode mX5_text.2.1 28 = .ok (.getfield 19, 3) := by decide +kernel
theorem dX5_text_31 : decode mX5_text.2.1 31 = .ok (.invokevirtual 151, 3) := by decide +kernel
theorem dX5_text_34 : decode mX5_text.2.1 34 = .ok (.aload_n 0, 1) := by decide +kernel
theorem dX5_text_35 : decode mX5_text.2.1 35 = .ok (.getfield 25, 3) := by decide +kernel
theorem dX5_text_38 : decode mX5_text.2.1 38 = .ok (.iconst 0, 1) := by decide +kernel
theorem dX5_text_39 : decode mX5_text.2.1 39 = .ok (.putfield 230, 3) := by decide +kernel
theorem dX5_text_42 : decode mX5_text.2.1 42 = .ok (.iload_n 1, 1) := by decide +kernel
theorem dX5_text_43 : decode mX5_text.2.1 43 = .ok (.ireturn, 1) := by decide +kernel
theorem dX5_hold_0 : decode mX5_hold.2.1 0 = .ok (.iload_n 1, 1) := by decide +kernel
theorem dX5_hold_1 : decode mX5_hold.2.1 1 = .ok (.iconst 0, 1) := by decide +kernel
theorem dX5_hold_2 : decode mX5_hold.2.1 2 = .ok (.bipush 9, 2) := by decide +kernel
theorem dX5_hold_4 : decode mX5_hold.2.1 4 = .ok (.invokestatic 53, 3) := by decide +kernel
theorem dX5_hold_7 : decode mX5_hold.2.1 7 = .ok (.ifCond .eq 19, 3) := by decide +kernel
theorem dX5_hold_10 : decode mX5_hold.2.1 10 = .ok (.iload_n 2, 1) := by decide +kernel
theorem dX5_hold_11 : decode mX5_hold.2.1 11 = .ok (.iconst (-1), 1) := by decide +kernel
theorem dX5_hold_12 : decode mX5_hold.2.1 12 = .ok (.if_icmp .eq 20, 3) := by decide +kernel
theorem dX5_hold_15 : decode mX5_hold.2.1 15 = .ok (.aload_n 0, 1) := by decide +kernel
theorem dX5_hold_16 : decode mX5_hold.2.1 16 = .ok (.getfield 10, 3) := by decide +kernel
theorem dX5_hold_19 : decode mX5_hold.2.1 19 = .ok (.iload_n 2, 1) := by decide +kernel
theorem dX5_hold_20 : decode mX5_hold.2.1 20 = .ok (.invokevirtual 78, 3) := by decide +kernel
theorem dX5_hold_23 : decode mX5_hold.2.1 23 = .ok (.ifCond .ne 9, 3) := by decide +kernel
theorem dX5_hold_26 : decode mX5_hold.2.1 26 = .ok (.aload_n 0, 1) := by decide +kernel
theorem dX5_hold_27 : decode mX5_hold.2.1 27 = .ok (.iconst 0, 1) := by decide +kernel
theorem dX5_hold_28 : decode mX5_hold.2.1 28 = .ok (.invokevirtual 57, 3) := by decide +kernel
theorem dX5_hold_31 : decode mX5_hold.2.1 31 = .ok (.ireturn, 1) := by decide +kernel
theorem dX5_hold_32 : decode mX5_hold.2.1 32 = .ok (.aload_n 0, 1) := by decide +kernel
theorem dX5_hold_33 : decode mX5_hold.2.1 33 = .ok (.getfield 10, 3) := by decide +kernel
theorem dX5_hold_36 : decode mX5_hold.2.1 36 = .ok (.getfield 240, 3) := by decide +kernel
theorem dX5_hold_39 : decode mX5_hold.2.1 39 = .ok (.iload_n 1, 1) := by decide +kernel
theorem dX5_hold_40 : decode mX5_hold.2.1 40 = .ok (.iload_n 2, 1) := by decide +kernel
theorem dX5_hold_41 : decode mX5_hold.2.1 41 = .ok (.iastore, 1) := by decide +kernel
theorem dX5_hold_42 : decode mX5_hold.2.1 42 = .ok (.iconst 1, 1) := by decide +kernel
theorem dX5_hold_43 : decode mX5_hold.2.1 43 = .ok (.ireturn, 1) := by decide +kernel
theorem dX5_as_0 : decode mX5_as.2.1 0 = .ok (.iload_n 1, 1) := by decide +kernel
theorem dX5_as_1 : decode mX5_as.2.1 1 = .ok (.iconst 0, 1) := by decide +kernel
theorem dX5_as_2 : decode mX5_as.2.1 2 = .ok (.bipush 9, 2) := by decide +kernel
theorem dX5_as_4 : decode mX5_as.2.1 4 = .ok (.invokestatic 53, 3) := by decide +kernel
theorem dX5_as_7 : decode mX5_as.2.1 7 = .ok (.ifCond .eq 11, 3) := by decide +kernel
theorem dX5_as_10 : decode mX5_as.2.1 10 = .ok (.iconst 0, 1) := by decide +kernel
theorem dX5_as_11 : decode mX5_as.2.1 11 = .ok (.iload_n 2, 1) := by decide +kernel
theorem dX5_as_12 : decode mX5_as.2.1 12 = .ok (.invokestatic 64, 3) := by decide +kernel
theorem dX5_as_15 : decode mX5_as.2.1 15 = .ok (.ifCond .ne 9, 3) := by decide +kernel
theorem dX5_as_18 : decode mX5_as.2.1 18 = .ok (.aload_n 0, 1) := by decide +kernel
theorem dX5_as_19 : decode mX5_as.2.1 19 = .ok (.iconst 0, 1) := by decide +kernel
theorem dX5_as_20 : decode mX5_as.2.1 20 = .ok (.invokevirtual 57, 3) := by decide +kernel
theorem dX5_as_23 : decode mX5_as.2.1 23 = .ok (.ireturn, 1) := by decide +kernel
theorem dX5_as_24 : decode mX5_as.2.1 24 = .ok (.aload_n 0, 1) := by decide +kernel
theorem dX5_as_25 : decode mX5_as.2.1 25 = .ok (.getfield 10, 3) := by decide +kernel
theorem dX5_as_28 : decode mX5_as.2.1 28 = .ok (.getfield 240, 3) := by decide +kernel
theorem dX5_as_31 : decode mX5_as.2.1 31 = .ok (.iload_n 1, 1) := by decide +kernel
theorem dX5_as_32 : decode mX5_as.2.1 32 = .ok (.iaload, 1) := by decide +kernel
theorem dX5_as_33 : decode mX5_as.2.1 33 = .ok (.istore_n 3, 1) := by decide +kernel
theorem dX5_as_34 : decode mX5_as.2.1 34 = .ok (.aload_n 0, 1) := by decide +kernel
theorem dX5_as_35 : decode mX5_as.2.1 35 = .ok (.getfield 10, 3) := by decide +kernel
theorem dX5_as_38 : decode mX5_as.2.1 38 = .ok (.iload_n 3, 1) := by decide +kernel
theorem dX5_as_39 : decode mX5_as.2.1 39 = .ok (.invokevirtual 78, 3) := by decide +kernel
theorem dX5_as_42 : decode mX5_as.2.1 42 = .ok (.ifCond .ne 9, 3) := by decide +kernel
theorem dX5_as_45 : decode mX5_as.2.1 45 = .ok (.aload_n 0, 1) := by decide +kernel
theorem dX5_as_46 : decode mX5_as.2.1 46 = .ok (.iconst 5, 1) := by decide +kernel
theorem dX5_as_47 : decode mX5_as.2.1 47 = .ok (.invokevirtual 57, 3) := by decide +kernel
theorem dX5_as_50 : decode mX5_as.2.1 50 = .ok (.ireturn, 1) := by decide +kernel
theorem dX5_as_51 : decode mX5_as.2.1 51 = .ok (.aload_n 0, 1) := by decide +kernel
theorem dX5_as_52 : decode mX5_as.2.1 52 = .ok (.getfield 10, 3) := by decide +kernel
theorem dX5_as_55 : decode mX5_as.2.1 55 = .ok (.getfield 82, 3) := by decide +kernel
theorem dX5_as_58 : decode mX5_as.2.1 58 = .ok (.iload_n 3, 1) := by decide +kernel
theorem dX5_as_59 : decode mX5_as.2.1 59 = .ok (.aaload, 1) := by decide +kernel
theorem dX5_as_60 : decode mX5_as.2.1 60 = .ok (.iload_n 2, 1) := by decide +kernel
theorem dX5_as_61 : decode mX5_as.2.1 61 = .ok (.invokevirtual 243, 3) := by decide +kernel
theorem dX5_as_64 : decode mX5_as.2.1 64 = .ok (.ifCond .eq 7, 3) := by decide +kernel
theorem dX5_as_67 : decode mX5_as.2.1 67 = .ok (.iload_n 3, 1) := by decide +kernel
theorem dX5_as_68 : decode mX5_as.2.1 68 = .ok (.goto 8, 3) := by decide +kernel
theorem dX5_as_71 : decode mX5_as.2.1 71 = .ok (.aload_n 0, 1) := by decide +kernel
theorem dX5_as_72 : decode mX5_as.2.1 72 = .ok (.iconst 2, 1) := by decide +kernel
theorem dX5_as_73 : decode mX5_as.2.1 73 = .ok (.invokevirtual 57, 3) := by decide +kernel
theorem dX5_as_76 : decode mX5_as.2.1 76 = .ok (.ireturn, 1) := by decide +kernel
theorem dX5_sheet_0 : decode mX5_sheet.2.1 0 = .ok (.iload_n 1, 1) := by decide +kernel
theorem dX5_sheet_1 : decode mX5_sheet.2.1 1 = .ok (.iconst 0, 1) := by decide +kernel
theorem dX5_sheet_2 : decode mX5_sheet.2.1 2 = .ok (.iconst 3, 1) := by decide +kernel
theorem dX5_sheet_3 : decode mX5_sheet.2.1 3 = .ok (.invokestatic 53, 3) := by decide +kernel
theorem dX5_sheet_6 : decode mX5_sheet.2.1 6 = .ok (.ifCond .eq 10, 3) := by decide +kernel
theorem dX5_sheet_9 : decode mX5_sheet.2.1 9 = .ok (.iload_n 2, 1) := by decide +kernel
theorem dX5_sheet_10 : decode mX5_sheet.2.1 10 = .ok (.invokestatic 246, 3) := by decide +kernel
theorem dX5_sheet_13 : decode mX5_sheet.2.1 13 = .ok (.ifCond .ne 9, 3) := by decide +kernel
theorem dX5_sheet_16 : decode mX5_sheet.2.1 16 = .ok (.aload_n 0, 1) := by decide +kernel
theorem dX5_sheet_17 : decode mX5_sheet.2.1 17 = .ok (.iconst 0, 1) := by decide +kernel
theorem dX5_sheet_18 : decode mX5_sheet.2.1 18 = .ok (.invokevirtual 57, 3) := by decide +kernel
theorem dX5_sheet_21 : decode mX5_sheet.2.1 21 = .ok (.ireturn, 1) := by decide +kernel
theorem dX5_sheet_22 : decode mX5_sheet.2.1 22 = .ok (.iload_n 3, 1) := by decide +kernel
theorem dX5_sheet_23 : decode mX5_sheet.2.1 23 = .ok (.ifCond .ge 10, 3) := by decide +kernel
theorem dX5_sheet_26 : decode mX5_sheet.2.1 26 = .ok (.aload_n 0, 1) := by decide +kernel
theorem dX5_sheet_27 : decode mX5_sheet.2.1 27 = .ok (.bipush 6, 2) := by decide +kernel
theorem dX5_sheet_29 : decode mX5_sheet.2.1 29 = .ok (.invokevirtual 57, 3) := by decide +kernel
theorem dX5_sheet_32 : decode mX5_sheet.2.1 32 = .ok (.ireturn, 1) := by decide +kernel
theorem dX5_sheet_33 : decode mX5_sheet.2.1 33 = .ok (.iload_n 3, 1) := by decide +kernel
theorem dX5_sheet_34 : decode mX5_sheet.2.1 34 = .ok (.bipush 40, 2) := by decide +kernel
theorem dX5_sheet_36 : decode mX5_sheet.2.1 36 = .ok (.if_icmp .le 9, 3) := by decide +kernel
theorem dX5_sheet_39 : decode mX5_sheet.2.1 39 = .ok (.aload_n 0, 1) := by decide +kernel
theorem dX5_sheet_40 : decode mX5_sheet.2.1 40 = .ok (.iconst 0, 1) := by decide +kernel
theorem dX5_sheet_41 : decode mX5_sheet.2.1 41 = .ok (.invokevirtual 57, 3) := by decide +kernel
theorem dX5_sheet_44 : decode mX5_sheet.2.1 44 = .ok (.ireturn, 1) := by decide +kernel
theorem dX5_sheet_45 : decode mX5_sheet.2.1 45 = .ok (.aload_n 0, 1) := by decide +kernel
theorem dX5_sheet_46 : decode mX5_sheet.2.1 46 = .ok (.getfield 40, 3) := by decide +kernel
theorem dX5_sheet_49 : decode mX5_sheet.2.1 49 = .ok (.iload_n 1, 1) := by decide +kernel
theorem dX5_sheet_50 : decode mX5_sheet.2.1 50 = .ok (.aaload, 1) := by decide +kernel
theorem dX5_sheet_51 : decode mX5_sheet.2.1 51 = .ok (.iload_n 2, 1) := by decide +kernel
theorem dX5_sheet_52 : decode mX5_sheet.2.1 52 = .ok (.iload_n 3, 1) := by decide +kernel
theorem dX5_sheet_53 : decode mX5_sheet.2.1 53 = .ok (.invokevirtual 249, 3) := by decide +kernel
theorem dX5_sheet_56 : decode mX5_sheet.2.1 56 = .ok (.aload_n 0, 1) := by decide +kernel
theorem dX5_sheet_57 : decode mX5_sheet.2.1 57 = .ok (.getfield 40, 3) := by decide +kernel
theorem dX5_sheet_60 : decode mX5_sheet.2.1 60 = .ok (.iload_n 1, 1) := by decide +kernel
theorem dX5_sheet_61 : decode mX5_sheet.2.1 61 = .ok (.aaload, 1) := by decide +kernel
theorem dX5_sheet_62 : decode mX5_sheet.2.1 62 = .ok (.getfield 214, 3) := by decide +kernel
theorem dX5_sheet_65 : decode mX5_sheet.2.1 65 = .ok (.ireturn, 1) := by decide +kernel
theorem dX5_write_0 : decode mX5_write.2.1 0 = .ok (.aload_n 0, 1) := by decide +kernel
theorem dX5_write_1 : decode mX5_write.2.1 1 = .ok (.iload_n 1, 1) := by decide +kernel
theorem dX5_write_2 : decode mX5_write.2.1 2 = .ok (.invokevirtual 211, 3) := by decide +kernel
theorem dX5_write_5 : decode mX5_write.2.1 5 = .ok (.istore 4, 2) := by decide +kernel
theorem dX5_write_7 : decode mX5_write.2.1 7 = .ok (.iload 4, 2) := by decide +kernel
theorem dX5_write_9 : decode mX5_write.2.1 9 = .ok (.iconst (-1), 1) := by decide +kernel
theorem dX5_write_10 : decode mX5_write.2.1 10 = .ok (.if_icmp .eq 10, 3) := by decide +kernel
theorem dX5_write_13 : decode mX5_write.2.1 13 = .ok (.aload_n 0, 1) := by decide +kernel
theorem dX5_write_14 : decode mX5_write.2.1 14 = .ok (.iload 4, 2) := by decide +kernel
theorem dX5_write_16 : decode mX5_write.2.1 16 = .ok (.invokevirtual 57, 3) := by decide +kernel
theorem dX5_write_19 : decode mX5_write.2.1 19 = .ok (.ireturn, 1) := by decide +kernel
theorem dX5_write_20 : decode mX5_write.2.1 20 = .ok (.iload_n 2, 1) := by decide +kernel
theorem dX5_write_21 : decode mX5_write.2.1 21 = .ok (.iconst 0, 1) := by decide +kernel
theorem dX5_write_22 : decode mX5_write.2.1 22 = .ok (.aload_n 0, 1) := by decide +kernel
theorem dX5_write_23 : decode mX5_write.2.1 23 = .ok (.getfield 40, 3) := by decide +kernel
theorem dX5_write_26 : decode mX5_write.2.1 26 = .ok (.iload_n 1, 1) := by decide +kernel
theorem dX5_write_27 : decode mX5_write.2.1 27 = .ok (.aaload, 1) := by decide +kernel
theorem dX5_write_28 : decode mX5_write.2.1 28 = .ok (.getfield 214, 3) := by decide +kernel
theorem dX5_write_31 : decode mX5_write.2.1 31 = .ok (.iconst 1, 1) := by decide +kernel
theorem dX5_write_32 : decode mX5_write.2.1 32 = .ok (.isub, 1) := by decide +kernel
theorem dX5_write_33 : decode mX5_write.2.1 33 = .ok (.invokestatic 53, 3) := by decide +kernel
theorem dX5_write_36 : decode mX5_write.2.1 36 = .ok (.ifCond .ne 9, 3) := by decide +kernel
theorem dX5_write_39 : decode mX5_write.2.1 39 = .ok (.aload_n 0, 1) := by decide +kernel
theorem dX5_write_40 : decode mX5_write.2.1 40 = .ok (.iconst 0, 1) := by decide +kernel
theorem dX5_write_41 : decode mX5_write.2.1 41 = .ok (.invokevirtual 57, 3) := by decide +kernel
theorem dX5_write_44 : decode mX5_write.2.1 44 = .ok (.ireturn, 1) := by decide +kernel
theorem dX5_write_45 : decode mX5_write.2.1 45 = .ok (.aload_n 0, 1) := by decide +kernel
theorem dX5_write_46 : decode mX5_write.2.1 46 = .ok (.getfield 40, 3) := by decide +kernel
theorem dX5_write_49 : decode mX5_write.2.1 49 = .ok (.iload_n 1, 1) := by decide +kernel
theorem dX5_write_50 : decode mX5_write.2.1 50 = .ok (.aaload, 1) := by decide +kernel
theorem dX5_write_51 : decode mX5_write.2.1 51 = .ok (.iload_n 2, 1) := by decide +kernel
theorem dX5_write_52 : decode mX5_write.2.1 52 = .ok (.iload_n 3, 1) := by decide +kernel
theorem dX5_write_53 : decode mX5_write.2.1 53 = .ok (.invokevirtual 252, 3) := by decide +kernel
theorem dX5_write_56 : decode mX5_write.2.1 56 = .ok (.iconst 1, 1) := by decide +kernel
theorem dX5_write_57 : decode mX5_write.2.1 57 = .ok (.ireturn, 1) := by decide +kernel
theorem dX5_copy_0 : decode mX5_copy.2.1 0 = .ok (.iload_n 1, 1) := by decide +kernel
theorem dX5_copy_1 : decode mX5_copy.2.1 1 = .ok (.iconst 0, 1) := by decide +kernel
theorem dX5_copy_2 : decode mX5_copy.2.1 2 = .ok (.iconst 3, 1) := by decide +kernel
theorem dX5_copy_3 : decode mX5_copy.2.1 3 = .ok (.invokestatic 53, 3) := by decide +kernel
theorem dX5_copy_6 : decode mX5_copy.2.1 6 = .ok (.ifCond .eq 12, 3) := by decide +kernel
theorem dX5_copy_9 : decode mX5_copy.2.1 9 = .ok (.iload_n 3, 1) := by decide +kernel
theorem dX5_copy_10 : decode mX5_copy.2.1 10 = .ok (.iconst 0, 1) := by decide +kernel
theorem dX5_copy_11 : decode mX5_copy.2.1 11 = .ok (.iconst 3, 1) := by decide +kernel
theorem dX5_copy_12 : decode mX5_copy.2.1 12 = .ok (.invokestatic 53, 3) := by decide +kernel
theorem dX5_copy_15 : decode mX5_copy.2.1 15 = .ok (.ifCond .ne 9, 3) := by decide +kernel
theorem dX5_copy_18 : decode mX5_copy.2.1 18 = .ok (.aload_n 0, 1) := by decide +kernel
theorem dX5_copy_19 : decode mX5_copy.2.1 19 = .ok (.iconst 0, 1) := by decide +kernel
theorem dX5_copy_20 : decode mX5_copy.2.1 20 = .ok (.invokevirtual 57, 3) := by decide +kernel
theorem dX5_copy_23 : decode mX5_copy.2.1 23 = .ok (.ireturn, 1) := by decide +kernel
theorem dX5_copy_24 : decode mX5_copy.2.1 24 = .ok (.aload_n 0, 1) := by decide +kernel
theorem dX5_copy_25 : decode mX5_copy.2.1 25 = .ok (.getfield 40, 3) := by decide +kernel
theorem dX5_copy_28 : decode mX5_copy.2.1 28 = .ok (.iload_n 1, 1) := by decide +kernel
theorem dX5_copy_29 : decode mX5_copy.2.1 29 = .ok (.aaload, 1) := by decide +kernel
theorem dX5_copy_30 : decode mX5_copy.2.1 30 = .ok (.astore 6, 2) := by decide +kernel
theorem dX5_copy_32 : decode mX5_copy.2.1 32 = .ok (.aload_n 0, 1) := by decide +kernel
theorem dX5_copy_33 : decode mX5_copy.2.1 33 = .ok (.getfield 40, 3) := by decide +kernel
theorem dX5_copy_36 : decode mX5_copy.2.1 36 = .ok (.iload_n 3, 1) := by decide +kernel
theorem dX5_copy_37 : decode mX5_copy.2.1 37 = .ok (.aaload, 1) := by decide +kernel
theorem dX5_copy_38 : decode mX5_copy.2.1 38 = .ok (.astore 7, 2) := by decide +kernel
theorem dX5_copy_40 : decode mX5_copy.2.1 40 = .ok (.aload 6, 2) := by decide +kernel
theorem dX5_copy_42 : decode mX5_copy.2.1 42 = .ok (.invokevirtual 255, 3) := by decide +kernel
theorem dX5_copy_45 : decode mX5_copy.2.1 45 = .ok (.ifCond .ne 11, 3) := by decide +kernel
theorem dX5_copy_48 : decode mX5_copy.2.1 48 = .ok (.aload 7, 2) := by decide +kernel
theorem dX5_copy_50 : decode mX5_copy.2.1 50 = .ok (.invokevirtual 255, 3) := by decide +kernel
theorem dX5_copy_53 : decode mX5_copy.2.1 53 = .ok (.ifCond .eq 9, 3) := by decide +kernel
theorem dX5_copy_56 : decode mX5_copy.2.1 56 = .ok (.aload_n 0, 1) := by decide +kernel
theorem dX5_copy_57 : decode mX5_copy.2.1 57 = .ok (.iconst 5, 1) := by decide +kernel
theorem dX5_copy_58 : decode mX5_copy.2.1 58 = .ok (.invokevirtual 57, 3) := by decide +kernel
theorem dX5_copy_61 : decode mX5_copy.2.1 61 = .ok (.ireturn, 1) := by decide +kernel
theorem dX5_copy_62 : decode mX5_copy.2.1 62 = .ok (.aload 6, 2) := by decide +kernel
theorem dX5_copy_64 : decode mX5_copy.2.1 64 = .ok (.getfield 258, 3) := by decide +kernel
theorem dX5_copy_67 : decode mX5_copy.2.1 67 = .ok (.aload 7, 2) := by decide +kernel
theorem dX5_copy_69 : decode mX5_copy.2.1 69 = .ok (.getfield 258, 3) := by decide +kernel
theorem dX5_copy_72 : decode mX5_copy.2.1 72 = .ok (.if_icmp .eq 9, 3) := by decide +kernel
theorem dX5_copy_75 : decode mX5_copy.2.1 75 = .ok (.aload_n 0, 1) := by decide +kernel
theorem dX5_copy_76 : decode mX5_copy.2.1 76 = .ok (.iconst 2, 1) := by decide +kernel
theorem dX5_copy_77 : decode mX5_copy.2.1 77 = .ok (.invokevirtual 57, 3) := by decide +kernel
theorem dX5_copy_80 : decode mX5_copy.2.1 80 = .ok (.ireturn, 1) := by decide +kernel
theorem dX5_copy_81 : decode mX5_copy.2.1 81 = .ok (.aload 6, 2) := by decide +kernel
theorem dX5_copy_83 : decode mX5_copy.2.1 83 = .ok (.iload_n 2, 1) := by decide +kernel
theorem dX5_copy_84 : decode mX5_copy.2.1 84 = .ok (.iload 5, 2) := by decide +kernel
theorem dX5_copy_86 : decode mX5_copy.2.1 86 = .ok (.invokevirtual 261, 3) := by decide +kernel
theorem dX5_copy_89 : decode mX5_copy.2.1 89 = .ok (.ifCond .eq 15, 3) := by decide +kernel
theorem dX5_copy_92 : decode mX5_copy.2.1 92 = .ok (.aload 7, 2) := by decide +kernel
theorem dX5_copy_94 : decode mX5_copy.2.1 94 = .ok (.iload 4, 2) := by decide +kernel
theorem dX5_copy_96 : decode mX5_copy.2.1 96 = .ok (.iload 5, 2) := by decide +kernel
theorem dX5_copy_98 : decode mX5_copy.2.1 98 = .ok (.invokevirtual 261, 3) := by decide +kernel
theorem dX5_copy_101 : decode mX5_copy.2.1 101 = .ok (.ifCond .ne 9, 3) := by decide +kernel
theorem dX5_copy_104 : decode mX5_copy.2.1 104 = .ok (.aload_n 0, 1) := by decide +kernel
theorem dX5_copy_105 : decode mX5_copy.2.1 105 = .ok (.iconst 0, 1) := by decide +kernel
theorem dX5_copy_106 : decode mX5_copy.2.1 106 = .ok (.invokevirtual 57, 3) := by decide +kernel
theorem dX5_copy_109 : decode mX5_copy.2.1 109 = .ok (.ireturn, 1) := by decide +kernel
theorem dX5_copy_110 : decode mX5_copy.2.1 110 = .ok (.aload 6, 2) := by decide +kernel
theorem dX5_copy_112 : decode mX5_copy.2.1 112 = .ok (.getfield 217, 3) := by decide +kernel
theorem dX5_copy_115 : decode mX5_copy.2.1 115 = .ok (.iload_n 2, 1) := by decide +kernel
theorem dX5_copy_116 : decode mX5_copy.2.1 116 = .ok (.aload 7, 2) := by decide +kernel
theorem dX5_copy_118 : decode mX5_copy.2.1 118 = .ok (.getfield 217, 3) := by decide +kernel
theorem dX5_copy_121 : decode mX5_copy.2.1 121 = .ok (.iload 4, 2) := by decide +kernel
theorem dX5_copy_123 : decode mX5_copy.2.1 123 = .ok (.iload 5, 2) := by decide +kernel
theorem dX5_copy_125 : decode mX5_copy.2.1 125 = .ok (.invokestatic 264, 3) := by decide +kernel
theorem dX5_copy_128 : decode mX5_copy.2.1 128 = .ok (.iload 5, 2) := by decide +kernel
theorem dX5_copy_130 : decode mX5_copy.2.1 130 = .ok (.ireturn, 1) := by decide +kernel
theorem dX5_load_0 : decode mX5_load.2.1 0 = .ok (.aload_n 0, 1) := by decide +kernel
theorem dX5_load_1 : decode mX5_load.2.1 1 = .ok (.iload_n 1, 1) := by decide +kernel
theorem dX5_load_2 : decode mX5_load.2.1 2 = .ok (.invokevirtual 211, 3) := by decide +kernel
theorem dX5_load_5 : decode mX5_load.2.1 5 = .ok (.istore_n 2, 1) := by decide +kernel
theorem dX5_load_6 : decode mX5_load.2.1 6 = .ok (.iload_n 2, 1) := by decide +kernel
theorem dX5_load_7 : decode mX5_load.2.1 7 = .ok (.iconst (-1), 1) := by decide +kernel
theorem dX5_load_8 : decode mX5_load.2.1 8 = .ok (.if_icmp .eq 9, 3) := by decide +kernel
theorem dX5_load_11 : decode mX5_load.2.1 11 = .ok (.aload_n 0, 1) := by decide +kernel
theorem dX5_load_12 : decode mX5_load.2.1 12 = .ok (.iload_n 2, 1) := by decide +kernel
theorem dX5_load_13 : decode mX5_load.2.1 13 = .ok (.invokevirtual 57, 3) := by decide +kernel
theorem dX5_load_16 : decode mX5_load.2.1 16 = .ok (.ireturn, 1) := by decide +kernel
theorem dX5_load_17 : decode mX5_load.2.1 17 = .ok (.iconst 0, 1) := by decide +kernel
theorem dX5_load_18 : decode mX5_load.2.1 18 = .ok (.istore_n 3, 1) := by decide +kernel
theorem dX5_load_19 : decode mX5_load.2.1 19 = .ok (.aload_n 0, 1) := by decide +kernel
theorem dX5_load_20 : decode mX5_load.2.1 20 = .ok (.getfield 40, 3) := by decide +kernel
theorem dX5_load_23 : decode mX5_load.2.1 23 = .ok (.iload_n 1, 1) := by decide +kernel
theorem dX5_load_24 : decode mX5_load.2.1 24 = .ok (.aaload, 1) := by decide +kernel
theorem dX5_load_25 : decode mX5_load.2.1 25 = .ok (.getfield 214, 3) := by decide +kernel
theorem dX5_load_28 : decode mX5_load.2.1 28 = .ok (.aload_n 0, 1) := by decide +kernel
theorem dX5_load_29 : decode mX5_load.2.1 29 = .ok (.getfield 10, 3) := by decide +kernel
theorem dX5_load_32 : decode mX5_load.2.1 32 = .ok (.getfield 172, 3) := by decide +kernel
theorem dX5_load_35 : decode mX5_load.2.1 35 = .ok (.invokestatic 270, 3) := by decide +kernel
theorem dX5_load_38 : decode mX5_load.2.1 38 = .ok (.istore 4, 2) := by decide +kernel
theorem dX5_load_40 : decode mX5_load.2.1 40 = .ok (.iload_n 3, 1) := by decide +kernel
theorem dX5_load_41 : decode mX5_load.2.1 41 = .ok (.iload 4, 2) := by decide +kernel
theorem dX5_load_43 : decode mX5_load.2.1 43 = .ok (.if_icmp .ge 51, 3) := by decide +kernel
theorem dX5_load_46 : decode mX5_load.2.1 46 = .ok (.iconst 1, 1) := by decide +kernel
theorem dX5_load_47 : decode mX5_load.2.1 47 = .ok (.aload_n 0, 1) := by decide +kernel
theorem dX5_load_48 : decode mX5_load.2.1 48 = .ok (.getfield 40, 3) := by decide +kernel
theorem dX5_load_51 : decode mX5_load.2.1 51 = .ok (.iload_n 1, 1) := by decide +kernel
theorem dX5_load_52 : decode mX5_load.2.1 52 = .ok (.aaload, 1) := by decide +kernel
theorem dX5_load_53 : decode mX5_load.2.1 53 = .ok (.getfield 217, 3) := by decide +kernel
theorem dX5_load_56 : decode mX5_load.2.1 56 = .ok (.iload_n 3, 1) := by decide +kernel
theorem dX5_load_57 : decode mX5_load.2.1 57 = .ok (.iaload, 1) := by decide +kernel
theorem dX5_load_58 : decode mX5_load.2.1 58 = .ok (.invokestatic 64, 3) := by decide +kernel
theorem dX5_load_61 : decode mX5_load.2.1 61 = .ok (.ifCond .eq 33, 3) := by decide +kernel
theorem dX5_load_64 : decode mX5_load.2.1 64 = .ok (.aload_n 0, 1) := by decide +kernel
theorem dX5_load_65 : decode mX5_load.2.1 65 = .ok (.getfield 10, 3) := by decide +kernel
theorem dX5_load_68 : decode mX5_load.2.1 68 = .ok (.getfield 82, 3) := by decide +kernel
theorem dX5_load_71 : decode mX5_load.2.1 71 = .ok (.iload_n 3, 1) := by decide +kernel
theorem dX5_load_72 : decode mX5_load.2.1 72 = .ok (.aaload, 1) := by decide +kernel
theorem dX5_load_73 : decode mX5_load.2.1 73 = .ok (.iconst 1, 1) := by decide +kernel
theorem dX5_load_74 : decode mX5_load.2.1 74 = .ok (.aload_n 0, 1) := by decide +kernel
theorem dX5_load_75 : decode mX5_load.2.1 75 = .ok (.getfield 40, 3) := by decide +kernel
theorem dX5_load_78 : decode mX5_load.2.1 78 = .ok (.iload_n 1, 1) := by decide +kernel
theorem dX5_load_79 : decode mX5_load.2.1 79 = .ok (.aaload, 1) := by decide +kernel
theorem dX5_load_80 : decode mX5_load.2.1 80 = .ok (.getfield 217, 3) := by decide +kernel
theorem dX5_load_83 : decode mX5_load.2.1 83 = .ok (.iload_n 3, 1) := by decide +kernel
theorem dX5_load_84 : decode mX5_load.2.1 84 = .ok (.iaload, 1) := by decide +kernel
theorem dX5_load_85 : decode mX5_load.2.1 85 = .ok (.invokevirtual 103, 3) := by decide +kernel
theorem dX5_load_88 : decode mX5_load.2.1 88 = .ok (.iinc 3 1, 3) := by decide +kernel
theorem dX5_load_91 : decode mX5_load.2.1 91 = .ok (.goto (-51), 3) := by decide +kernel
theorem dX5_load_94 : decode mX5_load.2.1 94 = .ok (.iload_n 3, 1) := by decide +kernel
theorem dX5_load_95 : decode mX5_load.2.1 95 = .ok (.ireturn, 1) := by decide +kernel
theorem dX5_judge_0 : decode mX5_judge.2.1 0 = .ok (.aload_n 0, 1) := by decide +kernel
theorem dX5_judge_1 : decode mX5_judge.2.1 1 = .ok (.iload_n 1, 1) := by decide +kernel
theorem dX5_judge_2 : decode mX5_judge.2.1 2 = .ok (.invokevirtual 211, 3) := by decide +kernel
theorem dX5_judge_5 : decode mX5_judge.2.1 5 = .ok (.istore_n 2, 1) := by decide +kernel
theorem dX5_judge_6 : decode mX5_judge.2.1 6 = .ok (.iload_n 2, 1) := by decide +kernel
theorem dX5_judge_7 : decode mX5_judge.2.1 7 = .ok (.iconst (-1), 1) := by decide +kernel
theorem dX5_judge_8 : decode mX5_judge.2.1 8 = .ok (.if_icmp .eq 9, 3) := by decide +kernel
theorem dX5_judge_11 : decode mX5_judge.2.1 11 = .ok (.aload_n 0, 1) := by decide +kernel
theorem dX5_judge_12 : decode mX5_judge.2.1 12 = .ok (.iload_n 2, 1) := by decide +kernel
theorem dX5_judge_13 : decode mX5_judge.2.1 13 = .ok (.invokevirtual 57, 3) := by decide +kernel
theorem dX5_judge_16 : decode mX5_judge.2.1 16 = .ok (.ireturn, 1) := by decide +kernel
theorem dX5_judge_17 : decode mX5_judge.2.1 17 = .ok (.iconst 0, 1) := by decide +kernel
theorem dX5_judge_18 : decode mX5_judge.2.1 18 = .ok (.istore_n 3, 1) := by decide +kernel
theorem dX5_judge_19 : decode mX5_judge.2.1 19 = .ok (.iload_n 3, 1) := by decide +kernel
theorem dX5_judge_20 : decode mX5_judge.2.1 20 = .ok (.aload_n 0, 1) := by decide +kernel
theorem dX5_judge_21 : decode mX5_judge.2.1 21 = .ok (.getfield 40, 3) := by decide +kernel
theorem dX5_judge_24 : decode mX5_judge.2.1 24 = .ok (.iload_n 1, 1) := by decide +kernel
theorem dX5_judge_25 : decode mX5_judge.2.1 25 = .ok (.aaload, 1) := by decide +kernel
theorem dX5_judge_26 : decode mX5_judge.2.1 26 = .ok (.getfield 214, 3) := by decide +kernel
theorem dX5_judge_29 : decode mX5_judge.2.1 29 = .ok (.if_icmp .ge 59, 3) := by decide +kernel
theorem dX5_judge_32 : decode mX5_judge.2.1 32 = .ok (.aload_n 0, 1) := by decide +kernel
theorem dX5_judge_33 : decode mX5_judge.2.1 33 = .ok (.getfield 10, 3) := by decide +kernel
theorem dX5_judge_36 : decode mX5_judge.2.1 36 = .ok (.iload_n 3, 1) := by decide +kernel
theorem dX5_judge_37 : decode mX5_judge.2.1 37 = .ok (.invokevirtual 78, 3) := by decide +kernel
theorem dX5_judge_40 : decode mX5_judge.2.1 40 = .ok (.ifCond .eq 38, 3) := by decide +kernel
theorem dX5_judge_43 : decode mX5_judge.2.1 43 = .ok (.aload_n 0, 1) := by decide +kernel
theorem dX5_judge_44 : decode mX5_judge.2.1 44 = .ok (.getfield 10, 3) := by decide +kernel
theorem dX5_judge_47 : decode mX5_judge.2.1 47 = .ok (.getfield 82, 3) := by decide +kernel
theorem dX5_judge_50 : decode mX5_judge.2.1 50 = .ok (.iload_n 3, 1) := by decide +kernel
theorem dX5_judge_51 : decode mX5_judge.2.1 51 = .ok (.aaload, 1) := by decide +kernel
theorem dX5_judge_52 : decode mX5_judge.2.1 52 = .ok (.aload_n 0, 1) := by decide +kernel
theorem dX5_judge_53 : decode mX5_judge.2.1 53 = .ok (.getfield 10, 3) := by decide +kernel
theorem dX5_judge_56 : decode mX5_judge.2.1 56 = .ok (.getfield 61, 3) := by decide +kernel
theorem dX5_judge_59 : decode mX5_judge.2.1 59 = .ok (.iconst 0, 1) := by decide +kernel
theorem dX5_judge_60 : decode mX5_judge.2.1 60 = .ok (.iaload, 1) := by decide +kernel
theorem dX5_judge_61 : decode mX5_judge.2.1 61 = .ok (.invokevirtual 93, 3) := by decide +kernel
theorem dX5_judge_64 : decode mX5_judge.2.1 64 = .ok (.aload_n 0, 1) := by decide +kernel
theorem dX5_judge_65 : decode mX5_judge.2.1 65 = .ok (.getfield 40, 3) := by decide +kernel
theorem dX5_judge_68 : decode mX5_judge.2.1 68 = .ok (.iload_n 1, 1) := by decide +kernel
theorem dX5_judge_69 : decode mX5_judge.2.1 69 = .ok (.aaload, 1) := by decide +kernel
theorem dX5_judge_70 : decode mX5_judge.2.1 70 = .ok (.getfield 217, 3) := by decide +kernel
theorem dX5_judge_73 : decode mX5_judge.2.1 73 = .ok (.iload_n 3, 1) := by decide +kernel
theorem dX5_judge_74 : decode mX5_judge.2.1 74 = .ok (.iaload, 1) := by decide +kernel
theorem dX5_judge_75 : decode mX5_judge.2.1 75 = .ok (.if_icmp .eq 7, 3) := by decide +kernel
theorem dX5_judge_78 : decode mX5_judge.2.1 78 = .ok (.iconst 1, 1) := by decide +kernel
theorem dX5_judge_79 : decode mX5_judge.2.1 79 = .ok (.iload_n 3, 1) := by decide +kernel
theorem dX5_judge_80 : decode mX5_judge.2.1 80 = .ok (.iadd, 1) := by decide +kernel
theorem dX5_judge_81 : decode mX5_judge.2.1 81 = .ok (.ireturn, 1) := by decide +kernel
theorem dX5_judge_82 : decode mX5_judge.2.1 82 = .ok (.iinc 3 1, 3) := by decide +kernel
theorem dX5_judge_85 : decode mX5_judge.2.1 85 = .ok (.goto (-66), 3) := by decide +kernel
theorem dX5_judge_88 : decode mX5_judge.2.1 88 = .ok (.iconst 0, 1) := by decide +kernel
theorem dX5_judge_89 : decode mX5_judge.2.1 89 = .ok (.ireturn, 1) := by decide +kernel
theorem dX5_image_0 : decode mX5_image.2.1 0 = .ok (.aload_n 0, 1) := by decide +kernel
theorem dX5_image_1 : decode mX5_image.2.1 1 = .ok (.getfield 16, 3) := by decide +kernel
theorem dX5_image_4 : decode mX5_image.2.1 4 = .ok (.aload_n 0, 1) := by decide +kernel
theorem dX5_image_5 : decode mX5_image.2.1 5 = .ok (.getfield 10, 3) := by decide +kernel
theorem dX5_image_8 : decode mX5_image.2.1 8 = .ok (.invokevirtual 151, 3) := by decide +kernel
theorem dX5_image_11 : decode mX5_image.2.1 11 = .ok (.aload_n 0, 1) := by decide +kernel
theorem dX5_image_12 : decode mX5_image.2.1 12 = .ok (.iconst 1, 1) := by decide +kernel
theorem dX5_image_13 : decode mX5_image.2.1 13 = .ok (.putfield 49, 3) := by decide +kernel
theorem dX5_image_16 : decode mX5_image.2.1 16 = .ok (.iconst 1, 1) := by decide +kernel
theorem dX5_image_17 : decode mX5_image.2.1 17 = .ok (.ireturn, 1) := by decide +kernel
theorem dX5_undo_0 : decode mX5_undo.2.1 0 = .ok (.aload_n 0, 1) := by decide +kernel
theorem dX5_undo_1 : decode mX5_undo.2.1 1 = .ok (.getfield 49, 3) := by decide +kernel
theorem dX5_undo_4 : decode mX5_undo.2.1 4 = .ok (.ifCond .ne 9, 3) := by decide +kernel
theorem dX5_undo_7 : decode mX5_undo.2.1 7 = .ok (.aload_n 0, 1) := by decide +kernel
theorem dX5_undo_8 : decode mX5_undo.2.1 8 = .ok (.iconst 3, 1) := by decide +kernel
theorem dX5_undo_9 : decode mX5_undo.2.1 9 = .ok (.invokevirtual 57, 3) := by decide +kernel
theorem dX5_undo_12 : decode mX5_undo.2.1 12 = .ok (.ireturn, 1) := by decide +kernel
theorem dX5_undo_13 : decode mX5_undo.2.1 13 = .ok (.aload_n 0, 1) := by decide +kernel
theorem dX5_undo_14 : decode mX5_undo.2.1 14 = .ok (.getfield 10, 3) := by decide +kernel
theorem dX5_undo_17 : decode mX5_undo.2.1 17 = .ok (.aload_n 0, 1) := by decide +kernel
theorem dX5_undo_18 : decode mX5_undo.2.1 18 = .ok (.getfield 16, 3) := by decide +kernel
theorem dX5_undo_21 : decode mX5_undo.2.1 21 = .ok (.invokevirtual 151, 3) := by decide +kernel
theorem dX5_undo_24 : decode mX5_undo.2.1 24 = .ok (.aload_n 0, 1) := by decide +kernel
theorem dX5_undo_25 : decode mX5_undo.2.1 25 = .ok (.getfield 10, 3) := by decide +kernel
theorem dX5_undo_28 : decode mX5_undo.2.1 28 = .ok (.getfield 131, 3) := by decide +kernel
theorem dX5_undo_31 : decode mX5_undo.2.1 31 = .ok (.ireturn, 1) := by decide +kernel
theorem dX5_tear_0 : decode mX5_tear.2.1 0 = .ok (.aload_n 0, 1) := by decide +kernel
theorem dX5_tear_1 : decode mX5_tear.2.1 1 = .ok (.getfield 49, 3) := by decide +kernel
theorem dX5_tear_4 : decode mX5_tear.2.1 4 = .ok (.ifCond .eq 7, 3) := by decide +kernel
theorem dX5_tear_7 : decode mX5_tear.2.1 7 = .ok (.iconst 1, 1) := by decide +kernel
theorem dX5_tear_8 : decode mX5_tear.2.1 8 = .ok (.goto 4, 3) := by decide +kernel
theorem dX5_tear_11 : decode mX5_tear.2.1 11 = .ok (.iconst 0, 1) := by decide +kernel
theorem dX5_tear_12 : decode mX5_tear.2.1 12 = .ok (.istore_n 1, 1) := by decide +kernel
theorem dX5_tear_13 : decode mX5_tear.2.1 13 = .ok (.aload_n 0, 1) := by decide +kernel
theorem dX5_tear_14 : decode mX5_tear.2.1 14 = .ok (.iconst 0, 1) := by decide +kernel
theorem dX5_tear_15 : decode mX5_tear.2.1 15 = .ok (.putfield 49, 3) := by decide +kernel
theorem dX5_tear_18 : decode mX5_tear.2.1 18 = .ok (.iload_n 1, 1) := by decide +kernel
theorem dX5_tear_19 : decode mX5_tear.2.1 19 = .ok (.ireturn, 1) := by decide +kernel
theorem dX5_count_0 : decode mX5_count.2.1 0 = .ok (.iload_n 1, 1) := by decide +kernel
theorem dX5_count_1 : decode mX5_count.2.1 1 = .ok (.tableswitch 116 0 7 #[47, 55, 63, 74, 83, 92, 100, 108], 47) := by decide +kernel
theorem dX5_count_48 : decode mX5_count.2.1 48 = .ok (.aload_n 0, 1) := by decide +kernel
theorem dX5_count_49 : decode mX5_count.2.1 49 = .ok (.getfield 10, 3) := by decide +kernel
theorem dX5_count_52 : decode mX5_count.2.1 52 = .ok (.getfield 131, 3) := by decide +kernel
theorem dX5_count_55 : decode mX5_count.2.1 55 = .ok (.ireturn, 1) := by decide +kernel
theorem dX5_count_56 : decode mX5_count.2.1 56 = .ok (.aload_n 0, 1) := by decide +kernel
theorem dX5_count_57 : decode mX5_count.2.1 57 = .ok (.getfield 10, 3) := by decide +kernel
theorem dX5_count_60 : decode mX5_count.2.1 60 = .ok (.getfield 172, 3) := by decide +kernel
theorem dX5_count_63 : decode mX5_count.2.1 63 = .ok (.ireturn, 1) := by decide +kernel
theorem dX5_count_64 : decode mX5_count.2.1 64 = .ok (.aload_n 0, 1) := by decide +kernel
theorem dX5_count_65 : decode mX5_count.2.1 65 = .ok (.getfield 10, 3) := by decide +kernel
theorem dX5_count_68 : decode mX5_count.2.1 68 = .ok (.invokevirtual 110, 3) := by decide +kernel
theorem dX5_count_71 : decode mX5_count.2.1 71 = .ok (.invokestatic 158, 3) := by decide +kernel
theorem dX5_count_74 : decode mX5_count.2.1 74 = .ok (.ireturn, 1) := by decide +kernel
theorem dX5_count_75 : decode mX5_count.2.1 75 = .ok (.aload_n 0, 1) := by decide +kernel
theorem dX5_count_76 : decode mX5_count.2.1 76 = .ok (.getfield 10, 3) := by decide +kernel
theorem dX5_count_79 : decode mX5_count.2.1 79 = .ok (.iconst 2, 1) := by decide +kernel
theorem dX5_count_80 : decode mX5_count.2.1 80 = .ok (.invokevirtual 138, 3) := by decide +kernel
theorem dX5_count_83 : decode mX5_count.2.1 83 = .ok (.ireturn, 1) := by decide +kernel
theorem dX5_count_84 : decode mX5_count.2.1 84 = .ok (.aload_n 0, 1) := by decide +kernel
theorem dX5_count_85 : decode mX5_count.2.1 85 = .ok (.getfield 10, 3) := by decide +kernel
theorem dX5_count_88 : decode mX5_count.2.1 88 = .ok (.iconst 3, 1) := by decide +kernel
theorem dX5_count_89 : decode mX5_count.2.1 89 = .ok (.invokevirtual 138, 3) := by decide +kernel
theorem dX5_count_92 : decode mX5_count.2.1 92 = .ok (.ireturn, 1) := by decide +kernel
theorem dX5_count_93 : decode mX5_count.2.1 93 = .ok (.aload_n 0, 1) := by decide +kernel
theorem dX5_count_94 : decode mX5_count.2.1 94 = .ok (.getfield 25, 3) := by decide +kernel
theorem dX5_count_97 : decode mX5_count.2.1 97 = .ok (.getfield 230, 3) := by decide +kernel
theorem dX5_count_100 : decode mX5_count.2.1 100 = .ok (.ireturn, 1) := by decide +kernel
theorem dX5_count_101 : decode mX5_count.2.1 101 = .ok (.aload_n 0, 1) := by decide +kernel
theorem dX5_count_102 : decode mX5_count.2.1 102 = .ok (.getfield 10, 3) := by decide +kernel
theorem dX5_count_105 : decode mX5_count.2.1 105 = .ok (.getfield 227, 3) := by decide +kernel
theorem dX5_count_108 : decode mX5_count.2.1 108 = .ok (.ireturn, 1) := by decide +kernel
theorem dX5_count_109 : decode mX5_count.2.1 109 = .ok (.aload_n 0, 1) := by decide +kernel
theorem dX5_count_110 : decode mX5_count.2.1 110 = .ok (.getfield 10, 3) := by decide +kernel
theorem dX5_count_113 : decode mX5_count.2.1 113 = .ok (.invokevirtual 273, 3) := by decide +kernel
theorem dX5_count_116 : decode mX5_count.2.1 116 = .ok (.ireturn, 1) := by decide +kernel
theorem dX5_count_117 : decode mX5_count.2.1 117 = .ok (.aload_n 0, 1) := by decide +kernel
theorem dX5_count_118 : decode mX5_count.2.1 118 = .ok (.iconst 0, 1) := by decide +kernel
theorem dX5_count_119 : decode mX5_count.2.1 119 = .ok (.invokevirtual 57, 3) := by decide +kernel
theorem dX5_count_122 : decode mX5_count.2.1 122 = .ok (.ireturn, 1) := by decide +kernel
theorem dX5_status_0 : decode mX5_status.2.1 0 = .ok (.iload_n 1, 1) := by decide +kernel
theorem dX5_status_1 : decode mX5_status.2.1 1 = .ok (.iconst (-1), 1) := by decide +kernel
theorem dX5_status_2 : decode mX5_status.2.1 2 = .ok (.bipush 6, 2) := by decide +kernel
theorem dX5_status_4 : decode mX5_status.2.1 4 = .ok (.invokestatic 53, 3) := by decide +kernel
theorem dX5_status_7 : decode mX5_status.2.1 7 = .ok (.ifCond .ne 9, 3) := by decide +kernel
theorem dX5_status_10 : decode mX5_status.2.1 10 = .ok (.aload_n 0, 1) := by decide +kernel
theorem dX5_status_11 : decode mX5_status.2.1 11 = .ok (.iconst 0, 1) := by decide +kernel
theorem dX5_status_12 : decode mX5_status.2.1 12 = .ok (.invokevirtual 57, 3) := by decide +kernel
theorem dX5_status_15 : decode mX5_status.2.1 15 = .ok (.ireturn, 1) := by decide +kernel
theorem dX5_status_16 : decode mX5_status.2.1 16 = .ok (.iload_n 1, 1) := by decide +kernel
theorem dX5_status_17 : decode mX5_status.2.1 17 = .ok (.ifCond .lt 10, 3) := by decide +kernel
theorem dX5_status_20 : decode mX5_status.2.1 20 = .ok (.aload_n 0, 1) := by decide +kernel
theorem dX5_status_21 : decode mX5_status.2.1 21 = .ok (.getfield 45, 3) := by decide +kernel
theorem dX5_status_24 : decode mX5_status.2.1 24 = .ok (.iload_n 1, 1) := by decide +kernel
theorem dX5_status_25 : decode mX5_status.2.1 25 = .ok (.iaload, 1) := by decide +kernel
theorem dX5_status_26 : decode mX5_status.2.1 26 = .ok (.ireturn, 1) := by decide +kernel
theorem dX5_status_27 : decode mX5_status.2.1 27 = .ok (.iconst 0, 1) := by decide +kernel
theorem dX5_status_28 : decode mX5_status.2.1 28 = .ok (.istore_n 2, 1) := by decide +kernel
theorem dX5_status_29 : decode mX5_status.2.1 29 = .ok (.iconst 0, 1) := by decide +kernel
theorem dX5_status_30 : decode mX5_status.2.1 30 = .ok (.istore_n 3, 1) := by decide +kernel
theorem dX5_status_31 : decode mX5_status.2.1 31 = .ok (.iload_n 3, 1) := by decide +kernel
theorem dX5_status_32 : decode mX5_status.2.1 32 = .ok (.bipush 7, 2) := by decide +kernel
theorem dX5_status_34 : decode mX5_status.2.1 34 = .ok (.if_icmp .ge 18, 3) := by decide +kernel
theorem dX5_status_37 : decode mX5_status.2.1 37 = .ok (.iload_n 2, 1) := by decide +kernel
theorem dX5_status_38 : decode mX5_status.2.1 38 = .ok (.aload_n 0, 1) := by decide +kernel
theorem dX5_status_39 : decode mX5_status.2.1 39 = .ok (.getfield 45, 3) := by decide +kernel
theorem dX5_status_42 : decode mX5_status.2.1 42 = .ok (.iload_n 3, 1) := by decide +kernel
theorem dX5_status_43 : decode mX5_status.2.1 43 = .ok (.iaload, 1) := by decide +kernel
theorem dX5_status_44 : decode mX5_status.2.1 44 = .ok (.iadd, 1) := by decide +kernel
theorem dX5_status_45 : decode mX5_status.2.1 45 = .ok (.istore_n 2, 1) := by decide +kernel
theorem dX5_status_46 : decode mX5_status.2.1 46 = .ok (.iinc 3 1, 3) := by decide +kernel
theorem dX5_status_49 : decode mX5_status.2.1 49 = .ok (.goto (-18), 3) := by decide +kernel
theorem dX5_status_52 : decode mX5_status.2.1 52 = .ok (.iload_n 2, 1) := by decide +kernel
theorem dX5_status_53 : decode mX5_status.2.1 53 = .ok (.ireturn, 1) := by decide +kernel
theorem dX5_finding_0 : decode mX5_finding.2.1 0 = .ok (.iload_n 1, 1) := by decide +kernel
theorem dX5_finding_1 : decode mX5_finding.2.1 1 = .ok (.iconst 0, 1) := by decide +kernel
theorem dX5_finding_2 : decode mX5_finding.2.1 2 = .ok (.bipush 6, 2) := by decide +kernel
theorem dX5_finding_4 : decode mX5_finding.2.1 4 = .ok (.invokestatic 53, 3) := by decide +kernel
theorem dX5_finding_7 : decode mX5_finding.2.1 7 = .ok (.ifCond .eq 13, 3) := by decide +kernel
theorem dX5_finding_10 : decode mX5_finding.2.1 10 = .ok (.aload_n 0, 1) := by decide +kernel
theorem dX5_finding_11 : decode mX5_finding.2.1 11 = .ok (.getfield 45, 3) := by decide +kernel
theorem dX5_finding_14 : decode mX5_finding.2.1 14 = .ok (.iload_n 1, 1) := by decide +kernel
theorem dX5_finding_15 : decode mX5_finding.2.1 15 = .ok (.dup2, 1) := by decide +kernel
theorem dX5_finding_16 : decode mX5_finding.2.1 16 = .ok (.iaload, 1) := by decide +kernel
theorem dX5_finding_17 : decode mX5_finding.2.1 17 = .ok (.iconst 1, 1) := by decide +kernel
theorem dX5_finding_18 : decode mX5_finding.2.1 18 = .ok (.iadd, 1) := by decide +kernel
theorem dX5_finding_19 : decode mX5_finding.2.1 19 = .ok (.iastore, 1) := by decide +kernel
theorem dX5_finding_20 : decode mX5_finding.2.1 20 = .ok (.ldc_w 276, 3) := by decide +kernel
theorem dX5_finding_23 : decode mX5_finding.2.1 23 = .ok (.iload_n 1, 1) := by decide +kernel
theorem dX5_finding_24 : decode mX5_finding.2.1 24 = .ok (.isub, 1) := by decide +kernel
theorem dX5_finding_25 : decode mX5_finding.2.1 25 = .ok (.ireturn, 1) := by decide +kernel
theorem dX5_refusalOfSheet_0 : decode mX5_refusalOfSheet.2.1 0 = .ok (.iload_n 1, 1) := by decide +kernel
theorem dX5_refusalOfSheet_1 : decode mX5_refusalOfSheet.2.1 1 = .ok (.iconst 0, 1) := by decide +kernel
theorem dX5_refusalOfSheet_2 : decode mX5_refusalOfSheet.2.1 2 = .ok (.iconst 3, 1) := by decide +kernel
theorem dX5_refusalOfSheet_3 : decode mX5_refusalOfSheet.2.1 3 = .ok (.invokestatic 53, 3) := by decide +kernel
theorem dX5_refusalOfSheet_6 : decode mX5_refusalOfSheet.2.1 6 = .ok (.ifCond .ne 5, 3) := by decide +kernel
theorem dX5_refusalOfSheet_9 : decode mX5_refusalOfSheet.2.1 9 = .ok (.iconst 0, 1) := by decide +kernel
theorem dX5_refusalOfSheet_10 : decode mX5_refusalOfSheet.2.1 10 = .ok (.ireturn, 1) := by decide +kernel
theorem dX5_refusalOfSheet_11 : decode mX5_refusalOfSheet.2.1 11 = .ok (.aload_n 0, 1) := by decide +kernel
theorem dX5_refusalOfSheet_12 : decode mX5_refusalOfSheet.2.1 12 = .ok (.getfield 40, 3) := by decide +kernel
theorem dX5_refusalOfSheet_15 : decode mX5_refusalOfSheet.2.1 15 = .ok (.iload_n 1, 1) := by decide +kernel
theorem dX5_refusalOfSheet_16 : decode mX5_refusalOfSheet.2.1 16 = .ok (.aaload, 1) := by decide +kernel
theorem dX5_refusalOfSheet_17 : decode mX5_refusalOfSheet.2.1 17 = .ok (.invokevirtual 255, 3) := by decide +kernel
theorem dX5_refusalOfSheet_20 : decode mX5_refusalOfSheet.2.1 20 = .ok (.ifCond .eq 7, 3) := by decide +kernel
theorem dX5_refusalOfSheet_23 : decode mX5_refusalOfSheet.2.1 23 = .ok (.iconst 5, 1) := by decide +kernel
theorem dX5_refusalOfSheet_24 : decode mX5_refusalOfSheet.2.1 24 = .ok (.goto 4, 3) := by decide +kernel
theorem dX5_refusalOfSheet_27 : decode mX5_refusalOfSheet.2.1 27 = .ok (.iconst (-1), 1) := by decide +kernel
theorem dX5_refusalOfSheet_28 : decode mX5_refusalOfSheet.2.1 28 = .ok (.ireturn, 1) := by decide +kernel
theorem dX5_trialBehind_0 : decode mX5_trialBehind.2.1 0 = .ok (.aload_n 0, 1) := by decide +kernel
theorem dX5_trialBehind_1 : decode mX5_trialBehind.2.1 1 = .ok (.getfield 19, 3) := by decide +kernel
theorem dX5_trialBehind_4 : decode mX5_trialBehind.2.1 4 = .ok (.aload_n 0, 1) := by decide +kernel
theorem dX5_trialBehind_5 : decode mX5_trialBehind.2.1 5 = .ok (.getfield 10, 3) := by decide +kernel
theorem dX5_trialBehind_8 : decode mX5_trialBehind.2.1 8 = .ok (.invokevirtual 151, 3) := by decide +kernel
theorem dX5_trialBehind_11 : decode mX5_trialBehind.2.1 11 = .ok (.iconst 0, 1) := by decide +kernel
theorem dX5_trialBehind_12 : decode mX5_trialBehind.2.1 12 = .ok (.istore_n 2, 1) := by decide +kernel
theorem dX5_trialBehind_13 : decode mX5_trialBehind.2.1 13 = .ok (.iload_n 2, 1) := by decide +kernel
theorem dX5_trialBehind_14 : decode mX5_trialBehind.2.1 14 = .ok (.iload_n 1, 1) := by decide +kernel
theorem dX5_trialBehind_15 : decode mX5_trialBehind.2.1 15 = .ok (.if_icmp .ge 16, 3) := by decide +kernel
theorem dX5_trialBehind_18 : decode mX5_trialBehind.2.1 18 = .ok (.aload_n 0, 1) := by decide +kernel
theorem dX5_trialBehind_19 : decode mX5_trialBehind.2.1 19 = .ok (.getfield 19, 3) := by decide +kernel
theorem dX5_trialBehind_22 : decode mX5_trialBehind.2.1 22 = .ok (.invokevirtual 135, 3) := by decide +kernel
theorem dX5_trialBehind_25 : decode mX5_trialBehind.2.1 25 = .ok (.iinc 2 1, 3) := by decide +kernel
theorem dX5_trialBehind_28 : decode mX5_trialBehind.2.1 28 = .ok (.goto (-15), 3) := by decide +kernel
theorem dX5_trialBehind_31 : decode mX5_trialBehind.2.1 31 = .ok (.aload_n 0, 1) := by decide +kernel
theorem dX5_trialBehind_32 : decode mX5_trialBehind.2.1 32 = .ok (.getfield 19, 3) := by decide +kernel
theorem dX5_trialBehind_35 : decode mX5_trialBehind.2.1 35 = .ok (.areturn, 1) := by decide +kernel
theorem dX5_isQuestion_0 : decode mX5_isQuestion.2.1 0 = .ok (.iload_n 0, 1) := by decide +kernel
theorem dX5_isQuestion_1 : decode mX5_isQuestion.2.1 1 = .ok (.bipush (-99), 2) := by decide +kernel
theorem dX5_isQuestion_3 : decode mX5_isQuestion.2.1 3 = .ok (.bipush 99, 2) := by decide +kernel
theorem dX5_isQuestion_5 : decode mX5_isQuestion.2.1 5 = .ok (.invokestatic 53, 3) := by decide +kernel
theorem dX5_isQuestion_8 : decode mX5_isQuestion.2.1 8 = .ok (.ireturn, 1) := by decide +kernel
theorem dX5_isAhead_0 : decode mX5_isAhead.2.1 0 = .ok (.iload_n 0, 1) := by decide +kernel
theorem dX5_isAhead_1 : decode mX5_isAhead.2.1 1 = .ok (.iconst 0, 1) := by decide +kernel
theorem dX5_isAhead_2 : decode mX5_isAhead.2.1 2 = .ok (.bipush 60, 2) := by decide +kernel
theorem dX5_isAhead_4 : decode mX5_isAhead.2.1 4 = .ok (.invokestatic 53, 3) := by decide +kernel
theorem dX5_isAhead_7 : decode mX5_isAhead.2.1 7 = .ok (.ireturn, 1) := by decide +kernel
theorem dX5_isIn_0 : decode mX5_isIn.2.1 0 = .ok (.iload_n 0, 1) := by decide +kernel
theorem dX5_isIn_1 : decode mX5_isIn.2.1 1 = .ok (.iload_n 1, 1) := by decide +kernel
theorem dX5_isIn_2 : decode mX5_isIn.2.1 2 = .ok (.ishr, 1) := by decide +kernel
theorem dX5_isIn_3 : decode mX5_isIn.2.1 3 = .ok (.iconst 1, 1) := by decide +kernel
theorem dX5_isIn_4 : decode mX5_isIn.2.1 4 = .ok (.iand, 1) := by decide +kernel
theorem dX5_isIn_5 : decode mX5_isIn.2.1 5 = .ok (.iconst 1, 1) := by decide +kernel
theorem dX5_isIn_6 : decode mX5_isIn.2.1 6 = .ok (.if_icmp .ne 7, 3) := by decide +kernel
theorem dX5_isIn_9 : decode mX5_isIn.2.1 9 = .ok (.iconst 1, 1) := by decide +kernel
theorem dX5_isIn_10 : decode mX5_isIn.2.1 10 = .ok (.goto 4, 3) := by decide +kernel
theorem dX5_isIn_13 : decode mX5_isIn.2.1 13 = .ok (.iconst 0, 1) := by decide +kernel
theorem dX5_isIn_14 : decode mX5_isIn.2.1 14 = .ok (.ireturn, 1) := by decide +kernel
theorem dX5_within_0 : decode mX5_within.2.1 0 = .ok (.iload_n 0, 1) := by decide +kernel
theorem dX5_within_1 : decode mX5_within.2.1 1 = .ok (.iload_n 1, 1) := by decide +kernel
theorem dX5_within_2 : decode mX5_within.2.1 2 = .ok (.if_icmp .lt 12, 3) := by decide +kernel
theorem dX5_within_5 : decode mX5_within.2.1 5 = .ok (.iload_n 0, 1) := by decide +kernel
theorem dX5_within_6 : decode mX5_within.2.1 6 = .ok (.iload_n 2, 1) := by decide +kernel
theorem dX5_within_7 : decode mX5_within.2.1 7 = .ok (.if_icmp .gt 7, 3) := by decide +kernel
theorem dX5_within_10 : decode mX5_within.2.1 10 = .ok (.iconst 1, 1) := by decide +kernel
theorem dX5_within_11 : decode mX5_within.2.1 11 = .ok (.goto 4, 3) := by decide +kernel
theorem dX5_within_14 : decode mX5_within.2.1 14 = .ok (.iconst 0, 1) := by decide +kernel
theorem dX5_within_15 : decode mX5_within.2.1 15 = .ok (.ireturn, 1) := by decide +kernel
