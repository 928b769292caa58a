theorem dX7_set_32 : decode cX7_set 32 = .ok (.aload_n 0, 1) := by decide +kernel
theorem dX7_set_33 : decode cX7_set 33 = .ok (.ldc 44, 2) := by decide +kernel
theorem dX7_set_35 : decode cX7_set 35 = .ok (.invokevirtual 57, 3) := by decide +kernel
theorem dX7_set_38 : decode cX7_set 38 = .ok (.ireturn, 1) := by decide +kernel
theorem dX7_turn_0 : decode cX7_turn 0 = .ok (.aload_n 0, 1) := by decide +kernel
theorem dX7_turn_1 : decode cX7_turn 1 = .ok (.iload_n 1, 1) := by decide +kernel
theorem dX7_turn_2 : decode cX7_turn 2 = .ok (.invokevirtual 99, 3) := by decide +kernel
theorem dX7_turn_5 : decode cX7_turn 5 = .ok (.ifCond .eq 24, 3) := by decide +kernel
theorem dX7_turn_8 : decode cX7_turn 8 = .ok (.iload_n 2, 1) := by decide +kernel
theorem dX7_turn_9 : decode cX7_turn 9 = .ok (.invokestatic 90, 3) := by decide +kernel
theorem dX7_turn_12 : decode cX7_turn 12 = .ok (.ifCond .eq 17, 3) := by decide +kernel
theorem dX7_turn_15 : decode cX7_turn 15 = .ok (.aload_n 0, 1) := by decide +kernel
theorem dX7_turn_16 : decode cX7_turn 16 = .ok (.bipush 18, 2) := by decide +kernel
theorem dX7_turn_18 : decode cX7_turn 18 = .ok (.iconst 5, 1) := by decide +kernel
theorem dX7_turn_19 : decode cX7_turn 19 = .ok (.iload_n 1, 1) := by decide +kernel
theorem dX7_turn_20 : decode cX7_turn 20 = .ok (.imul, 1) := by decide +kernel
theorem dX7_turn_21 : decode cX7_turn 21 = .ok (.iadd, 1) := by decide +kernel
theorem dX7_turn_22 : decode cX7_turn 22 = .ok (.iload_n 2, 1) := by decide +kernel
theorem dX7_turn_23 : decode cX7_turn 23 = .ok (.invokevirtual 53, 3) := by decide +kernel
theorem dX7_turn_26 : decode cX7_turn 26 = .ok (.goto 9, 3) := by decide +kernel
theorem dX7_turn_29 : decode cX7_turn 29 = .ok (.aload_n 0, 1) := by decide +kernel
theorem dX7_turn_30 : decode cX7_turn 30 = .ok (.ldc 44, 2) := by decide +kernel
theorem dX7_turn_32 : decode cX7_turn 32 = .ok (.invokevirtual 57, 3) := by decide +kernel
theorem dX7_turn_35 : decode cX7_turn 35 = .ok (.ireturn, 1) := by decide +kernel
theorem dX7_as_0 : decode cX7_as 0 = .ok (.aload_n 0, 1) := by decide +kernel
theorem dX7_as_1 : decode cX7_as 1 = .ok (.iload_n 1, 1) := by decide +kernel
theorem dX7_as_2 : decode cX7_as 2 = .ok (.invokevirtual 99, 3) := by decide +kernel
theorem dX7_as_5 : decode cX7_as 5 = .ok (.ifCond .eq 10, 3) := by decide +kernel
theorem dX7_as_8 : decode cX7_as 8 = .ok (.iload_n 2, 1) := by decide +kernel
theorem dX7_as_9 : decode cX7_as 9 = .ok (.invokestatic 90, 3) := by decide +kernel
theorem dX7_as_12 : decode cX7_as 12 = .ok (.ifCond .ne 10, 3) := by decide +kernel
theorem dX7_as_15 : decode cX7_as 15 = .ok (.aload_n 0, 1) := by decide +kernel
theorem dX7_as_16 : decode cX7_as 16 = .ok (.ldc 44, 2) := by decide +kernel
theorem dX7_as_18 : decode cX7_as 18 = .ok (.invokevirtual 57, 3) := by decide +kernel
theorem dX7_as_21 : decode cX7_as 21 = .ok (.ireturn, 1) := by decide +kernel
theorem dX7_as_22 : decode cX7_as 22 = .ok (.aload_n 0, 1) := by decide +kernel
theorem dX7_as_23 : decode cX7_as 23 = .ok (.iload_n 1, 1) := by decide +kernel
theorem dX7_as_24 : decode cX7_as 24 = .ok (.iconst 0, 1) := by decide +kernel
theorem dX7_as_25 : decode cX7_as 25 = .ok (.invokevirtual 64, 3) := by decide +kernel
theorem dX7_as_28 : decode cX7_as 28 = .ok (.istore_n 3, 1) := by decide +kernel
theorem dX7_as_29 : decode cX7_as 29 = .ok (.iload_n 2, 1) := by decide +kernel
theorem dX7_as_30 : decode cX7_as 30 = .ok (.ifCond .eq 28, 3) := by decide +kernel
theorem dX7_as_33 : decode cX7_as 33 = .ok (.iload_n 2, 1) := by decide +kernel
theorem dX7_as_34 : decode cX7_as 34 = .ok (.iload_n 3, 1) := by decide +kernel
theorem dX7_as_35 : decode cX7_as 35 = .ok (.if_icmp .eq 23, 3) := by decide +kernel
theorem dX7_as_38 : decode cX7_as 38 = .ok (.iload_n 2, 1) := by decide +kernel
theorem dX7_as_39 : decode cX7_as 39 = .ok (.iconst 1, 1) := by decide +kernel
theorem dX7_as_40 : decode cX7_as 40 = .ok (.if_icmp .ne 8, 3) := by decide +kernel
theorem dX7_as_43 : decode cX7_as 43 = .ok (.iload_n 3, 1) := by decide +kernel
theorem dX7_as_44 : decode cX7_as 44 = .ok (.iconst 4, 1) := by decide +kernel
theorem dX7_as_45 : decode cX7_as 45 = .ok (.if_icmp .eq 13, 3) := by decide +kernel
theorem dX7_as_48 : decode cX7_as 48 = .ok (.iload_n 2, 1) := by decide +kernel
theorem dX7_as_49 : decode cX7_as 49 = .ok (.iconst 2, 1) := by decide +kernel
theorem dX7_as_50 : decode cX7_as 50 = .ok (.if_icmp .ne 12, 3) := by decide +kernel
theorem dX7_as_53 : decode cX7_as 53 = .ok (.iload_n 3, 1) := by decide +kernel
theorem dX7_as_54 : decode cX7_as 54 = .ok (.iconst 5, 1) := by decide +kernel
theorem dX7_as_55 : decode cX7_as 55 = .ok (.if_icmp .ne 7, 3) := by decide +kernel
theorem dX7_as_58 : decode cX7_as 58 = .ok (.iconst 1, 1) := by decide +kernel
theorem dX7_as_59 : decode cX7_as 59 = .ok (.goto 4, 3) := by decide +kernel
theorem dX7_as_62 : decode cX7_as 62 = .ok (.iconst 0, 1) := by decide +kernel
theorem dX7_as_63 : decode cX7_as 63 = .ok (.istore 4, 2) := by decide +kernel
theorem dX7_as_65 : decode cX7_as 65 = .ok (.iload 4, 2) := by decide +kernel
theorem dX7_as_67 : decode cX7_as 67 = .ok (.ifCond .eq 12, 3) := by decide +kernel
theorem dX7_as_70 : decode cX7_as 70 = .ok (.aload_n 0, 1) := by decide +kernel
theorem dX7_as_71 : decode cX7_as 71 = .ok (.iload_n 1, 1) := by decide +kernel
theorem dX7_as_72 : decode cX7_as 72 = .ok (.iconst 2, 1) := by decide +kernel
theorem dX7_as_73 : decode cX7_as 73 = .ok (.invokevirtual 64, 3) := by decide +kernel
theorem dX7_as_76 : decode cX7_as 76 = .ok (.goto 9, 3) := by decide +kernel
theorem dX7_as_79 : decode cX7_as 79 = .ok (.aload_n 0, 1) := by decide +kernel
theorem dX7_as_80 : decode cX7_as 80 = .ok (.ldc 109, 2) := by decide +kernel
theorem dX7_as_82 : decode cX7_as 82 = .ok (.invokevirtual 57, 3) := by decide +kernel
theorem dX7_as_85 : decode cX7_as 85 = .ok (.ireturn, 1) := by decide +kernel
theorem dX7_looks_0 : decode cX7_looks 0 = .ok (.aload_n 0, 1) := by decide +kernel
theorem dX7_looks_1 : decode cX7_looks 1 = .ok (.iload_n 1, 1) := by decide +kernel
theorem dX7_looks_2 : decode cX7_looks 2 = .ok (.invokevirtual 99, 3) := by decide +kernel
theorem dX7_looks_5 : decode cX7_looks 5 = .ok (.ifCond .ne 10, 3) := by decide +kernel
theorem dX7_looks_8 : decode cX7_looks 8 = .ok (.aload_n 0, 1) := by decide +kernel
theorem dX7_looks_9 : decode cX7_looks 9 = .ok (.ldc 44, 2) := by decide +kernel
theorem dX7_looks_11 : decode cX7_looks 11 = .ok (.invokevirtual 57, 3) := by decide +kernel
theorem dX7_looks_14 : decode cX7_looks 14 = .ok (.ireturn, 1) := by decide +kernel
theorem dX7_looks_15 : decode cX7_looks 15 = .ok (.aload_n 0, 1) := by decide +kernel
theorem dX7_looks_16 : decode cX7_looks 16 = .ok (.getfield 7, 3) := by decide +kernel
theorem dX7_looks_19 : decode cX7_looks 19 = .ok (.iconst 4, 1) := by decide +kernel
theorem dX7_looks_20 : decode cX7_looks 20 = .ok (.iaload, 1) := by decide +kernel
theorem dX7_looks_21 : decode cX7_looks 21 = .ok (.ifCond .ne 10, 3) := by decide +kernel
theorem dX7_looks_24 : decode cX7_looks 24 = .ok (.aload_n 0, 1) := by decide +kernel
theorem dX7_looks_25 : decode cX7_looks 25 = .ok (.ldc 95, 2) := by decide +kernel
theorem dX7_looks_27 : decode cX7_looks 27 = .ok (.invokevirtual 57, 3) := by decide +kernel
theorem dX7_looks_30 : decode cX7_looks 30 = .ok (.ireturn, 1) := by decide +kernel
theorem dX7_looks_31 : decode cX7_looks 31 = .ok (.aload_n 0, 1) := by decide +kernel
theorem dX7_looks_32 : decode cX7_looks 32 = .ok (.iload_n 1, 1) := by decide +kernel
theorem dX7_looks_33 : decode cX7_looks 33 = .ok (.invokevirtual 67, 3) := by decide +kernel
theorem dX7_looks_36 : decode cX7_looks 36 = .ok (.istore_n 2, 1) := by decide +kernel
theorem dX7_looks_37 : decode cX7_looks 37 = .ok (.aload_n 0, 1) := by decide +kernel
theorem dX7_looks_38 : decode cX7_looks 38 = .ok (.iload_n 1, 1) := by decide +kernel
theorem dX7_looks_39 : decode cX7_looks 39 = .ok (.iconst 4, 1) := by decide +kernel
theorem dX7_looks_40 : decode cX7_looks 40 = .ok (.aload_n 0, 1) := by decide +kernel
theorem dX7_looks_41 : decode cX7_looks 41 = .ok (.iload_n 1, 1) := by decide +kernel
theorem dX7_looks_42 : decode cX7_looks 42 = .ok (.iconst 4, 1) := by decide +kernel
theorem dX7_looks_43 : decode cX7_looks 43 = .ok (.invokevirtual 64, 3) := by decide +kernel
theorem dX7_looks_46 : decode cX7_looks 46 = .ok (.iconst 1, 1) := by decide +kernel
theorem dX7_looks_47 : decode cX7_looks 47 = .ok (.iadd, 1) := by decide +kernel
theorem dX7_looks_48 : decode cX7_looks 48 = .ok (.iconst 0, 1) := by decide +kernel
theorem dX7_looks_49 : decode cX7_looks 49 = .ok (.sipush 9999, 3) := by decide +kernel
theorem dX7_looks_52 : decode cX7_looks 52 = .ok (.invokestatic 60, 3) := by decide +kernel
theorem dX7_looks_55 : decode cX7_looks 55 = .ok (.invokevirtual 83, 3) := by decide +kernel
theorem dX7_looks_58 : decode cX7_looks 58 = .ok (.iload_n 2, 1) := by decide +kernel
theorem dX7_looks_59 : decode cX7_looks 59 = .ok (.ireturn, 1) := by decide +kernel
theorem dX7_over_0 : decode cX7_over 0 = .ok (.aload_n 0, 1) := by decide +kernel
theorem dX7_over_1 : decode cX7_over 1 = .ok (.iload_n 1, 1) := by decide +kernel
theorem dX7_over_2 : decode cX7_over 2 = .ok (.invokevirtual 99, 3) := by decide +kernel
theorem dX7_over_5 : decode cX7_over 5 = .ok (.ifCond .ne 10, 3) := by decide +kernel
theorem dX7_over_8 : decode cX7_over 8 = .ok (.aload_n 0, 1) := by decide +kernel
theorem dX7_over_9 : decode cX7_over 9 = .ok (.ldc 44, 2) := by decide +kernel
theorem dX7_over_11 : decode cX7_over 11 = .ok (.invokevirtual 57, 3) := by decide +kernel
theorem dX7_over_14 : decode cX7_over 14 = .ok (.ireturn, 1) := by decide +kernel
theorem dX7_over_15 : decode cX7_over 15 = .ok (.aload_n 0, 1) := by decide +kernel
theorem dX7_over_16 : decode cX7_over 16 = .ok (.iload_n 1, 1) := by decide +kernel
theorem dX7_over_17 : decode cX7_over 17 = .ok (.iconst 0, 1) := by decide +kernel
theorem dX7_over_18 : decode cX7_over 18 = .ok (.invokevirtual 64, 3) := by decide +kernel
theorem dX7_over_21 : decode cX7_over 21 = .ok (.aload_n 0, 1) := by decide +kernel
theorem dX7_over_22 : decode cX7_over 22 = .ok (.iload_n 1, 1) := by decide +kernel
theorem dX7_over_23 : decode cX7_over 23 = .ok (.iconst 1, 1) := by decide +kernel
theorem dX7_over_24 : decode cX7_over 24 = .ok (.invokevirtual 64, 3) := by decide +kernel
theorem dX7_over_27 : decode cX7_over 27 = .ok (.invokestatic 80, 3) := by decide +kernel
theorem dX7_over_30 : decode cX7_over 30 = .ok (.istore_n 2, 1) := by decide +kernel
theorem dX7_over_31 : decode cX7_over 31 = .ok (.iload_n 2, 1) := by decide +kernel
theorem dX7_over_32 : decode cX7_over 32 = .ok (.aload_n 0, 1) := by decide +kernel
theorem dX7_over_33 : decode cX7_over 33 = .ok (.getfield 7, 3) := by decide +kernel
theorem dX7_over_36 : decode cX7_over 36 = .ok (.iconst 3, 1) := by decide +kernel
theorem dX7_over_37 : decode cX7_over 37 = .ok (.iaload, 1) := by decide +kernel
theorem dX7_over_38 : decode cX7_over 38 = .ok (.if_icmp .le 10, 3) := by decide +kernel
theorem dX7_over_41 : decode cX7_over 41 = .ok (.aload_n 0, 1) := by decide +kernel
theorem dX7_over_42 : decode cX7_over 42 = .ok (.ldc 95, 2) := by decide +kernel
theorem dX7_over_44 : decode cX7_over 44 = .ok (.invokevirtual 57, 3) := by decide +kernel
theorem dX7_over_47 : decode cX7_over 47 = .ok (.ireturn, 1) := by decide +kernel
theorem dX7_over_48 : decode cX7_over 48 = .ok (.aload_n 0, 1) := by decide +kernel
theorem dX7_over_49 : decode cX7_over 49 = .ok (.getfield 7, 3) := by decide +kernel
theorem dX7_over_52 : decode cX7_over 52 = .ok (.iconst 3, 1) := by decide +kernel
theorem dX7_over_53 : decode cX7_over 53 = .ok (.dup2, 1) := by decide +kernel
theorem dX7_over_54 : decode cX7_over 54 = .ok (.iaload, 1) := by decide +kernel
theorem dX7_over_55 : decode cX7_over 55 = .ok (.iload_n 2, 1) := by decide +kernel
theorem dX7_over_56 : decode cX7_over 56 = .ok (.isub, 1) := by decide +kernel
theorem dX7_over_57 : decode cX7_over 57 = .ok (.iastore, 1) := by decide +kernel
theorem dX7_over_58 : decode cX7_over 58 = .ok (.aload_n 0, 1) := by decide +kernel
theorem dX7_over_59 : decode cX7_over 59 = .ok (.iload_n 1, 1) := by decide +kernel
theorem dX7_over_60 : decode cX7_over 60 = .ok (.iconst 2, 1) := by decide +kernel
theorem dX7_over_61 : decode cX7_over 61 = .ok (.aload_n 0, 1) := by decide +kernel
theorem dX7_over_62 : decode cX7_over 62 = .ok (.iload_n 1, 1) := by decide +kernel
theorem dX7_over_63 : decode cX7_over 63 = .ok (.iconst 0, 1) := by decide +kernel
theorem dX7_over_64 : decode cX7_over 64 = .ok (.invokevirtual 64, 3) := by decide +kernel
theorem dX7_over_67 : decode cX7_over 67 = .ok (.aload_n 0, 1) := by decide +kernel
theorem dX7_over_68 : decode cX7_over 68 = .ok (.invokevirtual 70, 3) := by decide +kernel
theorem dX7_over_71 : decode cX7_over 71 = .ok (.invokestatic 87, 3) := by decide +kernel
theorem dX7_over_74 : decode cX7_over 74 = .ok (.invokevirtual 83, 3) := by decide +kernel
theorem dX7_over_77 : decode cX7_over 77 = .ok (.aload_n 0, 1) := by decide +kernel
theorem dX7_over_78 : decode cX7_over 78 = .ok (.iload_n 1, 1) := by decide +kernel
theorem dX7_over_79 : decode cX7_over 79 = .ok (.iconst 4, 1) := by decide +kernel
theorem dX7_over_80 : decode cX7_over 80 = .ok (.iconst 0, 1) := by decide +kernel
theorem dX7_over_81 : decode cX7_over 81 = .ok (.invokevirtual 83, 3) := by decide +kernel
theorem dX7_over_84 : decode cX7_over 84 = .ok (.aload_n 0, 1) := by decide +kernel
theorem dX7_over_85 : decode cX7_over 85 = .ok (.iload_n 1, 1) := by decide +kernel
theorem dX7_over_86 : decode cX7_over 86 = .ok (.iconst 2, 1) := by decide +kernel
theorem dX7_over_87 : decode cX7_over 87 = .ok (.invokevirtual 64, 3) := by decide +kernel
theorem dX7_over_90 : decode cX7_over 90 = .ok (.ireturn, 1) := by decide +kernel
theorem dX7_oneNight_0 : decode cX7_oneNight 0 = .ok (.aload_n 0, 1) := by decide +kernel
theorem dX7_oneNight_1 : decode cX7_oneNight 1 = .ok (.getfield 7, 3) := by decide +kernel
theorem dX7_oneNight_4 : decode cX7_oneNight 4 = .ok (.iconst 2, 1) := by decide +kernel
theorem dX7_oneNight_5 : decode cX7_oneNight 5 = .ok (.iaload, 1) := by decide +kernel
theorem dX7_oneNight_6 : decode cX7_oneNight 6 = .ok (.aload_n 0, 1) := by decide +kernel
theorem dX7_oneNight_7 : decode cX7_oneNight 7 = .ok (.invokevirtual 70, 3) := by decide +kernel
theorem dX7_oneNight_10 : decode cX7_oneNight 10 = .ok (.aload_n 0, 1) := by decide +kernel
theorem dX7_oneNight_11 : decode cX7_oneNight 11 = .ok (.getfield 7, 3) := by decide +kernel
theorem dX7_oneNight_14 : decode cX7_oneNight 14 = .ok (.iconst 1, 1) := by decide +kernel
theorem dX7_oneNight_15 : decode cX7_oneNight 15 = .ok (.iaload, 1) := by decide +kernel
theorem dX7_oneNight_16 : decode cX7_oneNight 16 = .ok (.imul, 1) := by decide +kernel
theorem dX7_oneNight_17 : decode cX7_oneNight 17 = .ok (.iadd, 1) := by decide +kernel
theorem dX7_oneNight_18 : decode cX7_oneNight 18 = .ok (.istore_n 1, 1) := by decide +kernel
theorem dX7_oneNight_19 : decode cX7_oneNight 19 = .ok (.aload_n 0, 1) := by decide +kernel
theorem dX7_oneNight_20 : decode cX7_oneNight 20 = .ok (.getfield 7, 3) := by decide +kernel
theorem dX7_oneNight_23 : decode cX7_oneNight 23 = .ok (.iconst 3, 1) := by decide +kernel
theorem dX7_oneNight_24 : decode cX7_oneNight 24 = .ok (.aload_n 0, 1) := by decide +kernel
theorem dX7_oneNight_25 : decode cX7_oneNight 25 = .ok (.getfield 7, 3) := by decide +kernel
theorem dX7_oneNight_28 : decode cX7_oneNight 28 = .ok (.iconst 3, 1) := by decide +kernel
theorem dX7_oneNight_29 : decode cX7_oneNight 29 = .ok (.iaload, 1) := by decide +kernel
theorem dX7_oneNight_30 : decode cX7_oneNight 30 = .ok (.iload_n 1, 1) := by decide +kernel
theorem dX7_oneNight_31 : decode cX7_oneNight 31 = .ok (.bipush 9, 2) := by decide +kernel
theorem dX7_oneNight_33 : decode cX7_oneNight 33 = .ok (.idiv, 1) := by decide +kernel
theorem dX7_oneNight_34 : decode cX7_oneNight 34 = .ok (.iadd, 1) := by decide +kernel
theorem dX7_oneNight_35 : decode cX7_oneNight 35 = .ok (.iconst 0, 1) := by decide +kernel
theorem dX7_oneNight_36 : decode cX7_oneNight 36 = .ok (.sipush 999, 3) := by decide +kernel
theorem dX7_oneNight_39 : decode cX7_oneNight 39 = .ok (.invokestatic 60, 3) := by decide +kernel
theorem dX7_oneNight_42 : decode cX7_oneNight 42 = .ok (.iastore, 1) := by decide +kernel
theorem dX7_oneNight_43 : decode cX7_oneNight 43 = .ok (.aload_n 0, 1) := by decide +kernel
theorem dX7_oneNight_44 : decode cX7_oneNight 44 = .ok (.getfield 7, 3) := by decide +kernel
theorem dX7_oneNight_47 : decode cX7_oneNight 47 = .ok (.iconst 2, 1) := by decide +kernel
theorem dX7_oneNight_48 : decode cX7_oneNight 48 = .ok (.iload_n 1, 1) := by decide +kernel
theorem dX7_oneNight_49 : decode cX7_oneNight 49 = .ok (.bipush 9, 2) := by decide +kernel
theorem dX7_oneNight_51 : decode cX7_oneNight 51 = .ok (.irem, 1) := by decide +kernel
theorem dX7_oneNight_52 : decode cX7_oneNight 52 = .ok (.iastore, 1) := by decide +kernel
theorem dX7_oneNight_53 : decode cX7_oneNight 53 = .ok (.iconst 0, 1) := by decide +kernel
theorem dX7_oneNight_54 : decode cX7_oneNight 54 = .ok (.istore_n 2, 1) := by decide +kernel
theorem dX7_oneNight_55 : decode cX7_oneNight 55 = .ok (.iload_n 2, 1) := by decide +kernel
theorem dX7_oneNight_56 : decode cX7_oneNight 56 = .ok (.aload_n 0, 1) := by decide +kernel
theorem dX7_oneNight_57 : decode cX7_oneNight 57 = .ok (.getfield 7, 3) := by decide +kernel
theorem dX7_oneNight_60 : decode cX7_oneNight 60 = .ok (.iconst 5, 1) := by decide +kernel
theorem dX7_oneNight_61 : decode cX7_oneNight 61 = .ok (.iaload, 1) := by decide +kernel
theorem dX7_oneNight_62 : decode cX7_oneNight 62 = .ok (.if_icmp .ge 33, 3) := by decide +kernel
theorem dX7_oneNight_65 : decode cX7_oneNight 65 = .ok (.aload_n 0, 1) := by decide +kernel
theorem dX7_oneNight_66 : decode cX7_oneNight 66 = .ok (.iload_n 2, 1) := by decide +kernel
theorem dX7_oneNight_67 : decode cX7_oneNight 67 = .ok (.iconst 2, 1) := by decide +kernel
theorem dX7_oneNight_68 : decode cX7_oneNight 68 = .ok (.aload_n 0, 1) := by decide +kernel
theorem dX7_oneNight_69 : decode cX7_oneNight 69 = .ok (.iload_n 2, 1) := by decide +kernel
theorem dX7_oneNight_70 : decode cX7_oneNight 70 = .ok (.iconst 2, 1) := by decide +kernel
theorem dX7_oneNight_71 : decode cX7_oneNight 71 = .ok (.invokevirtual 64, 3) := by decide +kernel
theorem dX7_oneNight_74 : decode cX7_oneNight 74 = .ok (.aload_n 0, 1) := by decide +kernel
theorem dX7_oneNight_75 : decode cX7_oneNight 75 = .ok (.iload_n 2, 1) := by decide +kernel
theorem dX7_oneNight_76 : decode cX7_oneNight 76 = .ok (.invokevirtual 102, 3) := by decide +kernel
theorem dX7_oneNight_79 : decode cX7_oneNight 79 = .ok (.isub, 1) := by decide +kernel
theorem dX7_oneNight_80 : decode cX7_oneNight 80 = .ok (.iconst 0, 1) := by decide +kernel
theorem dX7_oneNight_81 : decode cX7_oneNight 81 = .ok (.bipush 99, 2) := by decide +kernel
theorem dX7_oneNight_83 : decode cX7_oneNight 83 = .ok (.invokestatic 60, 3) := by decide +kernel
theorem dX7_oneNight_86 : decode cX7_oneNight 86 = .ok (.invokevirtual 83, 3) := by decide +kernel
theorem dX7_oneNight_89 : decode cX7_oneNight 89 = .ok (.iinc 2 1, 3) := by decide +kernel
theorem dX7_oneNight_92 : decode cX7_oneNight 92 = .ok (.goto (-37), 3) := by decide +kernel
theorem dX7_oneNight_95 : decode cX7_oneNight 95 = .ok (.aload_n 0, 1) := by decide +kernel
theorem dX7_oneNight_96 : decode cX7_oneNight 96 = .ok (.getfield 7, 3) := by decide +kernel
theorem dX7_oneNight_99 : decode cX7_oneNight 99 = .ok (.iconst 0, 1) := by decide +kernel
theorem dX7_oneNight_100 : decode cX7_oneNight 100 = .ok (.dup2, 1) := by decide +kernel
theorem dX7_oneNight_101 : decode cX7_oneNight 101 = .ok (.iaload, 1) := by decide +kernel
theorem dX7_oneNight_102 : decode cX7_oneNight 102 = .ok (.iconst 1, 1) := by decide +kernel
theorem dX7_oneNight_103 : decode cX7_oneNight 103 = .ok (.iadd, 1) := by decide +kernel
theorem dX7_oneNight_104 : decode cX7_oneNight 104 = .ok (.iastore, 1) := by decide +kernel
theorem dX7_oneNight_105 : decode cX7_oneNight 105 = .ok (.return_, 1) := by decide +kernel
theorem dX7_passes_0 : decode cX7_passes 0 = .ok (.iconst 0, 1) := by decide +kernel
theorem dX7_passes_1 : decode cX7_passes 1 = .ok (.istore_n 2, 1) := by decide +kernel
theorem dX7_passes_2 : decode cX7_passes 2 = .ok (.iload_n 2, 1) := by decide +kernel
theorem dX7_passes_3 : decode cX7_passes 3 = .ok (.iload_n 1, 1) := by decide +kernel
theorem dX7_passes_4 : decode cX7_passes 4 = .ok (.if_icmp .ge 13, 3) := by decide +kernel
theorem dX7_passes_7 : decode cX7_passes 7 = .ok (.aload_n 0, 1) := by decide +kernel
theorem dX7_passes_8 : decode cX7_passes 8 = .ok (.invokevirtual 110, 3) := by decide +kernel
theorem dX7_passes_11 : decode cX7_passes 11 = .ok (.iinc 2 1, 3) := by decide +kernel
theorem dX7_passes_14 : decode cX7_passes 14 = .ok (.goto (-12), 3) := by decide +kernel
theorem dX7_passes_17 : decode cX7_passes 17 = .ok (.return_, 1) := by decide +kernel
theorem dX7_nights_0 : decode cX7_nights 0 = .ok (.iload_n 1, 1) := by decide +kernel
theorem dX7_nights_1 : decode cX7_nights 1 = .ok (.iconst 1, 1) := by decide +kernel
theorem dX7_nights_2 : decode cX7_nights 2 = .ok (.bipush 100, 2) := by decide +kernel
theorem dX7_nights_4 : decode cX7_nights 4 = .ok (.invokestatic 45, 3) := by decide +kernel
theorem dX7_nights_7 : decode cX7_nights 7 = .ok (.ifCond .ne 10, 3) := by decide +kernel
theorem dX7_nights_10 : decode cX7_nights 10 = .ok (.aload_n 0, 1) := by decide +kernel
theorem dX7_nights_11 : decode cX7_nights 11 = .ok (.ldc 44, 2) := by decide +kernel
theorem dX7_nights_13 : decode cX7_nights 13 = .ok (.invokevirtual 57, 3) := by decide +kernel
theorem dX7_nights_16 : decode cX7_nights 16 = .ok (.ireturn, 1) := by decide +kernel
theorem dX7_nights_17 : decode cX7_nights 17 = .ok (.aload_n 0, 1) := by decide +kernel
theorem dX7_nights_18 : decode cX7_nights 18 = .ok (.getfield 7, 3) := by decide +kernel
theorem dX7_nights_21 : decode cX7_nights 21 = .ok (.iconst 0, 1) := by decide +kernel
theorem dX7_nights_22 : decode cX7_nights 22 = .ok (.iaload, 1) := by decide +kernel
theorem dX7_nights_23 : decode cX7_nights 23 = .ok (.iload_n 1, 1) := by decide +kernel
theorem dX7_nights_24 : decode cX7_nights 24 = .ok (.iadd, 1) := by decide +kernel
theorem dX7_nights_25 : decode cX7_nights 25 = .ok (.sipush 9999, 3) := by decide +kernel
theorem dX7_nights_28 : decode cX7_nights 28 = .ok (.if_icmp .le 10, 3) := by decide +kernel
theorem dX7_nights_31 : decode cX7_nights 31 = .ok (.aload_n 0, 1) := by decide +kernel
theorem dX7_nights_32 : decode cX7_nights 32 = .ok (.ldc 95, 2) := by decide +kernel
theorem dX7_nights_34 : decode cX7_nights 34 = .ok (.invokevirtual 57, 3) := by decide +kernel
theorem dX7_nights_37 : decode cX7_nights 37 = .ok (.ireturn, 1) := by decide +kernel
theorem dX7_nights_38 : decode cX7_nights 38 = .ok (.aload_n 0, 1) := by decide +kernel
theorem dX7_nights_39 : decode cX7_nights 39 = .ok (.iload_n 1, 1) := by decide +kernel
theorem dX7_nights_40 : decode cX7_nights 40 = .ok (.invokevirtual 113, 3) := by decide +kernel
theorem dX7_nights_43 : decode cX7_nights 43 = .ok (.aload_n 0, 1) := by decide +kernel
theorem dX7_nights_44 : decode cX7_nights 44 = .ok (.getfield 7, 3) := by decide +kernel
theorem dX7_nights_47 : decode cX7_nights 47 = .ok (.iconst 3, 1) := by decide +kernel
theorem dX7_nights_48 : decode cX7_nights 48 = .ok (.iaload, 1) := by decide +kernel
theorem dX7_nights_49 : decode cX7_nights 49 = .ok (.ireturn, 1) := by decide +kernel
theorem dX7_behind_0 : decode cX7_behind 0 = .ok (.aload_n 0, 1) := by decide +kernel
theorem dX7_behind_1 : decode cX7_behind 1 = .ok (.iload_n 1, 1) := by decide +kernel
theorem dX7_behind_2 : decode cX7_behind 2 = .ok (.invokevirtual 113, 3) := by decide +kernel
theorem dX7_behind_5 : decode cX7_behind 5 = .ok (.iload_n 2, 1) := by decide +kernel
theorem dX7_behind_6 : decode cX7_behind 6 = .ok (.ifCond .ne 12, 3) := by decide +kernel
theorem dX7_behind_9 : decode cX7_behind 9 = .ok (.aload_n 0, 1) := by decide +kernel
theorem dX7_behind_10 : decode cX7_behind 10 = .ok (.getfield 7, 3) := by decide +kernel
theorem dX7_behind_13 : decode cX7_behind 13 = .ok (.iconst 3, 1) := by decide +kernel
theorem dX7_behind_14 : decode cX7_behind 14 = .ok (.iaload, 1) := by decide +kernel
theorem dX7_behind_15 : decode cX7_behind 15 = .ok (.goto 34, 3) := by decide +kernel
theorem dX7_behind_18 : decode cX7_behind 18 = .ok (.iload_n 2, 1) := by decide +kernel
theorem dX7_behind_19 : decode cX7_behind 19 = .ok (.iconst 1, 1) := by decide +kernel
theorem dX7_behind_20 : decode cX7_behind 20 = .ok (.if_icmp .ne 10, 3) := by decide +kernel
theorem dX7_behind_23 : decode cX7_behind 23 = .ok (.aload_n 0, 1) := by decide +kernel
theorem dX7_behind_24 : decode cX7_behind 24 = .ok (.invokevirtual 77, 3) := by decide +kernel
theorem dX7_behind_27 : decode cX7_behind 27 = .ok (.goto 22, 3) := by decide +kernel
theorem dX7_behind_30 : decode cX7_behind 30 = .ok (.iload_n 2, 1) := by decide +kernel
theorem dX7_behind_31 : decode cX7_behind 31 = .ok (.iconst 2, 1) := by decide +kernel
theorem dX7_behind_32 : decode cX7_behind 32 = .ok (.if_icmp .ne 12, 3) := by decide +kernel
theorem dX7_behind_35 : decode cX7_behind 35 = .ok (.aload_n 0, 1) := by decide +kernel
theorem dX7_behind_36 : decode cX7_behind 36 = .ok (.iload_n 3, 1) := by decide +kernel
theorem dX7_behind_37 : decode cX7_behind 37 = .ok (.iconst 2, 1) := by decide +kernel
theorem dX7_behind_38 : decode cX7_behind 38 = .ok (.invokevirtual 64, 3) := by decide +kernel
theorem dX7_behind_41 : decode cX7_behind 41 = .ok (.goto 8, 3) := by decide +kernel
theorem dX7_behind_44 : decode cX7_behind 44 = .ok (.aload_n 0, 1) := by decide +kernel
theorem dX7_behind_45 : decode cX7_behind 45 = .ok (.iload_n 3, 1) := by decide +kernel
theorem dX7_behind_46 : decode cX7_behind 46 = .ok (.invokevirtual 67, 3) := by decide +kernel
theorem dX7_behind_49 : decode cX7_behind 49 = .ok (.istore 4, 2) := by decide +kernel
theorem dX7_behind_51 : decode cX7_behind 51 = .ok (.aload_n 0, 1) := by decide +kernel
theorem dX7_behind_52 : decode cX7_behind 52 = .ok (.iconst 0, 1) := by decide +kernel
theorem dX7_behind_53 : decode cX7_behind 53 = .ok (.aload_n 0, 1) := by decide +kernel
theorem dX7_behind_54 : decode cX7_behind 54 = .ok (.getfield 16, 3) := by decide +kernel
theorem dX7_behind_57 : decode cX7_behind 57 = .ok (.invokevirtual 117, 3) := by decide +kernel
theorem dX7_behind_60 : decode cX7_behind 60 = .ok (.iload 4, 2) := by decide +kernel
theorem dX7_behind_62 : decode cX7_behind 62 = .ok (.ireturn, 1) := by decide +kernel
theorem dX7_ink_0 : decode cX7_ink 0 = .ok (.iload_n 1, 1) := by decide +kernel
theorem dX7_ink_1 : decode cX7_ink 1 = .ok (.iconst 0, 1) := by decide +kernel
theorem dX7_ink_2 : decode cX7_ink 2 = .ok (.sipush 200, 3) := by decide +kernel
theorem dX7_ink_5 : decode cX7_ink 5 = .ok (.invokestatic 45, 3) := by decide +kernel
theorem dX7_ink_8 : decode cX7_ink 8 = .ok (.ifCond .ne 10, 3) := by decide +kernel
theorem dX7_ink_11 : decode cX7_ink 11 = .ok (.aload_n 0, 1) := by decide +kernel
theorem dX7_ink_12 : decode cX7_ink 12 = .ok (.ldc 44, 2) := by decide +kernel
theorem dX7_ink_14 : decode cX7_ink 14 = .ok (.invokevirtual 57, 3) := by decide +kernel
theorem dX7_ink_17 : decode cX7_ink 17 = .ok (.ireturn, 1) := by decide +kernel
theorem dX7_ink_18 : decode cX7_ink 18 = .ok (.aload_n 0, 1) := by decide +kernel
theorem dX7_ink_19 : decode cX7_ink 19 = .ok (.iconst 1, 1) := by decide +kernel
theorem dX7_ink_20 : decode cX7_ink 20 = .ok (.aload_n 0, 1) := by decide +kernel
theorem dX7_ink_21 : decode cX7_ink 21 = .ok (.getfield 16, 3) := by decide +kernel
theorem dX7_ink_24 : decode cX7_ink 24 = .ok (.invokevirtual 117, 3) := by decide +kernel
theorem dX7_ink_27 : decode cX7_ink 27 = .ok (.aload_n 0, 1) := by decide +kernel
theorem dX7_ink_28 : decode cX7_ink 28 = .ok (.iload_n 1, 1) := by decide +kernel
theorem dX7_ink_29 : decode cX7_ink 29 = .ok (.iconst 0, 1) := by decide +kernel
theorem dX7_ink_30 : decode cX7_ink 30 = .ok (.iconst 0, 1) := by decide +kernel
theorem dX7_ink_31 : decode cX7_ink 31 = .ok (.invokevirtual 121, 3) := by decide +kernel
theorem dX7_ink_34 : decode cX7_ink 34 = .ok (.ireturn, 1) := by decide +kernel
theorem dX7_on_0 : decode cX7_on 0 = .ok (.aload_n 0, 1) := by decide +kernel
theorem dX7_on_1 : decode cX7_on 1 = .ok (.iload_n 1, 1) := by decide +kernel
theorem dX7_on_2 : decode cX7_on 2 = .ok (.invokevirtual 99, 3) := by decide +kernel
theorem dX7_on_5 : decode cX7_on 5 = .ok (.ifCond .eq 23, 3) := by decide +kernel
theorem dX7_on_8 : decode cX7_on 8 = .ok (.iload_n 2, 1) := by decide +kernel
theorem dX7_on_9 : decode cX7_on 9 = .ok (.iconst 0, 1) := by decide +kernel
theorem dX7_on_10 : decode cX7_on 10 = .ok (.sipush 200, 3) := by decide +kernel
theorem dX7_on_13 : decode cX7_on 13 = .ok (.invokestatic 45, 3) := by decide +kernel
theorem dX7_on_16 : decode cX7_on 16 = .ok (.ifCond .eq 12, 3) := by decide +kernel
theorem dX7_on_19 : decode cX7_on 19 = .ok (.iload_n 3, 1) := by decide +kernel
theorem dX7_on_20 : decode cX7_on 20 = .ok (.iconst 0, 1) := by decide +kernel
theorem dX7_on_21 : decode cX7_on 21 = .ok (.iconst 1, 1) := by decide +kernel
theorem dX7_on_22 : decode cX7_on 22 = .ok (.invokestatic 45, 3) := by decide +kernel
theorem dX7_on_25 : decode cX7_on 25 = .ok (.ifCond .ne 10, 3) := by decide +kernel
theorem dX7_on_28 : decode cX7_on 28 = .ok (.aload_n 0, 1) := by decide +kernel
theorem dX7_on_29 : decode cX7_on 29 = .ok (.ldc 44, 2) := by decide +kernel
theorem dX7_on_31 : decode cX7_on 31 = .ok (.invokevirtual 57, 3) := by decide +kernel
theorem dX7_on_34 : decode cX7_on 34 = .ok (.ireturn, 1) := by decide +kernel
theorem dX7_on_35 : decode cX7_on 35 = .ok (.aload_n 0, 1) := by decide +kernel
theorem dX7_on_36 : decode cX7_on 36 = .ok (.iconst 1, 1) := by decide +kernel
theorem dX7_on_37 : decode cX7_on 37 = .ok (.aload_n 0, 1) := by decide +kernel
theorem dX7_on_38 : decode cX7_on 38 = .ok (.getfield 16, 3) := by decide +kernel
theorem dX7_on_41 : decode cX7_on 41 = .ok (.invokevirtual 117, 3) := by decide +kernel
theorem dX7_on_44 : decode cX7_on 44 = .ok (.aload_n 0, 1) := by decide +kernel
theorem dX7_on_45 : decode cX7_on 45 = .ok (.iload_n 2, 1) := by decide +kernel
theorem dX7_on_46 : decode cX7_on 46 = .ok (.iconst 2, 1) := by decide +kernel
theorem dX7_on_47 : decode cX7_on 47 = .ok (.iload_n 3, 1) := by decide +kernel
theorem dX7_on_48 : decode cX7_on 48 = .ok (.iadd, 1) := by decide +kernel
theorem dX7_on_49 : decode cX7_on 49 = .ok (.iload_n 1, 1) := by decide +kernel
theorem dX7_on_50 : decode cX7_on 50 = .ok (.invokevirtual 121, 3) := by decide +kernel
theorem dX7_on_53 : decode cX7_on 53 = .ok (.ireturn, 1) := by decide +kernel
theorem dX7_all_0 : decode cX7_all 0 = .ok (.iload_n 1, 1) := by decide +kernel
theorem dX7_all_1 : decode cX7_all 1 = .ok (.iconst 0, 1) := by decide +kernel
theorem dX7_all_2 : decode cX7_all 2 = .ok (.sipush 200, 3) := by decide +kernel
theorem dX7_all_5 : decode cX7_all 5 = .ok (.invokestatic 45, 3) := by decide +kernel
theorem dX7_all_8 : decode cX7_all 8 = .ok (.ifCond .ne 10, 3) := by decide +kernel
theorem dX7_all_11 : decode cX7_all 11 = .ok (.aload_n 0, 1) := by decide +kernel
theorem dX7_all_12 : decode cX7_all 12 = .ok (.ldc 44, 2) := by decide +kernel
theorem dX7_all_14 : decode cX7_all 14 = .ok (.invokevirtual 57, 3) := by decide +kernel
theorem dX7_all_17 : decode cX7_all 17 = .ok (.ireturn, 1) := by decide +kernel
theorem dX7_all_18 : decode cX7_all 18 = .ok (.aload_n 0, 1) := by decide +kernel
theorem dX7_all_19 : decode cX7_all 19 = .ok (.iconst 1, 1) := by decide +kernel
theorem dX7_all_20 : decode cX7_all 20 = .ok (.aload_n 0, 1) := by decide +kernel
theorem dX7_all_21 : decode cX7_all 21 = .ok (.getfield 16, 3) := by decide +kernel
theorem dX7_all_24 : decode cX7_all 24 = .ok (.invokevirtual 117, 3) := by decide +kernel
theorem dX7_all_27 : decode cX7_all 27 = .ok (.aload_n 0, 1) := by decide +kernel
theorem dX7_all_28 : decode cX7_all 28 = .ok (.iload_n 1, 1) := by decide +kernel
theorem dX7_all_29 : decode cX7_all 29 = .ok (.iconst 1, 1) := by decide +kernel
theorem dX7_all_30 : decode cX7_all 30 = .ok (.iconst 0, 1) := by decide +kernel
theorem dX7_all_31 : decode cX7_all 31 = .ok (.invokevirtual 121, 3) := by decide +kernel
theorem dX7_all_34 : decode cX7_all 34 = .ok (.ireturn, 1) := by decide +kernel
theorem dX7_white_0 : decode cX7_white 0 = .ok (.aload_n 0, 1) := by decide +kernel
theorem dX7_white_1 : decode cX7_white 1 = .ok (.iload_n 1, 1) := by decide +kernel
theorem dX7_white_2 : decode cX7_white 2 = .ok (.invokevirtual 99, 3) := by decide +kernel
theorem dX7_white_5 : decode cX7_white 5 = .ok (.ifCond .ne 10, 3) := by decide +kernel
theorem dX7_white_8 : decode cX7_white 8 = .ok (.aload_n 0, 1) := by decide +kernel
theorem dX7_white_9 : decode cX7_white 9 = .ok (.ldc 44, 2) := by decide +kernel
theorem dX7_white_11 : decode cX7_white 11 = .ok (.invokevirtual 57, 3) := by decide +kernel
theorem dX7_white_14 : decode cX7_white 14 = .ok (.ireturn, 1) := by decide +kernel
theorem dX7_white_15 : decode cX7_white 15 = .ok (.aload_n 0, 1) := by decide +kernel
theorem dX7_white_16 : decode cX7_white 16 = .ok (.iconst 1, 1) := by decide +kernel
theorem dX7_white_17 : decode cX7_white 17 = .ok (.aload_n 0, 1) := by decide +kernel
theorem dX7_white_18 : decode cX7_white 18 = .ok (.getfield 16, 3) := by decide +kernel
theorem dX7_white_21 : decode cX7_white 21 = .ok (.invokevirtual 117, 3) := by decide +kernel
theorem dX7_white_24 : decode cX7_white 24 = .ok (.iconst 0, 1) := by decide +kernel
theorem dX7_white_25 : decode cX7_white 25 = .ok (.istore_n 2, 1) := by decide +kernel
theorem dX7_white_26 : decode cX7_white 26 = .ok (.iload_n 2, 1) := by decide +kernel
theorem dX7_white_27 : decode cX7_white 27 = .ok (.sipush 200, 3) := by decide +kernel
theorem dX7_white_30 : decode cX7_white 30 = .ok (.if_icmp .gt 22, 3) := by decide +kernel
theorem dX7_white_33 : decode cX7_white 33 = .ok (.aload_n 0, 1) := by decide +kernel
theorem dX7_white_34 : decode cX7_white 34 = .ok (.iload_n 1, 1) := by decide +kernel
theorem dX7_white_35 : decode cX7_white 35 = .ok (.iconst 2, 1) := by decide +kernel
theorem dX7_white_36 : decode cX7_white 36 = .ok (.invokevirtual 64, 3) := by decide +kernel
theorem dX7_white_39 : decode cX7_white 39 = .ok (.ifCond .le 13, 3) := by decide +kernel
theorem dX7_white_42 : decode cX7_white 42 = .ok (.aload_n 0, 1) := by decide +kernel
theorem dX7_white_43 : decode cX7_white 43 = .ok (.invokevirtual 110, 3) := by decide +kernel
theorem dX7_white_46 : decode cX7_white 46 = .ok (.iinc 2 1, 3) := by decide +kernel
theorem dX7_white_49 : decode cX7_white 49 = .ok (.goto (-23), 3) := by decide +kernel
theorem dX7_white_52 : decode cX7_white 52 = .ok (.aload_n 0, 1) := by decide +kernel
theorem dX7_white_53 : decode cX7_white 53 = .ok (.iconst 0, 1) := by decide +kernel
theorem dX7_white_54 : decode cX7_white 54 = .ok (.aload_n 0, 1) := by decide +kernel
theorem dX7_white_55 : decode cX7_white 55 = .ok (.getfield 16, 3) := by decide +kernel
theorem dX7_white_58 : decode cX7_white 58 = .ok (.invokevirtual 117, 3) := by decide +kernel
theorem dX7_white_61 : decode cX7_white 61 = .ok (.iload_n 2, 1) := by decide +kernel
theorem dX7_white_62 : decode cX7_white 62 = .ok (.sipush 200, 3) := by decide +kernel
theorem dX7_white_65 : decode cX7_white 65 = .ok (.if_icmp .le 12, 3) := by decide +kernel
theorem dX7_white_68 : decode cX7_white 68 = .ok (.aload_n 0, 1) := by decide +kernel
theorem dX7_white_69 : decode cX7_white 69 = .ok (.ldc 124, 2) := by decide +kernel
theorem dX7_white_71 : decode cX7_white 71 = .ok (.invokevirtual 57, 3) := by decide +kernel
theorem dX7_white_74 : decode cX7_white 74 = .ok (.goto 4, 3) := by decide +kernel
theorem dX7_white_77 : decode cX7_white 77 = .ok (.iload_n 2, 1) := by decide +kernel
theorem dX7_white_78 : decode cX7_white 78 = .ok (.ireturn, 1) := by decide +kernel
theorem dX7_comes_0 : decode cX7_comes 0 = .ok (.iload_n 1, 1) := by decide +kernel
theorem dX7_comes_1 : decode cX7_comes 1 = .ok (.iconst 0, 1) := by decide +kernel
theorem dX7_comes_2 : decode cX7_comes 2 = .ok (.sipush 999, 3) := by decide +kernel
theorem dX7_comes_5 : decode cX7_comes 5 = .ok (.invokestatic 45, 3) := by decide +kernel
theorem dX7_comes_8 : decode cX7_comes 8 = .ok (.ifCond .ne 10, 3) := by decide +kernel
theorem dX7_comes_11 : decode cX7_comes 11 = .ok (.aload_n 0, 1) := by decide +kernel
theorem dX7_comes_12 : decode cX7_comes 12 = .ok (.ldc 44, 2) := by decide +kernel
theorem dX7_comes_14 : decode cX7_comes 14 = .ok (.invokevirtual 57, 3) := by decide +kernel
theorem dX7_comes_17 : decode cX7_comes 17 = .ok (.ireturn, 1) := by decide +kernel
theorem dX7_comes_18 : decode cX7_comes 18 = .ok (.aload_n 0, 1) := by decide +kernel
theorem dX7_comes_19 : decode cX7_comes 19 = .ok (.iconst 1, 1) := by decide +kernel
theorem dX7_comes_20 : decode cX7_comes 20 = .ok (.aload_n 0, 1) := by decide +kernel
theorem dX7_comes_21 : decode cX7_comes 21 = .ok (.getfield 16, 3) := by decide +kernel
theorem dX7_comes_24 : decode cX7_comes 24 = .ok (.invokevirtual 117, 3) := by decide +kernel
theorem dX7_comes_27 : decode cX7_comes 27 = .ok (.iconst 0, 1) := by decide +kernel
theorem dX7_comes_28 : decode cX7_comes 28 = .ok (.istore_n 2, 1) := by decide +kernel
theorem dX7_comes_29 : decode cX7_comes 29 = .ok (.iload_n 2, 1) := by decide +kernel
theorem dX7_comes_30 : decode cX7_comes 30 = .ok (.sipush 200, 3) := by decide +kernel
theorem dX7_comes_33 : decode cX7_comes 33 = .ok (.if_icmp .gt 23, 3) := by decide +kernel
theorem dX7_comes_36 : decode cX7_comes 36 = .ok (.aload_n 0, 1) := by decide +kernel
theorem dX7_comes_37 : decode cX7_comes 37 = .ok (.getfield 7, 3) := by decide +kernel
theorem dX7_comes_40 : decode cX7_comes 40 = .ok (.iconst 3, 1) := by decide +kernel
theorem dX7_comes_41 : decode cX7_comes 41 = .ok (.iaload, 1) := by decide +kernel
theorem dX7_comes_42 : decode cX7_comes 42 = .ok (.iload_n 1, 1) := by decide +kernel
theorem dX7_comes_43 : decode cX7_comes 43 = .ok (.if_icmp .ge 13, 3) := by decide +kernel
theorem dX7_comes_46 : decode cX7_comes 46 = .ok (.aload_n 0, 1) := by decide +kernel
theorem dX7_comes_47 : decode cX7_comes 47 = .ok (.invokevirtual 110, 3) := by decide +kernel
theorem dX7_comes_50 : decode cX7_comes 50 = .ok (.iinc 2 1, 3) := by decide +kernel
theorem dX7_comes_53 : decode cX7_comes 53 = .ok (.goto (-24), 3) := by decide +kernel
theorem dX7_comes_56 : decode cX7_comes 56 = .ok (.aload_n 0, 1) := by decide +kernel
theorem dX7_comes_57 : decode cX7_comes 57 = .ok (.iconst 0, 1) := by decide +kernel
theorem dX7_comes_58 : decode cX7_comes 58 = .ok (.aload_n 0, 1) := by decide +kernel
theorem dX7_comes_59 : decode cX7_comes 59 = .ok (.getfield 16, 3) := by decide +kernel
theorem dX7_comes_62 : decode cX7_comes 62 = .ok (.invokevirtual 117, 3) := by decide +kernel
theorem dX7_comes_65 : decode cX7_comes 65 = .ok (.iload_n 2, 1) := by decide +kernel
theorem dX7_comes_66 : decode cX7_comes 66 = .ok (.sipush 200, 3) := by decide +kernel
theorem dX7_comes_69 : decode cX7_comes 69 = .ok (.if_icmp .le 12, 3) := by decide +kernel
theorem dX7_comes_72 : decode cX7_comes 72 = .ok (.aload_n 0, 1) := by decide +kernel
theorem dX7_comes_73 : decode cX7_comes 73 = .ok (.ldc 124, 2) := by decide +kernel
theorem dX7_comes_75 : decode cX7_comes 75 = .ok (.invokevirtual 57, 3) := by decide +kernel
theorem dX7_comes_78 : decode cX7_comes 78 = .ok (.goto 4, 3) := by decide +kernel
theorem dX7_comes_81 : decode cX7_comes 81 = .ok (.iload_n 2, 1) := by decide +kernel
theorem dX7_comes_82 : decode cX7_comes 82 = .ok (.ireturn, 1) := by decide +kernel
theorem dX7_when_0 : decode cX7_when 0 = .ok (.iload_n 1, 1) := by decide +kernel
theorem dX7_when_1 : decode cX7_when 1 = .ok (.invokestatic 90, 3) := by decide +kernel
theorem dX7_when_4 : decode cX7_when 4 = .ok (.ifCond .eq 13, 3) := by decide +kernel
theorem dX7_when_7 : decode cX7_when 7 = .ok (.iload_n 2, 1) := by decide +kernel
theorem dX7_when_8 : decode cX7_when 8 = .ok (.iconst 1, 1) := by decide +kernel
theorem dX7_when_9 : decode cX7_when 9 = .ok (.bipush 99, 2) := by decide +kernel
theorem dX7_when_11 : decode cX7_when 11 = .ok (.invokestatic 45, 3) := by decide +kernel
theorem dX7_when_14 : decode cX7_when 14 = .ok (.ifCond .ne 10, 3) := by decide +kernel
theorem dX7_when_17 : decode cX7_when 17 = .ok (.aload_n 0, 1) := by decide +kernel
theorem dX7_when_18 : decode cX7_when 18 = .ok (.ldc 44, 2) := by decide +kernel
theorem dX7_when_20 : decode cX7_when 20 = .ok (.invokevirtual 57, 3) := by decide +kernel
theorem dX7_when_23 : decode cX7_when 23 = .ok (.ireturn, 1) := by decide +kernel
theorem dX7_when_24 : decode cX7_when 24 = .ok (.iconst (-1), 1) := by decide +kernel
theorem dX7_when_25 : decode cX7_when 25 = .ok (.istore_n 3, 1) := by decide +kernel
theorem dX7_when_26 : decode cX7_when 26 = .ok (.iconst (-1), 1) := by decide +kernel
theorem dX7_when_27 : decode cX7_when 27 = .ok (.istore 4, 2) := by decide +kernel
theorem dX7_when_29 : decode cX7_when 29 = .ok (.aload_n 0, 1) := by decide +kernel
theorem dX7_when_30 : decode cX7_when 30 = .ok (.iconst 1, 1) := by decide +kernel
theorem dX7_when_31 : decode cX7_when 31 = .ok (.aload_n 0, 1) := by decide +kernel
theorem dX7_when_32 : decode cX7_when 32 = .ok (.getfield 16, 3) := by decide +kernel
theorem dX7_when_35 : decode cX7_when 35 = .ok (.invokevirtual 117, 3) := by decide +kernel
theorem dX7_when_38 : decode cX7_when 38 = .ok (.iconst 0, 1) := by decide +kernel
theorem dX7_when_39 : decode cX7_when 39 = .ok (.istore 5, 2) := by decide +kernel
theorem dX7_when_41 : decode cX7_when 41 = .ok (.iload 5, 2) := by decide +kernel
theorem dX7_when_43 : decode cX7_when 43 = .ok (.bipush 12, 2) := by decide +kernel
theorem dX7_when_45 : decode cX7_when 45 = .ok (.if_icmp .ge 71, 3) := by decide +kernel
theorem dX7_when_48 : decode cX7_when 48 = .ok (.iload_n 1, 1) := by decide +kernel
theorem dX7_when_49 : decode cX7_when 49 = .ok (.iload_n 2, 1) := by decide +kernel
theorem dX7_when_50 : decode cX7_when 50 = .ok (.invokestatic 80, 3) := by decide +kernel
theorem dX7_when_53 : decode cX7_when 53 = .ok (.aload_n 0, 1) := by decide +kernel
theorem dX7_when_54 : decode cX7_when 54 = .ok (.getfield 7, 3) := by decide +kernel
theorem dX7_when_57 : decode cX7_when 57 = .ok (.iconst 3, 1) := by decide +kernel
theorem dX7_when_58 : decode cX7_when 58 = .ok (.iaload, 1) := by decide +kernel
theorem dX7_when_59 : decode cX7_when 59 = .ok (.if_icmp .gt 14, 3) := by decide +kernel
theorem dX7_when_62 : decode cX7_when 62 = .ok (.iload_n 1, 1) := by decide +kernel
theorem dX7_when_63 : decode cX7_when 63 = .ok (.aload_n 0, 1) := by decide +kernel
theorem dX7_when_64 : decode cX7_when 64 = .ok (.invokevirtual 70, 3) := by decide +kernel
theorem dX7_when_67 : decode cX7_when 67 = .ok (.invokestatic 87, 3) := by decide +kernel
theorem dX7_when_70 : decode cX7_when 70 = .ok (.goto 4, 3) := by decide +kernel
theorem dX7_when_73 : decode cX7_when 73 = .ok (.iconst (-1), 1) := by decide +kernel
theorem dX7_when_74 : decode cX7_when 74 = .ok (.istore 6, 2) := by decide +kernel
theorem dX7_when_76 : decode cX7_when 76 = .ok (.iload 6, 2) := by decide +kernel
theorem dX7_when_78 : decode cX7_when 78 = .ok (.iload 4, 2) := by decide +kernel
theorem dX7_when_80 : decode cX7_when 80 = .ok (.if_icmp .le 8, 3) := by decide +kernel
theorem dX7_when_83 : decode cX7_when 83 = .ok (.iload 5, 2) := by decide +kernel
theorem dX7_when_85 : decode cX7_when 85 = .ok (.goto 4, 3) := by decide +kernel
theorem dX7_when_88 : decode cX7_when 88 = .ok (.iload_n 3, 1) := by decide +kernel
theorem dX7_when_89 : decode cX7_when 89 = .ok (.istore_n 3, 1) := by decide +kernel
theorem dX7_when_90 : decode cX7_when 90 = .ok (.iload 6, 2) := by decide +kernel
theorem dX7_when_92 : decode cX7_when 92 = .ok (.iload 4, 2) := by decide +kernel
theorem dX7_when_94 : decode cX7_when 94 = .ok (.if_icmp .le 8, 3) := by decide +kernel
theorem dX7_when_97 : decode cX7_when 97 = .ok (.iload 6, 2) := by decide +kernel
theorem dX7_when_99 : decode cX7_when 99 = .ok (.goto 5, 3) := by decide +kernel
theorem dX7_when_102 : decode cX7_when 102 = .ok (.iload 4, 2) := by decide +kernel
theorem dX7_when_104 : decode cX7_when 104 = .ok (.istore 4, 2) := by decide +kernel
theorem dX7_when_106 : decode cX7_when 106 = .ok (.aload_n 0, 1) := by decide +kernel
theorem dX7_when_107 : decode cX7_when 107 = .ok (.invokevirtual 110, 3) := by decide +kernel
theorem dX7_when_110 : decode cX7_when 110 = .ok (.iinc 5 1, 3) := by decide +kernel
theorem dX7_when_113 : decode cX7_when 113 = .ok (.goto (-72), 3) := by decide +kernel
theorem dX7_when_116 : decode cX7_when 116 = .ok (.aload_n 0, 1) := by decide +kernel
theorem dX7_when_117 : decode cX7_when 117 = .ok (.iconst 0, 1) := by decide +kernel
theorem dX7_when_118 : decode cX7_when 118 = .ok (.aload_n 0, 1) := by decide +kernel
theorem dX7_when_119 : decode cX7_when 119 = .ok (.getfield 16, 3) := by decide +kernel
theorem dX7_when_122 : decode cX7_when 122 = .ok (.invokevirtual 117, 3) := by decide +kernel
theorem dX7_when_125 : decode cX7_when 125 = .ok (.iload_n 3, 1) := by decide +kernel
theorem dX7_when_126 : decode cX7_when 126 = .ok (.ifCond .ge 12, 3) := by decide +kernel
theorem dX7_when_129 : decode cX7_when 129 = .ok (.aload_n 0, 1) := by decide +kernel
theorem dX7_when_130 : decode cX7_when 130 = .ok (.ldc 124, 2) := by decide +kernel
theorem dX7_when_132 : decode cX7_when 132 = .ok (.invokevirtual 57, 3) := by decide +kernel
theorem dX7_when_135 : decode cX7_when 135 = .ok (.goto 4, 3) := by decide +kernel
theorem dX7_when_138 : decode cX7_when 138 = .ok (.iload_n 3, 1) := by decide +kernel
theorem dX7_when_139 : decode cX7_when 139 = .ok (.ireturn, 1) := by decide +kernel
theorem dX7_shade_0 : decode cX7_shade 0 = .ok (.iload_n 1, 1) := by decide +kernel
theorem dX7_shade_1 : decode cX7_shade 1 = .ok (.iconst 1, 1) := by decide +kernel
theorem dX7_shade_2 : decode cX7_shade 2 = .ok (.bipush 60, 2) := by decide +kernel
theorem dX7_shade_4 : decode cX7_shade 4 = .ok (.invokestatic 45, 3) := by decide +kernel
theorem dX7_shade_7 : decode cX7_shade 7 = .ok (.ifCond .ne 10, 3) := by decide +kernel
theorem dX7_shade_10 : decode cX7_shade 10 = .ok (.aload_n 0, 1) := by decide +kernel
theorem dX7_shade_11 : decode cX7_shade 11 = .ok (.ldc 44, 2) := by decide +kernel
theorem dX7_shade_13 : decode cX7_shade 13 = .ok (.invokevirtual 57, 3) := by decide +kernel
theorem dX7_shade_16 : decode cX7_shade 16 = .ok (.ireturn, 1) := by decide +kernel
theorem dX7_shade_17 : decode cX7_shade 17 = .ok (.iconst (-1), 1) := by decide +kernel
theorem dX7_shade_18 : decode cX7_shade 18 = .ok (.istore_n 2, 1) := by decide +kernel
theorem dX7_shade_19 : decode cX7_shade 19 = .ok (.iconst (-1), 1) := by decide +kernel
theorem dX7_shade_20 : decode cX7_shade 20 = .ok (.istore_n 3, 1) := by decide +kernel
theorem dX7_shade_21 : decode cX7_shade 21 = .ok (.aload_n 0, 1) := by decide +kernel
theorem dX7_shade_22 : decode cX7_shade 22 = .ok (.iconst 1, 1) := by decide +kernel
theorem dX7_shade_23 : decode cX7_shade 23 = .ok (.aload_n 0, 1) := by decide +kernel
theorem dX7_shade_24 : decode cX7_shade 24 = .ok (.getfield 16, 3) := by decide +kernel
theorem dX7_shade_27 : decode cX7_shade 27 = .ok (.invokevirtual 117, 3) := by decide +kernel
theorem dX7_shade_30 : decode cX7_shade 30 = .ok (.iconst 0, 1) := by decide +kernel
theorem dX7_shade_31 : decode cX7_shade 31 = .ok (.istore 4, 2) := by decide +kernel
theorem dX7_shade_33 : decode cX7_shade 33 = .ok (.iload 4, 2) := by decide +kernel
theorem dX7_shade_35 : decode cX7_shade 35 = .ok (.aload_n 0, 1) := by decide +kernel
theorem dX7_shade_36 : decode cX7_shade 36 = .ok (.getfield 7, 3) := by decide +kernel
theorem dX7_shade_39 : decode cX7_shade 39 = .ok (.iconst 5, 1) := by decide +kernel
theorem dX7_shade_40 : decode cX7_shade 40 = .ok (.iaload, 1) := by decide +kernel
theorem dX7_shade_41 : decode cX7_shade 41 = .ok (.if_icmp .ge 63, 3) := by decide +kernel
theorem dX7_shade_44 : decode cX7_shade 44 = .ok (.aload_n 0, 1) := by decide +kernel
theorem dX7_shade_45 : decode cX7_shade 45 = .ok (.iload 4, 2) := by decide +kernel
theorem dX7_shade_47 : decode cX7_shade 47 = .ok (.iconst 3, 1) := by decide +kernel
theorem dX7_shade_48 : decode cX7_shade 48 = .ok (.invokevirtual 64, 3) := by decide +kernel
theorem dX7_shade_51 : decode cX7_shade 51 = .ok (.iconst 1, 1) := by decide +kernel
theorem dX7_shade_52 : decode cX7_shade 52 = .ok (.if_icmp .ne 46, 3) := by decide +kernel
theorem dX7_shade_55 : decode cX7_shade 55 = .ok (.aload_n 0, 1) := by decide +kernel
theorem dX7_shade_56 : decode cX7_shade 56 = .ok (.iload 4, 2) := by decide +kernel
theorem dX7_shade_58 : decode cX7_shade 58 = .ok (.iconst 3, 1) := by decide +kernel
theorem dX7_shade_59 : decode cX7_shade 59 = .ok (.iconst 0, 1) := by decide +kernel
theorem dX7_shade_60 : decode cX7_shade 60 = .ok (.invokevirtual 83, 3) := by decide +kernel
theorem dX7_shade_63 : decode cX7_shade 63 = .ok (.aload_n 0, 1) := by decide +kernel
theorem dX7_shade_64 : decode cX7_shade 64 = .ok (.iload_n 1, 1) := by decide +kernel
theorem dX7_shade_65 : decode cX7_shade 65 = .ok (.iconst 1, 1) := by decide +kernel
theorem dX7_shade_66 : decode cX7_shade 66 = .ok (.iconst 0, 1) := by decide +kernel
theorem dX7_shade_67 : decode cX7_shade 67 = .ok (.invokevirtual 121, 3) := by decide +kernel
theorem dX7_shade_70 : decode cX7_shade 70 = .ok (.istore 5, 2) := by decide +kernel
theorem dX7_shade_72 : decode cX7_shade 72 = .ok (.iload 5, 2) := by decide +kernel
theorem dX7_shade_74 : decode cX7_shade 74 = .ok (.iload_n 3, 1) := by decide +kernel
theorem dX7_shade_75 : decode cX7_shade 75 = .ok (.if_icmp .le 8, 3) := by decide +kernel
theorem dX7_shade_78 : decode cX7_shade 78 = .ok (.iload 4, 2) := by decide +kernel
theorem dX7_shade_80 : decode cX7_shade 80 = .ok (.goto 4, 3) := by decide +kernel
theorem dX7_shade_83 : decode cX7_shade 83 = .ok (.iload_n 2, 1) := by decide +kernel
theorem dX7_shade_84 : decode cX7_shade 84 = .ok (.istore_n 2, 1) := by decide +kernel
theorem dX7_shade_85 : decode cX7_shade 85 = .ok (.iload 5, 2) := by decide +kernel
theorem dX7_shade_87 : decode cX7_shade 87 = .ok (.iload_n 3, 1) := by decide +kernel
theorem dX7_shade_88 : decode cX7_shade 88 = .ok (.if_icmp .le 8, 3) := by decide +kernel
theorem dX7_shade_91 : decode cX7_shade 91 = .ok (.iload 5, 2) := by decide +kernel
theorem dX7_shade_93 : decode cX7_shade 93 = .ok (.goto 4, 3) := by decide +kernel
theorem dX7_shade_96 : decode cX7_shade 96 = .ok (.iload_n 3, 1) := by decide +kernel
theorem dX7_shade_97 : decode cX7_shade 97 = .ok (.istore_n 3, 1) := by decide +kernel
theorem dX7_shade_98 : decode cX7_shade 98 = .ok (.iinc 4 1, 3) := by decide +kernel
theorem dX7_shade_101 : decode cX7_shade 101 = .ok (.goto (-68), 3) := by decide +kernel
theorem dX7_shade_104 : decode cX7_shade 104 = .ok (.iload_n 2, 1) := by decide +kernel
theorem dX7_shade_105 : decode cX7_shade 105 = .ok (.ifCond .ge 12, 3) := by decide +kernel
theorem dX7_shade_108 : decode cX7_shade 108 = .ok (.aload_n 0, 1) := by decide +kernel
theorem dX7_shade_109 : decode cX7_shade 109 = .ok (.ldc 124, 2) := by decide +kernel
theorem dX7_shade_111 : decode cX7_shade 111 = .ok (.invokevirtual 57, 3) := by decide +kernel
theorem dX7_shade_114 : decode cX7_shade 114 = .ok (.goto 4, 3) := by decide +kernel
theorem dX7_shade_117 : decode cX7_shade 117 = .ok (.iload_n 2, 1) := by decide +kernel
theorem dX7_shade_118 : decode cX7_shade 118 = .ok (.ireturn, 1) := by decide +kernel
theorem dX7_enough_0 : decode cX7_enough 0 = .ok (.iload_n 1, 1) := by decide +kernel
theorem dX7_enough_1 : decode cX7_enough 1 = .ok (.iconst 1, 1) := by decide +kernel
theorem dX7_enough_2 : decode cX7_enough 2 = .ok (.bipush 60, 2) := by decide +kernel
theorem dX7_enough_4 : decode cX7_enough 4 = .ok (.invokestatic 45, 3) := by decide +kernel
theorem dX7_enough_7 : decode cX7_enough 7 = .ok (.ifCond .eq 14, 3) := by decide +kernel
theorem dX7_enough_10 : decode cX7_enough 10 = .ok (.iload_n 2, 1) := by decide +kernel
theorem dX7_enough_11 : decode cX7_enough 11 = .ok (.iconst 0, 1) := by decide +kernel
theorem dX7_enough_12 : decode cX7_enough 12 = .ok (.sipush 999, 3) := by decide +kernel
theorem dX7_enough_15 : decode cX7_enough 15 = .ok (.invokestatic 45, 3) := by decide +kernel
theorem dX7_enough_18 : decode cX7_enough 18 = .ok (.ifCond .ne 10, 3) := by decide +kernel
theorem dX7_enough_21 : decode cX7_enough 21 = .ok (.aload_n 0, 1) := by decide +kernel
theorem dX7_enough_22 : decode cX7_enough 22 = .ok (.ldc 44, 2) := by decide +kernel
theorem dX7_enough_24 : decode cX7_enough 24 = .ok (.invokevirtual 57, 3) := by decide +kernel
theorem dX7_enough_27 : decode cX7_enough 27 = .ok (.ireturn, 1) := by decide +kernel
theorem dX7_enough_28 : decode cX7_enough 28 = .ok (.iconst (-1), 1) := by decide +kernel
theorem dX7_enough_29 : decode cX7_enough 29 = .ok (.istore_n 3, 1) := by decide +kernel
theorem dX7_enough_30 : decode cX7_enough 30 = .ok (.iconst 0, 1) := by decide +kernel
theorem dX7_enough_31 : decode cX7_enough 31 = .ok (.istore 4, 2) := by decide +kernel
theorem dX7_enough_33 : decode cX7_enough 33 = .ok (.aload_n 0, 1) := by decide +kernel
theorem dX7_enough_34 : decode cX7_enough 34 = .ok (.iconst 1, 1) := by decide +kernel
theorem dX7_enough_35 : decode cX7_enough 35 = .ok (.aload_n 0, 1) := by decide +kernel
theorem dX7_enough_36 : decode cX7_enough 36 = .ok (.getfield 16, 3) := by decide +kernel
theorem dX7_enough_39 : decode cX7_enough 39 = .ok (.invokevirtual 117, 3) := by decide +kernel
theorem dX7_enough_42 : decode cX7_enough 42 = .ok (.iload_n 3, 1) := by decide +kernel
theorem dX7_enough_43 : decode cX7_enough 43 = .ok (.bipush 9, 2) := by decide +kernel
theorem dX7_enough_45 : decode cX7_enough 45 = .ok (.if_icmp .ge 39, 3) := by decide +kernel
theorem dX7_enough_48 : decode cX7_enough 48 = .ok (.iload 4, 2) := by decide +kernel
theorem dX7_enough_50 : decode cX7_enough 50 = .ok (.ifCond .ne 34, 3) := by decide +kernel
theorem dX7_enough_53 : decode cX7_enough 53 = .ok (.iinc 3 1, 3) := by decide +kernel
theorem dX7_enough_56 : decode cX7_enough 56 = .ok (.aload_n 0, 1) := by decide +kernel
theorem dX7_enough_57 : decode cX7_enough 57 = .ok (.getfield 7, 3) := by decide +kernel
theorem dX7_enough_60 : decode cX7_enough 60 = .ok (.iconst 1, 1) := by decide +kernel
theorem dX7_enough_61 : decode cX7_enough 61 = .ok (.iload_n 3, 1) := by decide +kernel
theorem dX7_enough_62 : decode cX7_enough 62 = .ok (.iastore, 1) := by decide +kernel
theorem dX7_enough_63 : decode cX7_enough 63 = .ok (.aload_n 0, 1) := by decide +kernel
theorem dX7_enough_64 : decode cX7_enough 64 = .ok (.iload_n 1, 1) := by decide +kernel
theorem dX7_enough_65 : decode cX7_enough 65 = .ok (.iconst 0, 1) := by decide +kernel
theorem dX7_enough_66 : decode cX7_enough 66 = .ok (.iconst 0, 1) := by decide +kernel
theorem dX7_enough_67 : decode cX7_enough 67 = .ok (.invokevirtual 121, 3) := by decide +kernel
theorem dX7_enough_70 : decode cX7_enough 70 = .ok (.iload_n 2, 1) := by decide +kernel
theorem dX7_enough_71 : decode cX7_enough 71 = .ok (.if_icmp .lt 7, 3) := by decide +kernel
theorem dX7_enough_74 : decode cX7_enough 74 = .ok (.iconst 1, 1) := by decide +kernel
theorem dX7_enough_75 : decode cX7_enough 75 = .ok (.goto 4, 3) := by decide +kernel
theorem dX7_enough_78 : decode cX7_enough 78 = .ok (.iconst 0, 1) := by decide +kernel
theorem dX7_enough_79 : decode cX7_enough 79 = .ok (.istore 4, 2) := by decide +kernel
theorem dX7_enough_81 : decode cX7_enough 81 = .ok (.goto (-39), 3) := by decide +kernel
theorem dX7_enough_84 : decode cX7_enough 84 = .ok (.iload 4, 2) := by decide +kernel
theorem dX7_enough_86 : decode cX7_enough 86 = .ok (.ifCond .eq 7, 3) := by decide +kernel
theorem dX7_enough_89 : decode cX7_enough 89 = .ok (.iload_n 3, 1) := by decide +kernel
theorem dX7_enough_90 : decode cX7_enough 90 = .ok (.goto 9, 3) := by decide +kernel
theorem dX7_enough_93 : decode cX7_enough 93 = .ok (.aload_n 0, 1) := by decide +kernel
theorem dX7_enough_94 : decode cX7_enough 94 = .ok (.ldc 124, 2) := by decide +kernel
theorem dX7_enough_96 : decode cX7_enough 96 = .ok (.invokevirtual 57, 3) := by decide +kernel
theorem dX7_enough_99 : decode cX7_enough 99 = .ok (.ireturn, 1) := by decide +kernel
theorem dX7_kind_0 : decode cX7_kind 0 = .ok (.aload_n 0, 1) := by decide +kernel
theorem dX7_kind_1 : decode cX7_kind 1 = .ok (.iload_n 1, 1) := by decide +kernel
theorem dX7_kind_2 : decode cX7_kind 2 = .ok (.invokevirtual 99, 3) := by decide +kernel
theorem dX7_kind_5 : decode cX7_kind 5 = .ok (.ifCond .eq 13, 3) := by decide +kernel
theorem dX7_kind_8 : decode cX7_kind 8 = .ok (.iload_n 2, 1) := by decide +kernel
theorem dX7_kind_9 : decode cX7_kind 9 = .ok (.iconst 0, 1) := by decide +kernel
theorem dX7_kind_10 : decode cX7_kind 10 = .ok (.bipush 60, 2) := by decide +kernel
theorem dX7_kind_12 : decode cX7_kind 12 = .ok (.invokestatic 45, 3) := by decide +kernel
theorem dX7_kind_15 : decode cX7_kind 15 = .ok (.ifCond .ne 10, 3) := by decide +kernel
theorem dX7_kind_18 : decode cX7_kind 18 = .ok (.aload_n 0, 1) := by decide +kernel
theorem dX7_kind_19 : decode cX7_kind 19 = .ok (.ldc 44, 2) := by decide +kernel
theorem dX7_kind_21 : decode cX7_kind 21 = .ok (.invokevirtual 57, 3) := by decide +kernel
theorem dX7_kind_24 : decode cX7_kind 24 = .ok (.ireturn, 1) := by decide +kernel
theorem dX7_kind_25 : decode cX7_kind 25 = .ok (.iconst 0, 1) := by decide +kernel
theorem dX7_kind_26 : decode cX7_kind 26 = .ok (.istore_n 3, 1) := by decide +kernel
theorem dX7_kind_27 : decode cX7_kind 27 = .ok (.iconst (-1), 1) := by decide +kernel
theorem dX7_kind_28 : decode cX7_kind 28 = .ok (.istore 4, 2) := by decide +kernel
theorem dX7_kind_30 : decode cX7_kind 30 = .ok (.aload_n 0, 1) := by decide +kernel
theorem dX7_kind_31 : decode cX7_kind 31 = .ok (.iconst 1, 1) := by decide +kernel
theorem dX7_kind_32 : decode cX7_kind 32 = .ok (.aload_n 0, 1) := by decide +kernel
theorem dX7_kind_33 : decode cX7_kind 33 = .ok (.getfield 16, 3) := by decide +kernel
theorem dX7_kind_36 : decode cX7_kind 36 = .ok (.invokevirtual 117, 3) := by decide +kernel
theorem dX7_kind_39 : decode cX7_kind 39 = .ok (.iconst 0, 1) := by decide +kernel
theorem dX7_kind_40 : decode cX7_kind 40 = .ok (.istore 5, 2) := by decide +kernel
theorem dX7_kind_42 : decode cX7_kind 42 = .ok (.iload 5, 2) := by decide +kernel
theorem dX7_kind_44 : decode cX7_kind 44 = .ok (.iconst 5, 1) := by decide +kernel
theorem dX7_kind_45 : decode cX7_kind 45 = .ok (.if_icmp .gt 56, 3) := by decide +kernel
theorem dX7_kind_48 : decode cX7_kind 48 = .ok (.aload_n 0, 1) := by decide +kernel
theorem dX7_kind_49 : decode cX7_kind 49 = .ok (.iload_n 1, 1) := by decide +kernel
theorem dX7_kind_50 : decode cX7_kind 50 = .ok (.iconst 0, 1) := by decide +kernel
theorem dX7_kind_51 : decode cX7_kind 51 = .ok (.iload 5, 2) := by decide +kernel
theorem dX7_kind_53 : decode cX7_kind 53 = .ok (.invokevirtual 83, 3) := by decide +kernel
theorem dX7_kind_56 : decode cX7_kind 56 = .ok (.aload_n 0, 1) := by decide +kernel
theorem dX7_kind_57 : decode cX7_kind 57 = .ok (.iload_n 2, 1) := by decide +kernel
theorem dX7_kind_58 : decode cX7_kind 58 = .ok (.iconst 3, 1) := by decide +kernel
theorem dX7_kind_59 : decode cX7_kind 59 = .ok (.iload_n 1, 1) := by decide +kernel
theorem dX7_kind_60 : decode cX7_kind 60 = .ok (.invokevirtual 121, 3) := by decide +kernel
theorem dX7_kind_63 : decode cX7_kind 63 = .ok (.istore 6, 2) := by decide +kernel
theorem dX7_kind_65 : decode cX7_kind 65 = .ok (.iload 6, 2) := by decide +kernel
theorem dX7_kind_67 : decode cX7_kind 67 = .ok (.iload 4, 2) := by decide +kernel
theorem dX7_kind_69 : decode cX7_kind 69 = .ok (.if_icmp .le 8, 3) := by decide +kernel
theorem dX7_kind_72 : decode cX7_kind 72 = .ok (.iload 5, 2) := by decide +kernel
theorem dX7_kind_74 : decode cX7_kind 74 = .ok (.goto 4, 3) := by decide +kernel
theorem dX7_kind_77 : decode cX7_kind 77 = .ok (.iload_n 3, 1) := by decide +kernel
theorem dX7_kind_78 : decode cX7_kind 78 = .ok (.istore_n 3, 1) := by decide +kernel
theorem dX7_kind_79 : decode cX7_kind 79 = .ok (.iload 6, 2) := by decide +kernel
theorem dX7_kind_81 : decode cX7_kind 81 = .ok (.iload 4, 2) := by decide +kernel
theorem dX7_kind_83 : decode cX7_kind 83 = .ok (.if_icmp .le 8, 3) := by decide +kernel
theorem dX7_kind_86 : decode cX7_kind 86 = .ok (.iload 6, 2) := by decide +kernel
theorem dX7_kind_88 : decode cX7_kind 88 = .ok (.goto 5, 3) := by decide +kernel
theorem dX7_kind_91 : decode cX7_kind 91 = .ok (.iload 4, 2) := by decide +kernel
theorem dX7_kind_93 : decode cX7_kind 93 = .ok (.istore 4, 2) := by decide +kernel
theorem dX7_kind_95 : decode cX7_kind 95 = .ok (.iinc 5 1, 3) := by decide +kernel
theorem dX7_kind_98 : decode cX7_kind 98 = .ok (.goto (-56), 3) := by decide +kernel
theorem dX7_kind_101 : decode cX7_kind 101 = .ok (.iload_n 3, 1) := by decide +kernel
theorem dX7_kind_102 : decode cX7_kind 102 = .ok (.ireturn, 1) := by decide +kernel
theorem dX7_lamp_0 : decode cX7_lamp 0 = .ok (.iload_n 1, 1) := by decide +kernel
theorem dX7_lamp_1 : decode cX7_lamp 1 = .ok (.iconst 0, 1) := by decide +kernel
theorem dX7_lamp_2 : decode cX7_lamp 2 = .ok (.bipush 60, 2) := by decide +kernel
theorem dX7_lamp_4 : decode cX7_lamp 4 = .ok (.invokestatic 45, 3) := by decide +kernel
theorem dX7_lamp_7 : decode cX7_lamp 7 = .ok (.ifCond .eq 14, 3) := by decide +kernel
theorem dX7_lamp_10 : decode cX7_lamp 10 = .ok (.iload_n 2, 1) := by decide +kernel
theorem dX7_lamp_11 : decode cX7_lamp 11 = .ok (.iconst 0, 1) := by decide +kernel
theorem dX7_lamp_12 : decode cX7_lamp 12 = .ok (.sipush 9999, 3) := by decide +kernel
theorem dX7_lamp_15 : decode cX7_lamp 15 = .ok (.invokestatic 45, 3) := by decide +kernel
theorem dX7_lamp_18 : decode cX7_lamp 18 = .ok (.ifCond .ne 10, 3) := by decide +kernel
theorem dX7_lamp_21 : decode cX7_lamp 21 = .ok (.aload_n 0, 1) := by decide +kernel
theorem dX7_lamp_22 : decode cX7_lamp 22 = .ok (.ldc 44, 2) := by decide +kernel
theorem dX7_lamp_24 : decode cX7_lamp 24 = .ok (.invokevirtual 57, 3) := by decide +kernel
theorem dX7_lamp_27 : decode cX7_lamp 27 = .ok (.ireturn, 1) := by decide +kernel
theorem dX7_lamp_28 : decode cX7_lamp 28 = .ok (.iconst (-1), 1) := by decide +kernel
theorem dX7_lamp_29 : decode cX7_lamp 29 = .ok (.istore_n 3, 1) := by decide +kernel
theorem dX7_lamp_30 : decode cX7_lamp 30 = .ok (.iconst 0, 1) := by decide +kernel
theorem dX7_lamp_31 : decode cX7_lamp 31 = .ok (.istore 4, 2) := by decide +kernel
theorem dX7_lamp_33 : decode cX7_lamp 33 = .ok (.aload_n 0, 1) := by decide +kernel
theorem dX7_lamp_34 : decode cX7_lamp 34 = .ok (.iconst 1, 1) := by decide +kernel
theorem dX7_lamp_35 : decode cX7_lamp 35 = .ok (.aload_n 0, 1) := by decide +kernel
theorem dX7_lamp_36 : decode cX7_lamp 36 = .ok (.getfield 16, 3) := by decide +kernel
theorem dX7_lamp_39 : decode cX7_lamp 39 = .ok (.invokevirtual 117, 3) := by decide +kernel
theorem dX7_lamp_42 : decode cX7_lamp 42 = .ok (.iload_n 3, 1) := by decide +kernel
theorem dX7_lamp_43 : decode cX7_lamp 43 = .ok (.bipush 9, 2) := by decide +kernel
theorem dX7_lamp_45 : decode cX7_lamp 45 = .ok (.if_icmp .ge 39, 3) := by decide +kernel
theorem dX7_lamp_48 : decode cX7_lamp 48 = .ok (.iload 4, 2) := by decide +kernel
theorem dX7_lamp_50 : decode cX7_lamp 50 = .ok (.ifCond .ne 34, 3) := by decide +kernel
theorem dX7_lamp_53 : decode cX7_lamp 53 = .ok (.iinc 3 1, 3) := by decide +kernel
theorem dX7_lamp_56 : decode cX7_lamp 56 = .ok (.aload_n 0, 1) := by decide +kernel
theorem dX7_lamp_57 : decode cX7_lamp 57 = .ok (.getfield 7, 3) := by decide +kernel
theorem dX7_lamp_60 : decode cX7_lamp 60 = .ok (.iconst 4, 1) := by decide +kernel
theorem dX7_lamp_61 : decode cX7_lamp 61 = .ok (.iload_n 3, 1) := by decide +kernel
theorem dX7_lamp_62 : decode cX7_lamp 62 = .ok (.iastore, 1) := by decide +kernel
theorem dX7_lamp_63 : decode cX7_lamp 63 = .ok (.aload_n 0, 1) := by decide +kernel
theorem dX7_lamp_64 : decode cX7_lamp 64 = .ok (.iload_n 1, 1) := by decide +kernel
theorem dX7_lamp_65 : decode cX7_lamp 65 = .ok (.iconst 1, 1) := by decide +kernel
theorem dX7_lamp_66 : decode cX7_lamp 66 = .ok (.iconst 0, 1) := by decide +kernel
theorem dX7_lamp_67 : decode cX7_lamp 67 = .ok (.invokevirtual 121, 3) := by decide +kernel
theorem dX7_lamp_70 : decode cX7_lamp 70 = .ok (.iload_n 2, 1) := by decide +kernel
theorem dX7_lamp_71 : decode cX7_lamp 71 = .ok (.if_icmp .lt 7, 3) := by decide +kernel
theorem dX7_lamp_74 : decode cX7_lamp 74 = .ok (.iconst 1, 1) := by decide +kernel
theorem dX7_lamp_75 : decode cX7_lamp 75 = .ok (.goto 4, 3) := by decide +kernel
theorem dX7_lamp_78 : decode cX7_lamp 78 = .ok (.iconst 0, 1) := by decide +kernel
theorem dX7_lamp_79 : decode cX7_lamp 79 = .ok (.istore 4, 2) := by decide +kernel
theorem dX7_lamp_81 : decode cX7_lamp 81 = .ok (.goto (-39), 3) := by decide +kernel
theorem dX7_lamp_84 : decode cX7_lamp 84 = .ok (.iload 4, 2) := by decide +kernel
theorem dX7_lamp_86 : decode cX7_lamp 86 = .ok (.ifCond .eq 7, 3) := by decide +kernel
theorem dX7_lamp_89 : decode cX7_lamp 89 = .ok (.iload_n 3, 1) := by decide +kernel
theorem dX7_lamp_90 : decode cX7_lamp 90 = .ok (.goto 9, 3) := by decide +kernel
theorem dX7_lamp_93 : decode cX7_lamp 93 = .ok (.aload_n 0, 1) := by decide +kernel
theorem dX7_lamp_94 : decode cX7_lamp 94 = .ok (.ldc 124, 2) := by decide +kernel
theorem dX7_lamp_96 : decode cX7_lamp 96 = .ok (.invokevirtual 57, 3) := by decide +kernel
theorem dX7_lamp_99 : decode cX7_lamp 99 = .ok (.ireturn, 1) := by decide +kernel
theorem dX7_wordsOf_0 : decode cX7_wordsOf 0 = .ok (.bipush 99, 2) := by decide +kernel
theorem dX7_wordsOf_2 : decode cX7_wordsOf 2 = .ok (.istore_n 2, 1) := by decide +kernel
theorem dX7_wordsOf_3 : decode cX7_wordsOf 3 = .ok (.iload_n 2, 1) := by decide +kernel
theorem dX7_wordsOf_4 : decode cX7_wordsOf 4 = .ok (.ifCond .le 23, 3) := by decide +kernel
theorem dX7_wordsOf_7 : decode cX7_wordsOf 7 = .ok (.iload_n 1, 1) := by decide +kernel
theorem dX7_wordsOf_8 : decode cX7_wordsOf 8 = .ok (.iload_n 2, 1) := by decide +kernel
theorem dX7_wordsOf_9 : decode cX7_wordsOf 9 = .ok (.invokestatic 80, 3) := by decide +kernel
theorem dX7_wordsOf_12 : decode cX7_wordsOf 12 = .ok (.aload_n 0, 1) := by decide +kernel
theorem dX7_wordsOf_13 : decode cX7_wordsOf 13 = .ok (.getfield 7, 3) := by decide +kernel
theorem dX7_wordsOf_16 : decode cX7_wordsOf 16 = .ok (.iconst 3, 1) := by decide +kernel
theorem dX7_wordsOf_17 : decode cX7_wordsOf 17 = .ok (.iaload, 1) := by decide +kernel
theorem dX7_wordsOf_18 : decode cX7_wordsOf 18 = .ok (.if_icmp .le 9, 3) := by decide +kernel
theorem dX7_wordsOf_21 : decode cX7_wordsOf 21 = .ok (.iinc 2 (-1), 3) := by decide +kernel
theorem dX7_wordsOf_24 : decode cX7_wordsOf 24 = .ok (.goto (-21), 3) := by decide +kernel
theorem dX7_wordsOf_27 : decode cX7_wordsOf 27 = .ok (.iload_n 2, 1) := by decide +kernel
theorem dX7_wordsOf_28 : decode cX7_wordsOf 28 = .ok (.ireturn, 1) := by decide +kernel
theorem dX7_longest_0 : decode cX7_longest 0 = .ok (.iload_n 1, 1) := by decide +kernel
theorem dX7_longest_1 : decode cX7_longest 1 = .ok (.invokestatic 90, 3) := by decide +kernel
theorem dX7_longest_4 : decode cX7_longest 4 = .ok (.ifCond .ne 10, 3) := by decide +kernel
theorem dX7_longest_7 : decode cX7_longest 7 = .ok (.aload_n 0, 1) := by decide +kernel
theorem dX7_longest_8 : decode cX7_longest 8 = .ok (.ldc 44, 2) := by decide +kernel
theorem dX7_longest_10 : decode cX7_longest 10 = .ok (.invokevirtual 57, 3) := by decide +kernel
theorem dX7_longest_13 : decode cX7_longest 13 = .ok (.ireturn, 1) := by decide +kernel
theorem dX7_longest_14 : decode cX7_longest 14 = .ok (.aload_n 0, 1) := by decide +kernel
theorem dX7_longest_15 : decode cX7_longest 15 = .ok (.getfield 7, 3) := by decide +kernel
theorem dX7_longest_18 : decode cX7_longest 18 = .ok (.iconst 5, 1) := by decide +kernel
theorem dX7_longest_19 : decode cX7_longest 19 = .ok (.iaload, 1) := by decide +kernel
theorem dX7_longest_20 : decode cX7_longest 20 = .ok (.bipush 8, 2) := by decide +kernel
theorem dX7_longest_22 : decode cX7_longest 22 = .ok (.if_icmp .ne 10, 3) := by decide +kernel
theorem dX7_longest_25 : decode cX7_longest 25 = .ok (.aload_n 0, 1) := by decide +kernel
theorem dX7_longest_26 : decode cX7_longest 26 = .ok (.ldc 94, 2) := by decide +kernel
theorem dX7_longest_28 : decode cX7_longest 28 = .ok (.invokevirtual 57, 3) := by decide +kernel
theorem dX7_longest_31 : decode cX7_longest 31 = .ok (.ireturn, 1) := by decide +kernel
theorem dX7_longest_32 : decode cX7_longest 32 = .ok (.aload_n 0, 1) := by decide +kernel
theorem dX7_longest_33 : decode cX7_longest 33 = .ok (.iload_n 1, 1) := by decide +kernel
theorem dX7_longest_34 : decode cX7_longest 34 = .ok (.invokevirtual 125, 3) := by decide +kernel
theorem dX7_longest_37 : decode cX7_longest 37 = .ok (.ifCond .le 11, 3) := by decide +kernel
theorem dX7_longest_40 : decode cX7_longest 40 = .ok (.aload_n 0, 1) := by decide +kernel
theorem dX7_longest_41 : decode cX7_longest 41 = .ok (.iload_n 1, 1) := by decide +kernel
theorem dX7_longest_42 : decode cX7_longest 42 = .ok (.invokevirtual 125, 3) := by decide +kernel
theorem dX7_longest_45 : decode cX7_longest 45 = .ok (.goto 9, 3) := by decide +kernel
theorem dX7_longest_48 : decode cX7_longest 48 = .ok (.aload_n 0, 1) := by decide +kernel
theorem dX7_longest_49 : decode cX7_longest 49 = .ok (.ldc 124, 2) := by decide +kernel
theorem dX7_longest_51 : decode cX7_longest 51 = .ok (.invokevirtual 57, 3) := by decide +kernel
theorem dX7_longest_54 : decode cX7_longest 54 = .ok (.ireturn, 1) := by decide +kernel
theorem dX7_sunny_0 : decode cX7_sunny 0 = .ok (.iload_n 1, 1) := by decide +kernel
theorem dX7_sunny_1 : decode cX7_sunny 1 = .ok (.iconst 1, 1) := by decide +kernel
theorem dX7_sunny_2 : decode cX7_sunny 2 = .ok (.bipush 20, 2) := by decide +kernel
theorem dX7_sunny_4 : decode cX7_sunny 4 = .ok (.invokestatic 45, 3) := by decide +kernel
theorem dX7_sunny_7 : decode cX7_sunny 7 = .ok (.ifCond .eq 14, 3) := by decide +kernel
theorem dX7_sunny_10 : decode cX7_sunny 10 = .ok (.iload_n 2, 1) := by decide +kernel
theorem dX7_sunny_11 : decode cX7_sunny 11 = .ok (.iconst 0, 1) := by decide +kernel
theorem dX7_sunny_12 : decode cX7_sunny 12 = .ok (.sipush 9999, 3) := by decide +kernel
theorem dX7_sunny_15 : decode cX7_sunny 15 = .ok (.invokestatic 45, 3) := by decide +kernel
theorem dX7_sunny_18 : decode cX7_sunny 18 = .ok (.ifCond .ne 10, 3) := by decide +kernel
theorem dX7_sunny_21 : decode cX7_sunny 21 = .ok (.aload_n 0, 1) := by decide +kernel
theorem dX7_sunny_22 : decode cX7_sunny 22 = .ok (.ldc 44, 2) := by decide +kernel
theorem dX7_sunny_24 : decode cX7_sunny 24 = .ok (.invokevirtual 57, 3) := by decide +kernel
theorem dX7_sunny_27 : decode cX7_sunny 27 = .ok (.ireturn, 1) := by decide +kernel
theorem dX7_sunny_28 : decode cX7_sunny 28 = .ok (.iconst (-1), 1) := by decide +kernel
theorem dX7_sunny_29 : decode cX7_sunny 29 = .ok (.istore_n 3, 1) := by decide +kernel
theorem dX7_sunny_30 : decode cX7_sunny 30 = .ok (.aload_n 0, 1) := by decide +kernel
theorem dX7_sunny_31 : decode cX7_sunny 31 = .ok (.iconst 1, 1) := by decide +kernel
theorem dX7_sunny_32 : decode cX7_sunny 32 = .ok (.aload_n 0, 1) := by decide +kernel
theorem dX7_sunny_33 : decode cX7_sunny 33 = .ok (.getfield 16, 3) := by decide +kernel
theorem dX7_sunny_36 : decode cX7_sunny 36 = .ok (.invokevirtual 117, 3) := by decide +kernel
theorem dX7_sunny_39 : decode cX7_sunny 39 = .ok (.iconst 0, 1) := by decide +kernel
theorem dX7_sunny_40 : decode cX7_sunny 40 = .ok (.istore 4, 2) := by decide +kernel
theorem dX7_sunny_42 : decode cX7_sunny 42 = .ok (.iload 4, 2) := by decide +kernel
theorem dX7_sunny_44 : decode cX7_sunny 44 = .ok (.iconst 1, 1) := by decide +kernel
theorem dX7_sunny_45 : decode cX7_sunny 45 = .ok (.aload_n 0, 1) := by decide +kernel
theorem dX7_sunny_46 : decode cX7_sunny 46 = .ok (.getfield 7, 3) := by decide +kernel
theorem dX7_sunny_49 : decode cX7_sunny 49 = .ok (.iconst 5, 1) := by decide +kernel
theorem dX7_sunny_50 : decode cX7_sunny 50 = .ok (.iaload, 1) := by decide +kernel
theorem dX7_sunny_51 : decode cX7_sunny 51 = .ok (.ishl, 1) := by decide +kernel
theorem dX7_sunny_52 : decode cX7_sunny 52 = .ok (.if_icmp .ge 89, 3) := by decide +kernel
theorem dX7_sunny_55 : decode cX7_sunny 55 = .ok (.iconst 0, 1) := by decide +kernel
theorem dX7_sunny_56 : decode cX7_sunny 56 = .ok (.istore 5, 2) := by decide +kernel
theorem dX7_sunny_58 : decode cX7_sunny 58 = .ok (.iload 5, 2) := by decide +kernel
theorem dX7_sunny_60 : decode cX7_sunny 60 = .ok (.aload_n 0, 1) := by decide +kernel
theorem dX7_sunny_61 : decode cX7_sunny 61 = .ok (.getfield 7, 3) := by decide +kernel
theorem dX7_sunny_64 : decode cX7_sunny 64 = .ok (.iconst 5, 1) := by decide +kernel
theorem dX7_sunny_65 : decode cX7_sunny 65 = .ok (.iaload, 1) := by decide +kernel
theorem dX7_sunny_66 : decode cX7_sunny 66 = .ok (.if_icmp .ge 23, 3) := by decide +kernel
theorem dX7_sunny_69 : decode cX7_sunny 69 = .ok (.aload_n 0, 1) := by decide +kernel
theorem dX7_sunny_70 : decode cX7_sunny 70 = .ok (.iload 5, 2) := by decide +kernel
theorem dX7_sunny_72 : decode cX7_sunny 72 = .ok (.iconst 3, 1) := by decide +kernel
theorem dX7_sunny_73 : decode cX7_sunny 73 = .ok (.iload 4, 2) := by decide +kernel
theorem dX7_sunny_75 : decode cX7_sunny 75 = .ok (.iload 5, 2) := by decide +kernel
theorem dX7_sunny_77 : decode cX7_sunny 77 = .ok (.ishr, 1) := by decide +kernel
theorem dX7_sunny_78 : decode cX7_sunny 78 = .ok (.iconst 1, 1) := by decide +kernel
theorem dX7_sunny_79 : decode cX7_sunny 79 = .ok (.iand, 1) := by decide +kernel
theorem dX7_sunny_80 : decode cX7_sunny 80 = .ok (.invokevirtual 83, 3) := by decide +kernel
theorem dX7_sunny_83 : decode cX7_sunny 83 = .ok (.iinc 5 1, 3) := by decide +kernel
theorem dX7_sunny_86 : decode cX7_sunny 86 = .ok (.goto (-28), 3) := by decide +kernel
theorem dX7_sunny_89 : decode cX7_sunny 89 = .ok (.aload_n 0, 1) := by decide +kernel
theorem dX7_sunny_90 : decode cX7_sunny 90 = .ok (.iload_n 1, 1) := by decide +kernel
theorem dX7_sunny_91 : decode cX7_sunny 91 = .ok (.iconst 1, 1) := by decide +kernel
theorem dX7_sunny_92 : decode cX7_sunny 92 = .ok (.iconst 0, 1) := by decide +kernel
theorem dX7_sunny_93 : decode cX7_sunny 93 = .ok (.invokevirtual 121, 3) := by decide +kernel
theorem dX7_sunny_96 : decode cX7_sunny 96 = .ok (.iload_n 2, 1) := by decide +kernel
theorem dX7_sunny_97 : decode cX7_sunny 97 = .ok (.if_icmp .lt 7, 3) := by decide +kernel
theorem dX7_sunny_100 : decode cX7_sunny 100 = .ok (.iconst 1, 1) := by decide +kernel
theorem dX7_sunny_101 : decode cX7_sunny 101 = .ok (.goto 4, 3) := by decide +kernel
theorem dX7_sunny_104 : decode cX7_sunny 104 = .ok (.iconst 0, 1) := by decide +kernel
theorem dX7_sunny_105 : decode cX7_sunny 105 = .ok (.istore 5, 2) := by decide +kernel
theorem dX7_sunny_107 : decode cX7_sunny 107 = .ok (.iload 5, 2) := by decide +kernel
theorem dX7_sunny_109 : decode cX7_sunny 109 = .ok (.ifCond .eq 24, 3) := by decide +kernel
theorem dX7_sunny_112 : decode cX7_sunny 112 = .ok (.iload_n 3, 1) := by decide +kernel
theorem dX7_sunny_113 : decode cX7_sunny 113 = .ok (.ifCond .lt 15, 3) := by decide +kernel
theorem dX7_sunny_116 : decode cX7_sunny 116 = .ok (.iload 4, 2) := by decide +kernel
theorem dX7_sunny_118 : decode cX7_sunny 118 = .ok (.invokestatic 128, 3) := by decide +kernel
theorem dX7_sunny_121 : decode cX7_sunny 121 = .ok (.iload_n 3, 1) := by decide +kernel
theorem dX7_sunny_122 : decode cX7_sunny 122 = .ok (.invokestatic 128, 3) := by decide +kernel
theorem dX7_sunny_125 : decode cX7_sunny 125 = .ok (.if_icmp .le 8, 3) := by decide +kernel
theorem dX7_sunny_128 : decode cX7_sunny 128 = .ok (.iload 4, 2) := by decide +kernel
theorem dX7_sunny_130 : decode cX7_sunny 130 = .ok (.goto 4, 3) := by decide +kernel
theorem dX7_sunny_133 : decode cX7_sunny 133 = .ok (.iload_n 3, 1) := by decide +kernel
theorem dX7_sunny_134 : decode cX7_sunny 134 = .ok (.istore_n 3, 1) := by decide +kernel
theorem dX7_sunny_135 : decode cX7_sunny 135 = .ok (.iinc 4 1, 3) := by decide +kernel
theorem dX7_sunny_138 : decode cX7_sunny 138 = .ok (.goto (-96), 3) := by decide +kernel
theorem dX7_sunny_141 : decode cX7_sunny 141 = .ok (.iload_n 3, 1) := by decide +kernel
theorem dX7_sunny_142 : decode cX7_sunny 142 = .ok (.ifCond .ge 12, 3) := by decide +kernel
theorem dX7_sunny_145 : decode cX7_sunny 145 = .ok (.aload_n 0, 1) := by decide +kernel
theorem dX7_sunny_146 : decode cX7_sunny 146 = .ok (.ldc 124, 2) := by decide +kernel
theorem dX7_sunny_148 : decode cX7_sunny 148 = .ok (.invokevirtual 57, 3) := by decide +kernel
theorem dX7_sunny_151 : decode cX7_sunny 151 = .ok (.goto 4, 3) := by decide +kernel
theorem dX7_sunny_154 : decode cX7_sunny 154 = .ok (.iload_n 3, 1) := by decide +kernel
theorem dX7_sunny_155 : decode cX7_sunny 155 = .ok (.ireturn, 1) := by decide +kernel
theorem dX7_feed_0 : decode cX7_feed 0 = .ok (.iload_n 2, 1) := by decide +kernel
theorem dX7_feed_1 : decode cX7_feed 1 = .ok (.iconst 1, 1) := by decide +kernel
theorem dX7_feed_2 : decode cX7_feed 2 = .ok (.iconst 4, 1) := by decide +kernel
theorem dX7_feed_3 : decode cX7_feed 3 = .ok (.invokestatic 45, 3) := by decide +kernel
theorem dX7_feed_6 : decode cX7_feed 6 = .ok (.ifCond .ne 10, 3) := by decide +kernel
theorem dX7_feed_9 : decode cX7_feed 9 = .ok (.aload_n 0, 1) := by decide +kernel
theorem dX7_feed_10 : decode cX7_feed 10 = .ok (.ldc 44, 2) := by decide +kernel
theorem dX7_feed_12 : decode cX7_feed 12 = .ok (.invokevirtual 57, 3) := by decide +kernel
theorem dX7_feed_15 : decode cX7_feed 15 = .ok (.ireturn, 1) := by decide +kernel
theorem dX7_feed_16 : decode cX7_feed 16 = .ok (.aload_n 0, 1) := by decide +kernel
theorem dX7_feed_17 : decode cX7_feed 17 = .ok (.getfield 131, 3) := by decide +kernel
theorem dX7_feed_20 : decode cX7_feed 20 = .ok (.iload_n 2, 1) := by decide +kernel
theorem dX7_feed_21 : decode cX7_feed 21 = .ok (.iadd, 1) := by decide +kernel
theorem dX7_feed_22 : decode cX7_feed 22 = .ok (.bipush 120, 2) := by decide +kernel
theorem dX7_feed_24 : decode cX7_feed 24 = .ok (.if_icmp .le 10, 3) := by decide +kernel
theorem dX7_feed_27 : decode cX7_feed 27 = .ok (.aload_n 0, 1) := by decide +kernel
theorem dX7_feed_28 : decode cX7_feed 28 = .ok (.ldc 94, 2) := by decide +kernel
theorem dX7_feed_30 : decode cX7_feed 30 = .ok (.invokevirtual 57, 3) := by decide +kernel
theorem dX7_feed_33 : decode cX7_feed 33 = .ok (.ireturn, 1) := by decide +kernel
theorem dX7_feed_34 : decode cX7_feed 34 = .ok (.iload_n 2, 1) := by decide +kernel
theorem dX7_feed_35 : decode cX7_feed 35 = .ok (.iconst 1, 1) := by decide +kernel
theorem dX7_feed_36 : decode cX7_feed 36 = .ok (.isub, 1) := by decide +kernel
theorem dX7_feed_37 : decode cX7_feed 37 = .ok (.istore_n 3, 1) := by decide +kernel
theorem dX7_feed_38 : decode cX7_feed 38 = .ok (.iload_n 3, 1) := by decide +kernel
theorem dX7_feed_39 : decode cX7_feed 39 = .ok (.ifCond .lt 38, 3) := by decide +kernel
theorem dX7_feed_42 : decode cX7_feed 42 = .ok (.aload_n 0, 1) := by decide +kernel
theorem dX7_feed_43 : decode cX7_feed 43 = .ok (.getfield 22, 3) := by decide +kernel
theorem dX7_feed_46 : decode cX7_feed 46 = .ok (.aload_n 0, 1) := by decide +kernel
theorem dX7_feed_47 : decode cX7_feed 47 = .ok (.getfield 131, 3) := by decide +kernel
theorem dX7_feed_50 : decode cX7_feed 50 = .ok (.iload_n 1, 1) := by decide +kernel
theorem dX7_feed_51 : decode cX7_feed 51 = .ok (.bipush 8, 2) := by decide +kernel
theorem dX7_feed_53 : decode cX7_feed 53 = .ok (.iload_n 3, 1) := by decide +kernel
theorem dX7_feed_54 : decode cX7_feed 54 = .ok (.imul, 1) := by decide +kernel
theorem dX7_feed_55 : decode cX7_feed 55 = .ok (.ishr, 1) := by decide +kernel
theorem dX7_feed_56 : decode cX7_feed 56 = .ok (.sipush 255, 3) := by decide +kernel
theorem dX7_feed_59 : decode cX7_feed 59 = .ok (.iand, 1) := by decide +kernel
theorem dX7_feed_60 : decode cX7_feed 60 = .ok (.iastore, 1) := by decide +kernel
theorem dX7_feed_61 : decode cX7_feed 61 = .ok (.aload_n 0, 1) := by decide +kernel
theorem dX7_feed_62 : decode cX7_feed 62 = .ok (.dup, 1) := by decide +kernel
theorem dX7_feed_63 : decode cX7_feed 63 = .ok (.getfield 131, 3) := by decide +kernel
theorem dX7_feed_66 : decode cX7_feed 66 = .ok (.iconst 1, 1) := by decide +kernel
theorem dX7_feed_67 : decode cX7_feed 67 = .ok (.iadd, 1) := by decide +kernel
theorem dX7_feed_68 : decode cX7_feed 68 = .ok (.putfield 131, 3) := by decide +kernel
theorem dX7_feed_71 : decode cX7_feed 71 = .ok (.iinc 3 (-1), 3) := by decide +kernel
theorem dX7_feed_74 : decode cX7_feed 74 = .ok (.goto (-36), 3) := by decide +kernel
theorem dX7_feed_77 : decode cX7_feed 77 = .ok (.aload_n 0, 1) := by decide +kernel
theorem dX7_feed_78 : decode cX7_feed 78 = .ok (.getfield 131, 3) := by decide +kernel
theorem dX7_feed_81 : decode cX7_feed 81 = .ok (.ireturn, 1) := by decide +kernel
theorem dX7_wipe_0 : decode cX7_wipe 0 = .ok (.aload_n 0, 1) := by decide +kernel
theorem dX7_wipe_1 : decode cX7_wipe 1 = .ok (.getfield 131, 3) := by decide +kernel
theorem dX7_wipe_4 : decode cX7_wipe 4 = .ok (.istore_n 1, 1) := by decide +kernel
theorem dX7_wipe_5 : decode cX7_wipe 5 = .ok (.aload_n 0, 1) := by decide +kernel
theorem dX7_wipe_6 : decode cX7_wipe 6 = .ok (.iconst 0, 1) := by decide +kernel
theorem dX7_wipe_7 : decode cX7_wipe 7 = .ok (.putfield 131, 3) := by decide +kernel
theorem dX7_wipe_10 : decode cX7_wipe 10 = .ok (.iload_n 1, 1) := by decide +kernel
theorem dX7_wipe_11 : decode cX7_wipe 11 = .ok (.ireturn, 1) := by decide +kernel
theorem dX7_byteAt_0 : decode cX7_byteAt 0 = .ok (.iload_n 1, 1) := by decide +kernel
theorem dX7_byteAt_1 : decode cX7_byteAt 1 = .ok (.aload_n 0, 1) := by decide +kernel
theorem dX7_byteAt_2 : decode cX7_byteAt 2 = .ok (.getfield 131, 3) := by decide +kernel
theorem dX7_byteAt_5 : decode cX7_byteAt 5 = .ok (.if_icmp .ge 12, 3) := by decide +kernel
theorem dX7_byteAt_8 : decode cX7_byteAt 8 = .ok (.aload_n 0, 1) := by decide +kernel
theorem dX7_byteAt_9 : decode cX7_byteAt 9 = .ok (.getfield 22, 3) := by decide +kernel
theorem dX7_byteAt_12 : decode cX7_byteAt 12 = .ok (.iload_n 1, 1) := by decide +kernel
theorem dX7_byteAt_13 : decode cX7_byteAt 13 = .ok (.iaload, 1) := by decide +kernel
theorem dX7_byteAt_14 : decode cX7_byteAt 14 = .ok (.goto 4, 3) := by decide +kernel
theorem dX7_byteAt_17 : decode cX7_byteAt 17 = .ok (.iconst (-1), 1) := by decide +kernel
theorem dX7_byteAt_18 : decode cX7_byteAt 18 = .ok (.ireturn, 1) := by decide +kernel
theorem dX7_isLetter_0 : decode cX7_isLetter 0 = .ok (.iload_n 0, 1) := by decide +kernel
theorem dX7_isLetter_1 : decode cX7_isLetter 1 = .ok (.bipush 97, 2) := by decide +kernel
theorem dX7_isLetter_3 : decode cX7_isLetter 3 = .ok (.bipush 122, 2) := by decide +kernel
theorem dX7_isLetter_5 : decode cX7_isLetter 5 = .ok (.invokestatic 45, 3) := by decide +kernel
theorem dX7_isLetter_8 : decode cX7_isLetter 8 = .ok (.ireturn, 1) := by decide +kernel
theorem dX7_isDigit_0 : decode cX7_isDigit 0 = .ok (.iload_n 0, 1) := by decide +kernel
theorem dX7_isDigit_1 : decode cX7_isDigit 1 = .ok (.bipush 48, 2) := by decide +kernel
theorem dX7_isDigit_3 : decode cX7_isDigit 3 = .ok (.bipush 57, 2) := by decide +kernel
theorem dX7_isDigit_5 : decode cX7_isDigit 5 = .ok (.invokestatic 45, 3) := by decide +kernel
theorem dX7_isDigit_8 : decode cX7_isDigit 8 = .ok (.ireturn, 1) := by decide +kernel
theorem dX7_advance_0 : decode cX7_advance 0 = .ok (.aload_n 0, 1) := by decide +kernel
theorem dX7_advance_1 : decode cX7_advance 1 = .ok (.aload_n 0, 1) := by decide +kernel
theorem dX7_advance_2 : decode cX7_advance 2 = .ok (.getfield 135, 3) := by decide +kernel
theorem dX7_advance_5 : decode cX7_advance 5 = .ok (.putfield 138, 3) := by decide +kernel
theorem dX7_advance_8 : decode cX7_advance 8 = .ok (.aload_n 0, 1) := by decide +kernel
theorem dX7_advance_9 : decode cX7_advance 9 = .ok (.aload_n 0, 1) := by decide +kernel
theorem dX7_advance_10 : decode cX7_advance 10 = .ok (.getfield 138, 3) := by decide +kernel
theorem dX7_advance_13 : decode cX7_advance 13 = .ok (.invokevirtual 141, 3) := by decide +kernel
theorem dX7_advance_16 : decode cX7_advance 16 = .ok (.bipush 32, 2) := by decide +kernel
theorem dX7_advance_18 : decode cX7_advance 18 = .ok (.if_icmp .ne 16, 3) := by decide +kernel
theorem dX7_advance_21 : decode cX7_advance 21 = .ok (.aload_n 0, 1) := by decide +kernel
theorem dX7_advance_22 : decode cX7_advance 22 = .ok (.dup, 1) := by decide +kernel
theorem dX7_advance_23 : decode cX7_advance 23 = .ok (.getfield 138, 3) := by decide +kernel
theorem dX7_advance_26 : decode cX7_advance 26 = .ok (.iconst 1, 1) := by decide +kernel
theorem dX7_advance_27 : decode cX7_advance 27 = .ok (.iadd, 1) := by decide +kernel
theorem dX7_advance_28 : decode cX7_advance 28 = .ok (.putfield 138, 3) := by decide +kernel
theorem dX7_advance_31 : decode cX7_advance 31 = .ok (.goto (-23), 3) := by decide +kernel
theorem dX7_advance_34 : decode cX7_advance 34 = .ok (.aload_n 0, 1) := by decide +kernel
theorem dX7_advance_35 : decode cX7_advance 35 = .ok (.aload_n 0, 1) := by decide +kernel
theorem dX7_advance_36 : decode cX7_advance 36 = .ok (.getfield 138, 3) := by decide +kernel
theorem dX7_advance_39 : decode cX7_advance 39 = .ok (.putfield 135, 3) := by decide +kernel
theorem dX7_advance_42 : decode cX7_advance 42 = .ok (.aload_n 0, 1) := by decide +kernel
theorem dX7_advance_43 : decode cX7_advance 43 = .ok (.aload_n 0, 1) := by decide +kernel
theorem dX7_advance_44 : decode cX7_advance 44 = .ok (.getfield 138, 3) := by decide +kernel
theorem dX7_advance_47 : decode cX7_advance 47 = .ok (.invokevirtual 141, 3) := by decide +kernel
theorem dX7_advance_50 : decode cX7_advance 50 = .ok (.istore_n 1, 1) := by decide +kernel
theorem dX7_advance_51 : decode cX7_advance 51 = .ok (.aload_n 0, 1) := by decide +kernel
theorem dX7_advance_52 : decode cX7_advance 52 = .ok (.iload_n 1, 1) := by decide +kernel
theorem dX7_advance_53 : decode cX7_advance 53 = .ok (.ifCond .ge 7, 3) := by decide +kernel
theorem dX7_advance_56 : decode cX7_advance 56 = .ok (.iconst 0, 1) := by decide +kernel
theorem dX7_advance_57 : decode cX7_advance 57 = .ok (.goto 26, 3) := by decide +kernel
theorem dX7_advance_60 : decode cX7_advance 60 = .ok (.iload_n 1, 1) := by decide +kernel
theorem dX7_advance_61 : decode cX7_advance 61 = .ok (.invokestatic 144, 3) := by decide +kernel
theorem dX7_advance_64 : decode cX7_advance 64 = .ok (.ifCond .eq 7, 3) := by decide +kernel
theorem dX7_advance_67 : decode cX7_advance 67 = .ok (.iconst 1, 1) := by decide +kernel
theorem dX7_advance_68 : decode cX7_advance 68 = .ok (.goto 15, 3) := by decide +kernel
theorem dX7_advance_71 : decode cX7_advance 71 = .ok (.iload_n 1, 1) := by decide +kernel
theorem dX7_advance_72 : decode cX7_advance 72 = .ok (.invokestatic 147, 3) := by decide +kernel
theorem dX7_advance_75 : decode cX7_advance 75 = .ok (.ifCond .eq 7, 3) := by decide +kernel
theorem dX7_advance_78 : decode cX7_advance 78 = .ok (.iconst 2, 1) := by decide +kernel
theorem dX7_advance_79 : decode cX7_advance 79 = .ok (.goto 4, 3) := by decide +kernel
theorem dX7_advance_82 : decode cX7_advance 82 = .ok (.iconst 3, 1) := by decide +kernel
theorem dX7_advance_83 : decode cX7_advance 83 = .ok (.putfield 150, 3) := by decide +kernel
theorem dX7_advance_86 : decode cX7_advance 86 = .ok (.aload_n 0, 1) := by decide +kernel
theorem dX7_advance_87 : decode cX7_advance 87 = .ok (.lconst 0, 1) := by decide +kernel
theorem dX7_advance_88 : decode cX7_advance 88 = .ok (.putfield 153, 3) := by decide +kernel
theorem dX7_advance_91 : decode cX7_advance 91 = .ok (.aload_n 0, 1) := by decide +kernel
theorem dX7_advance_92 : decode cX7_advance 92 = .ok (.aload_n 0, 1) := by decide +kernel
theorem dX7_advance_93 : decode cX7_advance 93 = .ok (.getfield 150, 3) := by decide +kernel
theorem dX7_advance_96 : decode cX7_advance 96 = .ok (.iconst 2, 1) := by decide +kernel
theorem dX7_advance_97 : decode cX7_advance 97 = .ok (.if_icmp .ne 7, 3) := by decide +kernel
theorem dX7_advance_100 : decode cX7_advance 100 = .ok (.iconst 0, 1) := by decide +kernel
theorem dX7_advance_101 : decode cX7_advance 101 = .ok (.goto 4, 3) := by decide +kernel
theorem dX7_advance_104 : decode cX7_advance 104 = .ok (.iload_n 1, 1) := by decide +kernel
theorem dX7_advance_105 : decode cX7_advance 105 = .ok (.putfield 157, 3) := by decide +kernel
theorem dX7_advance_108 : decode cX7_advance 108 = .ok (.aload_n 0, 1) := by decide +kernel
theorem dX7_advance_109 : decode cX7_advance 109 = .ok (.getfield 150, 3) := by decide +kernel
theorem dX7_advance_112 : decode cX7_advance 112 = .ok (.iconst 3, 1) := by decide +kernel
theorem dX7_advance_113 : decode cX7_advance 113 = .ok (.if_icmp .ne 13, 3) := by decide +kernel
theorem dX7_advance_116 : decode cX7_advance 116 = .ok (.aload_n 0, 1) := by decide +kernel
theorem dX7_advance_117 : decode cX7_advance 117 = .ok (.dup, 1) := by decide +kernel
theorem dX7_advance_118 : decode cX7_advance 118 = .ok (.getfield 135, 3) := by decide +kernel
theorem dX7_advance_121 : decode cX7_advance 121 = .ok (.iconst 1, 1) := by decide +kernel
theorem dX7_advance_122 : decode cX7_advance 122 = .ok (.iadd, 1) := by decide +kernel
theorem dX7_advance_123 : decode cX7_advance 123 = .ok (.putfield 135, 3) := by decide +kernel
theorem dX7_advance_126 : decode cX7_advance 126 = .ok (.aload_n 0, 1) := by decide +kernel
theorem dX7_advance_127 : decode cX7_advance 127 = .ok (.getfield 150, 3) := by decide +kernel
theorem dX7_advance_130 : decode cX7_advance 130 = .ok (.iconst 1, 1) := by decide +kernel
theorem dX7_advance_131 : decode cX7_advance 131 = .ok (.if_icmp .ne 76, 3) := by decide +kernel
theorem dX7_advance_134 : decode cX7_advance 134 = .ok (.aload_n 0, 1) := by decide +kernel
theorem dX7_advance_135 : decode cX7_advance 135 = .ok (.aload_n 0, 1) := by decide +kernel
theorem dX7_advance_136 : decode cX7_advance 136 = .ok (.getfield 135, 3) := by decide +kernel
theorem dX7_advance_139 : decode cX7_advance 139 = .ok (.invokevirtual 141, 3) := by decide +kernel
theorem dX7_advance_142 : decode cX7_advance 142 = .ok (.invokestatic 144, 3) := by decide +kernel
theorem dX7_advance_145 : decode cX7_advance 145 = .ok (.ifCond .eq 62, 3) := by decide +kernel
theorem dX7_advance_148 : decode cX7_advance 148 = .ok (.aload_n 0, 1) := by decide +kernel
theorem dX7_advance_149 : decode cX7_advance 149 = .ok (.aload_n 0, 1) := by decide +kernel
theorem dX7_advance_150 : decode cX7_advance 150 = .ok (.getfield 135, 3) := by decide +kernel
theorem dX7_advance_153 : decode cX7_advance 153 = .ok (.aload_n 0, 1) := by decide +kernel
theorem dX7_advance_154 : decode cX7_advance 154 = .ok (.getfield 138, 3) := by decide +kernel
theorem dX7_advance_157 : decode cX7_advance 157 = .ok (.isub, 1) := by decide +kernel
theorem dX7_advance_158 : decode cX7_advance 158 = .ok (.bipush 12, 2) := by decide +kernel
theorem dX7_advance_160 : decode cX7_advance 160 = .ok (.if_icmp .ge 28, 3) := by decide +kernel
theorem dX7_advance_163 : decode cX7_advance 163 = .ok (.ldc2_w 160, 3) := by decide +kernel
theorem dX7_advance_166 : decode cX7_advance 166 = .ok (.aload_n 0, 1) := by decide +kernel
theorem dX7_advance_167 : decode cX7_advance 167 = .ok (.getfield 153, 3) := by decide +kernel
theorem dX7_advance_170 : decode cX7_advance 170 = .ok (.lmul, 1) := by decide +kernel
theorem dX7_advance_171 : decode cX7_advance 171 = .ok (.aload_n 0, 1) := by decide +kernel
theorem dX7_advance_172 : decode cX7_advance 172 = .ok (.aload_n 0, 1) := by decide +kernel
theorem dX7_advance_173 : decode cX7_advance 173 = .ok (.getfield 135, 3) := by decide +kernel
theorem dX7_advance_176 : decode cX7_advance 176 = .ok (.invokevirtual 141, 3) := by decide +kernel
theorem dX7_advance_179 : decode cX7_advance 179 = .ok (.i2l, 1) := by decide +kernel
theorem dX7_advance_180 : decode cX7_advance 180 = .ok (.ladd, 1) := by decide +kernel
theorem dX7_advance_181 : decode cX7_advance 181 = .ok (.ldc2_w 162, 3) := by decide +kernel
theorem dX7_advance_184 : decode cX7_advance 184 = .ok (.lsub, 1) := by decide +kernel
theorem dX7_advance_185 : decode cX7_advance 185 = .ok (.goto 6, 3) := by decide +kernel
theorem dX7_advance_188 : decode cX7_advance 188 = .ok (.ldc2_w 164, 3) := by decide +kernel
theorem dX7_advance_191 : decode cX7_advance 191 = .ok (.putfield 153, 3) := by decide +kernel
theorem dX7_advance_194 : decode cX7_advance 194 = .ok (.aload_n 0, 1) := by decide +kernel
theorem dX7_advance_195 : decode cX7_advance 195 = .ok (.dup, 1) := by decide +kernel
theorem dX7_advance_196 : decode cX7_advance 196 = .ok (.getfield 135, 3) := by decide +kernel
theorem dX7_advance_199 : decode cX7_advance 199 = .ok (.iconst 1, 1) := by decide +kernel
theorem dX7_advance_200 : decode cX7_advance 200 = .ok (.iadd, 1) := by decide +kernel
theorem dX7_advance_201 : decode cX7_advance 201 = .ok (.putfield 135, 3) := by decide +kernel
theorem dX7_advance_204 : decode cX7_advance 204 = .ok (.goto (-78), 3) := by decide +kernel
theorem dX7_advance_207 : decode cX7_advance 207 = .ok (.aload_n 0, 1) := by decide +kernel
theorem dX7_advance_208 : decode cX7_advance 208 = .ok (.getfield 150, 3) := by decide +kernel
theorem dX7_advance_211 : decode cX7_advance 211 = .ok (.iconst 2, 1) := by decide +kernel
theorem dX7_advance_212 : decode cX7_advance 212 = .ok (.if_icmp .ne 69, 3) := by decide +kernel
theorem dX7_advance_215 : decode cX7_advance 215 = .ok (.aload_n 0, 1) := by decide +kernel
theorem dX7_advance_216 : decode cX7_advance 216 = .ok (.aload_n 0, 1) := by decide +kernel
theorem dX7_advance_217 : decode cX7_advance 217 = .ok (.getfield 135, 3) := by decide +kernel
theorem dX7_advance_220 : decode cX7_advance 220 = .ok (.invokevirtual 141, 3) := by decide +kernel
theorem dX7_advance_223 : decode cX7_advance 223 = .ok (.invokestatic 147, 3) := by decide +kernel
theorem dX7_advance_226 : decode cX7_advance 226 = .ok (.ifCond .eq 55, 3) := by decide +kernel
theorem dX7_advance_229 : decode cX7_advance 229 = .ok (.aload_n 0, 1) := by decide +kernel
theorem dX7_advance_230 : decode cX7_advance 230 = .ok (.aload_n 0, 1) := by decide +kernel
theorem dX7_advance_231 : decode cX7_advance 231 = .ok (.getfield 157, 3) := by decide +kernel
theorem dX7_advance_234 : decode cX7_advance 234 = .ok (.sipush 999, 3) := by decide +kernel
theorem dX7_advance_237 : decode cX7_advance 237 = .ok (.if_icmp .le 9, 3) := by decide +kernel
theorem dX7_advance_240 : decode cX7_advance 240 = .ok (.sipush 10000, 3) := by decide +kernel
theorem dX7_advance_243 : decode cX7_advance 243 = .ok (.goto 22, 3) := by decide +kernel
theorem dX7_advance_246 : decode cX7_advance 246 = .ok (.bipush 10, 2) := by decide +kernel
theorem dX7_advance_248 : decode cX7_advance 248 = .ok (.aload_n 0, 1) := by decide +kernel
theorem dX7_advance_249 : decode cX7_advance 249 = .ok (.getfield 157, 3) := by decide +kernel
theorem dX7_advance_252 : decode cX7_advance 252 = .ok (.imul, 1) := by decide +kernel
theorem dX7_advance_253 : decode cX7_advance 253 = .ok (.aload_n 0, 1) := by decide +kernel
theorem dX7_advance_254 : decode cX7_advance 254 = .ok (.aload_n 0, 1) := by decide +kernel
theorem dX7_advance_255 : decode cX7_advance 255 = .ok (.getfield 135, 3) := by decide +kernel
theorem dX7_advance_258 : decode cX7_advance 258 = .ok (.invokevirtual 141, 3) := by decide +kernel
theorem dX7_advance_261 : decode cX7_advance 261 = .ok (.iadd, 1) := by decide +kernel
theorem dX7_advance_262 : decode cX7_advance 262 = .ok (.bipush 48, 2) := by decide +kernel
theorem dX7_advance_264 : decode cX7_advance 264 = .ok (.isub, 1) := by decide +kernel
theorem dX7_advance_265 : decode cX7_advance 265 = .ok (.putfield 157, 3) := by decide +kernel
theorem dX7_advance_268 : decode cX7_advance 268 = .ok (.aload_n 0, 1) := by decide +kernel
theorem dX7_advance_269 : decode cX7_advance 269 = .ok (.dup, 1) := by decide +kernel
theorem dX7_advance_270 : decode cX7_advance 270 = .ok (.getfield 135, 3) := by decide +kernel
theorem dX7_advance_273 : decode cX7_advance 273 = .ok (.iconst 1, 1) := by decide +kernel
theorem dX7_advance_274 : decode cX7_advance 274 = .ok (.iadd, 1) := by decide +kernel
theorem dX7_advance_275 : decode cX7_advance 275 = .ok (.putfield 135, 3) := by decide +kernel
theorem dX7_advance_278 : decode cX7_advance 278 = .ok (.goto (-71), 3) := by decide +kernel
theorem dX7_advance_281 : decode cX7_advance 281 = .ok (.return_, 1) := by decide +kernel
theorem dX7_isWord_0 : decode cX7_isWord 0 = .ok (.aload_n 0, 1) := by decide +kernel
theorem dX7_isWord_1 : decode cX7_isWord 1 = .ok (.getfield 150, 3) := by decide +kernel
theorem dX7_isWord_4 : decode cX7_isWord 4 = .ok (.iconst 1, 1) := by decide +kernel
theorem dX7_isWord_5 : decode cX7_isWord 5 = .ok (.if_icmp .ne 16, 3) := by decide +kernel
theorem dX7_isWord_8 : decode cX7_isWord 8 = .ok (.aload_n 0, 1) := by decide +kernel
theorem dX7_isWord_9 : decode cX7_isWord 9 = .ok (.getfield 153, 3) := by decide +kernel
theorem dX7_isWord_12 : decode cX7_isWord 12 = .ok (.lload_n 1, 1) := by decide +kernel
theorem dX7_isWord_13 : decode cX7_isWord 13 = .ok (.lcmp, 1) := by decide +kernel
theorem dX7_isWord_14 : decode cX7_isWord 14 = .ok (.ifCond .ne 7, 3) := by decide +kernel
theorem dX7_isWord_17 : decode cX7_isWord 17 = .ok (.iconst 1, 1) := by decide +kernel
theorem dX7_isWord_18 : decode cX7_isWord 18 = .ok (.goto 4, 3) := by decide +kernel
theorem dX7_isWord_21 : decode cX7_isWord 21 = .ok (.iconst 0, 1) := by decide +kernel
theorem dX7_isWord_22 : decode cX7_isWord 22 = .ok (.ireturn, 1) := by decide +kernel
theorem dX7_kindHere_0 : decode cX7_kindHere 0 = .ok (.aload_n 0, 1) := by decide +kernel
theorem dX7_kindHere_1 : decode cX7_kindHere 1 = .ok (.ldc2_w 166, 3) := by decide +kernel
theorem dX7_kindHere_4 : decode cX7_kindHere 4 = .ok (.invokevirtual 168, 3) := by decide +kernel
theorem dX7_kindHere_7 : decode cX7_kindHere 7 = .ok (.ifCond .eq 7, 3) := by decide +kernel
theorem dX7_kindHere_10 : decode cX7_kindHere 10 = .ok (.iconst 0, 1) := by decide +kernel
theorem dX7_kindHere_11 : decode cX7_kindHere 11 = .ok (.goto 74, 3) := by decide +kernel
theorem dX7_kindHere_14 : decode cX7_kindHere 14 = .ok (.aload_n 0, 1) := by decide +kernel
theorem dX7_kindHere_15 : decode cX7_kindHere 15 = .ok (.ldc2_w 172, 3) := by decide +kernel
theorem dX7_kindHere_18 : decode cX7_kindHere 18 = .ok (.invokevirtual 168, 3) := by decide +kernel
theorem dX7_kindHere_21 : decode cX7_kindHere 21 = .ok (.ifCond .eq 7, 3) := by decide +kernel
theorem dX7_kindHere_24 : decode cX7_kindHere 24 = .ok (.iconst 1, 1) := by decide +kernel
theorem dX7_kindHere_25 : decode cX7_kindHere 25 = .ok (.goto 60, 3) := by decide +kernel
theorem dX7_kindHere_28 : decode cX7_kindHere 28 = .ok (.aload_n 0, 1) := by decide +kernel
theorem dX7_kindHere_29 : decode cX7_kindHere 29 = .ok (.ldc2_w 174, 3) := by decide +kernel
theorem dX7_kindHere_32 : decode cX7_kindHere 32 = .ok (.invokevirtual 168, 3) := by decide +kernel
theorem dX7_kindHere_35 : decode cX7_kindHere 35 = .ok (.ifCond .eq 7, 3) := by decide +kernel
theorem dX7_kindHere_38 : decode cX7_kindHere 38 = .ok (.iconst 2, 1) := by decide +kernel
theorem dX7_kindHere_39 : decode cX7_kindHere 39 = .ok (.goto 46, 3) := by decide +kernel
theorem dX7_kindHere_42 : decode cX7_kindHere 42 = .ok (.aload_n 0, 1) := by decide +kernel
theorem dX7_kindHere_43 : decode cX7_kindHere 43 = .ok (.ldc2_w 176, 3) := by decide +kernel
theorem dX7_kindHere_46 : decode cX7_kindHere 46 = .ok (.invokevirtual 168, 3) := by decide +kernel
theorem dX7_kindHere_49 : decode cX7_kindHere 49 = .ok (.ifCond .eq 7, 3) := by decide +kernel
theorem dX7_kindHere_52 : decode cX7_kindHere 52 = .ok (.iconst 3, 1) := by decide +kernel
theorem dX7_kindHere_53 : decode cX7_kindHere 53 = .ok (.goto 32, 3) := by decide +kernel
theorem dX7_kindHere_56 : decode cX7_kindHere 56 = .ok (.aload_n 0, 1) := by decide +kernel
theorem dX7_kindHere_57 : decode cX7_kindHere 57 = .ok (.ldc2_w 178, 3) := by decide +kernel
theorem dX7_kindHere_60 : decode cX7_kindHere 60 = .ok (.invokevirtual 168, 3) := by decide +kernel
theorem dX7_kindHere_63 : decode cX7_kindHere 63 = .ok (.ifCond .eq 7, 3) := by decide +kernel
theorem dX7_kindHere_66 : decode cX7_kindHere 66 = .ok (.iconst 4, 1) := by decide +kernel
theorem dX7_kindHere_67 : decode cX7_kindHere 67 = .ok (.goto 18, 3) := by decide +kernel
theorem dX7_kindHere_70 : decode cX7_kindHere 70 = .ok (.aload_n 0, 1) := by decide +kernel
theorem dX7_kindHere_71 : decode cX7_kindHere 71 = .ok (.ldc2_w 180, 3) := by decide +kernel
theorem dX7_kindHere_74 : decode cX7_kindHere 74 = .ok (.invokevirtual 168, 3) := by decide +kernel
theorem dX7_kindHere_77 : decode cX7_kindHere 77 = .ok (.ifCond .eq 7, 3) := by decide +kernel
theorem dX7_kindHere_80 : decode cX7_kindHere 80 = .ok (.iconst 5, 1) := by decide +kernel
theorem dX7_kindHere_81 : decode cX7_kindHere 81 = .ok (.goto 4, 3) := by decide +kernel
theorem dX7_kindHere_84 : decode cX7_kindHere 84 = .ok (.iconst (-1), 1) := by decide +kernel
theorem dX7_kindHere_85 : decode cX7_kindHere 85 = .ok (.ireturn, 1) := by decide +kernel
theorem dX7_wantNumber_0 : decode cX7_wantNumber 0 = .ok (.aload_n 0, 1) := by decide +kernel
theorem dX7_wantNumber_1 : decode cX7_wantNumber 1 = .ok (.getfield 157, 3) := by decide +kernel
theorem dX7_wantNumber_4 : decode cX7_wantNumber 4 = .ok (.istore_n 3, 1) := by decide +kernel
theorem dX7_wantNumber_5 : decode cX7_wantNumber 5 = .ok (.aload_n 0, 1) := by decide +kernel
theorem dX7_wantNumber_6 : decode cX7_wantNumber 6 = .ok (.aload_n 0, 1) := by decide +kernel
theorem dX7_wantNumber_7 : decode cX7_wantNumber 7 = .ok (.getfield 182, 3) := by decide +kernel
theorem dX7_wantNumber_10 : decode cX7_wantNumber 10 = .ok (.ifCond .eq 24, 3) := by decide +kernel
theorem dX7_wantNumber_13 : decode cX7_wantNumber 13 = .ok (.aload_n 0, 1) := by decide +kernel
theorem dX7_wantNumber_14 : decode cX7_wantNumber 14 = .ok (.getfield 150, 3) := by decide +kernel
theorem dX7_wantNumber_17 : decode cX7_wantNumber 17 = .ok (.iconst 2, 1) := by decide +kernel
theorem dX7_wantNumber_18 : decode cX7_wantNumber 18 = .ok (.if_icmp .ne 16, 3) := by decide +kernel
theorem dX7_wantNumber_21 : decode cX7_wantNumber 21 = .ok (.iload_n 3, 1) := by decide +kernel
theorem dX7_wantNumber_22 : decode cX7_wantNumber 22 = .ok (.iload_n 1, 1) := by decide +kernel
theorem dX7_wantNumber_23 : decode cX7_wantNumber 23 = .ok (.iload_n 2, 1) := by decide +kernel
theorem dX7_wantNumber_24 : decode cX7_wantNumber 24 = .ok (.invokestatic 45, 3) := by decide +kernel
theorem dX7_wantNumber_27 : decode cX7_wantNumber 27 = .ok (.ifCond .eq 7, 3) := by decide +kernel
theorem dX7_wantNumber_30 : decode cX7_wantNumber 30 = .ok (.iconst 1, 1) := by decide +kernel
theorem dX7_wantNumber_31 : decode cX7_wantNumber 31 = .ok (.goto 4, 3) := by decide +kernel
theorem dX7_wantNumber_34 : decode cX7_wantNumber 34 = .ok (.iconst 0, 1) := by decide +kernel
theorem dX7_wantNumber_35 : decode cX7_wantNumber 35 = .ok (.putfield 182, 3) := by decide +kernel
theorem dX7_wantNumber_38 : decode cX7_wantNumber 38 = .ok (.aload_n 0, 1) := by decide +kernel
theorem dX7_wantNumber_39 : decode cX7_wantNumber 39 = .ok (.getfield 182, 3) := by decide +kernel
theorem dX7_wantNumber_42 : decode cX7_wantNumber 42 = .ok (.ifCond .eq 7, 3) := by decide +kernel
theorem dX7_wantNumber_45 : decode cX7_wantNumber 45 = .ok (.aload_n 0, 1) := by decide +kernel
theorem dX7_wantNumber_46 : decode cX7_wantNumber 46 = .ok (.invokevirtual 186, 3) := by decide +kernel
theorem dX7_wantNumber_49 : decode cX7_wantNumber 49 = .ok (.iload_n 3, 1) := by decide +kernel
theorem dX7_wantNumber_50 : decode cX7_wantNumber 50 = .ok (.ireturn, 1) := by decide +kernel
theorem dX7_wantOne_0 : decode cX7_wantOne 0 = .ok (.aload_n 0, 1) := by decide +kernel
theorem dX7_wantOne_1 : decode cX7_wantOne 1 = .ok (.aload_n 0, 1) := by decide +kernel
theorem dX7_wantOne_2 : decode cX7_wantOne 2 = .ok (.getfield 7, 3) := by decide +kernel
theorem dX7_wantOne_5 : decode cX7_wantOne 5 = .ok (.iconst 5, 1) := by decide +kernel
theorem dX7_wantOne_6 : decode cX7_wantOne 6 = .ok (.iaload, 1) := by decide +kernel
theorem dX7_wantOne_7 : decode cX7_wantOne 7 = .ok (.bipush 8, 2) := by decide +kernel
theorem dX7_wantOne_9 : decode cX7_wantOne 9 = .ok (.if_icmp .ge 7, 3) := by decide +kernel
theorem dX7_wantOne_12 : decode cX7_wantOne 12 = .ok (.iconst 1, 1) := by decide +kernel
theorem dX7_wantOne_13 : decode cX7_wantOne 13 = .ok (.goto 4, 3) := by decide +kernel
theorem dX7_wantOne_16 : decode cX7_wantOne 16 = .ok (.iconst 0, 1) := by decide +kernel
theorem dX7_wantOne_17 : decode cX7_wantOne 17 = .ok (.putfield 182, 3) := by decide +kernel
theorem dX7_wantOne_20 : decode cX7_wantOne 20 = .ok (.aload_n 0, 1) := by decide +kernel
theorem dX7_wantOne_21 : decode cX7_wantOne 21 = .ok (.getfield 182, 3) := by decide +kernel
theorem dX7_wantOne_24 : decode cX7_wantOne 24 = .ok (.ifCond .ne 4, 3) := by decide +kernel
theorem dX7_wantOne_27 : decode cX7_wantOne 27 = .ok (.return_, 1) := by decide +kernel
theorem dX7_wantOne_28 : decode cX7_wantOne 28 = .ok (.aload_n 0, 1) := by decide +kernel
theorem dX7_wantOne_29 : decode cX7_wantOne 29 = .ok (.invokevirtual 186, 3) := by decide +kernel
theorem dX7_wantOne_32 : decode cX7_wantOne 32 = .ok (.aload_n 0, 1) := by decide +kernel
theorem dX7_wantOne_33 : decode cX7_wantOne 33 = .ok (.iconst 1, 1) := by decide +kernel
theorem dX7_wantOne_34 : decode cX7_wantOne 34 = .ok (.aload_n 0, 1) := by decide +kernel
theorem dX7_wantOne_35 : decode cX7_wantOne 35 = .ok (.iload_n 1, 1) := by decide +kernel
theorem dX7_wantOne_36 : decode cX7_wantOne 36 = .ok (.invokevirtual 125, 3) := by decide +kernel
theorem dX7_wantOne_39 : decode cX7_wantOne 39 = .ok (.invokevirtual 189, 3) := by decide +kernel
theorem dX7_wantOne_42 : decode cX7_wantOne 42 = .ok (.istore_n 2, 1) := by decide +kernel
theorem dX7_wantOne_43 : decode cX7_wantOne 43 = .ok (.iconst 0, 1) := by decide +kernel
theorem dX7_wantOne_44 : decode cX7_wantOne 44 = .ok (.istore_n 3, 1) := by decide +kernel
theorem dX7_wantOne_45 : decode cX7_wantOne 45 = .ok (.aload_n 0, 1) := by decide +kernel
theorem dX7_wantOne_46 : decode cX7_wantOne 46 = .ok (.getfield 182, 3) := by decide +kernel
theorem dX7_wantOne_49 : decode cX7_wantOne 49 = .ok (.ifCond .eq 19, 3) := by decide +kernel
theorem dX7_wantOne_52 : decode cX7_wantOne 52 = .ok (.aload_n 0, 1) := by decide +kernel
theorem dX7_wantOne_53 : decode cX7_wantOne 53 = .ok (.ldc2_w 192, 3) := by decide +kernel
theorem dX7_wantOne_56 : decode cX7_wantOne 56 = .ok (.invokevirtual 168, 3) := by decide +kernel
theorem dX7_wantOne_59 : decode cX7_wantOne 59 = .ok (.ifCond .eq 9, 3) := by decide +kernel
theorem dX7_wantOne_62 : decode cX7_wantOne 62 = .ok (.aload_n 0, 1) := by decide +kernel
theorem dX7_wantOne_63 : decode cX7_wantOne 63 = .ok (.invokevirtual 186, 3) := by decide +kernel
theorem dX7_wantOne_66 : decode cX7_wantOne 66 = .ok (.iconst 1, 1) := by decide +kernel
theorem dX7_wantOne_67 : decode cX7_wantOne 67 = .ok (.istore_n 3, 1) := by decide +kernel
theorem dX7_wantOne_68 : decode cX7_wantOne 68 = .ok (.aload_n 0, 1) := by decide +kernel
theorem dX7_wantOne_69 : decode cX7_wantOne 69 = .ok (.getfield 182, 3) := by decide +kernel
theorem dX7_wantOne_72 : decode cX7_wantOne 72 = .ok (.ifCond .eq 10, 3) := by decide +kernel
theorem dX7_wantOne_75 : decode cX7_wantOne 75 = .ok (.aload_n 0, 1) := by decide +kernel
theorem dX7_wantOne_76 : decode cX7_wantOne 76 = .ok (.iload_n 1, 1) := by decide +kernel
theorem dX7_wantOne_77 : decode cX7_wantOne 77 = .ok (.iload_n 2, 1) := by decide +kernel
theorem dX7_wantOne_78 : decode cX7_wantOne 78 = .ok (.iload_n 3, 1) := by decide +kernel
theorem dX7_wantOne_79 : decode cX7_wantOne 79 = .ok (.invokevirtual 96, 3) := by decide +kernel
theorem dX7_wantOne_82 : decode cX7_wantOne 82 = .ok (.return_, 1) := by decide +kernel
theorem dX7_wantJar_0 : decode cX7_wantJar 0 = .ok (.aload_n 0, 1) := by decide +kernel
theorem dX7_wantJar_1 : decode cX7_wantJar 1 = .ok (.invokevirtual 186, 3) := by decide +kernel
theorem dX7_wantJar_4 : decode cX7_wantJar 4 = .ok (.aload_n 0, 1) := by decide +kernel
theorem dX7_wantJar_5 : decode cX7_wantJar 5 = .ok (.iconst 0, 1) := by decide +kernel
theorem dX7_wantJar_6 : decode cX7_wantJar 6 = .ok (.iload_n 2, 1) := by decide +kernel
theorem dX7_wantJar_7 : decode cX7_wantJar 7 = .ok (.invokevirtual 189, 3) := by decide +kernel
theorem dX7_wantJar_10 : decode cX7_wantJar 10 = .ok (.istore_n 3, 1) := by decide +kernel
theorem dX7_wantJar_11 : decode cX7_wantJar 11 = .ok (.aload_n 0, 1) := by decide +kernel
theorem dX7_wantJar_12 : decode cX7_wantJar 12 = .ok (.getfield 7, 3) := by decide +kernel
theorem dX7_wantJar_15 : decode cX7_wantJar 15 = .ok (.iload_n 1, 1) := by decide +kernel
theorem dX7_wantJar_16 : decode cX7_wantJar 16 = .ok (.aload_n 0, 1) := by decide +kernel
theorem dX7_wantJar_17 : decode cX7_wantJar 17 = .ok (.getfield 182, 3) := by decide +kernel
theorem dX7_wantJar_20 : decode cX7_wantJar 20 = .ok (.ifCond .eq 7, 3) := by decide +kernel
theorem dX7_wantJar_23 : decode cX7_wantJar 23 = .ok (.iload_n 3, 1) := by decide +kernel
theorem dX7_wantJar_24 : decode cX7_wantJar 24 = .ok (.goto 9, 3) := by decide +kernel
theorem dX7_wantJar_27 : decode cX7_wantJar 27 = .ok (.aload_n 0, 1) := by decide +kernel
theorem dX7_wantJar_28 : decode cX7_wantJar 28 = .ok (.getfield 7, 3) := by decide +kernel
theorem dX7_wantJar_31 : decode cX7_wantJar 31 = .ok (.iload_n 1, 1) := by decide +kernel
theorem dX7_wantJar_32 : decode cX7_wantJar 32 = .ok (.iaload, 1) := by decide +kernel
theorem dX7_wantJar_33 : decode cX7_wantJar 33 = .ok (.iastore, 1) := by decide +kernel
theorem dX7_wantJar_34 : decode cX7_wantJar 34 = .ok (.return_, 1) := by decide +kernel
theorem dX7_wantItem_0 : decode cX7_wantItem 0 = .ok (.aload_n 0, 1) := by decide +kernel
theorem dX7_wantItem_1 : decode cX7_wantItem 1 = .ok (.invokevirtual 194, 3) := by decide +kernel
theorem dX7_wantItem_4 : decode cX7_wantItem 4 = .ok (.ifCond .lt 14, 3) := by decide +kernel
theorem dX7_wantItem_7 : decode cX7_wantItem 7 = .ok (.aload_n 0, 1) := by decide +kernel
theorem dX7_wantItem_8 : decode cX7_wantItem 8 = .ok (.aload_n 0, 1) := by decide +kernel
theorem dX7_wantItem_9 : decode cX7_wantItem 9 = .ok (.invokevirtual 194, 3) := by decide +kernel
theorem dX7_wantItem_12 : decode cX7_wantItem 12 = .ok (.invokevirtual 197, 3) := by decide +kernel
theorem dX7_wantItem_15 : decode cX7_wantItem 15 = .ok (.goto 130, 3) := by decide +kernel
theorem dX7_wantItem_18 : decode cX7_wantItem 18 = .ok (.aload_n 0, 1) := by decide +kernel
theorem dX7_wantItem_19 : decode cX7_wantItem 19 = .ok (.ldc2_w 200, 3) := by decide +kernel
theorem dX7_wantItem_22 : decode cX7_wantItem 22 = .ok (.invokevirtual 168, 3) := by decide +kernel
theorem dX7_wantItem_25 : decode cX7_wantItem 25 = .ok (.ifCond .eq 14, 3) := by decide +kernel
theorem dX7_wantItem_28 : decode cX7_wantItem 28 = .ok (.aload_n 0, 1) := by decide +kernel
theorem dX7_wantItem_29 : decode cX7_wantItem 29 = .ok (.iconst 3, 1) := by decide +kernel
theorem dX7_wantItem_30 : decode cX7_wantItem 30 = .ok (.sipush 999, 3) := by decide +kernel
theorem dX7_wantItem_33 : decode cX7_wantItem 33 = .ok (.invokevirtual 202, 3) := by decide +kernel
theorem dX7_wantItem_36 : decode cX7_wantItem 36 = .ok (.goto 109, 3) := by decide +kernel
theorem dX7_wantItem_39 : decode cX7_wantItem 39 = .ok (.aload_n 0, 1) := by decide +kernel
theorem dX7_wantItem_40 : decode cX7_wantItem 40 = .ok (.ldc2_w 206, 3) := by decide +kernel
theorem dX7_wantItem_43 : decode cX7_wantItem 43 = .ok (.invokevirtual 168, 3) := by decide +kernel
theorem dX7_wantItem_46 : decode cX7_wantItem 46 = .ok (.ifCond .eq 13, 3) := by decide +kernel
theorem dX7_wantItem_49 : decode cX7_wantItem 49 = .ok (.aload_n 0, 1) := by decide +kernel
theorem dX7_wantItem_50 : decode cX7_wantItem 50 = .ok (.iconst 1, 1) := by decide +kernel
theorem dX7_wantItem_51 : decode cX7_wantItem 51 = .ok (.bipush 9, 2) := by decide +kernel
theorem dX7_wantItem_53 : decode cX7_wantItem 53 = .ok (.invokevirtual 202, 3) := by decide +kernel
theorem dX7_wantItem_56 : decode cX7_wantItem 56 = .ok (.goto 89, 3) := by decide +kernel
theorem dX7_wantItem_59 : decode cX7_wantItem 59 = .ok (.aload_n 0, 1) := by decide +kernel
theorem dX7_wantItem_60 : decode cX7_wantItem 60 = .ok (.ldc2_w 208, 3) := by decide +kernel
theorem dX7_wantItem_63 : decode cX7_wantItem 63 = .ok (.invokevirtual 168, 3) := by decide +kernel
theorem dX7_wantItem_66 : decode cX7_wantItem 66 = .ok (.ifCond .eq 13, 3) := by decide +kernel
theorem dX7_wantItem_69 : decode cX7_wantItem 69 = .ok (.aload_n 0, 1) := by decide +kernel
theorem dX7_wantItem_70 : decode cX7_wantItem 70 = .ok (.iconst 4, 1) := by decide +kernel
theorem dX7_wantItem_71 : decode cX7_wantItem 71 = .ok (.bipush 9, 2) := by decide +kernel
theorem dX7_wantItem_73 : decode cX7_wantItem 73 = .ok (.invokevirtual 202, 3) := by decide +kernel
theorem dX7_wantItem_76 : decode cX7_wantItem 76 = .ok (.goto 69, 3) := by decide +kernel
theorem dX7_wantItem_79 : decode cX7_wantItem 79 = .ok (.aload_n 0, 1) := by decide +kernel
theorem dX7_wantItem_80 : decode cX7_wantItem 80 = .ok (.ldc2_w 210, 3) := by decide +kernel
theorem dX7_wantItem_83 : decode cX7_wantItem 83 = .ok (.invokevirtual 168, 3) := by decide +kernel
theorem dX7_wantItem_86 : decode cX7_wantItem 86 = .ok (.ifCond .eq 54, 3) := by decide +kernel
theorem dX7_wantItem_89 : decode cX7_wantItem 89 = .ok (.aload_n 0, 1) := by decide +kernel
theorem dX7_wantItem_90 : decode cX7_wantItem 90 = .ok (.invokevirtual 186, 3) := by decide +kernel
theorem dX7_wantItem_93 : decode cX7_wantItem 93 = .ok (.aload_n 0, 1) := by decide +kernel
theorem dX7_wantItem_94 : decode cX7_wantItem 94 = .ok (.iconst 0, 1) := by decide +kernel
theorem dX7_wantItem_95 : decode cX7_wantItem 95 = .ok (.bipush 11, 2) := by decide +kernel
theorem dX7_wantItem_97 : decode cX7_wantItem 97 = .ok (.invokevirtual 189, 3) := by decide +kernel
theorem dX7_wantItem_100 : decode cX7_wantItem 100 = .ok (.istore_n 1, 1) := by decide +kernel
theorem dX7_wantItem_101 : decode cX7_wantItem 101 = .ok (.aload_n 0, 1) := by decide +kernel
theorem dX7_wantItem_102 : decode cX7_wantItem 102 = .ok (.getfield 182, 3) := by decide +kernel
theorem dX7_wantItem_105 : decode cX7_wantItem 105 = .ok (.ifCond .eq 13, 3) := by decide +kernel
theorem dX7_wantItem_108 : decode cX7_wantItem 108 = .ok (.aload_n 0, 1) := by decide +kernel
theorem dX7_wantItem_109 : decode cX7_wantItem 109 = .ok (.iconst 0, 1) := by decide +kernel
theorem dX7_wantItem_110 : decode cX7_wantItem 110 = .ok (.bipush 20, 2) := by decide +kernel
theorem dX7_wantItem_112 : decode cX7_wantItem 112 = .ok (.invokevirtual 189, 3) := by decide +kernel
theorem dX7_wantItem_115 : decode cX7_wantItem 115 = .ok (.goto 4, 3) := by decide +kernel
theorem dX7_wantItem_118 : decode cX7_wantItem 118 = .ok (.iconst 0, 1) := by decide +kernel
theorem dX7_wantItem_119 : decode cX7_wantItem 119 = .ok (.istore_n 2, 1) := by decide +kernel
theorem dX7_wantItem_120 : decode cX7_wantItem 120 = .ok (.aload_n 0, 1) := by decide +kernel
theorem dX7_wantItem_121 : decode cX7_wantItem 121 = .ok (.getfield 182, 3) := by decide +kernel
theorem dX7_wantItem_124 : decode cX7_wantItem 124 = .ok (.ifCond .eq 13, 3) := by decide +kernel
theorem dX7_wantItem_127 : decode cX7_wantItem 127 = .ok (.aload_n 0, 1) := by decide +kernel
theorem dX7_wantItem_128 : decode cX7_wantItem 128 = .ok (.getfield 7, 3) := by decide +kernel
theorem dX7_wantItem_131 : decode cX7_wantItem 131 = .ok (.bipush 6, 2) := by decide +kernel
theorem dX7_wantItem_133 : decode cX7_wantItem 133 = .ok (.iload_n 1, 1) := by decide +kernel
theorem dX7_wantItem_134 : decode cX7_wantItem 134 = .ok (.iadd, 1) := by decide +kernel
theorem dX7_wantItem_135 : decode cX7_wantItem 135 = .ok (.iload_n 2, 1) := by decide +kernel
theorem dX7_wantItem_136 : decode cX7_wantItem 136 = .ok (.iastore, 1) := by decide +kernel
theorem dX7_wantItem_137 : decode cX7_wantItem 137 = .ok (.goto 8, 3) := by decide +kernel
theorem dX7_wantItem_140 : decode cX7_wantItem 140 = .ok (.aload_n 0, 1) := by decide +kernel
theorem dX7_wantItem_141 : decode cX7_wantItem 141 = .ok (.iconst 0, 1) := by decide +kernel
theorem dX7_wantItem_142 : decode cX7_wantItem 142 = .ok (.putfield 182, 3) := by decide +kernel
theorem dX7_wantItem_145 : decode cX7_wantItem 145 = .ok (.return_, 1) := by decide +kernel
theorem dX7_text_0 : decode cX7_text 0 = .ok (.aload_n 0, 1) := by decide +kernel
theorem dX7_text_1 : decode cX7_text 1 = .ok (.iconst 1, 1) := by decide +kernel
theorem dX7_text_2 : decode cX7_text 2 = .ok (.aload_n 0, 1) := by decide +kernel
theorem dX7_text_3 : decode cX7_text 3 = .ok (.getfield 41, 3) := by decide +kernel
theorem dX7_text_6 : decode cX7_text 6 = .ok (.invokevirtual 117, 3) := by decide +kernel
theorem dX7_text_9 : decode cX7_text 9 = .ok (.aload_n 0, 1) := by decide +kernel
theorem dX7_text_10 : decode cX7_text 10 = .ok (.iconst 0, 1) := by decide +kernel
theorem dX7_text_11 : decode cX7_text 11 = .ok (.putfield 135, 3) := by decide +kernel
theorem dX7_text_14 : decode cX7_text 14 = .ok (.aload_n 0, 1) := by decide +kernel
theorem dX7_text_15 : decode cX7_text 15 = .ok (.iconst 1, 1) := by decide +kernel
theorem dX7_text_16 : decode cX7_text 16 = .ok (.putfield 182, 3) := by decide +kernel
theorem dX7_text_19 : decode cX7_text 19 = .ok (.iconst 0, 1) := by decide +kernel
theorem dX7_text_20 : decode cX7_text 20 = .ok (.istore_n 1, 1) := by decide +kernel
theorem dX7_text_21 : decode cX7_text 21 = .ok (.iconst 1, 1) := by decide +kernel
theorem dX7_text_22 : decode cX7_text 22 = .ok (.istore_n 2, 1) := by decide +kernel
theorem dX7_text_23 : decode cX7_text 23 = .ok (.iload_n 2, 1) := by decide +kernel
theorem dX7_text_24 : decode cX7_text 24 = .ok (.ifCond .eq 47, 3) := by decide +kernel
theorem dX7_text_27 : decode cX7_text 27 = .ok (.aload_n 0, 1) := by decide +kernel
theorem dX7_text_28 : decode cX7_text 28 = .ok (.invokevirtual 186, 3) := by decide +kernel
theorem dX7_text_31 : decode cX7_text 31 = .ok (.aload_n 0, 1) := by decide +kernel
theorem dX7_text_32 : decode cX7_text 32 = .ok (.invokevirtual 212, 3) := by decide +kernel
theorem dX7_text_35 : decode cX7_text 35 = .ok (.iinc 1 1, 3) := by decide +kernel
theorem dX7_text_38 : decode cX7_text 38 = .ok (.aload_n 0, 1) := by decide +kernel
theorem dX7_text_39 : decode cX7_text 39 = .ok (.getfield 182, 3) := by decide +kernel
theorem dX7_text_42 : decode cX7_text 42 = .ok (.ifCond .eq 24, 3) := by decide +kernel
theorem dX7_text_45 : decode cX7_text 45 = .ok (.aload_n 0, 1) := by decide +kernel
theorem dX7_text_46 : decode cX7_text 46 = .ok (.getfield 150, 3) := by decide +kernel
theorem dX7_text_49 : decode cX7_text 49 = .ok (.iconst 3, 1) := by decide +kernel
theorem dX7_text_50 : decode cX7_text 50 = .ok (.if_icmp .ne 16, 3) := by decide +kernel
theorem dX7_text_53 : decode cX7_text 53 = .ok (.aload_n 0, 1) := by decide +kernel
theorem dX7_text_54 : decode cX7_text 54 = .ok (.getfield 157, 3) := by decide +kernel
theorem dX7_text_57 : decode cX7_text 57 = .ok (.bipush 59, 2) := by decide +kernel
theorem dX7_text_59 : decode cX7_text 59 = .ok (.if_icmp .ne 7, 3) := by decide +kernel
theorem dX7_text_62 : decode cX7_text 62 = .ok (.iconst 1, 1) := by decide +kernel
theorem dX7_text_63 : decode cX7_text 63 = .ok (.goto 4, 3) := by decide +kernel
theorem dX7_text_66 : decode cX7_text 66 = .ok (.iconst 0, 1) := by decide +kernel
theorem dX7_text_67 : decode cX7_text 67 = .ok (.istore_n 2, 1) := by decide +kernel
theorem dX7_text_68 : decode cX7_text 68 = .ok (.goto (-45), 3) := by decide +kernel
theorem dX7_text_71 : decode cX7_text 71 = .ok (.aload_n 0, 1) := by decide +kernel
theorem dX7_text_72 : decode cX7_text 72 = .ok (.aload_n 0, 1) := by decide +kernel
theorem dX7_text_73 : decode cX7_text 73 = .ok (.getfield 182, 3) := by decide +kernel
theorem dX7_text_76 : decode cX7_text 76 = .ok (.ifCond .eq 14, 3) := by decide +kernel
theorem dX7_text_79 : decode cX7_text 79 = .ok (.aload_n 0, 1) := by decide +kernel
theorem dX7_text_80 : decode cX7_text 80 = .ok (.getfield 150, 3) := by decide +kernel
theorem dX7_text_83 : decode cX7_text 83 = .ok (.ifCond .ne 7, 3) := by decide +kernel
theorem dX7_text_86 : decode cX7_text 86 = .ok (.iconst 1, 1) := by decide +kernel
theorem dX7_text_87 : decode cX7_text 87 = .ok (.goto 4, 3) := by decide +kernel
theorem dX7_text_90 : decode cX7_text 90 = .ok (.iconst 0, 1) := by decide +kernel
theorem dX7_text_91 : decode cX7_text 91 = .ok (.putfield 182, 3) := by decide +kernel
theorem dX7_text_94 : decode cX7_text 94 = .ok (.aload_n 0, 1) := by decide +kernel
theorem dX7_text_95 : decode cX7_text 95 = .ok (.iconst 0, 1) := by decide +kernel
theorem dX7_text_96 : decode cX7_text 96 = .ok (.putfield 131, 3) := by decide +kernel
theorem dX7_text_99 : decode cX7_text 99 = .ok (.aload_n 0, 1) := by decide +kernel
theorem dX7_text_100 : decode cX7_text 100 = .ok (.getfield 182, 3) := by decide +kernel
theorem dX7_text_103 : decode cX7_text 103 = .ok (.ifCond .ne 19, 3) := by decide +kernel
theorem dX7_text_106 : decode cX7_text 106 = .ok (.aload_n 0, 1) := by decide +kernel
theorem dX7_text_107 : decode cX7_text 107 = .ok (.iconst 0, 1) := by decide +kernel
theorem dX7_text_108 : decode cX7_text 108 = .ok (.aload_n 0, 1) := by decide +kernel
theorem dX7_text_109 : decode cX7_text 109 = .ok (.getfield 41, 3) := by decide +kernel
theorem dX7_text_112 : decode cX7_text 112 = .ok (.invokevirtual 117, 3) := by decide +kernel
theorem dX7_text_115 : decode cX7_text 115 = .ok (.iconst (-1), 1) := by decide +kernel
theorem dX7_text_116 : decode cX7_text 116 = .ok (.aload_n 0, 1) := by decide +kernel
theorem dX7_text_117 : decode cX7_text 117 = .ok (.getfield 138, 3) := by decide +kernel
theorem dX7_text_120 : decode cX7_text 120 = .ok (.isub, 1) := by decide +kernel
theorem dX7_text_121 : decode cX7_text 121 = .ok (.ireturn, 1) := by decide +kernel
theorem dX7_text_122 : decode cX7_text 122 = .ok (.iload_n 1, 1) := by decide +kernel
theorem dX7_text_123 : decode cX7_text 123 = .ok (.ireturn, 1) := by decide +kernel
theorem dX7_isSheet_0 : decode cX7_isSheet 0 = .ok (.iload_n 0, 1) := by decide +kernel
theorem dX7_isSheet_1 : decode cX7_isSheet 1 = .ok (.iconst 0, 1) := by decide +kernel
theorem dX7_isSheet_2 : decode cX7_isSheet 2 = .ok (.iconst 3, 1) := by decide +kernel
theorem dX7_isSheet_3 : decode cX7_isSheet 3 = .ok (.invokestatic 45, 3) := by decide +kernel
theorem dX7_isSheet_6 : decode cX7_isSheet 6 = .ok (.ireturn, 1) := by decide +kernel
theorem dX7_narrow_0 : decode cX7_narrow 0 = .ok (.iload_n 0, 1) := by decide +kernel
theorem dX7_narrow_1 : decode cX7_narrow 1 = .ok (.bipush 8, 2) := by decide +kernel
theorem dX7_narrow_3 : decode cX7_narrow 3 = .ok (.if_icmp .ne 13, 3) := by decide +kernel
theorem dX7_narrow_6 : decode cX7_narrow 6 = .ok (.lload_n 1, 1) := by decide +kernel
theorem dX7_narrow_7 : decode cX7_narrow 7 = .ok (.bipush 56, 2) := by decide +kernel
theorem dX7_narrow_9 : decode cX7_narrow 9 = .ok (.lshl, 1) := by decide +kernel
theorem dX7_narrow_10 : decode cX7_narrow 10 = .ok (.bipush 56, 2) := by decide +kernel
theorem dX7_narrow_12 : decode cX7_narrow 12 = .ok (.lshr, 1) := by decide +kernel
theorem dX7_narrow_13 : decode cX7_narrow 13 = .ok (.goto 20, 3) := by decide +kernel
theorem dX7_narrow_16 : decode cX7_narrow 16 = .ok (.iload_n 0, 1) := by decide +kernel
theorem dX7_narrow_17 : decode cX7_narrow 17 = .ok (.bipush 16, 2) := by decide +kernel
theorem dX7_narrow_19 : decode cX7_narrow 19 = .ok (.if_icmp .ne 13, 3) := by decide +kernel
theorem dX7_narrow_22 : decode cX7_narrow 22 = .ok (.lload_n 1, 1) := by decide +kernel
theorem dX7_narrow_23 : decode cX7_narrow 23 = .ok (.bipush 48, 2) := by decide +kernel
theorem dX7_narrow_25 : decode cX7_narrow 25 = .ok (.lshl, 1) := by decide +kernel
theorem dX7_narrow_26 : decode cX7_narrow 26 = .ok (.bipush 48, 2) := by decide +kernel
theorem dX7_narrow_28 : decode cX7_narrow 28 = .ok (.lshr, 1) := by decide +kernel
theorem dX7_narrow_29 : decode cX7_narrow 29 = .ok (.goto 4, 3) := by decide +kernel
theorem dX7_narrow_32 : decode cX7_narrow 32 = .ok (.lload_n 1, 1) := by decide +kernel
theorem dX7_narrow_33 : decode cX7_narrow 33 = .ok (.lreturn, 1) := by decide +kernel
theorem dX7_sheet_0 : decode cX7_sheet 0 = .ok (.iload_n 1, 1) := by decide +kernel
theorem dX7_sheet_1 : decode cX7_sheet 1 = .ok (.invokestatic 215, 3) := by decide +kernel
theorem dX7_sheet_4 : decode cX7_sheet 4 = .ok (.ifCond .eq 25, 3) := by decide +kernel
theorem dX7_sheet_7 : decode cX7_sheet 7 = .ok (.iload_n 2, 1) := by decide +kernel
theorem dX7_sheet_8 : decode cX7_sheet 8 = .ok (.ifCond .eq 28, 3) := by decide +kernel
theorem dX7_sheet_11 : decode cX7_sheet 11 = .ok (.iload_n 2, 1) := by decide +kernel
theorem dX7_sheet_12 : decode cX7_sheet 12 = .ok (.bipush 8, 2) := by decide +kernel
theorem dX7_sheet_14 : decode cX7_sheet 14 = .ok (.if_icmp .eq 22, 3) := by decide +kernel
theorem dX7_sheet_17 : decode cX7_sheet 17 = .ok (.iload_n 2, 1) := by decide +kernel
theorem dX7_sheet_18 : decode cX7_sheet 18 = .ok (.bipush 16, 2) := by decide +kernel
theorem dX7_sheet_20 : decode cX7_sheet 20 = .ok (.if_icmp .eq 16, 3) := by decide +kernel
theorem dX7_sheet_23 : decode cX7_sheet 23 = .ok (.iload_n 2, 1) := by decide +kernel
theorem dX7_sheet_24 : decode cX7_sheet 24 = .ok (.bipush 64, 2) := by decide +kernel
theorem dX7_sheet_26 : decode cX7_sheet 26 = .ok (.if_icmp .eq 10, 3) := by decide +kernel
theorem dX7_sheet_29 : decode cX7_sheet 29 = .ok (.aload_n 0, 1) := by decide +kernel
theorem dX7_sheet_30 : decode cX7_sheet 30 = .ok (.ldc 44, 2) := by decide +kernel
theorem dX7_sheet_32 : decode cX7_sheet 32 = .ok (.invokevirtual 57, 3) := by decide +kernel
theorem dX7_sheet_35 : decode cX7_sheet 35 = .ok (.ireturn, 1) := by decide +kernel
theorem dX7_sheet_36 : decode cX7_sheet 36 = .ok (.iload_n 3, 1) := by decide +kernel
theorem dX7_sheet_37 : decode cX7_sheet 37 = .ok (.ifCond .ge 10, 3) := by decide +kernel
theorem dX7_sheet_40 : decode cX7_sheet 40 = .ok (.aload_n 0, 1) := by decide +kernel
theorem dX7_sheet_41 : decode cX7_sheet 41 = .ok (.ldc 218, 2) := by decide +kernel
theorem dX7_sheet_43 : decode cX7_sheet 43 = .ok (.invokevirtual 57, 3) := by decide +kernel
theorem dX7_sheet_46 : decode cX7_sheet 46 = .ok (.ireturn, 1) := by decide +kernel
theorem dX7_sheet_47 : decode cX7_sheet 47 = .ok (.iload_n 3, 1) := by decide +kernel
theorem dX7_sheet_48 : decode cX7_sheet 48 = .ok (.bipush 40, 2) := by decide +kernel
theorem dX7_sheet_50 : decode cX7_sheet 50 = .ok (.if_icmp .le 10, 3) := by decide +kernel
theorem dX7_sheet_53 : decode cX7_sheet 53 = .ok (.aload_n 0, 1) := by decide +kernel
theorem dX7_sheet_54 : decode cX7_sheet 54 = .ok (.ldc 44, 2) := by decide +kernel
theorem dX7_sheet_56 : decode cX7_sheet 56 = .ok (.invokevirtual 57, 3) := by decide +kernel
theorem dX7_sheet_59 : decode cX7_sheet 59 = .ok (.ireturn, 1) := by decide +kernel
theorem dX7_sheet_60 : decode cX7_sheet 60 = .ok (.aload_n 0, 1) := by decide +kernel
theorem dX7_sheet_61 : decode cX7_sheet 61 = .ok (.getfield 25, 3) := by decide +kernel
theorem dX7_sheet_64 : decode cX7_sheet 64 = .ok (.iload_n 1, 1) := by decide +kernel
theorem dX7_sheet_65 : decode cX7_sheet 65 = .ok (.iload_n 2, 1) := by decide +kernel
theorem dX7_sheet_66 : decode cX7_sheet 66 = .ok (.iastore, 1) := by decide +kernel
theorem dX7_sheet_67 : decode cX7_sheet 67 = .ok (.aload_n 0, 1) := by decide +kernel
theorem dX7_sheet_68 : decode cX7_sheet 68 = .ok (.getfield 28, 3) := by decide +kernel
theorem dX7_sheet_71 : decode cX7_sheet 71 = .ok (.iload_n 1, 1) := by decide +kernel
theorem dX7_sheet_72 : decode cX7_sheet 72 = .ok (.iload_n 2, 1) := by decide +kernel
theorem dX7_sheet_73 : decode cX7_sheet 73 = .ok (.ifCond .ne 7, 3) := by decide +kernel
theorem dX7_sheet_76 : decode cX7_sheet 76 = .ok (.iconst 0, 1) := by decide +kernel
theorem dX7_sheet_77 : decode cX7_sheet 77 = .ok (.goto 4, 3) := by decide +kernel
theorem dX7_sheet_80 : decode cX7_sheet 80 = .ok (.iload_n 3, 1) := by decide +kernel
theorem dX7_sheet_81 : decode cX7_sheet 81 = .ok (.iastore, 1) := by decide +kernel
theorem dX7_sheet_82 : decode cX7_sheet 82 = .ok (.iconst 0, 1) := by decide +kernel
theorem dX7_sheet_83 : decode cX7_sheet 83 = .ok (.istore 4, 2) := by decide +kernel
theorem dX7_sheet_85 : decode cX7_sheet 85 = .ok (.iload 4, 2) := by decide +kernel
theorem dX7_sheet_87 : decode cX7_sheet 87 = .ok (.bipush 40, 2) := by decide +kernel
theorem dX7_sheet_89 : decode cX7_sheet 89 = .ok (.if_icmp .ge 22, 3) := by decide +kernel
theorem dX7_sheet_92 : decode cX7_sheet 92 = .ok (.aload_n 0, 1) := by decide +kernel
theorem dX7_sheet_93 : decode cX7_sheet 93 = .ok (.getfield 31, 3) := by decide +kernel
theorem dX7_sheet_96 : decode cX7_sheet 96 = .ok (.bipush 40, 2) := by decide +kernel
theorem dX7_sheet_98 : decode cX7_sheet 98 = .ok (.iload_n 1, 1) := by decide +kernel
theorem dX7_sheet_99 : decode cX7_sheet 99 = .ok (.imul, 1) := by decide +kernel
theorem dX7_sheet_100 : decode cX7_sheet 100 = .ok (.iload 4, 2) := by decide +kernel
theorem dX7_sheet_102 : decode cX7_sheet 102 = .ok (.iadd, 1) := by decide +kernel
theorem dX7_sheet_103 : decode cX7_sheet 103 = .ok (.lconst 0, 1) := by decide +kernel
theorem dX7_sheet_104 : decode cX7_sheet 104 = .ok (.lastore, 1) := by decide +kernel
theorem dX7_sheet_105 : decode cX7_sheet 105 = .ok (.iinc 4 1, 3) := by decide +kernel
theorem dX7_sheet_108 : decode cX7_sheet 108 = .ok (.goto (-23), 3) := by decide +kernel
theorem dX7_sheet_111 : decode cX7_sheet 111 = .ok (.aload_n 0, 1) := by decide +kernel
theorem dX7_sheet_112 : decode cX7_sheet 112 = .ok (.getfield 28, 3) := by decide +kernel
theorem dX7_sheet_115 : decode cX7_sheet 115 = .ok (.iload_n 1, 1) := by decide +kernel
theorem dX7_sheet_116 : decode cX7_sheet 116 = .ok (.iaload, 1) := by decide +kernel
theorem dX7_sheet_117 : decode cX7_sheet 117 = .ok (.ireturn, 1) := by decide +kernel
theorem dX7_write_0 : decode cX7_write 0 = .ok (.iload_n 1, 1) := by decide +kernel
theorem dX7_write_1 : decode cX7_write 1 = .ok (.invokestatic 215, 3) := by decide +kernel
theorem dX7_write_4 : decode cX7_write 4 = .ok (.ifCond .ne 11, 3) := by decide +kernel
theorem dX7_write_7 : decode cX7_write 7 = .ok (.aload_n 0, 1) := by decide +kernel
theorem dX7_write_8 : decode cX7_write 8 = .ok (.ldc 44, 2) := by decide +kernel
theorem dX7_write_10 : decode cX7_write 10 = .ok (.invokevirtual 57, 3) := by decide +kernel
theorem dX7_write_13 : decode cX7_write 13 = .ok (.i2l, 1) := by decide +kernel
theorem dX7_write_14 : decode cX7_write 14 = .ok (.lreturn, 1) := by decide +kernel
theorem dX7_write_15 : decode cX7_write 15 = .ok (.aload_n 0, 1) := by decide +kernel
theorem dX7_write_16 : decode cX7_write 16 = .ok (.getfield 25, 3) := by decide +kernel
theorem dX7_write_19 : decode cX7_write 19 = .ok (.iload_n 1, 1) := by decide +kernel
theorem dX7_write_20 : decode cX7_write 20 = .ok (.iaload, 1) := by decide +kernel
theorem dX7_write_21 : decode cX7_write 21 = .ok (.ifCond .ne 11, 3) := by decide +kernel
theorem dX7_write_24 : decode cX7_write 24 = .ok (.aload_n 0, 1) := by decide +kernel
theorem dX7_write_25 : decode cX7_write 25 = .ok (.ldc 219, 2) := by decide +kernel
theorem dX7_write_27 : decode cX7_write 27 = .ok (.invokevirtual 57, 3) := by decide +kernel
theorem dX7_write_30 : decode cX7_write 30 = .ok (.i2l, 1) := by decide +kernel
theorem dX7_write_31 : decode cX7_write 31 = .ok (.lreturn, 1) := by decide +kernel
theorem dX7_write_32 : decode cX7_write 32 = .ok (.iload_n 2, 1) := by decide +kernel
theorem dX7_write_33 : decode cX7_write 33 = .ok (.iconst 0, 1) := by decide +kernel
theorem dX7_write_34 : decode cX7_write 34 = .ok (.aload_n 0, 1) := by decide +kernel
theorem dX7_write_35 : decode cX7_write 35 = .ok (.getfield 28, 3) := by decide +kernel
theorem dX7_write_38 : decode cX7_write 38 = .ok (.iload_n 1, 1) := by decide +kernel
theorem dX7_write_39 : decode cX7_write 39 = .ok (.iaload, 1) := by decide +kernel
theorem dX7_write_40 : decode cX7_write 40 = .ok (.iconst 1, 1) := by decide +kernel
theorem dX7_write_41 : decode cX7_write 41 = .ok (.isub, 1) := by decide +kernel
theorem dX7_write_42 : decode cX7_write 42 = .ok (.invokestatic 45, 3) := by decide +kernel
theorem dX7_write_45 : decode cX7_write 45 = .ok (.ifCond .ne 11, 3) := by decide +kernel
theorem dX7_write_48 : decode cX7_write 48 = .ok (.aload_n 0, 1) := by decide +kernel
theorem dX7_write_49 : decode cX7_write 49 = .ok (.ldc 44, 2) := by decide +kernel
theorem dX7_write_51 : decode cX7_write 51 = .ok (.invokevirtual 57, 3) := by decide +kernel
theorem dX7_write_54 : decode cX7_write 54 = .ok (.i2l, 1) := by decide +kernel
theorem dX7_write_55 : decode cX7_write 55 = .ok (.lreturn, 1) := by decide +kernel
theorem dX7_write_56 : decode cX7_write 56 = .ok (.aload_n 0, 1) := by decide +kernel
theorem dX7_write_57 : decode cX7_write 57 = .ok (.getfield 31, 3) := by decide +kernel
theorem dX7_write_60 : decode cX7_write 60 = .ok (.bipush 40, 2) := by decide +kernel
theorem dX7_write_62 : decode cX7_write 62 = .ok (.iload_n 1, 1) := by decide +kernel
theorem dX7_write_63 : decode cX7_write 63 = .ok (.imul, 1) := by decide +kernel
theorem dX7_write_64 : decode cX7_write 64 = .ok (.iload_n 2, 1) := by decide +kernel
theorem dX7_write_65 : decode cX7_write 65 = .ok (.iadd, 1) := by decide +kernel
theorem dX7_write_66 : decode cX7_write 66 = .ok (.laload, 1) := by decide +kernel
theorem dX7_write_67 : decode cX7_write 67 = .ok (.lstore 5, 2) := by decide +kernel
theorem dX7_write_69 : decode cX7_write 69 = .ok (.aload_n 0, 1) := by decide +kernel
theorem dX7_write_70 : decode cX7_write 70 = .ok (.getfield 31, 3) := by decide +kernel
theorem dX7_write_73 : decode cX7_write 73 = .ok (.bipush 40, 2) := by decide +kernel
theorem dX7_write_75 : decode cX7_write 75 = .ok (.iload_n 1, 1) := by decide +kernel
theorem dX7_write_76 : decode cX7_write 76 = .ok (.imul, 1) := by decide +kernel
theorem dX7_write_77 : decode cX7_write 77 = .ok (.iload_n 2, 1) := by decide +kernel
theorem dX7_write_78 : decode cX7_write 78 = .ok (.iadd, 1) := by decide +kernel
theorem dX7_write_79 : decode cX7_write 79 = .ok (.aload_n 0, 1) := by decide +kernel
theorem dX7_write_80 : decode cX7_write 80 = .ok (.getfield 25, 3) := by decide +kernel
theorem dX7_write_83 : decode cX7_write 83 = .ok (.iload_n 1, 1) := by decide +kernel
theorem dX7_write_84 : decode cX7_write 84 = .ok (.iaload, 1) := by decide +kernel
theorem dX7_write_85 : decode cX7_write 85 = .ok (.lload_n 3, 1) := by decide +kernel
theorem dX7_write_86 : decode cX7_write 86 = .ok (.invokestatic 220, 3) := by decide +kernel
theorem dX7_write_89 : decode cX7_write 89 = .ok (.lastore, 1) := by decide +kernel
theorem dX7_write_90 : decode cX7_write 90 = .ok (.lload 5, 2) := by decide +kernel
theorem dX7_write_92 : decode cX7_write 92 = .ok (.lreturn, 1) := by decide +kernel
theorem dX7_isPart__0 : decode cX7_isPart_ 0 = .ok (.iload_n 2, 1) := by decide +kernel
theorem dX7_isPart__1 : decode cX7_isPart_ 1 = .ok (.ifCond .lt 33, 3) := by decide +kernel
theorem dX7_isPart__4 : decode cX7_isPart_ 4 = .ok (.iload_n 3, 1) := by decide +kernel
theorem dX7_isPart__5 : decode cX7_isPart_ 5 = .ok (.ifCond .lt 29, 3) := by decide +kernel
theorem dX7_isPart__8 : decode cX7_isPart_ 8 = .ok (.iload_n 3, 1) := by decide +kernel
theorem dX7_isPart__9 : decode cX7_isPart_ 9 = .ok (.aload_n 0, 1) := by decide +kernel
theorem dX7_isPart__10 : decode cX7_isPart_ 10 = .ok (.getfield 28, 3) := by decide +kernel
theorem dX7_isPart__13 : decode cX7_isPart_ 13 = .ok (.iload_n 1, 1) := by decide +kernel
theorem dX7_isPart__14 : decode cX7_isPart_ 14 = .ok (.iaload, 1) := by decide +kernel
theorem dX7_isPart__15 : decode cX7_isPart_ 15 = .ok (.if_icmp .gt 19, 3) := by decide +kernel
theorem dX7_isPart__18 : decode cX7_isPart_ 18 = .ok (.iload_n 2, 1) := by decide +kernel
theorem dX7_isPart__19 : decode cX7_isPart_ 19 = .ok (.aload_n 0, 1) := by decide +kernel
theorem dX7_isPart__20 : decode cX7_isPart_ 20 = .ok (.getfield 28, 3) := by decide +kernel
theorem dX7_isPart__23 : decode cX7_isPart_ 23 = .ok (.iload_n 1, 1) := by decide +kernel
theorem dX7_isPart__24 : decode cX7_isPart_ 24 = .ok (.iaload, 1) := by decide +kernel
theorem dX7_isPart__25 : decode cX7_isPart_ 25 = .ok (.iload_n 3, 1) := by decide +kernel
theorem dX7_isPart__26 : decode cX7_isPart_ 26 = .ok (.isub, 1) := by decide +kernel
theorem dX7_isPart__27 : decode cX7_isPart_ 27 = .ok (.if_icmp .gt 7, 3) := by decide +kernel
theorem dX7_isPart__30 : decode cX7_isPart_ 30 = .ok (.iconst 1, 1) := by decide +kernel
theorem dX7_isPart__31 : decode cX7_isPart_ 31 = .ok (.goto 4, 3) := by decide +kernel
theorem dX7_isPart__34 : decode cX7_isPart_ 34 = .ok (.iconst 0, 1) := by decide +kernel
theorem dX7_isPart__35 : decode cX7_isPart_ 35 = .ok (.ireturn, 1) := by decide +kernel
theorem dX7_copy_0 : decode cX7_copy 0 = .ok (.iload_n 1, 1) := by decide +kernel
theorem dX7_copy_1 : decode cX7_copy 1 = .ok (.invokestatic 215, 3) := by decide +kernel
theorem dX7_copy_4 : decode cX7_copy 4 = .ok (.ifCond .eq 10, 3) := by decide +kernel
theorem dX7_copy_7 : decode cX7_copy 7 = .ok (.iload_n 3, 1) := by decide +kernel
theorem dX7_copy_8 : decode cX7_copy 8 = .ok (.invokestatic 215, 3) := by decide +kernel
theorem dX7_copy_11 : decode cX7_copy 11 = .ok (.ifCond .ne 10, 3) := by decide +kernel
theorem dX7_copy_14 : decode cX7_copy 14 = .ok (.aload_n 0, 1) := by decide +kernel
theorem dX7_copy_15 : decode cX7_copy 15 = .ok (.ldc 44, 2) := by decide +kernel
theorem dX7_copy_17 : decode cX7_copy 17 = .ok (.invokevirtual 57, 3) := by decide +kernel
theorem dX7_copy_20 : decode cX7_copy 20 = .ok (.ireturn, 1) := by decide +kernel
theorem dX7_copy_21 : decode cX7_copy 21 = .ok (.aload_n 0, 1) := by decide +kernel
theorem dX7_copy_22 : decode cX7_copy 22 = .ok (.getfield 25, 3) := by decide +kernel
theorem dX7_copy_25 : decode cX7_copy 25 = .ok (.iload_n 1, 1) := by decide +kernel
theorem dX7_copy_26 : decode cX7_copy 26 = .ok (.iaload, 1) := by decide +kernel
theorem dX7_copy_27 : decode cX7_copy 27 = .ok (.ifCond .eq 12, 3) := by decide +kernel
theorem dX7_copy_30 : decode cX7_copy 30 = .ok (.aload_n 0, 1) := by decide +kernel
theorem dX7_copy_31 : decode cX7_copy 31 = .ok (.getfield 25, 3) := by decide +kernel
theorem dX7_copy_34 : decode cX7_copy 34 = .ok (.iload_n 3, 1) := by decide +kernel
theorem dX7_copy_35 : decode cX7_copy 35 = .ok (.iaload, 1) := by decide +kernel
theorem dX7_copy_36 : decode cX7_copy 36 = .ok (.ifCond .ne 10, 3) := by decide +kernel
theorem dX7_copy_39 : decode cX7_copy 39 = .ok (.aload_n 0, 1) := by decide +kernel
theorem dX7_copy_40 : decode cX7_copy 40 = .ok (.ldc 219, 2) := by decide +kernel
theorem dX7_copy_42 : decode cX7_copy 42 = .ok (.invokevirtual 57, 3) := by decide +kernel
theorem dX7_copy_45 : decode cX7_copy 45 = .ok (.ireturn, 1) := by decide +kernel
theorem dX7_copy_46 : decode cX7_copy 46 = .ok (.aload_n 0, 1) := by decide +kernel
theorem dX7_copy_47 : decode cX7_copy 47 = .ok (.getfield 25, 3) := by decide +kernel
theorem dX7_copy_50 : decode cX7_copy 50 = .ok (.iload_n 1, 1) := by decide +kernel
theorem dX7_copy_51 : decode cX7_copy 51 = .ok (.iaload, 1) := by decide +kernel
theorem dX7_copy_52 : decode cX7_copy 52 = .ok (.aload_n 0, 1) := by decide +kernel
theorem dX7_copy_53 : decode cX7_copy 53 = .ok (.getfield 25, 3) := by decide +kernel
theorem dX7_copy_56 : decode cX7_copy 56 = .ok (.iload_n 3, 1) := by decide +kernel
theorem dX7_copy_57 : decode cX7_copy 57 = .ok (.iaload, 1) := by decide +kernel
theorem dX7_copy_58 : decode cX7_copy 58 = .ok (.if_icmp .eq 10, 3) := by decide +kernel
theorem dX7_copy_61 : decode cX7_copy 61 = .ok (.aload_n 0, 1) := by decide +kernel
theorem dX7_copy_62 : decode cX7_copy 62 = .ok (.ldc 109, 2) := by decide +kernel
theorem dX7_copy_64 : decode cX7_copy 64 = .ok (.invokevirtual 57, 3) := by decide +kernel
theorem dX7_copy_67 : decode cX7_copy 67 = .ok (.ireturn, 1) := by decide +kernel
theorem dX7_copy_68 : decode cX7_copy 68 = .ok (.aload_n 0, 1) := by decide +kernel
theorem dX7_copy_69 : decode cX7_copy 69 = .ok (.iload_n 1, 1) := by decide +kernel
theorem dX7_copy_70 : decode cX7_copy 70 = .ok (.iload_n 2, 1) := by decide +kernel
theorem dX7_copy_71 : decode cX7_copy 71 = .ok (.iload 5, 2) := by decide +kernel
theorem dX7_copy_73 : decode cX7_copy 73 = .ok (.invokevirtual 224, 3) := by decide +kernel
theorem dX7_copy_76 : decode cX7_copy 76 = .ok (.ifCond .eq 15, 3) := by decide +kernel
theorem dX7_copy_79 : decode cX7_copy 79 = .ok (.aload_n 0, 1) := by decide +kernel
theorem dX7_copy_80 : decode cX7_copy 80 = .ok (.iload_n 3, 1) := by decide +kernel
theorem dX7_copy_81 : decode cX7_copy 81 = .ok (.iload 4, 2) := by decide +kernel
theorem dX7_copy_83 : decode cX7_copy 83 = .ok (.iload 5, 2) := by decide +kernel
theorem dX7_copy_85 : decode cX7_copy 85 = .ok (.invokevirtual 224, 3) := by decide +kernel
theorem dX7_copy_88 : decode cX7_copy 88 = .ok (.ifCond .ne 10, 3) := by decide +kernel
theorem dX7_copy_91 : decode cX7_copy 91 = .ok (.aload_n 0, 1) := by decide +kernel
theorem dX7_copy_92 : decode cX7_copy 92 = .ok (.ldc 44, 2) := by decide +kernel
theorem dX7_copy_94 : decode cX7_copy 94 = .ok (.invokevirtual 57, 3) := by decide +kernel
theorem dX7_copy_97 : decode cX7_copy 97 = .ok (.ireturn, 1) := by decide +kernel
theorem dX7_copy_98 : decode cX7_copy 98 = .ok (.iconst 0, 1) := by decide +kernel
theorem dX7_copy_99 : decode cX7_copy 99 = .ok (.istore 6, 2) := by decide +kernel
theorem dX7_copy_101 : decode cX7_copy 101 = .ok (.iload 6, 2) := by decide +kernel
theorem dX7_copy_103 : decode cX7_copy 103 = .ok (.iload 5, 2) := by decide +kernel
theorem dX7_copy_105 : decode cX7_copy 105 = .ok (.if_icmp .ge 30, 3) := by decide +kernel
theorem dX7_copy_108 : decode cX7_copy 108 = .ok (.aload_n 0, 1) := by decide +kernel
theorem dX7_copy_109 : decode cX7_copy 109 = .ok (.getfield 35, 3) := by decide +kernel
theorem dX7_copy_112 : decode cX7_copy 112 = .ok (.iload 6, 2) := by decide +kernel
theorem dX7_copy_114 : decode cX7_copy 114 = .ok (.aload_n 0, 1) := by decide +kernel
theorem dX7_copy_115 : decode cX7_copy 115 = .ok (.getfield 31, 3) := by decide +kernel
theorem dX7_copy_118 : decode cX7_copy 118 = .ok (.bipush 40, 2) := by decide +kernel
theorem dX7_copy_120 : decode cX7_copy 120 = .ok (.iload_n 1, 1) := by decide +kernel
theorem dX7_copy_121 : decode cX7_copy 121 = .ok (.imul, 1) := by decide +kernel
theorem dX7_copy_122 : decode cX7_copy 122 = .ok (.iload_n 2, 1) := by decide +kernel
theorem dX7_copy_123 : decode cX7_copy 123 = .ok (.iadd, 1) := by decide +kernel
theorem dX7_copy_124 : decode cX7_copy 124 = .ok (.iload 6, 2) := by decide +kernel
theorem dX7_copy_126 : decode cX7_copy 126 = .ok (.iadd, 1) := by decide +kernel
theorem dX7_copy_127 : decode cX7_copy 127 = .ok (.laload, 1) := by decide +kernel
theorem dX7_copy_128 : decode cX7_copy 128 = .ok (.lastore, 1) := by decide +kernel
theorem dX7_copy_129 : decode cX7_copy 129 = .ok (.iinc 6 1, 3) := by decide +kernel
theorem dX7_copy_132 : decode cX7_copy 132 = .ok (.goto (-31), 3) := by decide +kernel
theorem dX7_copy_135 : decode cX7_copy 135 = .ok (.iconst 0, 1) := by decide +kernel
theorem dX7_copy_136 : decode cX7_copy 136 = .ok (.istore 6, 2) := by decide +kernel
theorem dX7_copy_138 : decode cX7_copy 138 = .ok (.iload 6, 2) := by decide +kernel
theorem dX7_copy_140 : decode cX7_copy 140 = .ok (.iload 5, 2) := by decide +kernel
theorem dX7_copy_142 : decode cX7_copy 142 = .ok (.if_icmp .ge 31, 3) := by decide +kernel
theorem dX7_copy_145 : decode cX7_copy 145 = .ok (.aload_n 0, 1) := by decide +kernel
theorem dX7_copy_146 : decode cX7_copy 146 = .ok (.getfield 31, 3) := by decide +kernel
theorem dX7_copy_149 : decode cX7_copy 149 = .ok (.bipush 40, 2) := by decide +kernel
theorem dX7_copy_151 : decode cX7_copy 151 = .ok (.iload_n 3, 1) := by decide +kernel
theorem dX7_copy_152 : decode cX7_copy 152 = .ok (.imul, 1) := by decide +kernel
theorem dX7_copy_153 : decode cX7_copy 153 = .ok (.iload 4, 2) := by decide +kernel
theorem dX7_copy_155 : decode cX7_copy 155 = .ok (.iadd, 1) := by decide +kernel
theorem dX7_copy_156 : decode cX7_copy 156 = .ok (.iload 6, 2) := by decide +kernel
theorem dX7_copy_158 : decode cX7_copy 158 = .ok (.iadd, 1) := by decide +kernel
theorem dX7_copy_159 : decode cX7_copy 159 = .ok (.aload_n 0, 1) := by decide +kernel
theorem dX7_copy_160 : decode cX7_copy 160 = .ok (.getfield 35, 3) := by decide +kernel
theorem dX7_copy_163 : decode cX7_copy 163 = .ok (.iload 6, 2) := by decide +kernel
theorem dX7_copy_165 : decode cX7_copy 165 = .ok (.laload, 1) := by decide +kernel
theorem dX7_copy_166 : decode cX7_copy 166 = .ok (.lastore, 1) := by decide +kernel
theorem dX7_copy_167 : decode cX7_copy 167 = .ok (.iinc 6 1, 3) := by decide +kernel
theorem dX7_copy_170 : decode cX7_copy 170 = .ok (.goto (-32), 3) := by decide +kernel
theorem dX7_copy_173 : decode cX7_copy 173 = .ok (.iload 5, 2) := by decide +kernel
theorem dX7_copy_175 : decode cX7_copy 175 = .ok (.ireturn, 1) := by decide +kernel
theorem dX7_badSheet_0 : decode cX7_badSheet 0 = .ok (.iload_n 1, 1) := by decide +kernel
theorem dX7_badSheet_1 : decode cX7_badSheet 1 = .ok (.invokestatic 215, 3) := by decide +kernel
theorem dX7_badSheet_4 : decode cX7_badSheet 4 = .ok (.ifCond .ne 8, 3) := by decide +kernel
theorem dX7_badSheet_7 : decode cX7_badSheet 7 = .ok (.ldc 44, 2) := by decide +kernel
theorem dX7_badSheet_9 : decode cX7_badSheet 9 = .ok (.goto 18, 3) := by decide +kernel
theorem dX7_badSheet_12 : decode cX7_badSheet 12 = .ok (.aload_n 0, 1) := by decide +kernel
theorem dX7_badSheet_13 : decode cX7_badSheet 13 = .ok (.getfield 25, 3) := by decide +kernel
theorem dX7_badSheet_16 : decode cX7_badSheet 16 = .ok (.iload_n 1, 1) := by decide +kernel
theorem dX7_badSheet_17 : decode cX7_badSheet 17 = .ok (.iaload, 1) := by decide +kernel
theorem dX7_badSheet_18 : decode cX7_badSheet 18 = .ok (.ifCond .ne 8, 3) := by decide +kernel
theorem dX7_badSheet_21 : decode cX7_badSheet 21 = .ok (.ldc 219, 2) := by decide +kernel
theorem dX7_badSheet_23 : decode cX7_badSheet 23 = .ok (.goto 4, 3) := by decide +kernel
theorem dX7_badSheet_26 : decode cX7_badSheet 26 = .ok (.iconst 0, 1) := by decide +kernel
theorem dX7_badSheet_27 : decode cX7_badSheet 27 = .ok (.ireturn, 1) := by decide +kernel
theorem dX7_lays_0 : decode cX7_lays 0 = .ok (.aload_n 0, 1) := by decide +kernel
theorem dX7_lays_1 : decode cX7_lays 1 = .ok (.iload_n 1, 1) := by decide +kernel
theorem dX7_lays_2 : decode cX7_lays 2 = .ok (.invokevirtual 226, 3) := by decide +kernel
theorem dX7_lays_5 : decode cX7_lays 5 = .ok (.istore_n 2, 1) := by decide +kernel
theorem dX7_lays_6 : decode cX7_lays 6 = .ok (.iload_n 2, 1) := by decide +kernel
theorem dX7_lays_7 : decode cX7_lays 7 = .ok (.ifCond .eq 9, 3) := by decide +kernel
theorem dX7_lays_10 : decode cX7_lays 10 = .ok (.aload_n 0, 1) := by decide +kernel
theorem dX7_lays_11 : decode cX7_lays 11 = .ok (.iload_n 2, 1) := by decide +kernel
theorem dX7_lays_12 : decode cX7_lays 12 = .ok (.invokevirtual 57, 3) := by decide +kernel
theorem dX7_lays_15 : decode cX7_lays 15 = .ok (.ireturn, 1) := by decide +kernel
theorem dX7_lays_16 : decode cX7_lays 16 = .ok (.iconst 0, 1) := by decide +kernel
theorem dX7_lays_17 : decode cX7_lays 17 = .ok (.istore_n 3, 1) := by decide +kernel
theorem dX7_lays_18 : decode cX7_lays 18 = .ok (.iconst 0, 1) := by decide +kernel
theorem dX7_lays_19 : decode cX7_lays 19 = .ok (.istore 4, 2) := by decide +kernel
theorem dX7_lays_21 : decode cX7_lays 21 = .ok (.iload 4, 2) := by decide +kernel
theorem dX7_lays_23 : decode cX7_lays 23 = .ok (.aload_n 0, 1) := by decide +kernel
theorem dX7_lays_24 : decode cX7_lays 24 = .ok (.getfield 28, 3) := by decide +kernel
theorem dX7_lays_27 : decode cX7_lays 27 = .ok (.iload_n 1, 1) := by decide +kernel
theorem dX7_lays_28 : decode cX7_lays 28 = .ok (.iaload, 1) := by decide +kernel
theorem dX7_lays_29 : decode cX7_lays 29 = .ok (.if_icmp .ge 63, 3) := by decide +kernel
theorem dX7_lays_32 : decode cX7_lays 32 = .ok (.iload 4, 2) := by decide +kernel
theorem dX7_lays_34 : decode cX7_lays 34 = .ok (.aload_n 0, 1) := by decide +kernel
theorem dX7_lays_35 : decode cX7_lays 35 = .ok (.getfield 7, 3) := by decide +kernel
theorem dX7_lays_38 : decode cX7_lays 38 = .ok (.iconst 5, 1) := by decide +kernel
theorem dX7_lays_39 : decode cX7_lays 39 = .ok (.iaload, 1) := by decide +kernel
theorem dX7_lays_40 : decode cX7_lays 40 = .ok (.if_icmp .ge 52, 3) := by decide +kernel
theorem dX7_lays_43 : decode cX7_lays 43 = .ok (.aload_n 0, 1) := by decide +kernel
theorem dX7_lays_44 : decode cX7_lays 44 = .ok (.getfield 31, 3) := by decide +kernel
theorem dX7_lays_47 : decode cX7_lays 47 = .ok (.bipush 40, 2) := by decide +kernel
theorem dX7_lays_49 : decode cX7_lays 49 = .ok (.iload_n 1, 1) := by decide +kernel
theorem dX7_lays_50 : decode cX7_lays 50 = .ok (.imul, 1) := by decide +kernel
theorem dX7_lays_51 : decode cX7_lays 51 = .ok (.iload 4, 2) := by decide +kernel
theorem dX7_lays_53 : decode cX7_lays 53 = .ok (.iadd, 1) := by decide +kernel
theorem dX7_lays_54 : decode cX7_lays 54 = .ok (.laload, 1) := by decide +kernel
theorem dX7_lays_55 : decode cX7_lays 55 = .ok (.lstore 5, 2) := by decide +kernel
theorem dX7_lays_57 : decode cX7_lays 57 = .ok (.lload 5, 2) := by decide +kernel
theorem dX7_lays_59 : decode cX7_lays 59 = .ok (.lconst 0, 1) := by decide +kernel
theorem dX7_lays_60 : decode cX7_lays 60 = .ok (.lcmp, 1) := by decide +kernel
theorem dX7_lays_61 : decode cX7_lays 61 = .ok (.ifCond .lt 25, 3) := by decide +kernel
theorem dX7_lays_64 : decode cX7_lays 64 = .ok (.lload 5, 2) := by decide +kernel
theorem dX7_lays_66 : decode cX7_lays 66 = .ok (.ldc2_w 229, 3) := by decide +kernel
theorem dX7_lays_69 : decode cX7_lays 69 = .ok (.lcmp, 1) := by decide +kernel
theorem dX7_lays_70 : decode cX7_lays 70 = .ok (.ifCond .gt 16, 3) := by decide +kernel
theorem dX7_lays_73 : decode cX7_lays 73 = .ok (.aload_n 0, 1) := by decide +kernel
theorem dX7_lays_74 : decode cX7_lays 74 = .ok (.iload 4, 2) := by decide +kernel
theorem dX7_lays_76 : decode cX7_lays 76 = .ok (.iconst 2, 1) := by decide +kernel
theorem dX7_lays_77 : decode cX7_lays 77 = .ok (.lload 5, 2) := by decide +kernel
theorem dX7_lays_79 : decode cX7_lays 79 = .ok (.l2i, 1) := by decide +kernel
theorem dX7_lays_80 : decode cX7_lays 80 = .ok (.invokevirtual 83, 3) := by decide +kernel
theorem dX7_lays_83 : decode cX7_lays 83 = .ok (.iinc 3 1, 3) := by decide +kernel
theorem dX7_lays_86 : decode cX7_lays 86 = .ok (.iinc 4 1, 3) := by decide +kernel
theorem dX7_lays_89 : decode cX7_lays 89 = .ok (.goto (-68), 3) := by decide +kernel
theorem dX7_lays_92 : decode cX7_lays 92 = .ok (.iload_n 3, 1) := by decide +kernel
theorem dX7_lays_93 : decode cX7_lays 93 = .ok (.ireturn, 1) := by decide +kernel
theorem dX7_book_0 : decode cX7_book 0 = .ok (.aload_n 0, 1) := by decide +kernel
theorem dX7_book_1 : decode cX7_book 1 = .ok (.iload_n 1, 1) := by decide +kernel
theorem dX7_book_2 : decode cX7_book 2 = .ok (.invokevirtual 226, 3) := by decide +kernel
theorem dX7_book_5 : decode cX7_book 5 = .ok (.istore_n 3, 1) := by decide +kernel
theorem dX7_book_6 : decode cX7_book 6 = .ok (.iload_n 3, 1) := by decide +kernel
theorem dX7_book_7 : decode cX7_book 7 = .ok (.ifCond .eq 9, 3) := by decide +kernel
theorem dX7_book_10 : decode cX7_book 10 = .ok (.aload_n 0, 1) := by decide +kernel
theorem dX7_book_11 : decode cX7_book 11 = .ok (.iload_n 3, 1) := by decide +kernel
theorem dX7_book_12 : decode cX7_book 12 = .ok (.invokevirtual 57, 3) := by decide +kernel
theorem dX7_book_15 : decode cX7_book 15 = .ok (.ireturn, 1) := by decide +kernel
theorem dX7_book_16 : decode cX7_book 16 = .ok (.aload_n 0, 1) := by decide +kernel
theorem dX7_book_17 : decode cX7_book 17 = .ok (.iload_n 2, 1) := by decide +kernel
theorem dX7_book_18 : decode cX7_book 18 = .ok (.invokevirtual 99, 3) := by decide +kernel
theorem dX7_book_21 : decode cX7_book 21 = .ok (.ifCond .ne 10, 3) := by decide +kernel
theorem dX7_book_24 : decode cX7_book 24 = .ok (.aload_n 0, 1) := by decide +kernel
theorem dX7_book_25 : decode cX7_book 25 = .ok (.ldc 44, 2) := by decide +kernel
theorem dX7_book_27 : decode cX7_book 27 = .ok (.invokevirtual 57, 3) := by decide +kernel
theorem dX7_book_30 : decode cX7_book 30 = .ok (.ireturn, 1) := by decide +kernel
theorem dX7_book_31 : decode cX7_book 31 = .ok (.aload_n 0, 1) := by decide +kernel
theorem dX7_book_32 : decode cX7_book 32 = .ok (.iconst 1, 1) := by decide +kernel
theorem dX7_book_33 : decode cX7_book 33 = .ok (.aload_n 0, 1) := by decide +kernel
theorem dX7_book_34 : decode cX7_book 34 = .ok (.getfield 16, 3) := by decide +kernel
theorem dX7_book_37 : decode cX7_book 37 = .ok (.invokevirtual 117, 3) := by decide +kernel
theorem dX7_book_40 : decode cX7_book 40 = .ok (.iconst 0, 1) := by decide +kernel
theorem dX7_book_41 : decode cX7_book 41 = .ok (.istore 4, 2) := by decide +kernel
theorem dX7_book_43 : decode cX7_book 43 = .ok (.iload 4, 2) := by decide +kernel
theorem dX7_book_45 : decode cX7_book 45 = .ok (.aload_n 0, 1) := by decide +kernel
theorem dX7_book_46 : decode cX7_book 46 = .ok (.getfield 28, 3) := by decide +kernel
theorem dX7_book_49 : decode cX7_book 49 = .ok (.iload_n 1, 1) := by decide +kernel
theorem dX7_book_50 : decode cX7_book 50 = .ok (.iaload, 1) := by decide +kernel
theorem dX7_book_51 : decode cX7_book 51 = .ok (.if_icmp .ge 32, 3) := by decide +kernel
theorem dX7_book_54 : decode cX7_book 54 = .ok (.aload_n 0, 1) := by decide +kernel
theorem dX7_book_55 : decode cX7_book 55 = .ok (.getfield 31, 3) := by decide +kernel
theorem dX7_book_58 : decode cX7_book 58 = .ok (.bipush 40, 2) := by decide +kernel
theorem dX7_book_60 : decode cX7_book 60 = .ok (.iload_n 1, 1) := by decide +kernel
theorem dX7_book_61 : decode cX7_book 61 = .ok (.imul, 1) := by decide +kernel
theorem dX7_book_62 : decode cX7_book 62 = .ok (.iload 4, 2) := by decide +kernel
theorem dX7_book_64 : decode cX7_book 64 = .ok (.iadd, 1) := by decide +kernel
theorem dX7_book_65 : decode cX7_book 65 = .ok (.aload_n 0, 1) := by decide +kernel
theorem dX7_book_66 : decode cX7_book 66 = .ok (.iload_n 2, 1) := by decide +kernel
theorem dX7_book_67 : decode cX7_book 67 = .ok (.iconst 2, 1) := by decide +kernel
theorem dX7_book_68 : decode cX7_book 68 = .ok (.invokevirtual 64, 3) := by decide +kernel
theorem dX7_book_71 : decode cX7_book 71 = .ok (.i2l, 1) := by decide +kernel
theorem dX7_book_72 : decode cX7_book 72 = .ok (.lastore, 1) := by decide +kernel
theorem dX7_book_73 : decode cX7_book 73 = .ok (.aload_n 0, 1) := by decide +kernel
theorem dX7_book_74 : decode cX7_book 74 = .ok (.invokevirtual 110, 3) := by decide +kernel
theorem dX7_book_77 : decode cX7_book 77 = .ok (.iinc 4 1, 3) := by decide +kernel
theorem dX7_book_80 : decode cX7_book 80 = .ok (.goto (-37), 3) := by decide +kernel
theorem dX7_book_83 : decode cX7_book 83 = .ok (.aload_n 0, 1) := by decide +kernel
theorem dX7_book_84 : decode cX7_book 84 = .ok (.iconst 0, 1) := by decide +kernel
theorem dX7_book_85 : decode cX7_book 85 = .ok (.aload_n 0, 1) := by decide +kernel
theorem dX7_book_86 : decode cX7_book 86 = .ok (.getfield 16, 3) := by decide +kernel
theorem dX7_book_89 : decode cX7_book 89 = .ok (.invokevirtual 117, 3) := by decide +kernel
theorem dX7_book_92 : decode cX7_book 92 = .ok (.aload_n 0, 1) := by decide +kernel
theorem dX7_book_93 : decode cX7_book 93 = .ok (.getfield 28, 3) := by decide +kernel
theorem dX7_book_96 : decode cX7_book 96 = .ok (.iload_n 1, 1) := by decide +kernel
theorem dX7_book_97 : decode cX7_book 97 = .ok (.iaload, 1) := by decide +kernel
theorem dX7_book_98 : decode cX7_book 98 = .ok (.ireturn, 1) := by decide +kernel
theorem dX7_isSo_0 : decode cX7_isSo 0 = .ok (.iconst 1, 1) := by decide +kernel
theorem dX7_isSo_1 : decode cX7_isSo 1 = .ok (.istore_n 3, 1) := by decide +kernel
theorem dX7_isSo_2 : decode cX7_isSo 2 = .ok (.iconst 0, 1) := by decide +kernel
theorem dX7_isSo_3 : decode cX7_isSo 3 = .ok (.istore 4, 2) := by decide +kernel
theorem dX7_isSo_5 : decode cX7_isSo 5 = .ok (.iload 4, 2) := by decide +kernel
theorem dX7_isSo_7 : decode cX7_isSo 7 = .ok (.aload_n 0, 1) := by decide +kernel
theorem dX7_isSo_8 : decode cX7_isSo 8 = .ok (.getfield 28, 3) := by decide +kernel
theorem dX7_isSo_11 : decode cX7_isSo 11 = .ok (.iload_n 1, 1) := by decide +kernel
theorem dX7_isSo_12 : decode cX7_isSo 12 = .ok (.iaload, 1) := by decide +kernel
