theorem dX6_now_77 : decode cX6_now 77 = .ok (.getfield 71, 3) := by decide +kernel
theorem dX6_now_80 : decode cX6_now 80 = .ok (.ireturn, 1) := by decide +kernel
theorem dX6_now_81 : decode cX6_now 81 = .ok (.aload_n 0, 1) := by decide +kernel
theorem dX6_now_82 : decode cX6_now 82 = .ok (.getfield 16, 3) := by decide +kernel
theorem dX6_now_85 : decode cX6_now 85 = .ok (.getfield 74, 3) := by decide +kernel
theorem dX6_now_88 : decode cX6_now 88 = .ok (.ireturn, 1) := by decide +kernel
theorem dX6_now_89 : decode cX6_now 89 = .ok (.aload_n 0, 1) := by decide +kernel
theorem dX6_now_90 : decode cX6_now 90 = .ok (.getfield 16, 3) := by decide +kernel
theorem dX6_now_93 : decode cX6_now 93 = .ok (.getfield 77, 3) := by decide +kernel
theorem dX6_now_96 : decode cX6_now 96 = .ok (.ireturn, 1) := by decide +kernel
theorem dX6_now_97 : decode cX6_now 97 = .ok (.aload_n 0, 1) := by decide +kernel
theorem dX6_now_98 : decode cX6_now 98 = .ok (.getfield 16, 3) := by decide +kernel
theorem dX6_now_101 : decode cX6_now 101 = .ok (.invokevirtual 80, 3) := by decide +kernel
theorem dX6_now_104 : decode cX6_now 104 = .ok (.ireturn, 1) := by decide +kernel
theorem dX6_now_105 : decode cX6_now 105 = .ok (.aload_n 0, 1) := by decide +kernel
theorem dX6_now_106 : decode cX6_now 106 = .ok (.getfield 16, 3) := by decide +kernel
theorem dX6_now_109 : decode cX6_now 109 = .ok (.iconst 0, 1) := by decide +kernel
theorem dX6_now_110 : decode cX6_now 110 = .ok (.aload_n 0, 1) := by decide +kernel
theorem dX6_now_111 : decode cX6_now 111 = .ok (.getfield 16, 3) := by decide +kernel
theorem dX6_now_114 : decode cX6_now 114 = .ok (.getfield 77, 3) := by decide +kernel
theorem dX6_now_117 : decode cX6_now 117 = .ok (.invokevirtual 84, 3) := by decide +kernel
theorem dX6_now_120 : decode cX6_now 120 = .ok (.ireturn, 1) := by decide +kernel
theorem dX6_now_121 : decode cX6_now 121 = .ok (.aload_n 0, 1) := by decide +kernel
theorem dX6_now_122 : decode cX6_now 122 = .ok (.iconst 0, 1) := by decide +kernel
theorem dX6_now_123 : decode cX6_now 123 = .ok (.invokevirtual 48, 3) := by decide +kernel
theorem dX6_now_126 : decode cX6_now 126 = .ok (.ireturn, 1) := by decide +kernel
theorem dX6_scribe_0 : decode cX6_scribe 0 = .ok (.iload_n 1, 1) := by decide +kernel
theorem dX6_scribe_1 : decode cX6_scribe 1 = .ok (.invokestatic 88, 3) := by decide +kernel
theorem dX6_scribe_4 : decode cX6_scribe 4 = .ok (.ifCond .eq 13, 3) := by decide +kernel
theorem dX6_scribe_7 : decode cX6_scribe 7 = .ok (.iload_n 2, 1) := by decide +kernel
theorem dX6_scribe_8 : decode cX6_scribe 8 = .ok (.iconst 1, 1) := by decide +kernel
theorem dX6_scribe_9 : decode cX6_scribe 9 = .ok (.bipush 99, 2) := by decide +kernel
theorem dX6_scribe_11 : decode cX6_scribe 11 = .ok (.invokestatic 44, 3) := by decide +kernel
theorem dX6_scribe_14 : decode cX6_scribe 14 = .ok (.ifCond .ne 9, 3) := by decide +kernel
theorem dX6_scribe_17 : decode cX6_scribe 17 = .ok (.aload_n 0, 1) := by decide +kernel
theorem dX6_scribe_18 : decode cX6_scribe 18 = .ok (.iconst 0, 1) := by decide +kernel
theorem dX6_scribe_19 : decode cX6_scribe 19 = .ok (.invokevirtual 48, 3) := by decide +kernel
theorem dX6_scribe_22 : decode cX6_scribe 22 = .ok (.ireturn, 1) := by decide +kernel
theorem dX6_scribe_23 : decode cX6_scribe 23 = .ok (.aload_n 0, 1) := by decide +kernel
theorem dX6_scribe_24 : decode cX6_scribe 24 = .ok (.getfield 16, 3) := by decide +kernel
theorem dX6_scribe_27 : decode cX6_scribe 27 = .ok (.invokevirtual 96, 3) := by decide +kernel
theorem dX6_scribe_30 : decode cX6_scribe 30 = .ok (.ifCond .eq 9, 3) := by decide +kernel
theorem dX6_scribe_33 : decode cX6_scribe 33 = .ok (.aload_n 0, 1) := by decide +kernel
theorem dX6_scribe_34 : decode cX6_scribe 34 = .ok (.iconst 1, 1) := by decide +kernel
theorem dX6_scribe_35 : decode cX6_scribe 35 = .ok (.invokevirtual 48, 3) := by decide +kernel
theorem dX6_scribe_38 : decode cX6_scribe 38 = .ok (.ireturn, 1) := by decide +kernel
theorem dX6_scribe_39 : decode cX6_scribe 39 = .ok (.aload_n 0, 1) := by decide +kernel
theorem dX6_scribe_40 : decode cX6_scribe 40 = .ok (.getfield 16, 3) := by decide +kernel
theorem dX6_scribe_43 : decode cX6_scribe 43 = .ok (.iload_n 1, 1) := by decide +kernel
theorem dX6_scribe_44 : decode cX6_scribe 44 = .ok (.iload_n 2, 1) := by decide +kernel
theorem dX6_scribe_45 : decode cX6_scribe 45 = .ok (.invokevirtual 100, 3) := by decide +kernel
theorem dX6_scribe_48 : decode cX6_scribe 48 = .ok (.ifCond .ne 9, 3) := by decide +kernel
theorem dX6_scribe_51 : decode cX6_scribe 51 = .ok (.aload_n 0, 1) := by decide +kernel
theorem dX6_scribe_52 : decode cX6_scribe 52 = .ok (.iconst 4, 1) := by decide +kernel
theorem dX6_scribe_53 : decode cX6_scribe 53 = .ok (.invokevirtual 48, 3) := by decide +kernel
theorem dX6_scribe_56 : decode cX6_scribe 56 = .ok (.ireturn, 1) := by decide +kernel
theorem dX6_scribe_57 : decode cX6_scribe 57 = .ok (.aload_n 0, 1) := by decide +kernel
theorem dX6_scribe_58 : decode cX6_scribe 58 = .ok (.getfield 16, 3) := by decide +kernel
theorem dX6_scribe_61 : decode cX6_scribe 61 = .ok (.iload_n 1, 1) := by decide +kernel
theorem dX6_scribe_62 : decode cX6_scribe 62 = .ok (.iload_n 2, 1) := by decide +kernel
theorem dX6_scribe_63 : decode cX6_scribe 63 = .ok (.invokevirtual 104, 3) := by decide +kernel
theorem dX6_scribe_66 : decode cX6_scribe 66 = .ok (.ireturn, 1) := by decide +kernel
theorem dX6_of_0 : decode cX6_of 0 = .ok (.aload_n 0, 1) := by decide +kernel
theorem dX6_of_1 : decode cX6_of 1 = .ok (.getfield 16, 3) := by decide +kernel
theorem dX6_of_4 : decode cX6_of 4 = .ok (.iload_n 1, 1) := by decide +kernel
theorem dX6_of_5 : decode cX6_of 5 = .ok (.invokevirtual 107, 3) := by decide +kernel
theorem dX6_of_8 : decode cX6_of 8 = .ok (.ifCond .ne 9, 3) := by decide +kernel
theorem dX6_of_11 : decode cX6_of 11 = .ok (.aload_n 0, 1) := by decide +kernel
theorem dX6_of_12 : decode cX6_of 12 = .ok (.iconst 0, 1) := by decide +kernel
theorem dX6_of_13 : decode cX6_of 13 = .ok (.invokevirtual 48, 3) := by decide +kernel
theorem dX6_of_16 : decode cX6_of 16 = .ok (.ireturn, 1) := by decide +kernel
theorem dX6_of_17 : decode cX6_of 17 = .ok (.aload_n 0, 1) := by decide +kernel
theorem dX6_of_18 : decode cX6_of 18 = .ok (.getfield 16, 3) := by decide +kernel
theorem dX6_of_21 : decode cX6_of 21 = .ok (.getfield 110, 3) := by decide +kernel
theorem dX6_of_24 : decode cX6_of 24 = .ok (.iload_n 1, 1) := by decide +kernel
theorem dX6_of_25 : decode cX6_of 25 = .ok (.aaload, 1) := by decide +kernel
theorem dX6_of_26 : decode cX6_of 26 = .ok (.astore_n 3, 1) := by decide +kernel
theorem dX6_of_27 : decode cX6_of 27 = .ok (.iload_n 2, 1) := by decide +kernel
theorem dX6_of_28 : decode cX6_of 28 = .ok (.tableswitch 134 0 8 #[52, 57, 62, 67, 72, 77, 89, 105, 121], 52) := by decide +kernel
theorem dX6_of_80 : decode cX6_of 80 = .ok (.aload_n 3, 1) := by decide +kernel
theorem dX6_of_81 : decode cX6_of 81 = .ok (.getfield 114, 3) := by decide +kernel
theorem dX6_of_84 : decode cX6_of 84 = .ok (.ireturn, 1) := by decide +kernel
theorem dX6_of_85 : decode cX6_of 85 = .ok (.aload_n 3, 1) := by decide +kernel
theorem dX6_of_86 : decode cX6_of 86 = .ok (.getfield 117, 3) := by decide +kernel
theorem dX6_of_89 : decode cX6_of 89 = .ok (.ireturn, 1) := by decide +kernel
theorem dX6_of_90 : decode cX6_of 90 = .ok (.aload_n 3, 1) := by decide +kernel
theorem dX6_of_91 : decode cX6_of 91 = .ok (.getfield 120, 3) := by decide +kernel
theorem dX6_of_94 : decode cX6_of 94 = .ok (.ireturn, 1) := by decide +kernel
theorem dX6_of_95 : decode cX6_of 95 = .ok (.aload_n 3, 1) := by decide +kernel
theorem dX6_of_96 : decode cX6_of 96 = .ok (.getfield 123, 3) := by decide +kernel
theorem dX6_of_99 : decode cX6_of 99 = .ok (.ireturn, 1) := by decide +kernel
theorem dX6_of_100 : decode cX6_of 100 = .ok (.aload_n 3, 1) := by decide +kernel
theorem dX6_of_101 : decode cX6_of 101 = .ok (.getfield 126, 3) := by decide +kernel
theorem dX6_of_104 : decode cX6_of 104 = .ok (.ireturn, 1) := by decide +kernel
theorem dX6_of_105 : decode cX6_of 105 = .ok (.aload_n 3, 1) := by decide +kernel
theorem dX6_of_106 : decode cX6_of 106 = .ok (.getfield 114, 3) := by decide +kernel
theorem dX6_of_109 : decode cX6_of 109 = .ok (.aload_n 3, 1) := by decide +kernel
theorem dX6_of_110 : decode cX6_of 110 = .ok (.getfield 117, 3) := by decide +kernel
theorem dX6_of_113 : decode cX6_of 113 = .ok (.invokestatic 129, 3) := by decide +kernel
theorem dX6_of_116 : decode cX6_of 116 = .ok (.ireturn, 1) := by decide +kernel
theorem dX6_of_117 : decode cX6_of 117 = .ok (.aload_n 3, 1) := by decide +kernel
theorem dX6_of_118 : decode cX6_of 118 = .ok (.getfield 114, 3) := by decide +kernel
theorem dX6_of_121 : decode cX6_of 121 = .ok (.aload_n 0, 1) := by decide +kernel
theorem dX6_of_122 : decode cX6_of 122 = .ok (.getfield 16, 3) := by decide +kernel
theorem dX6_of_125 : decode cX6_of 125 = .ok (.iconst 0, 1) := by decide +kernel
theorem dX6_of_126 : decode cX6_of 126 = .ok (.invokevirtual 65, 3) := by decide +kernel
theorem dX6_of_129 : decode cX6_of 129 = .ok (.invokestatic 132, 3) := by decide +kernel
theorem dX6_of_132 : decode cX6_of 132 = .ok (.ireturn, 1) := by decide +kernel
theorem dX6_of_133 : decode cX6_of 133 = .ok (.aload_n 3, 1) := by decide +kernel
theorem dX6_of_134 : decode cX6_of 134 = .ok (.getfield 114, 3) := by decide +kernel
theorem dX6_of_137 : decode cX6_of 137 = .ok (.aload_n 3, 1) := by decide +kernel
theorem dX6_of_138 : decode cX6_of 138 = .ok (.getfield 123, 3) := by decide +kernel
theorem dX6_of_141 : decode cX6_of 141 = .ok (.aload_n 3, 1) := by decide +kernel
theorem dX6_of_142 : decode cX6_of 142 = .ok (.getfield 126, 3) := by decide +kernel
theorem dX6_of_145 : decode cX6_of 145 = .ok (.invokestatic 135, 3) := by decide +kernel
theorem dX6_of_148 : decode cX6_of 148 = .ok (.ireturn, 1) := by decide +kernel
theorem dX6_of_149 : decode cX6_of 149 = .ok (.aload_n 3, 1) := by decide +kernel
theorem dX6_of_150 : decode cX6_of 150 = .ok (.iconst 0, 1) := by decide +kernel
theorem dX6_of_151 : decode cX6_of 151 = .ok (.aload_n 0, 1) := by decide +kernel
theorem dX6_of_152 : decode cX6_of 152 = .ok (.getfield 16, 3) := by decide +kernel
theorem dX6_of_155 : decode cX6_of 155 = .ok (.getfield 77, 3) := by decide +kernel
theorem dX6_of_158 : decode cX6_of 158 = .ok (.invokevirtual 139, 3) := by decide +kernel
theorem dX6_of_161 : decode cX6_of 161 = .ok (.ireturn, 1) := by decide +kernel
theorem dX6_of_162 : decode cX6_of 162 = .ok (.aload_n 0, 1) := by decide +kernel
theorem dX6_of_163 : decode cX6_of 163 = .ok (.iconst 0, 1) := by decide +kernel
theorem dX6_of_164 : decode cX6_of 164 = .ok (.invokevirtual 48, 3) := by decide +kernel
theorem dX6_of_167 : decode cX6_of 167 = .ok (.ireturn, 1) := by decide +kernel
theorem dX6_set_0 : decode cX6_set 0 = .ok (.aload_n 0, 1) := by decide +kernel
theorem dX6_set_1 : decode cX6_set 1 = .ok (.getfield 16, 3) := by decide +kernel
theorem dX6_set_4 : decode cX6_set 4 = .ok (.iload_n 1, 1) := by decide +kernel
theorem dX6_set_5 : decode cX6_set 5 = .ok (.invokevirtual 107, 3) := by decide +kernel
theorem dX6_set_8 : decode cX6_set 8 = .ok (.ifCond .eq 18, 3) := by decide +kernel
theorem dX6_set_11 : decode cX6_set 11 = .ok (.iload_n 3, 1) := by decide +kernel
theorem dX6_set_12 : decode cX6_set 12 = .ok (.iload_n 2, 1) := by decide +kernel
theorem dX6_set_13 : decode cX6_set 13 = .ok (.invokestatic 142, 3) := by decide +kernel
theorem dX6_set_16 : decode cX6_set 16 = .ok (.iload_n 2, 1) := by decide +kernel
theorem dX6_set_17 : decode cX6_set 17 = .ok (.invokestatic 145, 3) := by decide +kernel
theorem dX6_set_20 : decode cX6_set 20 = .ok (.invokestatic 44, 3) := by decide +kernel
theorem dX6_set_23 : decode cX6_set 23 = .ok (.ifCond .ne 9, 3) := by decide +kernel
theorem dX6_set_26 : decode cX6_set 26 = .ok (.aload_n 0, 1) := by decide +kernel
theorem dX6_set_27 : decode cX6_set 27 = .ok (.iconst 0, 1) := by decide +kernel
theorem dX6_set_28 : decode cX6_set 28 = .ok (.invokevirtual 48, 3) := by decide +kernel
theorem dX6_set_31 : decode cX6_set 31 = .ok (.ireturn, 1) := by decide +kernel
theorem dX6_set_32 : decode cX6_set 32 = .ok (.aload_n 0, 1) := by decide +kernel
theorem dX6_set_33 : decode cX6_set 33 = .ok (.getfield 16, 3) := by decide +kernel
theorem dX6_set_36 : decode cX6_set 36 = .ok (.getfield 110, 3) := by decide +kernel
theorem dX6_set_39 : decode cX6_set 39 = .ok (.iload_n 1, 1) := by decide +kernel
theorem dX6_set_40 : decode cX6_set 40 = .ok (.aaload, 1) := by decide +kernel
theorem dX6_set_41 : decode cX6_set 41 = .ok (.iload_n 2, 1) := by decide +kernel
theorem dX6_set_42 : decode cX6_set 42 = .ok (.invokevirtual 148, 3) := by decide +kernel
theorem dX6_set_45 : decode cX6_set 45 = .ok (.istore 4, 2) := by decide +kernel
theorem dX6_set_47 : decode cX6_set 47 = .ok (.aload_n 0, 1) := by decide +kernel
theorem dX6_set_48 : decode cX6_set 48 = .ok (.getfield 16, 3) := by decide +kernel
theorem dX6_set_51 : decode cX6_set 51 = .ok (.getfield 110, 3) := by decide +kernel
theorem dX6_set_54 : decode cX6_set 54 = .ok (.iload_n 1, 1) := by decide +kernel
theorem dX6_set_55 : decode cX6_set 55 = .ok (.aaload, 1) := by decide +kernel
theorem dX6_set_56 : decode cX6_set 56 = .ok (.iload_n 2, 1) := by decide +kernel
theorem dX6_set_57 : decode cX6_set 57 = .ok (.iload_n 3, 1) := by decide +kernel
theorem dX6_set_58 : decode cX6_set 58 = .ok (.invokevirtual 151, 3) := by decide +kernel
theorem dX6_set_61 : decode cX6_set 61 = .ok (.iload 4, 2) := by decide +kernel
theorem dX6_set_63 : decode cX6_set 63 = .ok (.ireturn, 1) := by decide +kernel
theorem dX6_turn_0 : decode cX6_turn 0 = .ok (.aload_n 0, 1) := by decide +kernel
theorem dX6_turn_1 : decode cX6_turn 1 = .ok (.getfield 16, 3) := by decide +kernel
theorem dX6_turn_4 : decode cX6_turn 4 = .ok (.iload_n 1, 1) := by decide +kernel
theorem dX6_turn_5 : decode cX6_turn 5 = .ok (.invokevirtual 107, 3) := by decide +kernel
theorem dX6_turn_8 : decode cX6_turn 8 = .ok (.ifCond .eq 10, 3) := by decide +kernel
theorem dX6_turn_11 : decode cX6_turn 11 = .ok (.iload_n 2, 1) := by decide +kernel
theorem dX6_turn_12 : decode cX6_turn 12 = .ok (.invokestatic 88, 3) := by decide +kernel
theorem dX6_turn_15 : decode cX6_turn 15 = .ok (.ifCond .ne 9, 3) := by decide +kernel
theorem dX6_turn_18 : decode cX6_turn 18 = .ok (.aload_n 0, 1) := by decide +kernel
theorem dX6_turn_19 : decode cX6_turn 19 = .ok (.iconst 0, 1) := by decide +kernel
theorem dX6_turn_20 : decode cX6_turn 20 = .ok (.invokevirtual 48, 3) := by decide +kernel
theorem dX6_turn_23 : decode cX6_turn 23 = .ok (.ireturn, 1) := by decide +kernel
theorem dX6_turn_24 : decode cX6_turn 24 = .ok (.aload_n 0, 1) := by decide +kernel
theorem dX6_turn_25 : decode cX6_turn 25 = .ok (.getfield 16, 3) := by decide +kernel
theorem dX6_turn_28 : decode cX6_turn 28 = .ok (.getfield 110, 3) := by decide +kernel
theorem dX6_turn_31 : decode cX6_turn 31 = .ok (.iload_n 1, 1) := by decide +kernel
theorem dX6_turn_32 : decode cX6_turn 32 = .ok (.aaload, 1) := by decide +kernel
theorem dX6_turn_33 : decode cX6_turn 33 = .ok (.getfield 114, 3) := by decide +kernel
theorem dX6_turn_36 : decode cX6_turn 36 = .ok (.istore_n 3, 1) := by decide +kernel
theorem dX6_turn_37 : decode cX6_turn 37 = .ok (.aload_n 0, 1) := by decide +kernel
theorem dX6_turn_38 : decode cX6_turn 38 = .ok (.getfield 16, 3) := by decide +kernel
theorem dX6_turn_41 : decode cX6_turn 41 = .ok (.getfield 110, 3) := by decide +kernel
theorem dX6_turn_44 : decode cX6_turn 44 = .ok (.iload_n 1, 1) := by decide +kernel
theorem dX6_turn_45 : decode cX6_turn 45 = .ok (.aaload, 1) := by decide +kernel
theorem dX6_turn_46 : decode cX6_turn 46 = .ok (.iload_n 2, 1) := by decide +kernel
theorem dX6_turn_47 : decode cX6_turn 47 = .ok (.putfield 114, 3) := by decide +kernel
theorem dX6_turn_50 : decode cX6_turn 50 = .ok (.iload_n 3, 1) := by decide +kernel
theorem dX6_turn_51 : decode cX6_turn 51 = .ok (.ireturn, 1) := by decide +kernel
theorem dX6_as_0 : decode cX6_as 0 = .ok (.aload_n 0, 1) := by decide +kernel
theorem dX6_as_1 : decode cX6_as 1 = .ok (.getfield 16, 3) := by decide +kernel
theorem dX6_as_4 : decode cX6_as 4 = .ok (.iload_n 1, 1) := by decide +kernel
theorem dX6_as_5 : decode cX6_as 5 = .ok (.invokevirtual 107, 3) := by decide +kernel
theorem dX6_as_8 : decode cX6_as 8 = .ok (.ifCond .eq 10, 3) := by decide +kernel
theorem dX6_as_11 : decode cX6_as 11 = .ok (.iload_n 2, 1) := by decide +kernel
theorem dX6_as_12 : decode cX6_as 12 = .ok (.invokestatic 88, 3) := by decide +kernel
theorem dX6_as_15 : decode cX6_as 15 = .ok (.ifCond .ne 9, 3) := by decide +kernel
theorem dX6_as_18 : decode cX6_as 18 = .ok (.aload_n 0, 1) := by decide +kernel
theorem dX6_as_19 : decode cX6_as 19 = .ok (.iconst 0, 1) := by decide +kernel
theorem dX6_as_20 : decode cX6_as 20 = .ok (.invokevirtual 48, 3) := by decide +kernel
theorem dX6_as_23 : decode cX6_as 23 = .ok (.ireturn, 1) := by decide +kernel
theorem dX6_as_24 : decode cX6_as 24 = .ok (.aload_n 0, 1) := by decide +kernel
theorem dX6_as_25 : decode cX6_as 25 = .ok (.getfield 16, 3) := by decide +kernel
theorem dX6_as_28 : decode cX6_as 28 = .ok (.getfield 110, 3) := by decide +kernel
theorem dX6_as_31 : decode cX6_as 31 = .ok (.iload_n 1, 1) := by decide +kernel
theorem dX6_as_32 : decode cX6_as 32 = .ok (.aaload, 1) := by decide +kernel
theorem dX6_as_33 : decode cX6_as 33 = .ok (.getfield 114, 3) := by decide +kernel
theorem dX6_as_36 : decode cX6_as 36 = .ok (.iload_n 2, 1) := by decide +kernel
theorem dX6_as_37 : decode cX6_as 37 = .ok (.invokestatic 154, 3) := by decide +kernel
theorem dX6_as_40 : decode cX6_as 40 = .ok (.ifCond .ne 9, 3) := by decide +kernel
theorem dX6_as_43 : decode cX6_as 43 = .ok (.aload_n 0, 1) := by decide +kernel
theorem dX6_as_44 : decode cX6_as 44 = .ok (.iconst 2, 1) := by decide +kernel
theorem dX6_as_45 : decode cX6_as 45 = .ok (.invokevirtual 48, 3) := by decide +kernel
theorem dX6_as_48 : decode cX6_as 48 = .ok (.ireturn, 1) := by decide +kernel
theorem dX6_as_49 : decode cX6_as 49 = .ok (.aload_n 0, 1) := by decide +kernel
theorem dX6_as_50 : decode cX6_as 50 = .ok (.getfield 16, 3) := by decide +kernel
theorem dX6_as_53 : decode cX6_as 53 = .ok (.getfield 110, 3) := by decide +kernel
theorem dX6_as_56 : decode cX6_as 56 = .ok (.iload_n 1, 1) := by decide +kernel
theorem dX6_as_57 : decode cX6_as 57 = .ok (.aaload, 1) := by decide +kernel
theorem dX6_as_58 : decode cX6_as 58 = .ok (.getfield 120, 3) := by decide +kernel
theorem dX6_as_61 : decode cX6_as 61 = .ok (.ireturn, 1) := by decide +kernel
theorem dX6_looks_0 : decode cX6_looks 0 = .ok (.aload_n 0, 1) := by decide +kernel
theorem dX6_looks_1 : decode cX6_looks 1 = .ok (.getfield 16, 3) := by decide +kernel
theorem dX6_looks_4 : decode cX6_looks 4 = .ok (.iload_n 1, 1) := by decide +kernel
theorem dX6_looks_5 : decode cX6_looks 5 = .ok (.invokevirtual 107, 3) := by decide +kernel
theorem dX6_looks_8 : decode cX6_looks 8 = .ok (.ifCond .ne 9, 3) := by decide +kernel
theorem dX6_looks_11 : decode cX6_looks 11 = .ok (.aload_n 0, 1) := by decide +kernel
theorem dX6_looks_12 : decode cX6_looks 12 = .ok (.iconst 0, 1) := by decide +kernel
theorem dX6_looks_13 : decode cX6_looks 13 = .ok (.invokevirtual 48, 3) := by decide +kernel
theorem dX6_looks_16 : decode cX6_looks 16 = .ok (.ireturn, 1) := by decide +kernel
theorem dX6_looks_17 : decode cX6_looks 17 = .ok (.aload_n 0, 1) := by decide +kernel
theorem dX6_looks_18 : decode cX6_looks 18 = .ok (.getfield 16, 3) := by decide +kernel
theorem dX6_looks_21 : decode cX6_looks 21 = .ok (.getfield 77, 3) := by decide +kernel
theorem dX6_looks_24 : decode cX6_looks 24 = .ok (.ifCond .ne 9, 3) := by decide +kernel
theorem dX6_looks_27 : decode cX6_looks 27 = .ok (.aload_n 0, 1) := by decide +kernel
theorem dX6_looks_28 : decode cX6_looks 28 = .ok (.iconst 4, 1) := by decide +kernel
theorem dX6_looks_29 : decode cX6_looks 29 = .ok (.invokevirtual 48, 3) := by decide +kernel
theorem dX6_looks_32 : decode cX6_looks 32 = .ok (.ireturn, 1) := by decide +kernel
theorem dX6_looks_33 : decode cX6_looks 33 = .ok (.aload_n 0, 1) := by decide +kernel
theorem dX6_looks_34 : decode cX6_looks 34 = .ok (.getfield 16, 3) := by decide +kernel
theorem dX6_looks_37 : decode cX6_looks 37 = .ok (.getfield 110, 3) := by decide +kernel
theorem dX6_looks_40 : decode cX6_looks 40 = .ok (.iload_n 1, 1) := by decide +kernel
theorem dX6_looks_41 : decode cX6_looks 41 = .ok (.aaload, 1) := by decide +kernel
theorem dX6_looks_42 : decode cX6_looks 42 = .ok (.astore_n 2, 1) := by decide +kernel
theorem dX6_looks_43 : decode cX6_looks 43 = .ok (.aload_n 2, 1) := by decide +kernel
theorem dX6_looks_44 : decode cX6_looks 44 = .ok (.iconst 0, 1) := by decide +kernel
theorem dX6_looks_45 : decode cX6_looks 45 = .ok (.aload_n 0, 1) := by decide +kernel
theorem dX6_looks_46 : decode cX6_looks 46 = .ok (.getfield 16, 3) := by decide +kernel
theorem dX6_looks_49 : decode cX6_looks 49 = .ok (.getfield 77, 3) := by decide +kernel
theorem dX6_looks_52 : decode cX6_looks 52 = .ok (.invokevirtual 139, 3) := by decide +kernel
theorem dX6_looks_55 : decode cX6_looks 55 = .ok (.istore_n 3, 1) := by decide +kernel
theorem dX6_looks_56 : decode cX6_looks 56 = .ok (.aload_n 2, 1) := by decide +kernel
theorem dX6_looks_57 : decode cX6_looks 57 = .ok (.sipush 9999, 3) := by decide +kernel
theorem dX6_looks_60 : decode cX6_looks 60 = .ok (.aload_n 2, 1) := by decide +kernel
theorem dX6_looks_61 : decode cX6_looks 61 = .ok (.getfield 126, 3) := by decide +kernel
theorem dX6_looks_64 : decode cX6_looks 64 = .ok (.iconst 1, 1) := by decide +kernel
theorem dX6_looks_65 : decode cX6_looks 65 = .ok (.iadd, 1) := by decide +kernel
theorem dX6_looks_66 : decode cX6_looks 66 = .ok (.invokestatic 157, 3) := by decide +kernel
theorem dX6_looks_69 : decode cX6_looks 69 = .ok (.putfield 126, 3) := by decide +kernel
theorem dX6_looks_72 : decode cX6_looks 72 = .ok (.iload_n 3, 1) := by decide +kernel
theorem dX6_looks_73 : decode cX6_looks 73 = .ok (.ireturn, 1) := by decide +kernel
theorem dX6_over_0 : decode cX6_over 0 = .ok (.aload_n 0, 1) := by decide +kernel
theorem dX6_over_1 : decode cX6_over 1 = .ok (.getfield 16, 3) := by decide +kernel
theorem dX6_over_4 : decode cX6_over 4 = .ok (.iload_n 1, 1) := by decide +kernel
theorem dX6_over_5 : decode cX6_over 5 = .ok (.invokevirtual 107, 3) := by decide +kernel
theorem dX6_over_8 : decode cX6_over 8 = .ok (.ifCond .ne 9, 3) := by decide +kernel
theorem dX6_over_11 : decode cX6_over 11 = .ok (.aload_n 0, 1) := by decide +kernel
theorem dX6_over_12 : decode cX6_over 12 = .ok (.iconst 0, 1) := by decide +kernel
theorem dX6_over_13 : decode cX6_over 13 = .ok (.invokevirtual 48, 3) := by decide +kernel
theorem dX6_over_16 : decode cX6_over 16 = .ok (.ireturn, 1) := by decide +kernel
theorem dX6_over_17 : decode cX6_over 17 = .ok (.aload_n 0, 1) := by decide +kernel
theorem dX6_over_18 : decode cX6_over 18 = .ok (.getfield 16, 3) := by decide +kernel
theorem dX6_over_21 : decode cX6_over 21 = .ok (.getfield 110, 3) := by decide +kernel
theorem dX6_over_24 : decode cX6_over 24 = .ok (.iload_n 1, 1) := by decide +kernel
theorem dX6_over_25 : decode cX6_over 25 = .ok (.aaload, 1) := by decide +kernel
theorem dX6_over_26 : decode cX6_over 26 = .ok (.astore_n 2, 1) := by decide +kernel
theorem dX6_over_27 : decode cX6_over 27 = .ok (.aload_n 0, 1) := by decide +kernel
theorem dX6_over_28 : decode cX6_over 28 = .ok (.getfield 16, 3) := by decide +kernel
theorem dX6_over_31 : decode cX6_over 31 = .ok (.aload_n 2, 1) := by decide +kernel
theorem dX6_over_32 : decode cX6_over 32 = .ok (.getfield 114, 3) := by decide +kernel
theorem dX6_over_35 : decode cX6_over 35 = .ok (.aload_n 2, 1) := by decide +kernel
theorem dX6_over_36 : decode cX6_over 36 = .ok (.getfield 117, 3) := by decide +kernel
theorem dX6_over_39 : decode cX6_over 39 = .ok (.invokevirtual 100, 3) := by decide +kernel
theorem dX6_over_42 : decode cX6_over 42 = .ok (.ifCond .ne 9, 3) := by decide +kernel
theorem dX6_over_45 : decode cX6_over 45 = .ok (.aload_n 0, 1) := by decide +kernel
theorem dX6_over_46 : decode cX6_over 46 = .ok (.iconst 4, 1) := by decide +kernel
theorem dX6_over_47 : decode cX6_over 47 = .ok (.invokevirtual 48, 3) := by decide +kernel
theorem dX6_over_50 : decode cX6_over 50 = .ok (.ireturn, 1) := by decide +kernel
theorem dX6_over_51 : decode cX6_over 51 = .ok (.aload_n 0, 1) := by decide +kernel
theorem dX6_over_52 : decode cX6_over 52 = .ok (.getfield 16, 3) := by decide +kernel
theorem dX6_over_55 : decode cX6_over 55 = .ok (.aload_n 2, 1) := by decide +kernel
theorem dX6_over_56 : decode cX6_over 56 = .ok (.invokevirtual 162, 3) := by decide +kernel
theorem dX6_over_59 : decode cX6_over 59 = .ok (.aload_n 2, 1) := by decide +kernel
theorem dX6_over_60 : decode cX6_over 60 = .ok (.getfield 120, 3) := by decide +kernel
theorem dX6_over_63 : decode cX6_over 63 = .ok (.ireturn, 1) := by decide +kernel
theorem dX6_nights_0 : decode cX6_nights 0 = .ok (.iload_n 1, 1) := by decide +kernel
theorem dX6_nights_1 : decode cX6_nights 1 = .ok (.iconst 1, 1) := by decide +kernel
theorem dX6_nights_2 : decode cX6_nights 2 = .ok (.bipush 100, 2) := by decide +kernel
theorem dX6_nights_4 : decode cX6_nights 4 = .ok (.invokestatic 44, 3) := by decide +kernel
theorem dX6_nights_7 : decode cX6_nights 7 = .ok (.ifCond .ne 9, 3) := by decide +kernel
theorem dX6_nights_10 : decode cX6_nights 10 = .ok (.aload_n 0, 1) := by decide +kernel
theorem dX6_nights_11 : decode cX6_nights 11 = .ok (.iconst 0, 1) := by decide +kernel
theorem dX6_nights_12 : decode cX6_nights 12 = .ok (.invokevirtual 48, 3) := by decide +kernel
theorem dX6_nights_15 : decode cX6_nights 15 = .ok (.ireturn, 1) := by decide +kernel
theorem dX6_nights_16 : decode cX6_nights 16 = .ok (.aload_n 0, 1) := by decide +kernel
theorem dX6_nights_17 : decode cX6_nights 17 = .ok (.getfield 16, 3) := by decide +kernel
theorem dX6_nights_20 : decode cX6_nights 20 = .ok (.getfield 61, 3) := by decide +kernel
theorem dX6_nights_23 : decode cX6_nights 23 = .ok (.iload_n 1, 1) := by decide +kernel
theorem dX6_nights_24 : decode cX6_nights 24 = .ok (.iadd, 1) := by decide +kernel
theorem dX6_nights_25 : decode cX6_nights 25 = .ok (.sipush 9999, 3) := by decide +kernel
theorem dX6_nights_28 : decode cX6_nights 28 = .ok (.if_icmp .le 9, 3) := by decide +kernel
theorem dX6_nights_31 : decode cX6_nights 31 = .ok (.aload_n 0, 1) := by decide +kernel
theorem dX6_nights_32 : decode cX6_nights 32 = .ok (.iconst 4, 1) := by decide +kernel
theorem dX6_nights_33 : decode cX6_nights 33 = .ok (.invokevirtual 48, 3) := by decide +kernel
theorem dX6_nights_36 : decode cX6_nights 36 = .ok (.ireturn, 1) := by decide +kernel
theorem dX6_nights_37 : decode cX6_nights 37 = .ok (.aload_n 0, 1) := by decide +kernel
theorem dX6_nights_38 : decode cX6_nights 38 = .ok (.getfield 16, 3) := by decide +kernel
theorem dX6_nights_41 : decode cX6_nights 41 = .ok (.iload_n 1, 1) := by decide +kernel
theorem dX6_nights_42 : decode cX6_nights 42 = .ok (.invokevirtual 166, 3) := by decide +kernel
theorem dX6_nights_45 : decode cX6_nights 45 = .ok (.aload_n 0, 1) := by decide +kernel
theorem dX6_nights_46 : decode cX6_nights 46 = .ok (.getfield 16, 3) := by decide +kernel
theorem dX6_nights_49 : decode cX6_nights 49 = .ok (.getfield 74, 3) := by decide +kernel
theorem dX6_nights_52 : decode cX6_nights 52 = .ok (.ireturn, 1) := by decide +kernel
theorem dX6_ink_0 : decode cX6_ink 0 = .ok (.iload_n 1, 1) := by decide +kernel
theorem dX6_ink_1 : decode cX6_ink 1 = .ok (.iconst 0, 1) := by decide +kernel
theorem dX6_ink_2 : decode cX6_ink 2 = .ok (.sipush 200, 3) := by decide +kernel
theorem dX6_ink_5 : decode cX6_ink 5 = .ok (.invokestatic 44, 3) := by decide +kernel
theorem dX6_ink_8 : decode cX6_ink 8 = .ok (.ifCond .ne 9, 3) := by decide +kernel
theorem dX6_ink_11 : decode cX6_ink 11 = .ok (.aload_n 0, 1) := by decide +kernel
theorem dX6_ink_12 : decode cX6_ink 12 = .ok (.iconst 0, 1) := by decide +kernel
theorem dX6_ink_13 : decode cX6_ink 13 = .ok (.invokevirtual 48, 3) := by decide +kernel
theorem dX6_ink_16 : decode cX6_ink 16 = .ok (.ireturn, 1) := by decide +kernel
theorem dX6_ink_17 : decode cX6_ink 17 = .ok (.aload_n 0, 1) := by decide +kernel
theorem dX6_ink_18 : decode cX6_ink 18 = .ok (.getfield 16, 3) := by decide +kernel
theorem dX6_ink_21 : decode cX6_ink 21 = .ok (.iload_n 1, 1) := by decide +kernel
theorem dX6_ink_22 : decode cX6_ink 22 = .ok (.aload_n 0, 1) := by decide +kernel
theorem dX6_ink_23 : decode cX6_ink 23 = .ok (.getfield 16, 3) := by decide +kernel
theorem dX6_ink_26 : decode cX6_ink 26 = .ok (.getfield 68, 3) := by decide +kernel
theorem dX6_ink_29 : decode cX6_ink 29 = .ok (.invokevirtual 170, 3) := by decide +kernel
theorem dX6_ink_32 : decode cX6_ink 32 = .ok (.ireturn, 1) := by decide +kernel
theorem dX6_on_0 : decode cX6_on 0 = .ok (.aload_n 0, 1) := by decide +kernel
theorem dX6_on_1 : decode cX6_on 1 = .ok (.getfield 16, 3) := by decide +kernel
theorem dX6_on_4 : decode cX6_on 4 = .ok (.iload_n 1, 1) := by decide +kernel
theorem dX6_on_5 : decode cX6_on 5 = .ok (.invokevirtual 107, 3) := by decide +kernel
theorem dX6_on_8 : decode cX6_on 8 = .ok (.ifCond .eq 23, 3) := by decide +kernel
theorem dX6_on_11 : decode cX6_on 11 = .ok (.iload_n 2, 1) := by decide +kernel
theorem dX6_on_12 : decode cX6_on 12 = .ok (.iconst 0, 1) := by decide +kernel
theorem dX6_on_13 : decode cX6_on 13 = .ok (.sipush 200, 3) := by decide +kernel
theorem dX6_on_16 : decode cX6_on 16 = .ok (.invokestatic 44, 3) := by decide +kernel
theorem dX6_on_19 : decode cX6_on 19 = .ok (.ifCond .eq 12, 3) := by decide +kernel
theorem dX6_on_22 : decode cX6_on 22 = .ok (.iload_n 3, 1) := by decide +kernel
theorem dX6_on_23 : decode cX6_on 23 = .ok (.iconst 0, 1) := by decide +kernel
theorem dX6_on_24 : decode cX6_on 24 = .ok (.iconst 1, 1) := by decide +kernel
theorem dX6_on_25 : decode cX6_on 25 = .ok (.invokestatic 44, 3) := by decide +kernel
theorem dX6_on_28 : decode cX6_on 28 = .ok (.ifCond .ne 9, 3) := by decide +kernel
theorem dX6_on_31 : decode cX6_on 31 = .ok (.aload_n 0, 1) := by decide +kernel
theorem dX6_on_32 : decode cX6_on 32 = .ok (.iconst 0, 1) := by decide +kernel
theorem dX6_on_33 : decode cX6_on 33 = .ok (.invokevirtual 48, 3) := by decide +kernel
theorem dX6_on_36 : decode cX6_on 36 = .ok (.ireturn, 1) := by decide +kernel
theorem dX6_on_37 : decode cX6_on 37 = .ok (.aload_n 0, 1) := by decide +kernel
theorem dX6_on_38 : decode cX6_on 38 = .ok (.getfield 16, 3) := by decide +kernel
theorem dX6_on_41 : decode cX6_on 41 = .ok (.getfield 110, 3) := by decide +kernel
theorem dX6_on_44 : decode cX6_on 44 = .ok (.iload_n 1, 1) := by decide +kernel
theorem dX6_on_45 : decode cX6_on 45 = .ok (.aaload, 1) := by decide +kernel
theorem dX6_on_46 : decode cX6_on 46 = .ok (.astore 4, 2) := by decide +kernel
theorem dX6_on_48 : decode cX6_on 48 = .ok (.iload_n 3, 1) := by decide +kernel
theorem dX6_on_49 : decode cX6_on 49 = .ok (.ifCond .ne 12, 3) := by decide +kernel
theorem dX6_on_52 : decode cX6_on 52 = .ok (.aload 4, 2) := by decide +kernel
theorem dX6_on_54 : decode cX6_on 54 = .ok (.iload_n 2, 1) := by decide +kernel
theorem dX6_on_55 : decode cX6_on 55 = .ok (.invokevirtual 173, 3) := by decide +kernel
theorem dX6_on_58 : decode cX6_on 58 = .ok (.goto 16, 3) := by decide +kernel
theorem dX6_on_61 : decode cX6_on 61 = .ok (.aload 4, 2) := by decide +kernel
theorem dX6_on_63 : decode cX6_on 63 = .ok (.iload_n 2, 1) := by decide +kernel
theorem dX6_on_64 : decode cX6_on 64 = .ok (.aload_n 0, 1) := by decide +kernel
theorem dX6_on_65 : decode cX6_on 65 = .ok (.getfield 16, 3) := by decide +kernel
theorem dX6_on_68 : decode cX6_on 68 = .ok (.getfield 77, 3) := by decide +kernel
theorem dX6_on_71 : decode cX6_on 71 = .ok (.invokevirtual 139, 3) := by decide +kernel
theorem dX6_on_74 : decode cX6_on 74 = .ok (.ireturn, 1) := by decide +kernel
theorem dX6_all_0 : decode cX6_all 0 = .ok (.iload_n 1, 1) := by decide +kernel
theorem dX6_all_1 : decode cX6_all 1 = .ok (.iconst 0, 1) := by decide +kernel
theorem dX6_all_2 : decode cX6_all 2 = .ok (.sipush 200, 3) := by decide +kernel
theorem dX6_all_5 : decode cX6_all 5 = .ok (.invokestatic 44, 3) := by decide +kernel
theorem dX6_all_8 : decode cX6_all 8 = .ok (.ifCond .ne 9, 3) := by decide +kernel
theorem dX6_all_11 : decode cX6_all 11 = .ok (.aload_n 0, 1) := by decide +kernel
theorem dX6_all_12 : decode cX6_all 12 = .ok (.iconst 0, 1) := by decide +kernel
theorem dX6_all_13 : decode cX6_all 13 = .ok (.invokevirtual 48, 3) := by decide +kernel
theorem dX6_all_16 : decode cX6_all 16 = .ok (.ireturn, 1) := by decide +kernel
theorem dX6_all_17 : decode cX6_all 17 = .ok (.aload_n 0, 1) := by decide +kernel
theorem dX6_all_18 : decode cX6_all 18 = .ok (.getfield 16, 3) := by decide +kernel
theorem dX6_all_21 : decode cX6_all 21 = .ok (.iload_n 1, 1) := by decide +kernel
theorem dX6_all_22 : decode cX6_all 22 = .ok (.aload_n 0, 1) := by decide +kernel
theorem dX6_all_23 : decode cX6_all 23 = .ok (.getfield 16, 3) := by decide +kernel
theorem dX6_all_26 : decode cX6_all 26 = .ok (.getfield 77, 3) := by decide +kernel
theorem dX6_all_29 : decode cX6_all 29 = .ok (.invokevirtual 84, 3) := by decide +kernel
theorem dX6_all_32 : decode cX6_all 32 = .ok (.ireturn, 1) := by decide +kernel
theorem dX6_white_0 : decode cX6_white 0 = .ok (.aload_n 0, 1) := by decide +kernel
theorem dX6_white_1 : decode cX6_white 1 = .ok (.getfield 16, 3) := by decide +kernel
theorem dX6_white_4 : decode cX6_white 4 = .ok (.iload_n 1, 1) := by decide +kernel
theorem dX6_white_5 : decode cX6_white 5 = .ok (.invokevirtual 107, 3) := by decide +kernel
theorem dX6_white_8 : decode cX6_white 8 = .ok (.ifCond .ne 9, 3) := by decide +kernel
theorem dX6_white_11 : decode cX6_white 11 = .ok (.aload_n 0, 1) := by decide +kernel
theorem dX6_white_12 : decode cX6_white 12 = .ok (.iconst 0, 1) := by decide +kernel
theorem dX6_white_13 : decode cX6_white 13 = .ok (.invokevirtual 48, 3) := by decide +kernel
theorem dX6_white_16 : decode cX6_white 16 = .ok (.ireturn, 1) := by decide +kernel
theorem dX6_white_17 : decode cX6_white 17 = .ok (.aload_n 0, 1) := by decide +kernel
theorem dX6_white_18 : decode cX6_white 18 = .ok (.aload_n 0, 1) := by decide +kernel
theorem dX6_white_19 : decode cX6_white 19 = .ok (.getfield 16, 3) := by decide +kernel
theorem dX6_white_22 : decode cX6_white 22 = .ok (.getfield 110, 3) := by decide +kernel
theorem dX6_white_25 : decode cX6_white 25 = .ok (.iload_n 1, 1) := by decide +kernel
theorem dX6_white_26 : decode cX6_white 26 = .ok (.aaload, 1) := by decide +kernel
theorem dX6_white_27 : decode cX6_white 27 = .ok (.sipush 200, 3) := by decide +kernel
theorem dX6_white_30 : decode cX6_white 30 = .ok (.invokevirtual 176, 3) := by decide +kernel
theorem dX6_white_33 : decode cX6_white 33 = .ok (.invokevirtual 179, 3) := by decide +kernel
theorem dX6_white_36 : decode cX6_white 36 = .ok (.ireturn, 1) := by decide +kernel
theorem dX6_comes_0 : decode cX6_comes 0 = .ok (.iload_n 1, 1) := by decide +kernel
theorem dX6_comes_1 : decode cX6_comes 1 = .ok (.iconst 0, 1) := by decide +kernel
theorem dX6_comes_2 : decode cX6_comes 2 = .ok (.sipush 999, 3) := by decide +kernel
theorem dX6_comes_5 : decode cX6_comes 5 = .ok (.invokestatic 44, 3) := by decide +kernel
theorem dX6_comes_8 : decode cX6_comes 8 = .ok (.ifCond .ne 9, 3) := by decide +kernel
theorem dX6_comes_11 : decode cX6_comes 11 = .ok (.aload_n 0, 1) := by decide +kernel
theorem dX6_comes_12 : decode cX6_comes 12 = .ok (.iconst 0, 1) := by decide +kernel
theorem dX6_comes_13 : decode cX6_comes 13 = .ok (.invokevirtual 48, 3) := by decide +kernel
theorem dX6_comes_16 : decode cX6_comes 16 = .ok (.ireturn, 1) := by decide +kernel
theorem dX6_comes_17 : decode cX6_comes 17 = .ok (.aload_n 0, 1) := by decide +kernel
theorem dX6_comes_18 : decode cX6_comes 18 = .ok (.aload_n 0, 1) := by decide +kernel
theorem dX6_comes_19 : decode cX6_comes 19 = .ok (.getfield 16, 3) := by decide +kernel
theorem dX6_comes_22 : decode cX6_comes 22 = .ok (.iload_n 1, 1) := by decide +kernel
theorem dX6_comes_23 : decode cX6_comes 23 = .ok (.sipush 200, 3) := by decide +kernel
theorem dX6_comes_26 : decode cX6_comes 26 = .ok (.invokevirtual 182, 3) := by decide +kernel
theorem dX6_comes_29 : decode cX6_comes 29 = .ok (.invokevirtual 179, 3) := by decide +kernel
theorem dX6_comes_32 : decode cX6_comes 32 = .ok (.ireturn, 1) := by decide +kernel
theorem dX6_when_0 : decode cX6_when 0 = .ok (.iload_n 1, 1) := by decide +kernel
theorem dX6_when_1 : decode cX6_when 1 = .ok (.invokestatic 88, 3) := by decide +kernel
theorem dX6_when_4 : decode cX6_when 4 = .ok (.ifCond .eq 13, 3) := by decide +kernel
theorem dX6_when_7 : decode cX6_when 7 = .ok (.iload_n 2, 1) := by decide +kernel
theorem dX6_when_8 : decode cX6_when 8 = .ok (.iconst 1, 1) := by decide +kernel
theorem dX6_when_9 : decode cX6_when 9 = .ok (.bipush 99, 2) := by decide +kernel
theorem dX6_when_11 : decode cX6_when 11 = .ok (.invokestatic 44, 3) := by decide +kernel
theorem dX6_when_14 : decode cX6_when 14 = .ok (.ifCond .ne 9, 3) := by decide +kernel
theorem dX6_when_17 : decode cX6_when 17 = .ok (.aload_n 0, 1) := by decide +kernel
theorem dX6_when_18 : decode cX6_when 18 = .ok (.iconst 0, 1) := by decide +kernel
theorem dX6_when_19 : decode cX6_when 19 = .ok (.invokevirtual 48, 3) := by decide +kernel
theorem dX6_when_22 : decode cX6_when 22 = .ok (.ireturn, 1) := by decide +kernel
theorem dX6_when_23 : decode cX6_when 23 = .ok (.aload_n 0, 1) := by decide +kernel
theorem dX6_when_24 : decode cX6_when 24 = .ok (.aload_n 0, 1) := by decide +kernel
theorem dX6_when_25 : decode cX6_when 25 = .ok (.getfield 16, 3) := by decide +kernel
theorem dX6_when_28 : decode cX6_when 28 = .ok (.iload_n 1, 1) := by decide +kernel
theorem dX6_when_29 : decode cX6_when 29 = .ok (.iload_n 2, 1) := by decide +kernel
theorem dX6_when_30 : decode cX6_when 30 = .ok (.invokevirtual 185, 3) := by decide +kernel
theorem dX6_when_33 : decode cX6_when 33 = .ok (.invokevirtual 179, 3) := by decide +kernel
theorem dX6_when_36 : decode cX6_when 36 = .ok (.ireturn, 1) := by decide +kernel
theorem dX6_shade_0 : decode cX6_shade 0 = .ok (.iload_n 1, 1) := by decide +kernel
theorem dX6_shade_1 : decode cX6_shade 1 = .ok (.iconst 1, 1) := by decide +kernel
theorem dX6_shade_2 : decode cX6_shade 2 = .ok (.bipush 60, 2) := by decide +kernel
theorem dX6_shade_4 : decode cX6_shade 4 = .ok (.invokestatic 44, 3) := by decide +kernel
theorem dX6_shade_7 : decode cX6_shade 7 = .ok (.ifCond .ne 9, 3) := by decide +kernel
theorem dX6_shade_10 : decode cX6_shade 10 = .ok (.aload_n 0, 1) := by decide +kernel
theorem dX6_shade_11 : decode cX6_shade 11 = .ok (.iconst 0, 1) := by decide +kernel
theorem dX6_shade_12 : decode cX6_shade 12 = .ok (.invokevirtual 48, 3) := by decide +kernel
theorem dX6_shade_15 : decode cX6_shade 15 = .ok (.ireturn, 1) := by decide +kernel
theorem dX6_shade_16 : decode cX6_shade 16 = .ok (.aload_n 0, 1) := by decide +kernel
theorem dX6_shade_17 : decode cX6_shade 17 = .ok (.aload_n 0, 1) := by decide +kernel
theorem dX6_shade_18 : decode cX6_shade 18 = .ok (.getfield 16, 3) := by decide +kernel
theorem dX6_shade_21 : decode cX6_shade 21 = .ok (.iload_n 1, 1) := by decide +kernel
theorem dX6_shade_22 : decode cX6_shade 22 = .ok (.invokevirtual 188, 3) := by decide +kernel
theorem dX6_shade_25 : decode cX6_shade 25 = .ok (.invokevirtual 179, 3) := by decide +kernel
theorem dX6_shade_28 : decode cX6_shade 28 = .ok (.ireturn, 1) := by decide +kernel
theorem dX6_enough_0 : decode cX6_enough 0 = .ok (.iload_n 1, 1) := by decide +kernel
theorem dX6_enough_1 : decode cX6_enough 1 = .ok (.iconst 1, 1) := by decide +kernel
theorem dX6_enough_2 : decode cX6_enough 2 = .ok (.bipush 60, 2) := by decide +kernel
theorem dX6_enough_4 : decode cX6_enough 4 = .ok (.invokestatic 44, 3) := by decide +kernel
theorem dX6_enough_7 : decode cX6_enough 7 = .ok (.ifCond .eq 14, 3) := by decide +kernel
theorem dX6_enough_10 : decode cX6_enough 10 = .ok (.iload_n 2, 1) := by decide +kernel
theorem dX6_enough_11 : decode cX6_enough 11 = .ok (.iconst 0, 1) := by decide +kernel
theorem dX6_enough_12 : decode cX6_enough 12 = .ok (.sipush 999, 3) := by decide +kernel
theorem dX6_enough_15 : decode cX6_enough 15 = .ok (.invokestatic 44, 3) := by decide +kernel
theorem dX6_enough_18 : decode cX6_enough 18 = .ok (.ifCond .ne 9, 3) := by decide +kernel
theorem dX6_enough_21 : decode cX6_enough 21 = .ok (.aload_n 0, 1) := by decide +kernel
theorem dX6_enough_22 : decode cX6_enough 22 = .ok (.iconst 0, 1) := by decide +kernel
theorem dX6_enough_23 : decode cX6_enough 23 = .ok (.invokevirtual 48, 3) := by decide +kernel
theorem dX6_enough_26 : decode cX6_enough 26 = .ok (.ireturn, 1) := by decide +kernel
theorem dX6_enough_27 : decode cX6_enough 27 = .ok (.aload_n 0, 1) := by decide +kernel
theorem dX6_enough_28 : decode cX6_enough 28 = .ok (.aload_n 0, 1) := by decide +kernel
theorem dX6_enough_29 : decode cX6_enough 29 = .ok (.getfield 16, 3) := by decide +kernel
theorem dX6_enough_32 : decode cX6_enough 32 = .ok (.iload_n 1, 1) := by decide +kernel
theorem dX6_enough_33 : decode cX6_enough 33 = .ok (.iload_n 2, 1) := by decide +kernel
theorem dX6_enough_34 : decode cX6_enough 34 = .ok (.invokevirtual 191, 3) := by decide +kernel
theorem dX6_enough_37 : decode cX6_enough 37 = .ok (.invokevirtual 179, 3) := by decide +kernel
theorem dX6_enough_40 : decode cX6_enough 40 = .ok (.ireturn, 1) := by decide +kernel
theorem dX6_kind_0 : decode cX6_kind 0 = .ok (.aload_n 0, 1) := by decide +kernel
theorem dX6_kind_1 : decode cX6_kind 1 = .ok (.getfield 16, 3) := by decide +kernel
theorem dX6_kind_4 : decode cX6_kind 4 = .ok (.iload_n 1, 1) := by decide +kernel
theorem dX6_kind_5 : decode cX6_kind 5 = .ok (.invokevirtual 107, 3) := by decide +kernel
theorem dX6_kind_8 : decode cX6_kind 8 = .ok (.ifCond .eq 13, 3) := by decide +kernel
theorem dX6_kind_11 : decode cX6_kind 11 = .ok (.iload_n 2, 1) := by decide +kernel
theorem dX6_kind_12 : decode cX6_kind 12 = .ok (.iconst 0, 1) := by decide +kernel
theorem dX6_kind_13 : decode cX6_kind 13 = .ok (.bipush 60, 2) := by decide +kernel
theorem dX6_kind_15 : decode cX6_kind 15 = .ok (.invokestatic 44, 3) := by decide +kernel
theorem dX6_kind_18 : decode cX6_kind 18 = .ok (.ifCond .ne 9, 3) := by decide +kernel
theorem dX6_kind_21 : decode cX6_kind 21 = .ok (.aload_n 0, 1) := by decide +kernel
theorem dX6_kind_22 : decode cX6_kind 22 = .ok (.iconst 0, 1) := by decide +kernel
theorem dX6_kind_23 : decode cX6_kind 23 = .ok (.invokevirtual 48, 3) := by decide +kernel
theorem dX6_kind_26 : decode cX6_kind 26 = .ok (.ireturn, 1) := by decide +kernel
theorem dX6_kind_27 : decode cX6_kind 27 = .ok (.aload_n 0, 1) := by decide +kernel
theorem dX6_kind_28 : decode cX6_kind 28 = .ok (.getfield 16, 3) := by decide +kernel
theorem dX6_kind_31 : decode cX6_kind 31 = .ok (.getfield 110, 3) := by decide +kernel
theorem dX6_kind_34 : decode cX6_kind 34 = .ok (.iload_n 1, 1) := by decide +kernel
theorem dX6_kind_35 : decode cX6_kind 35 = .ok (.aaload, 1) := by decide +kernel
theorem dX6_kind_36 : decode cX6_kind 36 = .ok (.iload_n 2, 1) := by decide +kernel
theorem dX6_kind_37 : decode cX6_kind 37 = .ok (.aload_n 0, 1) := by decide +kernel
theorem dX6_kind_38 : decode cX6_kind 38 = .ok (.getfield 16, 3) := by decide +kernel
theorem dX6_kind_41 : decode cX6_kind 41 = .ok (.getfield 77, 3) := by decide +kernel
theorem dX6_kind_44 : decode cX6_kind 44 = .ok (.invokevirtual 194, 3) := by decide +kernel
theorem dX6_kind_47 : decode cX6_kind 47 = .ok (.ireturn, 1) := by decide +kernel
theorem dX6_lamp_0 : decode cX6_lamp 0 = .ok (.iload_n 1, 1) := by decide +kernel
theorem dX6_lamp_1 : decode cX6_lamp 1 = .ok (.iconst 0, 1) := by decide +kernel
theorem dX6_lamp_2 : decode cX6_lamp 2 = .ok (.bipush 60, 2) := by decide +kernel
theorem dX6_lamp_4 : decode cX6_lamp 4 = .ok (.invokestatic 44, 3) := by decide +kernel
theorem dX6_lamp_7 : decode cX6_lamp 7 = .ok (.ifCond .eq 14, 3) := by decide +kernel
theorem dX6_lamp_10 : decode cX6_lamp 10 = .ok (.iload_n 2, 1) := by decide +kernel
theorem dX6_lamp_11 : decode cX6_lamp 11 = .ok (.iconst 0, 1) := by decide +kernel
theorem dX6_lamp_12 : decode cX6_lamp 12 = .ok (.sipush 9999, 3) := by decide +kernel
theorem dX6_lamp_15 : decode cX6_lamp 15 = .ok (.invokestatic 44, 3) := by decide +kernel
theorem dX6_lamp_18 : decode cX6_lamp 18 = .ok (.ifCond .ne 9, 3) := by decide +kernel
theorem dX6_lamp_21 : decode cX6_lamp 21 = .ok (.aload_n 0, 1) := by decide +kernel
theorem dX6_lamp_22 : decode cX6_lamp 22 = .ok (.iconst 0, 1) := by decide +kernel
theorem dX6_lamp_23 : decode cX6_lamp 23 = .ok (.invokevirtual 48, 3) := by decide +kernel
theorem dX6_lamp_26 : decode cX6_lamp 26 = .ok (.ireturn, 1) := by decide +kernel
theorem dX6_lamp_27 : decode cX6_lamp 27 = .ok (.aload_n 0, 1) := by decide +kernel
theorem dX6_lamp_28 : decode cX6_lamp 28 = .ok (.aload_n 0, 1) := by decide +kernel
theorem dX6_lamp_29 : decode cX6_lamp 29 = .ok (.getfield 16, 3) := by decide +kernel
theorem dX6_lamp_32 : decode cX6_lamp 32 = .ok (.iload_n 1, 1) := by decide +kernel
theorem dX6_lamp_33 : decode cX6_lamp 33 = .ok (.iload_n 2, 1) := by decide +kernel
theorem dX6_lamp_34 : decode cX6_lamp 34 = .ok (.invokevirtual 197, 3) := by decide +kernel
theorem dX6_lamp_37 : decode cX6_lamp 37 = .ok (.invokevirtual 179, 3) := by decide +kernel
theorem dX6_lamp_40 : decode cX6_lamp 40 = .ok (.ireturn, 1) := by decide +kernel
theorem dX6_longest_0 : decode cX6_longest 0 = .ok (.iload_n 1, 1) := by decide +kernel
theorem dX6_longest_1 : decode cX6_longest 1 = .ok (.invokestatic 88, 3) := by decide +kernel
theorem dX6_longest_4 : decode cX6_longest 4 = .ok (.ifCond .ne 9, 3) := by decide +kernel
theorem dX6_longest_7 : decode cX6_longest 7 = .ok (.aload_n 0, 1) := by decide +kernel
theorem dX6_longest_8 : decode cX6_longest 8 = .ok (.iconst 0, 1) := by decide +kernel
theorem dX6_longest_9 : decode cX6_longest 9 = .ok (.invokevirtual 48, 3) := by decide +kernel
theorem dX6_longest_12 : decode cX6_longest 12 = .ok (.ireturn, 1) := by decide +kernel
theorem dX6_longest_13 : decode cX6_longest 13 = .ok (.aload_n 0, 1) := by decide +kernel
theorem dX6_longest_14 : decode cX6_longest 14 = .ok (.getfield 16, 3) := by decide +kernel
theorem dX6_longest_17 : decode cX6_longest 17 = .ok (.invokevirtual 96, 3) := by decide +kernel
theorem dX6_longest_20 : decode cX6_longest 20 = .ok (.ifCond .eq 9, 3) := by decide +kernel
theorem dX6_longest_23 : decode cX6_longest 23 = .ok (.aload_n 0, 1) := by decide +kernel
theorem dX6_longest_24 : decode cX6_longest 24 = .ok (.iconst 1, 1) := by decide +kernel
theorem dX6_longest_25 : decode cX6_longest 25 = .ok (.invokevirtual 48, 3) := by decide +kernel
theorem dX6_longest_28 : decode cX6_longest 28 = .ok (.ireturn, 1) := by decide +kernel
theorem dX6_longest_29 : decode cX6_longest 29 = .ok (.aload_n 0, 1) := by decide +kernel
theorem dX6_longest_30 : decode cX6_longest 30 = .ok (.aload_n 0, 1) := by decide +kernel
theorem dX6_longest_31 : decode cX6_longest 31 = .ok (.getfield 16, 3) := by decide +kernel
theorem dX6_longest_34 : decode cX6_longest 34 = .ok (.iload_n 1, 1) := by decide +kernel
theorem dX6_longest_35 : decode cX6_longest 35 = .ok (.invokevirtual 200, 3) := by decide +kernel
theorem dX6_longest_38 : decode cX6_longest 38 = .ok (.invokevirtual 179, 3) := by decide +kernel
theorem dX6_longest_41 : decode cX6_longest 41 = .ok (.ireturn, 1) := by decide +kernel
theorem dX6_sunny_0 : decode cX6_sunny 0 = .ok (.iload_n 1, 1) := by decide +kernel
theorem dX6_sunny_1 : decode cX6_sunny 1 = .ok (.iconst 1, 1) := by decide +kernel
theorem dX6_sunny_2 : decode cX6_sunny 2 = .ok (.bipush 20, 2) := by decide +kernel
theorem dX6_sunny_4 : decode cX6_sunny 4 = .ok (.invokestatic 44, 3) := by decide +kernel
theorem dX6_sunny_7 : decode cX6_sunny 7 = .ok (.ifCond .eq 14, 3) := by decide +kernel
theorem dX6_sunny_10 : decode cX6_sunny 10 = .ok (.iload_n 2, 1) := by decide +kernel
theorem dX6_sunny_11 : decode cX6_sunny 11 = .ok (.iconst 0, 1) := by decide +kernel
theorem dX6_sunny_12 : decode cX6_sunny 12 = .ok (.sipush 9999, 3) := by decide +kernel
theorem dX6_sunny_15 : decode cX6_sunny 15 = .ok (.invokestatic 44, 3) := by decide +kernel
theorem dX6_sunny_18 : decode cX6_sunny 18 = .ok (.ifCond .ne 9, 3) := by decide +kernel
theorem dX6_sunny_21 : decode cX6_sunny 21 = .ok (.aload_n 0, 1) := by decide +kernel
theorem dX6_sunny_22 : decode cX6_sunny 22 = .ok (.iconst 0, 1) := by decide +kernel
theorem dX6_sunny_23 : decode cX6_sunny 23 = .ok (.invokevirtual 48, 3) := by decide +kernel
theorem dX6_sunny_26 : decode cX6_sunny 26 = .ok (.ireturn, 1) := by decide +kernel
theorem dX6_sunny_27 : decode cX6_sunny 27 = .ok (.aload_n 0, 1) := by decide +kernel
theorem dX6_sunny_28 : decode cX6_sunny 28 = .ok (.aload_n 0, 1) := by decide +kernel
theorem dX6_sunny_29 : decode cX6_sunny 29 = .ok (.getfield 16, 3) := by decide +kernel
theorem dX6_sunny_32 : decode cX6_sunny 32 = .ok (.iload_n 1, 1) := by decide +kernel
theorem dX6_sunny_33 : decode cX6_sunny 33 = .ok (.iload_n 2, 1) := by decide +kernel
theorem dX6_sunny_34 : decode cX6_sunny 34 = .ok (.invokevirtual 203, 3) := by decide +kernel
theorem dX6_sunny_37 : decode cX6_sunny 37 = .ok (.invokevirtual 179, 3) := by decide +kernel
theorem dX6_sunny_40 : decode cX6_sunny 40 = .ok (.ireturn, 1) := by decide +kernel
theorem dX6_feed_0 : decode cX6_feed 0 = .ok (.iload_n 2, 1) := by decide +kernel
theorem dX6_feed_1 : decode cX6_feed 1 = .ok (.iconst 1, 1) := by decide +kernel
theorem dX6_feed_2 : decode cX6_feed 2 = .ok (.iconst 4, 1) := by decide +kernel
theorem dX6_feed_3 : decode cX6_feed 3 = .ok (.invokestatic 44, 3) := by decide +kernel
theorem dX6_feed_6 : decode cX6_feed 6 = .ok (.ifCond .ne 9, 3) := by decide +kernel
theorem dX6_feed_9 : decode cX6_feed 9 = .ok (.aload_n 0, 1) := by decide +kernel
theorem dX6_feed_10 : decode cX6_feed 10 = .ok (.iconst 0, 1) := by decide +kernel
theorem dX6_feed_11 : decode cX6_feed 11 = .ok (.invokevirtual 48, 3) := by decide +kernel
theorem dX6_feed_14 : decode cX6_feed 14 = .ok (.ireturn, 1) := by decide +kernel
theorem dX6_feed_15 : decode cX6_feed 15 = .ok (.aload_n 0, 1) := by decide +kernel
theorem dX6_feed_16 : decode cX6_feed 16 = .ok (.getfield 29, 3) := by decide +kernel
theorem dX6_feed_19 : decode cX6_feed 19 = .ok (.getfield 206, 3) := by decide +kernel
theorem dX6_feed_22 : decode cX6_feed 22 = .ok (.iload_n 2, 1) := by decide +kernel
theorem dX6_feed_23 : decode cX6_feed 23 = .ok (.iadd, 1) := by decide +kernel
theorem dX6_feed_24 : decode cX6_feed 24 = .ok (.bipush 120, 2) := by decide +kernel
theorem dX6_feed_26 : decode cX6_feed 26 = .ok (.if_icmp .le 9, 3) := by decide +kernel
theorem dX6_feed_29 : decode cX6_feed 29 = .ok (.aload_n 0, 1) := by decide +kernel
theorem dX6_feed_30 : decode cX6_feed 30 = .ok (.iconst 1, 1) := by decide +kernel
theorem dX6_feed_31 : decode cX6_feed 31 = .ok (.invokevirtual 48, 3) := by decide +kernel
theorem dX6_feed_34 : decode cX6_feed 34 = .ok (.ireturn, 1) := by decide +kernel
theorem dX6_feed_35 : decode cX6_feed 35 = .ok (.iload_n 2, 1) := by decide +kernel
theorem dX6_feed_36 : decode cX6_feed 36 = .ok (.iconst 1, 1) := by decide +kernel
theorem dX6_feed_37 : decode cX6_feed 37 = .ok (.isub, 1) := by decide +kernel
theorem dX6_feed_38 : decode cX6_feed 38 = .ok (.istore_n 3, 1) := by decide +kernel
theorem dX6_feed_39 : decode cX6_feed 39 = .ok (.iload_n 3, 1) := by decide +kernel
theorem dX6_feed_40 : decode cX6_feed 40 = .ok (.ifCond .lt 26, 3) := by decide +kernel
theorem dX6_feed_43 : decode cX6_feed 43 = .ok (.aload_n 0, 1) := by decide +kernel
theorem dX6_feed_44 : decode cX6_feed 44 = .ok (.getfield 29, 3) := by decide +kernel
theorem dX6_feed_47 : decode cX6_feed 47 = .ok (.iload_n 1, 1) := by decide +kernel
theorem dX6_feed_48 : decode cX6_feed 48 = .ok (.bipush 8, 2) := by decide +kernel
theorem dX6_feed_50 : decode cX6_feed 50 = .ok (.iload_n 3, 1) := by decide +kernel
theorem dX6_feed_51 : decode cX6_feed 51 = .ok (.imul, 1) := by decide +kernel
theorem dX6_feed_52 : decode cX6_feed 52 = .ok (.ishr, 1) := by decide +kernel
theorem dX6_feed_53 : decode cX6_feed 53 = .ok (.sipush 255, 3) := by decide +kernel
theorem dX6_feed_56 : decode cX6_feed 56 = .ok (.iand, 1) := by decide +kernel
theorem dX6_feed_57 : decode cX6_feed 57 = .ok (.invokevirtual 209, 3) := by decide +kernel
theorem dX6_feed_60 : decode cX6_feed 60 = .ok (.iinc 3 (-1), 3) := by decide +kernel
theorem dX6_feed_63 : decode cX6_feed 63 = .ok (.goto (-24), 3) := by decide +kernel
theorem dX6_feed_66 : decode cX6_feed 66 = .ok (.aload_n 0, 1) := by decide +kernel
theorem dX6_feed_67 : decode cX6_feed 67 = .ok (.getfield 29, 3) := by decide +kernel
theorem dX6_feed_70 : decode cX6_feed 70 = .ok (.getfield 206, 3) := by decide +kernel
theorem dX6_feed_73 : decode cX6_feed 73 = .ok (.ireturn, 1) := by decide +kernel
theorem dX6_wipe_0 : decode cX6_wipe 0 = .ok (.aload_n 0, 1) := by decide +kernel
theorem dX6_wipe_1 : decode cX6_wipe 1 = .ok (.getfield 29, 3) := by decide +kernel
theorem dX6_wipe_4 : decode cX6_wipe 4 = .ok (.getfield 206, 3) := by decide +kernel
theorem dX6_wipe_7 : decode cX6_wipe 7 = .ok (.istore_n 1, 1) := by decide +kernel
theorem dX6_wipe_8 : decode cX6_wipe 8 = .ok (.aload_n 0, 1) := by decide +kernel
theorem dX6_wipe_9 : decode cX6_wipe 9 = .ok (.getfield 29, 3) := by decide +kernel
theorem dX6_wipe_12 : decode cX6_wipe 12 = .ok (.iconst 0, 1) := by decide +kernel
theorem dX6_wipe_13 : decode cX6_wipe 13 = .ok (.putfield 206, 3) := by decide +kernel
theorem dX6_wipe_16 : decode cX6_wipe 16 = .ok (.iload_n 1, 1) := by decide +kernel
theorem dX6_wipe_17 : decode cX6_wipe 17 = .ok (.ireturn, 1) := by decide +kernel
theorem dX6_text_0 : decode cX6_text 0 = .ok (.aload_n 0, 1) := by decide +kernel
theorem dX6_text_1 : decode cX6_text 1 = .ok (.getfield 23, 3) := by decide +kernel
theorem dX6_text_4 : decode cX6_text 4 = .ok (.aload_n 0, 1) := by decide +kernel
theorem dX6_text_5 : decode cX6_text 5 = .ok (.getfield 16, 3) := by decide +kernel
theorem dX6_text_8 : decode cX6_text 8 = .ok (.invokevirtual 212, 3) := by decide +kernel
theorem dX6_text_11 : decode cX6_text 11 = .ok (.aload_n 0, 1) := by decide +kernel
theorem dX6_text_12 : decode cX6_text 12 = .ok (.getfield 29, 3) := by decide +kernel
theorem dX6_text_15 : decode cX6_text 15 = .ok (.aload_n 0, 1) := by decide +kernel
theorem dX6_text_16 : decode cX6_text 16 = .ok (.getfield 23, 3) := by decide +kernel
theorem dX6_text_19 : decode cX6_text 19 = .ok (.invokestatic 216, 3) := by decide +kernel
theorem dX6_text_22 : decode cX6_text 22 = .ok (.istore_n 1, 1) := by decide +kernel
theorem dX6_text_23 : decode cX6_text 23 = .ok (.iload_n 1, 1) := by decide +kernel
theorem dX6_text_24 : decode cX6_text 24 = .ok (.ifCond .lt 14, 3) := by decide +kernel
theorem dX6_text_27 : decode cX6_text 27 = .ok (.aload_n 0, 1) := by decide +kernel
theorem dX6_text_28 : decode cX6_text 28 = .ok (.getfield 16, 3) := by decide +kernel
theorem dX6_text_31 : decode cX6_text 31 = .ok (.aload_n 0, 1) := by decide +kernel
theorem dX6_text_32 : decode cX6_text 32 = .ok (.getfield 23, 3) := by decide +kernel
theorem dX6_text_35 : decode cX6_text 35 = .ok (.invokevirtual 212, 3) := by decide +kernel
theorem dX6_text_38 : decode cX6_text 38 = .ok (.aload_n 0, 1) := by decide +kernel
theorem dX6_text_39 : decode cX6_text 39 = .ok (.getfield 29, 3) := by decide +kernel
theorem dX6_text_42 : decode cX6_text 42 = .ok (.iconst 0, 1) := by decide +kernel
theorem dX6_text_43 : decode cX6_text 43 = .ok (.putfield 206, 3) := by decide +kernel
theorem dX6_text_46 : decode cX6_text 46 = .ok (.iload_n 1, 1) := by decide +kernel
theorem dX6_text_47 : decode cX6_text 47 = .ok (.ireturn, 1) := by decide +kernel
theorem dX6_sheet_0 : decode cX6_sheet 0 = .ok (.iload_n 1, 1) := by decide +kernel
theorem dX6_sheet_1 : decode cX6_sheet 1 = .ok (.invokestatic 222, 3) := by decide +kernel
theorem dX6_sheet_4 : decode cX6_sheet 4 = .ok (.ifCond .eq 10, 3) := by decide +kernel
theorem dX6_sheet_7 : decode cX6_sheet 7 = .ok (.iload_n 2, 1) := by decide +kernel
theorem dX6_sheet_8 : decode cX6_sheet 8 = .ok (.invokestatic 225, 3) := by decide +kernel
theorem dX6_sheet_11 : decode cX6_sheet 11 = .ok (.ifCond .ne 9, 3) := by decide +kernel
theorem dX6_sheet_14 : decode cX6_sheet 14 = .ok (.aload_n 0, 1) := by decide +kernel
theorem dX6_sheet_15 : decode cX6_sheet 15 = .ok (.iconst 0, 1) := by decide +kernel
theorem dX6_sheet_16 : decode cX6_sheet 16 = .ok (.invokevirtual 48, 3) := by decide +kernel
theorem dX6_sheet_19 : decode cX6_sheet 19 = .ok (.ireturn, 1) := by decide +kernel
theorem dX6_sheet_20 : decode cX6_sheet 20 = .ok (.iload_n 3, 1) := by decide +kernel
theorem dX6_sheet_21 : decode cX6_sheet 21 = .ok (.ifCond .ge 10, 3) := by decide +kernel
theorem dX6_sheet_24 : decode cX6_sheet 24 = .ok (.aload_n 0, 1) := by decide +kernel
theorem dX6_sheet_25 : decode cX6_sheet 25 = .ok (.bipush 6, 2) := by decide +kernel
theorem dX6_sheet_27 : decode cX6_sheet 27 = .ok (.invokevirtual 48, 3) := by decide +kernel
theorem dX6_sheet_30 : decode cX6_sheet 30 = .ok (.ireturn, 1) := by decide +kernel
theorem dX6_sheet_31 : decode cX6_sheet 31 = .ok (.iload_n 3, 1) := by decide +kernel
theorem dX6_sheet_32 : decode cX6_sheet 32 = .ok (.bipush 40, 2) := by decide +kernel
theorem dX6_sheet_34 : decode cX6_sheet 34 = .ok (.if_icmp .le 9, 3) := by decide +kernel
theorem dX6_sheet_37 : decode cX6_sheet 37 = .ok (.aload_n 0, 1) := by decide +kernel
theorem dX6_sheet_38 : decode cX6_sheet 38 = .ok (.iconst 0, 1) := by decide +kernel
theorem dX6_sheet_39 : decode cX6_sheet 39 = .ok (.invokevirtual 48, 3) := by decide +kernel
theorem dX6_sheet_42 : decode cX6_sheet 42 = .ok (.ireturn, 1) := by decide +kernel
theorem dX6_sheet_43 : decode cX6_sheet 43 = .ok (.aload_n 0, 1) := by decide +kernel
theorem dX6_sheet_44 : decode cX6_sheet 44 = .ok (.getfield 35, 3) := by decide +kernel
theorem dX6_sheet_47 : decode cX6_sheet 47 = .ok (.iload_n 1, 1) := by decide +kernel
theorem dX6_sheet_48 : decode cX6_sheet 48 = .ok (.aaload, 1) := by decide +kernel
theorem dX6_sheet_49 : decode cX6_sheet 49 = .ok (.iload_n 2, 1) := by decide +kernel
theorem dX6_sheet_50 : decode cX6_sheet 50 = .ok (.iload_n 3, 1) := by decide +kernel
theorem dX6_sheet_51 : decode cX6_sheet 51 = .ok (.invokevirtual 228, 3) := by decide +kernel
theorem dX6_sheet_54 : decode cX6_sheet 54 = .ok (.aload_n 0, 1) := by decide +kernel
theorem dX6_sheet_55 : decode cX6_sheet 55 = .ok (.getfield 35, 3) := by decide +kernel
theorem dX6_sheet_58 : decode cX6_sheet 58 = .ok (.iload_n 1, 1) := by decide +kernel
theorem dX6_sheet_59 : decode cX6_sheet 59 = .ok (.aaload, 1) := by decide +kernel
theorem dX6_sheet_60 : decode cX6_sheet 60 = .ok (.getfield 231, 3) := by decide +kernel
theorem dX6_sheet_63 : decode cX6_sheet 63 = .ok (.ireturn, 1) := by decide +kernel
theorem dX6_write_0 : decode cX6_write 0 = .ok (.iload_n 1, 1) := by decide +kernel
theorem dX6_write_1 : decode cX6_write 1 = .ok (.invokestatic 222, 3) := by decide +kernel
theorem dX6_write_4 : decode cX6_write 4 = .ok (.ifCond .ne 10, 3) := by decide +kernel
theorem dX6_write_7 : decode cX6_write 7 = .ok (.aload_n 0, 1) := by decide +kernel
theorem dX6_write_8 : decode cX6_write 8 = .ok (.iconst 0, 1) := by decide +kernel
theorem dX6_write_9 : decode cX6_write 9 = .ok (.invokevirtual 48, 3) := by decide +kernel
theorem dX6_write_12 : decode cX6_write 12 = .ok (.i2l, 1) := by decide +kernel
theorem dX6_write_13 : decode cX6_write 13 = .ok (.lreturn, 1) := by decide +kernel
theorem dX6_write_14 : decode cX6_write 14 = .ok (.aload_n 0, 1) := by decide +kernel
theorem dX6_write_15 : decode cX6_write 15 = .ok (.getfield 35, 3) := by decide +kernel
theorem dX6_write_18 : decode cX6_write 18 = .ok (.iload_n 1, 1) := by decide +kernel
theorem dX6_write_19 : decode cX6_write 19 = .ok (.aaload, 1) := by decide +kernel
theorem dX6_write_20 : decode cX6_write 20 = .ok (.invokevirtual 232, 3) := by decide +kernel
theorem dX6_write_23 : decode cX6_write 23 = .ok (.ifCond .eq 10, 3) := by decide +kernel
theorem dX6_write_26 : decode cX6_write 26 = .ok (.aload_n 0, 1) := by decide +kernel
theorem dX6_write_27 : decode cX6_write 27 = .ok (.iconst 5, 1) := by decide +kernel
theorem dX6_write_28 : decode cX6_write 28 = .ok (.invokevirtual 48, 3) := by decide +kernel
theorem dX6_write_31 : decode cX6_write 31 = .ok (.i2l, 1) := by decide +kernel
theorem dX6_write_32 : decode cX6_write 32 = .ok (.lreturn, 1) := by decide +kernel
theorem dX6_write_33 : decode cX6_write 33 = .ok (.iload_n 2, 1) := by decide +kernel
theorem dX6_write_34 : decode cX6_write 34 = .ok (.iconst 0, 1) := by decide +kernel
theorem dX6_write_35 : decode cX6_write 35 = .ok (.aload_n 0, 1) := by decide +kernel
theorem dX6_write_36 : decode cX6_write 36 = .ok (.getfield 35, 3) := by decide +kernel
theorem dX6_write_39 : decode cX6_write 39 = .ok (.iload_n 1, 1) := by decide +kernel
theorem dX6_write_40 : decode cX6_write 40 = .ok (.aaload, 1) := by decide +kernel
theorem dX6_write_41 : decode cX6_write 41 = .ok (.getfield 231, 3) := by decide +kernel
theorem dX6_write_44 : decode cX6_write 44 = .ok (.iconst 1, 1) := by decide +kernel
theorem dX6_write_45 : decode cX6_write 45 = .ok (.isub, 1) := by decide +kernel
theorem dX6_write_46 : decode cX6_write 46 = .ok (.invokestatic 44, 3) := by decide +kernel
theorem dX6_write_49 : decode cX6_write 49 = .ok (.ifCond .ne 10, 3) := by decide +kernel
theorem dX6_write_52 : decode cX6_write 52 = .ok (.aload_n 0, 1) := by decide +kernel
theorem dX6_write_53 : decode cX6_write 53 = .ok (.iconst 0, 1) := by decide +kernel
theorem dX6_write_54 : decode cX6_write 54 = .ok (.invokevirtual 48, 3) := by decide +kernel
theorem dX6_write_57 : decode cX6_write 57 = .ok (.i2l, 1) := by decide +kernel
theorem dX6_write_58 : decode cX6_write 58 = .ok (.lreturn, 1) := by decide +kernel
theorem dX6_write_59 : decode cX6_write 59 = .ok (.aload_n 0, 1) := by decide +kernel
theorem dX6_write_60 : decode cX6_write 60 = .ok (.getfield 35, 3) := by decide +kernel
theorem dX6_write_63 : decode cX6_write 63 = .ok (.iload_n 1, 1) := by decide +kernel
theorem dX6_write_64 : decode cX6_write 64 = .ok (.aaload, 1) := by decide +kernel
theorem dX6_write_65 : decode cX6_write 65 = .ok (.getfield 235, 3) := by decide +kernel
theorem dX6_write_68 : decode cX6_write 68 = .ok (.iload_n 2, 1) := by decide +kernel
theorem dX6_write_69 : decode cX6_write 69 = .ok (.laload, 1) := by decide +kernel
theorem dX6_write_70 : decode cX6_write 70 = .ok (.lstore 5, 2) := by decide +kernel
theorem dX6_write_72 : decode cX6_write 72 = .ok (.aload_n 0, 1) := by decide +kernel
theorem dX6_write_73 : decode cX6_write 73 = .ok (.getfield 35, 3) := by decide +kernel
theorem dX6_write_76 : decode cX6_write 76 = .ok (.iload_n 1, 1) := by decide +kernel
theorem dX6_write_77 : decode cX6_write 77 = .ok (.aaload, 1) := by decide +kernel
theorem dX6_write_78 : decode cX6_write 78 = .ok (.getfield 235, 3) := by decide +kernel
theorem dX6_write_81 : decode cX6_write 81 = .ok (.iload_n 2, 1) := by decide +kernel
theorem dX6_write_82 : decode cX6_write 82 = .ok (.aload_n 0, 1) := by decide +kernel
theorem dX6_write_83 : decode cX6_write 83 = .ok (.getfield 35, 3) := by decide +kernel
theorem dX6_write_86 : decode cX6_write 86 = .ok (.iload_n 1, 1) := by decide +kernel
theorem dX6_write_87 : decode cX6_write 87 = .ok (.aaload, 1) := by decide +kernel
theorem dX6_write_88 : decode cX6_write 88 = .ok (.lload_n 3, 1) := by decide +kernel
theorem dX6_write_89 : decode cX6_write 89 = .ok (.invokevirtual 239, 3) := by decide +kernel
theorem dX6_write_92 : decode cX6_write 92 = .ok (.lastore, 1) := by decide +kernel
theorem dX6_write_93 : decode cX6_write 93 = .ok (.lload 5, 2) := by decide +kernel
theorem dX6_write_95 : decode cX6_write 95 = .ok (.lreturn, 1) := by decide +kernel
theorem dX6_copy_0 : decode cX6_copy 0 = .ok (.iload_n 1, 1) := by decide +kernel
theorem dX6_copy_1 : decode cX6_copy 1 = .ok (.invokestatic 222, 3) := by decide +kernel
theorem dX6_copy_4 : decode cX6_copy 4 = .ok (.ifCond .eq 10, 3) := by decide +kernel
theorem dX6_copy_7 : decode cX6_copy 7 = .ok (.iload_n 3, 1) := by decide +kernel
theorem dX6_copy_8 : decode cX6_copy 8 = .ok (.invokestatic 222, 3) := by decide +kernel
theorem dX6_copy_11 : decode cX6_copy 11 = .ok (.ifCond .ne 9, 3) := by decide +kernel
theorem dX6_copy_14 : decode cX6_copy 14 = .ok (.aload_n 0, 1) := by decide +kernel
theorem dX6_copy_15 : decode cX6_copy 15 = .ok (.iconst 0, 1) := by decide +kernel
theorem dX6_copy_16 : decode cX6_copy 16 = .ok (.invokevirtual 48, 3) := by decide +kernel
theorem dX6_copy_19 : decode cX6_copy 19 = .ok (.ireturn, 1) := by decide +kernel
theorem dX6_copy_20 : decode cX6_copy 20 = .ok (.aload_n 0, 1) := by decide +kernel
theorem dX6_copy_21 : decode cX6_copy 21 = .ok (.getfield 35, 3) := by decide +kernel
theorem dX6_copy_24 : decode cX6_copy 24 = .ok (.iload_n 1, 1) := by decide +kernel
theorem dX6_copy_25 : decode cX6_copy 25 = .ok (.aaload, 1) := by decide +kernel
theorem dX6_copy_26 : decode cX6_copy 26 = .ok (.invokevirtual 232, 3) := by decide +kernel
theorem dX6_copy_29 : decode cX6_copy 29 = .ok (.ifCond .ne 15, 3) := by decide +kernel
theorem dX6_copy_32 : decode cX6_copy 32 = .ok (.aload_n 0, 1) := by decide +kernel
theorem dX6_copy_33 : decode cX6_copy 33 = .ok (.getfield 35, 3) := by decide +kernel
theorem dX6_copy_36 : decode cX6_copy 36 = .ok (.iload_n 3, 1) := by decide +kernel
theorem dX6_copy_37 : decode cX6_copy 37 = .ok (.aaload, 1) := by decide +kernel
theorem dX6_copy_38 : decode cX6_copy 38 = .ok (.invokevirtual 232, 3) := by decide +kernel
theorem dX6_copy_41 : decode cX6_copy 41 = .ok (.ifCond .eq 9, 3) := by decide +kernel
theorem dX6_copy_44 : decode cX6_copy 44 = .ok (.aload_n 0, 1) := by decide +kernel
theorem dX6_copy_45 : decode cX6_copy 45 = .ok (.iconst 5, 1) := by decide +kernel
theorem dX6_copy_46 : decode cX6_copy 46 = .ok (.invokevirtual 48, 3) := by decide +kernel
theorem dX6_copy_49 : decode cX6_copy 49 = .ok (.ireturn, 1) := by decide +kernel
theorem dX6_copy_50 : decode cX6_copy 50 = .ok (.aload_n 0, 1) := by decide +kernel
theorem dX6_copy_51 : decode cX6_copy 51 = .ok (.getfield 35, 3) := by decide +kernel
theorem dX6_copy_54 : decode cX6_copy 54 = .ok (.iload_n 1, 1) := by decide +kernel
theorem dX6_copy_55 : decode cX6_copy 55 = .ok (.aaload, 1) := by decide +kernel
theorem dX6_copy_56 : decode cX6_copy 56 = .ok (.getfield 243, 3) := by decide +kernel
theorem dX6_copy_59 : decode cX6_copy 59 = .ok (.aload_n 0, 1) := by decide +kernel
theorem dX6_copy_60 : decode cX6_copy 60 = .ok (.getfield 35, 3) := by decide +kernel
theorem dX6_copy_63 : decode cX6_copy 63 = .ok (.iload_n 3, 1) := by decide +kernel
theorem dX6_copy_64 : decode cX6_copy 64 = .ok (.aaload, 1) := by decide +kernel
theorem dX6_copy_65 : decode cX6_copy 65 = .ok (.getfield 243, 3) := by decide +kernel
theorem dX6_copy_68 : decode cX6_copy 68 = .ok (.if_icmp .eq 9, 3) := by decide +kernel
theorem dX6_copy_71 : decode cX6_copy 71 = .ok (.aload_n 0, 1) := by decide +kernel
theorem dX6_copy_72 : decode cX6_copy 72 = .ok (.iconst 2, 1) := by decide +kernel
theorem dX6_copy_73 : decode cX6_copy 73 = .ok (.invokevirtual 48, 3) := by decide +kernel
theorem dX6_copy_76 : decode cX6_copy 76 = .ok (.ireturn, 1) := by decide +kernel
theorem dX6_copy_77 : decode cX6_copy 77 = .ok (.aload_n 0, 1) := by decide +kernel
theorem dX6_copy_78 : decode cX6_copy 78 = .ok (.getfield 35, 3) := by decide +kernel
theorem dX6_copy_81 : decode cX6_copy 81 = .ok (.iload_n 1, 1) := by decide +kernel
theorem dX6_copy_82 : decode cX6_copy 82 = .ok (.aaload, 1) := by decide +kernel
theorem dX6_copy_83 : decode cX6_copy 83 = .ok (.iload_n 2, 1) := by decide +kernel
theorem dX6_copy_84 : decode cX6_copy 84 = .ok (.iload 5, 2) := by decide +kernel
theorem dX6_copy_86 : decode cX6_copy 86 = .ok (.invokevirtual 246, 3) := by decide +kernel
theorem dX6_copy_89 : decode cX6_copy 89 = .ok (.ifCond .eq 19, 3) := by decide +kernel
theorem dX6_copy_92 : decode cX6_copy 92 = .ok (.aload_n 0, 1) := by decide +kernel
theorem dX6_copy_93 : decode cX6_copy 93 = .ok (.getfield 35, 3) := by decide +kernel
theorem dX6_copy_96 : decode cX6_copy 96 = .ok (.iload_n 3, 1) := by decide +kernel
theorem dX6_copy_97 : decode cX6_copy 97 = .ok (.aaload, 1) := by decide +kernel
theorem dX6_copy_98 : decode cX6_copy 98 = .ok (.iload 4, 2) := by decide +kernel
theorem dX6_copy_100 : decode cX6_copy 100 = .ok (.iload 5, 2) := by decide +kernel
theorem dX6_copy_102 : decode cX6_copy 102 = .ok (.invokevirtual 246, 3) := by decide +kernel
theorem dX6_copy_105 : decode cX6_copy 105 = .ok (.ifCond .ne 9, 3) := by decide +kernel
theorem dX6_copy_108 : decode cX6_copy 108 = .ok (.aload_n 0, 1) := by decide +kernel
theorem dX6_copy_109 : decode cX6_copy 109 = .ok (.iconst 0, 1) := by decide +kernel
theorem dX6_copy_110 : decode cX6_copy 110 = .ok (.invokevirtual 48, 3) := by decide +kernel
theorem dX6_copy_113 : decode cX6_copy 113 = .ok (.ireturn, 1) := by decide +kernel
theorem dX6_copy_114 : decode cX6_copy 114 = .ok (.aload_n 0, 1) := by decide +kernel
theorem dX6_copy_115 : decode cX6_copy 115 = .ok (.getfield 35, 3) := by decide +kernel
theorem dX6_copy_118 : decode cX6_copy 118 = .ok (.iload_n 1, 1) := by decide +kernel
theorem dX6_copy_119 : decode cX6_copy 119 = .ok (.aaload, 1) := by decide +kernel
theorem dX6_copy_120 : decode cX6_copy 120 = .ok (.getfield 235, 3) := by decide +kernel
theorem dX6_copy_123 : decode cX6_copy 123 = .ok (.iload_n 2, 1) := by decide +kernel
theorem dX6_copy_124 : decode cX6_copy 124 = .ok (.aload_n 0, 1) := by decide +kernel
theorem dX6_copy_125 : decode cX6_copy 125 = .ok (.getfield 35, 3) := by decide +kernel
theorem dX6_copy_128 : decode cX6_copy 128 = .ok (.iload_n 3, 1) := by decide +kernel
theorem dX6_copy_129 : decode cX6_copy 129 = .ok (.aaload, 1) := by decide +kernel
theorem dX6_copy_130 : decode cX6_copy 130 = .ok (.getfield 235, 3) := by decide +kernel
theorem dX6_copy_133 : decode cX6_copy 133 = .ok (.iload 4, 2) := by decide +kernel
theorem dX6_copy_135 : decode cX6_copy 135 = .ok (.iload 5, 2) := by decide +kernel
theorem dX6_copy_137 : decode cX6_copy 137 = .ok (.invokestatic 249, 3) := by decide +kernel
theorem dX6_copy_140 : decode cX6_copy 140 = .ok (.iload 5, 2) := by decide +kernel
theorem dX6_copy_142 : decode cX6_copy 142 = .ok (.ireturn, 1) := by decide +kernel
theorem dX6_lays_0 : decode cX6_lays 0 = .ok (.iload_n 1, 1) := by decide +kernel
theorem dX6_lays_1 : decode cX6_lays 1 = .ok (.invokestatic 222, 3) := by decide +kernel
theorem dX6_lays_4 : decode cX6_lays 4 = .ok (.ifCond .ne 9, 3) := by decide +kernel
theorem dX6_lays_7 : decode cX6_lays 7 = .ok (.aload_n 0, 1) := by decide +kernel
theorem dX6_lays_8 : decode cX6_lays 8 = .ok (.iconst 0, 1) := by decide +kernel
theorem dX6_lays_9 : decode cX6_lays 9 = .ok (.invokevirtual 48, 3) := by decide +kernel
theorem dX6_lays_12 : decode cX6_lays 12 = .ok (.ireturn, 1) := by decide +kernel
theorem dX6_lays_13 : decode cX6_lays 13 = .ok (.aload_n 0, 1) := by decide +kernel
theorem dX6_lays_14 : decode cX6_lays 14 = .ok (.getfield 35, 3) := by decide +kernel
theorem dX6_lays_17 : decode cX6_lays 17 = .ok (.iload_n 1, 1) := by decide +kernel
theorem dX6_lays_18 : decode cX6_lays 18 = .ok (.aaload, 1) := by decide +kernel
theorem dX6_lays_19 : decode cX6_lays 19 = .ok (.invokevirtual 232, 3) := by decide +kernel
theorem dX6_lays_22 : decode cX6_lays 22 = .ok (.ifCond .eq 9, 3) := by decide +kernel
theorem dX6_lays_25 : decode cX6_lays 25 = .ok (.aload_n 0, 1) := by decide +kernel
theorem dX6_lays_26 : decode cX6_lays 26 = .ok (.iconst 5, 1) := by decide +kernel
theorem dX6_lays_27 : decode cX6_lays 27 = .ok (.invokevirtual 48, 3) := by decide +kernel
theorem dX6_lays_30 : decode cX6_lays 30 = .ok (.ireturn, 1) := by decide +kernel
theorem dX6_lays_31 : decode cX6_lays 31 = .ok (.aload_n 0, 1) := by decide +kernel
theorem dX6_lays_32 : decode cX6_lays 32 = .ok (.getfield 16, 3) := by decide +kernel
theorem dX6_lays_35 : decode cX6_lays 35 = .ok (.aload_n 0, 1) := by decide +kernel
theorem dX6_lays_36 : decode cX6_lays 36 = .ok (.getfield 35, 3) := by decide +kernel
theorem dX6_lays_39 : decode cX6_lays 39 = .ok (.iload_n 1, 1) := by decide +kernel
theorem dX6_lays_40 : decode cX6_lays 40 = .ok (.aaload, 1) := by decide +kernel
theorem dX6_lays_41 : decode cX6_lays 41 = .ok (.invokevirtual 255, 3) := by decide +kernel
theorem dX6_lays_44 : decode cX6_lays 44 = .ok (.ireturn, 1) := by decide +kernel
theorem dX6_book_0 : decode cX6_book 0 = .ok (.iload_n 1, 1) := by decide +kernel
theorem dX6_book_1 : decode cX6_book 1 = .ok (.invokestatic 222, 3) := by decide +kernel
theorem dX6_book_4 : decode cX6_book 4 = .ok (.ifCond .ne 9, 3) := by decide +kernel
theorem dX6_book_7 : decode cX6_book 7 = .ok (.aload_n 0, 1) := by decide +kernel
theorem dX6_book_8 : decode cX6_book 8 = .ok (.iconst 0, 1) := by decide +kernel
theorem dX6_book_9 : decode cX6_book 9 = .ok (.invokevirtual 48, 3) := by decide +kernel
theorem dX6_book_12 : decode cX6_book 12 = .ok (.ireturn, 1) := by decide +kernel
theorem dX6_book_13 : decode cX6_book 13 = .ok (.aload_n 0, 1) := by decide +kernel
theorem dX6_book_14 : decode cX6_book 14 = .ok (.getfield 35, 3) := by decide +kernel
theorem dX6_book_17 : decode cX6_book 17 = .ok (.iload_n 1, 1) := by decide +kernel
theorem dX6_book_18 : decode cX6_book 18 = .ok (.aaload, 1) := by decide +kernel
theorem dX6_book_19 : decode cX6_book 19 = .ok (.invokevirtual 232, 3) := by decide +kernel
theorem dX6_book_22 : decode cX6_book 22 = .ok (.ifCond .eq 9, 3) := by decide +kernel
theorem dX6_book_25 : decode cX6_book 25 = .ok (.aload_n 0, 1) := by decide +kernel
theorem dX6_book_26 : decode cX6_book 26 = .ok (.iconst 5, 1) := by decide +kernel
theorem dX6_book_27 : decode cX6_book 27 = .ok (.invokevirtual 48, 3) := by decide +kernel
theorem dX6_book_30 : decode cX6_book 30 = .ok (.ireturn, 1) := by decide +kernel
theorem dX6_book_31 : decode cX6_book 31 = .ok (.aload_n 0, 1) := by decide +kernel
theorem dX6_book_32 : decode cX6_book 32 = .ok (.getfield 16, 3) := by decide +kernel
theorem dX6_book_35 : decode cX6_book 35 = .ok (.iload_n 2, 1) := by decide +kernel
theorem dX6_book_36 : decode cX6_book 36 = .ok (.invokevirtual 107, 3) := by decide +kernel
theorem dX6_book_39 : decode cX6_book 39 = .ok (.ifCond .ne 9, 3) := by decide +kernel
theorem dX6_book_42 : decode cX6_book 42 = .ok (.aload_n 0, 1) := by decide +kernel
theorem dX6_book_43 : decode cX6_book 43 = .ok (.iconst 0, 1) := by decide +kernel
theorem dX6_book_44 : decode cX6_book 44 = .ok (.invokevirtual 48, 3) := by decide +kernel
theorem dX6_book_47 : decode cX6_book 47 = .ok (.ireturn, 1) := by decide +kernel
theorem dX6_book_48 : decode cX6_book 48 = .ok (.iconst 0, 1) := by decide +kernel
theorem dX6_book_49 : decode cX6_book 49 = .ok (.istore_n 3, 1) := by decide +kernel
theorem dX6_book_50 : decode cX6_book 50 = .ok (.iload_n 3, 1) := by decide +kernel
theorem dX6_book_51 : decode cX6_book 51 = .ok (.aload_n 0, 1) := by decide +kernel
theorem dX6_book_52 : decode cX6_book 52 = .ok (.getfield 35, 3) := by decide +kernel
theorem dX6_book_55 : decode cX6_book 55 = .ok (.iload_n 1, 1) := by decide +kernel
theorem dX6_book_56 : decode cX6_book 56 = .ok (.aaload, 1) := by decide +kernel
theorem dX6_book_57 : decode cX6_book 57 = .ok (.getfield 231, 3) := by decide +kernel
theorem dX6_book_60 : decode cX6_book 60 = .ok (.if_icmp .ge 34, 3) := by decide +kernel
theorem dX6_book_63 : decode cX6_book 63 = .ok (.aload_n 0, 1) := by decide +kernel
theorem dX6_book_64 : decode cX6_book 64 = .ok (.getfield 35, 3) := by decide +kernel
theorem dX6_book_67 : decode cX6_book 67 = .ok (.iload_n 1, 1) := by decide +kernel
theorem dX6_book_68 : decode cX6_book 68 = .ok (.aaload, 1) := by decide +kernel
theorem dX6_book_69 : decode cX6_book 69 = .ok (.getfield 235, 3) := by decide +kernel
theorem dX6_book_72 : decode cX6_book 72 = .ok (.iload_n 3, 1) := by decide +kernel
theorem dX6_book_73 : decode cX6_book 73 = .ok (.aload_n 0, 1) := by decide +kernel
theorem dX6_book_74 : decode cX6_book 74 = .ok (.getfield 16, 3) := by decide +kernel
theorem dX6_book_77 : decode cX6_book 77 = .ok (.getfield 110, 3) := by decide +kernel
theorem dX6_book_80 : decode cX6_book 80 = .ok (.iload_n 2, 1) := by decide +kernel
theorem dX6_book_81 : decode cX6_book 81 = .ok (.aaload, 1) := by decide +kernel
theorem dX6_book_82 : decode cX6_book 82 = .ok (.iload_n 3, 1) := by decide +kernel
theorem dX6_book_83 : decode cX6_book 83 = .ok (.invokevirtual 173, 3) := by decide +kernel
theorem dX6_book_86 : decode cX6_book 86 = .ok (.i2l, 1) := by decide +kernel
theorem dX6_book_87 : decode cX6_book 87 = .ok (.lastore, 1) := by decide +kernel
theorem dX6_book_88 : decode cX6_book 88 = .ok (.iinc 3 1, 3) := by decide +kernel
theorem dX6_book_91 : decode cX6_book 91 = .ok (.goto (-41), 3) := by decide +kernel
theorem dX6_book_94 : decode cX6_book 94 = .ok (.aload_n 0, 1) := by decide +kernel
theorem dX6_book_95 : decode cX6_book 95 = .ok (.getfield 35, 3) := by decide +kernel
theorem dX6_book_98 : decode cX6_book 98 = .ok (.iload_n 1, 1) := by decide +kernel
theorem dX6_book_99 : decode cX6_book 99 = .ok (.aaload, 1) := by decide +kernel
theorem dX6_book_100 : decode cX6_book 100 = .ok (.getfield 231, 3) := by decide +kernel
theorem dX6_book_103 : decode cX6_book 103 = .ok (.ireturn, 1) := by decide +kernel
theorem dX6_read_0 : decode cX6_read 0 = .ok (.iload_n 1, 1) := by decide +kernel
theorem dX6_read_1 : decode cX6_read 1 = .ok (.invokestatic 222, 3) := by decide +kernel
theorem dX6_read_4 : decode cX6_read 4 = .ok (.ifCond .ne 9, 3) := by decide +kernel
theorem dX6_read_7 : decode cX6_read 7 = .ok (.aload_n 0, 1) := by decide +kernel
theorem dX6_read_8 : decode cX6_read 8 = .ok (.iconst 0, 1) := by decide +kernel
theorem dX6_read_9 : decode cX6_read 9 = .ok (.invokevirtual 48, 3) := by decide +kernel
theorem dX6_read_12 : decode cX6_read 12 = .ok (.ireturn, 1) := by decide +kernel
theorem dX6_read_13 : decode cX6_read 13 = .ok (.aload_n 0, 1) := by decide +kernel
theorem dX6_read_14 : decode cX6_read 14 = .ok (.getfield 35, 3) := by decide +kernel
theorem dX6_read_17 : decode cX6_read 17 = .ok (.iload_n 1, 1) := by decide +kernel
theorem dX6_read_18 : decode cX6_read 18 = .ok (.aaload, 1) := by decide +kernel
theorem dX6_read_19 : decode cX6_read 19 = .ok (.invokevirtual 232, 3) := by decide +kernel
theorem dX6_read_22 : decode cX6_read 22 = .ok (.ifCond .eq 9, 3) := by decide +kernel
theorem dX6_read_25 : decode cX6_read 25 = .ok (.aload_n 0, 1) := by decide +kernel
theorem dX6_read_26 : decode cX6_read 26 = .ok (.iconst 5, 1) := by decide +kernel
theorem dX6_read_27 : decode cX6_read 27 = .ok (.invokevirtual 48, 3) := by decide +kernel
theorem dX6_read_30 : decode cX6_read 30 = .ok (.ireturn, 1) := by decide +kernel
theorem dX6_read_31 : decode cX6_read 31 = .ok (.aload_n 0, 1) := by decide +kernel
theorem dX6_read_32 : decode cX6_read 32 = .ok (.getfield 16, 3) := by decide +kernel
theorem dX6_read_35 : decode cX6_read 35 = .ok (.iload_n 2, 1) := by decide +kernel
theorem dX6_read_36 : decode cX6_read 36 = .ok (.invokevirtual 107, 3) := by decide +kernel
theorem dX6_read_39 : decode cX6_read 39 = .ok (.ifCond .ne 9, 3) := by decide +kernel
theorem dX6_read_42 : decode cX6_read 42 = .ok (.aload_n 0, 1) := by decide +kernel
theorem dX6_read_43 : decode cX6_read 43 = .ok (.iconst 0, 1) := by decide +kernel
theorem dX6_read_44 : decode cX6_read 44 = .ok (.invokevirtual 48, 3) := by decide +kernel
theorem dX6_read_47 : decode cX6_read 47 = .ok (.ireturn, 1) := by decide +kernel
theorem dX6_read_48 : decode cX6_read 48 = .ok (.aload_n 0, 1) := by decide +kernel
theorem dX6_read_49 : decode cX6_read 49 = .ok (.getfield 16, 3) := by decide +kernel
theorem dX6_read_52 : decode cX6_read 52 = .ok (.getfield 110, 3) := by decide +kernel
theorem dX6_read_55 : decode cX6_read 55 = .ok (.iload_n 2, 1) := by decide +kernel
theorem dX6_read_56 : decode cX6_read 56 = .ok (.aaload, 1) := by decide +kernel
theorem dX6_read_57 : decode cX6_read 57 = .ok (.aload_n 0, 1) := by decide +kernel
theorem dX6_read_58 : decode cX6_read 58 = .ok (.getfield 35, 3) := by decide +kernel
theorem dX6_read_61 : decode cX6_read 61 = .ok (.iload_n 1, 1) := by decide +kernel
theorem dX6_read_62 : decode cX6_read 62 = .ok (.aaload, 1) := by decide +kernel
theorem dX6_read_63 : decode cX6_read 63 = .ok (.invokevirtual 259, 3) := by decide +kernel
theorem dX6_read_66 : decode cX6_read 66 = .ok (.ireturn, 1) := by decide +kernel
theorem dX6_image_0 : decode cX6_image 0 = .ok (.aload_n 0, 1) := by decide +kernel
theorem dX6_image_1 : decode cX6_image 1 = .ok (.getfield 20, 3) := by decide +kernel
theorem dX6_image_4 : decode cX6_image 4 = .ok (.aload_n 0, 1) := by decide +kernel
theorem dX6_image_5 : decode cX6_image 5 = .ok (.getfield 16, 3) := by decide +kernel
theorem dX6_image_8 : decode cX6_image 8 = .ok (.invokevirtual 212, 3) := by decide +kernel
theorem dX6_image_11 : decode cX6_image 11 = .ok (.aload_n 0, 1) := by decide +kernel
theorem dX6_image_12 : decode cX6_image 12 = .ok (.iconst 1, 1) := by decide +kernel
theorem dX6_image_13 : decode cX6_image 13 = .ok (.putfield 262, 3) := by decide +kernel
theorem dX6_image_16 : decode cX6_image 16 = .ok (.iconst 1, 1) := by decide +kernel
theorem dX6_image_17 : decode cX6_image 17 = .ok (.ireturn, 1) := by decide +kernel
theorem dX6_undo_0 : decode cX6_undo 0 = .ok (.aload_n 0, 1) := by decide +kernel
theorem dX6_undo_1 : decode cX6_undo 1 = .ok (.getfield 262, 3) := by decide +kernel
theorem dX6_undo_4 : decode cX6_undo 4 = .ok (.ifCond .ne 9, 3) := by decide +kernel
theorem dX6_undo_7 : decode cX6_undo 7 = .ok (.aload_n 0, 1) := by decide +kernel
theorem dX6_undo_8 : decode cX6_undo 8 = .ok (.iconst 3, 1) := by decide +kernel
theorem dX6_undo_9 : decode cX6_undo 9 = .ok (.invokevirtual 48, 3) := by decide +kernel
theorem dX6_undo_12 : decode cX6_undo 12 = .ok (.ireturn, 1) := by decide +kernel
theorem dX6_undo_13 : decode cX6_undo 13 = .ok (.aload_n 0, 1) := by decide +kernel
theorem dX6_undo_14 : decode cX6_undo 14 = .ok (.getfield 16, 3) := by decide +kernel
theorem dX6_undo_17 : decode cX6_undo 17 = .ok (.aload_n 0, 1) := by decide +kernel
theorem dX6_undo_18 : decode cX6_undo 18 = .ok (.getfield 20, 3) := by decide +kernel
theorem dX6_undo_21 : decode cX6_undo 21 = .ok (.invokevirtual 212, 3) := by decide +kernel
theorem dX6_undo_24 : decode cX6_undo 24 = .ok (.aload_n 0, 1) := by decide +kernel
theorem dX6_undo_25 : decode cX6_undo 25 = .ok (.getfield 16, 3) := by decide +kernel
theorem dX6_undo_28 : decode cX6_undo 28 = .ok (.getfield 266, 3) := by decide +kernel
theorem dX6_undo_31 : decode cX6_undo 31 = .ok (.ireturn, 1) := by decide +kernel
theorem dX6_tear_0 : decode cX6_tear 0 = .ok (.aload_n 0, 1) := by decide +kernel
theorem dX6_tear_1 : decode cX6_tear 1 = .ok (.getfield 262, 3) := by decide +kernel
theorem dX6_tear_4 : decode cX6_tear 4 = .ok (.ifCond .eq 7, 3) := by decide +kernel
theorem dX6_tear_7 : decode cX6_tear 7 = .ok (.iconst 1, 1) := by decide +kernel
theorem dX6_tear_8 : decode cX6_tear 8 = .ok (.goto 4, 3) := by decide +kernel
theorem dX6_tear_11 : decode cX6_tear 11 = .ok (.iconst 0, 1) := by decide +kernel
theorem dX6_tear_12 : decode cX6_tear 12 = .ok (.istore_n 1, 1) := by decide +kernel
theorem dX6_tear_13 : decode cX6_tear 13 = .ok (.aload_n 0, 1) := by decide +kernel
theorem dX6_tear_14 : decode cX6_tear 14 = .ok (.iconst 0, 1) := by decide +kernel
theorem dX6_tear_15 : decode cX6_tear 15 = .ok (.putfield 262, 3) := by decide +kernel
theorem dX6_tear_18 : decode cX6_tear 18 = .ok (.iload_n 1, 1) := by decide +kernel
theorem dX6_tear_19 : decode cX6_tear 19 = .ok (.ireturn, 1) := by decide +kernel
theorem dX6_count_0 : decode cX6_count 0 = .ok (.iload_n 1, 1) := by decide +kernel
theorem dX6_count_1 : decode cX6_count 1 = .ok (.tableswitch 63 0 3 #[31, 39, 47, 55], 31) := by decide +kernel
theorem dX6_count_32 : decode cX6_count 32 = .ok (.aload_n 0, 1) := by decide +kernel
theorem dX6_count_33 : decode cX6_count 33 = .ok (.getfield 16, 3) := by decide +kernel
theorem dX6_count_36 : decode cX6_count 36 = .ok (.getfield 266, 3) := by decide +kernel
theorem dX6_count_39 : decode cX6_count 39 = .ok (.ireturn, 1) := by decide +kernel
theorem dX6_count_40 : decode cX6_count 40 = .ok (.aload_n 0, 1) := by decide +kernel
theorem dX6_count_41 : decode cX6_count 41 = .ok (.getfield 29, 3) := by decide +kernel
theorem dX6_count_44 : decode cX6_count 44 = .ok (.getfield 206, 3) := by decide +kernel
theorem dX6_count_47 : decode cX6_count 47 = .ok (.ireturn, 1) := by decide +kernel
theorem dX6_count_48 : decode cX6_count 48 = .ok (.aload_n 0, 1) := by decide +kernel
theorem dX6_count_49 : decode cX6_count 49 = .ok (.getfield 16, 3) := by decide +kernel
theorem dX6_count_52 : decode cX6_count 52 = .ok (.invokevirtual 269, 3) := by decide +kernel
theorem dX6_count_55 : decode cX6_count 55 = .ok (.ireturn, 1) := by decide +kernel
theorem dX6_count_56 : decode cX6_count 56 = .ok (.aload_n 0, 1) := by decide +kernel
theorem dX6_count_57 : decode cX6_count 57 = .ok (.getfield 16, 3) := by decide +kernel
theorem dX6_count_60 : decode cX6_count 60 = .ok (.invokevirtual 272, 3) := by decide +kernel
theorem dX6_count_63 : decode cX6_count 63 = .ok (.ireturn, 1) := by decide +kernel
theorem dX6_count_64 : decode cX6_count 64 = .ok (.aload_n 0, 1) := by decide +kernel
theorem dX6_count_65 : decode cX6_count 65 = .ok (.iconst 0, 1) := by decide +kernel
theorem dX6_count_66 : decode cX6_count 66 = .ok (.invokevirtual 48, 3) := by decide +kernel
theorem dX6_count_69 : decode cX6_count 69 = .ok (.ireturn, 1) := by decide +kernel
theorem dX6_status_0 : decode cX6_status 0 = .ok (.iload_n 1, 1) := by decide +kernel
theorem dX6_status_1 : decode cX6_status 1 = .ok (.iconst (-1), 1) := by decide +kernel
theorem dX6_status_2 : decode cX6_status 2 = .ok (.bipush 6, 2) := by decide +kernel
theorem dX6_status_4 : decode cX6_status 4 = .ok (.invokestatic 44, 3) := by decide +kernel
theorem dX6_status_7 : decode cX6_status 7 = .ok (.ifCond .ne 9, 3) := by decide +kernel
theorem dX6_status_10 : decode cX6_status 10 = .ok (.aload_n 0, 1) := by decide +kernel
theorem dX6_status_11 : decode cX6_status 11 = .ok (.iconst 0, 1) := by decide +kernel
theorem dX6_status_12 : decode cX6_status 12 = .ok (.invokevirtual 48, 3) := by decide +kernel
theorem dX6_status_15 : decode cX6_status 15 = .ok (.ireturn, 1) := by decide +kernel
theorem dX6_status_16 : decode cX6_status 16 = .ok (.iload_n 1, 1) := by decide +kernel
theorem dX6_status_17 : decode cX6_status 17 = .ok (.ifCond .lt 10, 3) := by decide +kernel
theorem dX6_status_20 : decode cX6_status 20 = .ok (.aload_n 0, 1) := by decide +kernel
theorem dX6_status_21 : decode cX6_status 21 = .ok (.getfield 9, 3) := by decide +kernel
theorem dX6_status_24 : decode cX6_status 24 = .ok (.iload_n 1, 1) := by decide +kernel
theorem dX6_status_25 : decode cX6_status 25 = .ok (.iaload, 1) := by decide +kernel
theorem dX6_status_26 : decode cX6_status 26 = .ok (.ireturn, 1) := by decide +kernel
theorem dX6_status_27 : decode cX6_status 27 = .ok (.iconst 0, 1) := by decide +kernel
theorem dX6_status_28 : decode cX6_status 28 = .ok (.istore_n 2, 1) := by decide +kernel
theorem dX6_status_29 : decode cX6_status 29 = .ok (.iconst 0, 1) := by decide +kernel
theorem dX6_status_30 : decode cX6_status 30 = .ok (.istore_n 3, 1) := by decide +kernel
theorem dX6_status_31 : decode cX6_status 31 = .ok (.iload_n 3, 1) := by decide +kernel
theorem dX6_status_32 : decode cX6_status 32 = .ok (.bipush 7, 2) := by decide +kernel
theorem dX6_status_34 : decode cX6_status 34 = .ok (.if_icmp .ge 18, 3) := by decide +kernel
theorem dX6_status_37 : decode cX6_status 37 = .ok (.iload_n 2, 1) := by decide +kernel
theorem dX6_status_38 : decode cX6_status 38 = .ok (.aload_n 0, 1) := by decide +kernel
theorem dX6_status_39 : decode cX6_status 39 = .ok (.getfield 9, 3) := by decide +kernel
theorem dX6_status_42 : decode cX6_status 42 = .ok (.iload_n 3, 1) := by decide +kernel
theorem dX6_status_43 : decode cX6_status 43 = .ok (.iaload, 1) := by decide +kernel
theorem dX6_status_44 : decode cX6_status 44 = .ok (.iadd, 1) := by decide +kernel
theorem dX6_status_45 : decode cX6_status 45 = .ok (.istore_n 2, 1) := by decide +kernel
theorem dX6_status_46 : decode cX6_status 46 = .ok (.iinc 3 1, 3) := by decide +kernel
theorem dX6_status_49 : decode cX6_status 49 = .ok (.goto (-18), 3) := by decide +kernel
theorem dX6_status_52 : decode cX6_status 52 = .ok (.iload_n 2, 1) := by decide +kernel
theorem dX6_status_53 : decode cX6_status 53 = .ok (.ireturn, 1) := by decide +kernel
theorem dX6_found_0 : decode cX6_found 0 = .ok (.iload_n 1, 1) := by decide +kernel
theorem dX6_found_1 : decode cX6_found 1 = .ok (.iconst 0, 1) := by decide +kernel
theorem dX6_found_2 : decode cX6_found 2 = .ok (.bipush 6, 2) := by decide +kernel
theorem dX6_found_4 : decode cX6_found 4 = .ok (.invokestatic 44, 3) := by decide +kernel
theorem dX6_found_7 : decode cX6_found 7 = .ok (.ifCond .eq 13, 3) := by decide +kernel
theorem dX6_found_10 : decode cX6_found 10 = .ok (.aload_n 0, 1) := by decide +kernel
theorem dX6_found_11 : decode cX6_found 11 = .ok (.getfield 9, 3) := by decide +kernel
theorem dX6_found_14 : decode cX6_found 14 = .ok (.iload_n 1, 1) := by decide +kernel
theorem dX6_found_15 : decode cX6_found 15 = .ok (.dup2, 1) := by decide +kernel
theorem dX6_found_16 : decode cX6_found 16 = .ok (.iaload, 1) := by decide +kernel
theorem dX6_found_17 : decode cX6_found 17 = .ok (.iconst 1, 1) := by decide +kernel
theorem dX6_found_18 : decode cX6_found 18 = .ok (.iadd, 1) := by decide +kernel
theorem dX6_found_19 : decode cX6_found 19 = .ok (.iastore, 1) := by decide +kernel
theorem dX6_found_20 : decode cX6_found 20 = .ok (.ldc_w 275, 3) := by decide +kernel
theorem dX6_found_23 : decode cX6_found 23 = .ok (.iload_n 1, 1) := by decide +kernel
theorem dX6_found_24 : decode cX6_found 24 = .ok (.isub, 1) := by decide +kernel
theorem dX6_found_25 : decode cX6_found 25 = .ok (.ireturn, 1) := by decide +kernel
theorem dX6_orNone_0 : decode cX6_orNone 0 = .ok (.iload_n 1, 1) := by decide +kernel
theorem dX6_orNone_1 : decode cX6_orNone 1 = .ok (.ifCond .ge 11, 3) := by decide +kernel
theorem dX6_orNone_4 : decode cX6_orNone 4 = .ok (.aload_n 0, 1) := by decide +kernel
theorem dX6_orNone_5 : decode cX6_orNone 5 = .ok (.iconst 3, 1) := by decide +kernel
theorem dX6_orNone_6 : decode cX6_orNone 6 = .ok (.invokevirtual 48, 3) := by decide +kernel
theorem dX6_orNone_9 : decode cX6_orNone 9 = .ok (.goto 4, 3) := by decide +kernel
theorem dX6_orNone_12 : decode cX6_orNone 12 = .ok (.iload_n 1, 1) := by decide +kernel
theorem dX6_orNone_13 : decode cX6_orNone 13 = .ok (.ireturn, 1) := by decide +kernel
theorem dX6_isSheet_0 : decode cX6_isSheet 0 = .ok (.iload_n 0, 1) := by decide +kernel
theorem dX6_isSheet_1 : decode cX6_isSheet 1 = .ok (.iconst 0, 1) := by decide +kernel
theorem dX6_isSheet_2 : decode cX6_isSheet 2 = .ok (.iconst 3, 1) := by decide +kernel
theorem dX6_isSheet_3 : decode cX6_isSheet 3 = .ok (.invokestatic 44, 3) := by decide +kernel
theorem dX6_isSheet_6 : decode cX6_isSheet 6 = .ok (.ireturn, 1) := by decide +kernel
theorem dX6_isWithin_0 : decode cX6_isWithin 0 = .ok (.iload_n 0, 1) := by decide +kernel
theorem dX6_isWithin_1 : decode cX6_isWithin 1 = .ok (.iload_n 1, 1) := by decide +kernel
theorem dX6_isWithin_2 : decode cX6_isWithin 2 = .ok (.if_icmp .lt 12, 3) := by decide +kernel
theorem dX6_isWithin_5 : decode cX6_isWithin 5 = .ok (.iload_n 0, 1) := by decide +kernel
theorem dX6_isWithin_6 : decode cX6_isWithin 6 = .ok (.iload_n 2, 1) := by decide +kernel
theorem dX6_isWithin_7 : decode cX6_isWithin 7 = .ok (.if_icmp .gt 7, 3) := by decide +kernel
theorem dX6_isWithin_10 : decode cX6_isWithin 10 = .ok (.iconst 1, 1) := by decide +kernel
theorem dX6_isWithin_11 : decode cX6_isWithin 11 = .ok (.goto 4, 3) := by decide +kernel
theorem dX6_isWithin_14 : decode cX6_isWithin 14 = .ok (.iconst 0, 1) := by decide +kernel
theorem dX6_isWithin_15 : decode cX6_isWithin 15 = .ok (.ireturn, 1) := by decide +kernel
theorem dX7_init_0 : decode cX7_init 0 = .ok (.aload_n 0, 1) := by decide +kernel
theorem dX7_init_1 : decode cX7_init 1 = .ok (.invokespecial 1, 3) := by decide +kernel
theorem dX7_init_4 : decode cX7_init 4 = .ok (.aload_n 0, 1) := by decide +kernel
theorem dX7_init_5 : decode cX7_init 5 = .ok (.bipush 58, 2) := by decide +kernel
theorem dX7_init_7 : decode cX7_init 7 = .ok (.newarray .int, 2) := by decide +kernel
theorem dX7_init_9 : decode cX7_init 9 = .ok (.putfield 7, 3) := by decide +kernel
theorem dX7_init_12 : decode cX7_init 12 = .ok (.aload_n 0, 1) := by decide +kernel
theorem dX7_init_13 : decode cX7_init 13 = .ok (.bipush 7, 2) := by decide +kernel
theorem dX7_init_15 : decode cX7_init 15 = .ok (.newarray .int, 2) := by decide +kernel
theorem dX7_init_17 : decode cX7_init 17 = .ok (.putfield 13, 3) := by decide +kernel
theorem dX7_init_20 : decode cX7_init 20 = .ok (.aload_n 0, 1) := by decide +kernel
theorem dX7_init_21 : decode cX7_init 21 = .ok (.bipush 58, 2) := by decide +kernel
theorem dX7_init_23 : decode cX7_init 23 = .ok (.newarray .int, 2) := by decide +kernel
theorem dX7_init_25 : decode cX7_init 25 = .ok (.putfield 16, 3) := by decide +kernel
theorem dX7_init_28 : decode cX7_init 28 = .ok (.aload_n 0, 1) := by decide +kernel
theorem dX7_init_29 : decode cX7_init 29 = .ok (.bipush 58, 2) := by decide +kernel
theorem dX7_init_31 : decode cX7_init 31 = .ok (.newarray .int, 2) := by decide +kernel
theorem dX7_init_33 : decode cX7_init 33 = .ok (.putfield 19, 3) := by decide +kernel
theorem dX7_init_36 : decode cX7_init 36 = .ok (.aload_n 0, 1) := by decide +kernel
theorem dX7_init_37 : decode cX7_init 37 = .ok (.bipush 120, 2) := by decide +kernel
theorem dX7_init_39 : decode cX7_init 39 = .ok (.newarray .int, 2) := by decide +kernel
theorem dX7_init_41 : decode cX7_init 41 = .ok (.putfield 22, 3) := by decide +kernel
theorem dX7_init_44 : decode cX7_init 44 = .ok (.aload_n 0, 1) := by decide +kernel
theorem dX7_init_45 : decode cX7_init 45 = .ok (.iconst 4, 1) := by decide +kernel
theorem dX7_init_46 : decode cX7_init 46 = .ok (.newarray .int, 2) := by decide +kernel
theorem dX7_init_48 : decode cX7_init 48 = .ok (.putfield 25, 3) := by decide +kernel
theorem dX7_init_51 : decode cX7_init 51 = .ok (.aload_n 0, 1) := by decide +kernel
theorem dX7_init_52 : decode cX7_init 52 = .ok (.iconst 4, 1) := by decide +kernel
theorem dX7_init_53 : decode cX7_init 53 = .ok (.newarray .int, 2) := by decide +kernel
theorem dX7_init_55 : decode cX7_init 55 = .ok (.putfield 28, 3) := by decide +kernel
theorem dX7_init_58 : decode cX7_init 58 = .ok (.aload_n 0, 1) := by decide +kernel
theorem dX7_init_59 : decode cX7_init 59 = .ok (.sipush 160, 3) := by decide +kernel
theorem dX7_init_62 : decode cX7_init 62 = .ok (.newarray .long, 2) := by decide +kernel
theorem dX7_init_64 : decode cX7_init 64 = .ok (.putfield 31, 3) := by decide +kernel
theorem dX7_init_67 : decode cX7_init 67 = .ok (.aload_n 0, 1) := by decide +kernel
theorem dX7_init_68 : decode cX7_init 68 = .ok (.bipush 40, 2) := by decide +kernel
theorem dX7_init_70 : decode cX7_init 70 = .ok (.newarray .long, 2) := by decide +kernel
theorem dX7_init_72 : decode cX7_init 72 = .ok (.putfield 35, 3) := by decide +kernel
theorem dX7_init_75 : decode cX7_init 75 = .ok (.aload_n 0, 1) := by decide +kernel
theorem dX7_init_76 : decode cX7_init 76 = .ok (.bipush 58, 2) := by decide +kernel
theorem dX7_init_78 : decode cX7_init 78 = .ok (.newarray .int, 2) := by decide +kernel
theorem dX7_init_80 : decode cX7_init 80 = .ok (.putfield 38, 3) := by decide +kernel
theorem dX7_init_83 : decode cX7_init 83 = .ok (.aload_n 0, 1) := by decide +kernel
theorem dX7_init_84 : decode cX7_init 84 = .ok (.bipush 58, 2) := by decide +kernel
theorem dX7_init_86 : decode cX7_init 86 = .ok (.newarray .int, 2) := by decide +kernel
theorem dX7_init_88 : decode cX7_init 88 = .ok (.putfield 41, 3) := by decide +kernel
theorem dX7_init_91 : decode cX7_init 91 = .ok (.aload_n 0, 1) := by decide +kernel
theorem dX7_init_92 : decode cX7_init 92 = .ok (.getfield 7, 3) := by decide +kernel
theorem dX7_init_95 : decode cX7_init 95 = .ok (.iconst 1, 1) := by decide +kernel
theorem dX7_init_96 : decode cX7_init 96 = .ok (.iconst 3, 1) := by decide +kernel
theorem dX7_init_97 : decode cX7_init 97 = .ok (.iastore, 1) := by decide +kernel
theorem dX7_init_98 : decode cX7_init 98 = .ok (.aload_n 0, 1) := by decide +kernel
theorem dX7_init_99 : decode cX7_init 99 = .ok (.getfield 7, 3) := by decide +kernel
theorem dX7_init_102 : decode cX7_init 102 = .ok (.iconst 3, 1) := by decide +kernel
theorem dX7_init_103 : decode cX7_init 103 = .ok (.iconst 5, 1) := by decide +kernel
theorem dX7_init_104 : decode cX7_init 104 = .ok (.iastore, 1) := by decide +kernel
theorem dX7_init_105 : decode cX7_init 105 = .ok (.aload_n 0, 1) := by decide +kernel
theorem dX7_init_106 : decode cX7_init 106 = .ok (.getfield 7, 3) := by decide +kernel
theorem dX7_init_109 : decode cX7_init 109 = .ok (.iconst 4, 1) := by decide +kernel
theorem dX7_init_110 : decode cX7_init 110 = .ok (.iconst 5, 1) := by decide +kernel
theorem dX7_init_111 : decode cX7_init 111 = .ok (.iastore, 1) := by decide +kernel
theorem dX7_init_112 : decode cX7_init 112 = .ok (.iconst 0, 1) := by decide +kernel
theorem dX7_init_113 : decode cX7_init 113 = .ok (.istore_n 1, 1) := by decide +kernel
theorem dX7_init_114 : decode cX7_init 114 = .ok (.iload_n 1, 1) := by decide +kernel
theorem dX7_init_115 : decode cX7_init 115 = .ok (.bipush 12, 2) := by decide +kernel
theorem dX7_init_117 : decode cX7_init 117 = .ok (.if_icmp .ge 26, 3) := by decide +kernel
theorem dX7_init_120 : decode cX7_init 120 = .ok (.aload_n 0, 1) := by decide +kernel
theorem dX7_init_121 : decode cX7_init 121 = .ok (.getfield 7, 3) := by decide +kernel
theorem dX7_init_124 : decode cX7_init 124 = .ok (.bipush 6, 2) := by decide +kernel
theorem dX7_init_126 : decode cX7_init 126 = .ok (.iload_n 1, 1) := by decide +kernel
theorem dX7_init_127 : decode cX7_init 127 = .ok (.iadd, 1) := by decide +kernel
theorem dX7_init_128 : decode cX7_init 128 = .ok (.iconst 4, 1) := by decide +kernel
theorem dX7_init_129 : decode cX7_init 129 = .ok (.iconst 5, 1) := by decide +kernel
theorem dX7_init_130 : decode cX7_init 130 = .ok (.iload_n 1, 1) := by decide +kernel
theorem dX7_init_131 : decode cX7_init 131 = .ok (.imul, 1) := by decide +kernel
theorem dX7_init_132 : decode cX7_init 132 = .ok (.bipush 13, 2) := by decide +kernel
theorem dX7_init_134 : decode cX7_init 134 = .ok (.irem, 1) := by decide +kernel
theorem dX7_init_135 : decode cX7_init 135 = .ok (.iadd, 1) := by decide +kernel
theorem dX7_init_136 : decode cX7_init 136 = .ok (.iastore, 1) := by decide +kernel
theorem dX7_init_137 : decode cX7_init 137 = .ok (.iinc 1 1, 3) := by decide +kernel
theorem dX7_init_140 : decode cX7_init 140 = .ok (.goto (-26), 3) := by decide +kernel
theorem dX7_init_143 : decode cX7_init 143 = .ok (.return_, 1) := by decide +kernel
theorem dX7_in_0 : decode cX7_in 0 = .ok (.iload_n 0, 1) := by decide +kernel
theorem dX7_in_1 : decode cX7_in 1 = .ok (.iload_n 1, 1) := by decide +kernel
theorem dX7_in_2 : decode cX7_in 2 = .ok (.if_icmp .lt 12, 3) := by decide +kernel
theorem dX7_in_5 : decode cX7_in 5 = .ok (.iload_n 0, 1) := by decide +kernel
theorem dX7_in_6 : decode cX7_in 6 = .ok (.iload_n 2, 1) := by decide +kernel
theorem dX7_in_7 : decode cX7_in 7 = .ok (.if_icmp .gt 7, 3) := by decide +kernel
theorem dX7_in_10 : decode cX7_in 10 = .ok (.iconst 1, 1) := by decide +kernel
theorem dX7_in_11 : decode cX7_in 11 = .ok (.goto 4, 3) := by decide +kernel
theorem dX7_in_14 : decode cX7_in 14 = .ok (.iconst 0, 1) := by decide +kernel
theorem dX7_in_15 : decode cX7_in 15 = .ok (.ireturn, 1) := by decide +kernel
theorem dX7_finds_0 : decode cX7_finds 0 = .ok (.aload_n 0, 1) := by decide +kernel
theorem dX7_finds_1 : decode cX7_finds 1 = .ok (.getfield 13, 3) := by decide +kernel
theorem dX7_finds_4 : decode cX7_finds 4 = .ok (.ldc 44, 2) := by decide +kernel
theorem dX7_finds_6 : decode cX7_finds 6 = .ok (.iload_n 1, 1) := by decide +kernel
theorem dX7_finds_7 : decode cX7_finds 7 = .ok (.isub, 1) := by decide +kernel
theorem dX7_finds_8 : decode cX7_finds 8 = .ok (.dup2, 1) := by decide +kernel
theorem dX7_finds_9 : decode cX7_finds 9 = .ok (.iaload, 1) := by decide +kernel
theorem dX7_finds_10 : decode cX7_finds 10 = .ok (.iconst 1, 1) := by decide +kernel
theorem dX7_finds_11 : decode cX7_finds 11 = .ok (.iadd, 1) := by decide +kernel
theorem dX7_finds_12 : decode cX7_finds 12 = .ok (.iastore, 1) := by decide +kernel
theorem dX7_finds_13 : decode cX7_finds 13 = .ok (.iload_n 1, 1) := by decide +kernel
theorem dX7_finds_14 : decode cX7_finds 14 = .ok (.ireturn, 1) := by decide +kernel
theorem dX7_held_0 : decode cX7_held 0 = .ok (.iload_n 0, 1) := by decide +kernel
theorem dX7_held_1 : decode cX7_held 1 = .ok (.iload_n 1, 1) := by decide +kernel
theorem dX7_held_2 : decode cX7_held 2 = .ok (.if_icmp .ge 7, 3) := by decide +kernel
theorem dX7_held_5 : decode cX7_held 5 = .ok (.iload_n 1, 1) := by decide +kernel
theorem dX7_held_6 : decode cX7_held 6 = .ok (.goto 13, 3) := by decide +kernel
theorem dX7_held_9 : decode cX7_held 9 = .ok (.iload_n 0, 1) := by decide +kernel
theorem dX7_held_10 : decode cX7_held 10 = .ok (.iload_n 2, 1) := by decide +kernel
theorem dX7_held_11 : decode cX7_held 11 = .ok (.if_icmp .le 7, 3) := by decide +kernel
theorem dX7_held_14 : decode cX7_held 14 = .ok (.iload_n 2, 1) := by decide +kernel
theorem dX7_held_15 : decode cX7_held 15 = .ok (.goto 4, 3) := by decide +kernel
theorem dX7_held_18 : decode cX7_held 18 = .ok (.iload_n 0, 1) := by decide +kernel
theorem dX7_held_19 : decode cX7_held 19 = .ok (.ireturn, 1) := by decide +kernel
theorem dX7_its_0 : decode cX7_its 0 = .ok (.aload_n 0, 1) := by decide +kernel
theorem dX7_its_1 : decode cX7_its 1 = .ok (.getfield 7, 3) := by decide +kernel
theorem dX7_its_4 : decode cX7_its 4 = .ok (.bipush 18, 2) := by decide +kernel
theorem dX7_its_6 : decode cX7_its 6 = .ok (.iconst 5, 1) := by decide +kernel
theorem dX7_its_7 : decode cX7_its 7 = .ok (.iload_n 1, 1) := by decide +kernel
theorem dX7_its_8 : decode cX7_its 8 = .ok (.imul, 1) := by decide +kernel
theorem dX7_its_9 : decode cX7_its 9 = .ok (.iadd, 1) := by decide +kernel
theorem dX7_its_10 : decode cX7_its 10 = .ok (.iload_n 2, 1) := by decide +kernel
theorem dX7_its_11 : decode cX7_its 11 = .ok (.iadd, 1) := by decide +kernel
theorem dX7_its_12 : decode cX7_its 12 = .ok (.iaload, 1) := by decide +kernel
theorem dX7_its_13 : decode cX7_its 13 = .ok (.ireturn, 1) := by decide +kernel
theorem dX7_puts_0 : decode cX7_puts 0 = .ok (.aload_n 0, 1) := by decide +kernel
theorem dX7_puts_1 : decode cX7_puts 1 = .ok (.getfield 7, 3) := by decide +kernel
theorem dX7_puts_4 : decode cX7_puts 4 = .ok (.bipush 18, 2) := by decide +kernel
theorem dX7_puts_6 : decode cX7_puts 6 = .ok (.iconst 5, 1) := by decide +kernel
theorem dX7_puts_7 : decode cX7_puts 7 = .ok (.iload_n 1, 1) := by decide +kernel
theorem dX7_puts_8 : decode cX7_puts 8 = .ok (.imul, 1) := by decide +kernel
theorem dX7_puts_9 : decode cX7_puts 9 = .ok (.iadd, 1) := by decide +kernel
theorem dX7_puts_10 : decode cX7_puts 10 = .ok (.iload_n 2, 1) := by decide +kernel
theorem dX7_puts_11 : decode cX7_puts 11 = .ok (.iadd, 1) := by decide +kernel
theorem dX7_puts_12 : decode cX7_puts 12 = .ok (.iload_n 3, 1) := by decide +kernel
theorem dX7_puts_13 : decode cX7_puts 13 = .ok (.iastore, 1) := by decide +kernel
theorem dX7_puts_14 : decode cX7_puts 14 = .ok (.return_, 1) := by decide +kernel
theorem dX7_becomes_0 : decode cX7_becomes 0 = .ok (.aload_n 0, 1) := by decide +kernel
theorem dX7_becomes_1 : decode cX7_becomes 1 = .ok (.getfield 7, 3) := by decide +kernel
theorem dX7_becomes_4 : decode cX7_becomes 4 = .ok (.iload_n 1, 1) := by decide +kernel
theorem dX7_becomes_5 : decode cX7_becomes 5 = .ok (.iaload, 1) := by decide +kernel
theorem dX7_becomes_6 : decode cX7_becomes 6 = .ok (.istore_n 3, 1) := by decide +kernel
theorem dX7_becomes_7 : decode cX7_becomes 7 = .ok (.aload_n 0, 1) := by decide +kernel
theorem dX7_becomes_8 : decode cX7_becomes 8 = .ok (.getfield 7, 3) := by decide +kernel
theorem dX7_becomes_11 : decode cX7_becomes 11 = .ok (.iload_n 1, 1) := by decide +kernel
theorem dX7_becomes_12 : decode cX7_becomes 12 = .ok (.iload_n 2, 1) := by decide +kernel
theorem dX7_becomes_13 : decode cX7_becomes 13 = .ok (.iastore, 1) := by decide +kernel
theorem dX7_becomes_14 : decode cX7_becomes 14 = .ok (.iload_n 3, 1) := by decide +kernel
theorem dX7_becomes_15 : decode cX7_becomes 15 = .ok (.ireturn, 1) := by decide +kernel
theorem dX7_isOne_0 : decode cX7_isOne 0 = .ok (.iload_n 1, 1) := by decide +kernel
theorem dX7_isOne_1 : decode cX7_isOne 1 = .ok (.iconst 0, 1) := by decide +kernel
theorem dX7_isOne_2 : decode cX7_isOne 2 = .ok (.aload_n 0, 1) := by decide +kernel
theorem dX7_isOne_3 : decode cX7_isOne 3 = .ok (.getfield 7, 3) := by decide +kernel
theorem dX7_isOne_6 : decode cX7_isOne 6 = .ok (.iconst 5, 1) := by decide +kernel
theorem dX7_isOne_7 : decode cX7_isOne 7 = .ok (.iaload, 1) := by decide +kernel
theorem dX7_isOne_8 : decode cX7_isOne 8 = .ok (.iconst 1, 1) := by decide +kernel
theorem dX7_isOne_9 : decode cX7_isOne 9 = .ok (.isub, 1) := by decide +kernel
theorem dX7_isOne_10 : decode cX7_isOne 10 = .ok (.invokestatic 45, 3) := by decide +kernel
theorem dX7_isOne_13 : decode cX7_isOne 13 = .ok (.ireturn, 1) := by decide +kernel
theorem dX7_isKind_0 : decode cX7_isKind 0 = .ok (.iload_n 0, 1) := by decide +kernel
theorem dX7_isKind_1 : decode cX7_isKind 1 = .ok (.iconst 0, 1) := by decide +kernel
theorem dX7_isKind_2 : decode cX7_isKind 2 = .ok (.iconst 5, 1) := by decide +kernel
theorem dX7_isKind_3 : decode cX7_isKind 3 = .ok (.invokestatic 45, 3) := by decide +kernel
theorem dX7_isKind_6 : decode cX7_isKind 6 = .ok (.ireturn, 1) := by decide +kernel
theorem dX7_bits_0 : decode cX7_bits 0 = .ok (.iconst 0, 1) := by decide +kernel
theorem dX7_bits_1 : decode cX7_bits 1 = .ok (.istore_n 1, 1) := by decide +kernel
theorem dX7_bits_2 : decode cX7_bits 2 = .ok (.iload_n 0, 1) := by decide +kernel
theorem dX7_bits_3 : decode cX7_bits 3 = .ok (.istore_n 2, 1) := by decide +kernel
theorem dX7_bits_4 : decode cX7_bits 4 = .ok (.iload_n 2, 1) := by decide +kernel
theorem dX7_bits_5 : decode cX7_bits 5 = .ok (.ifCond .eq 15, 3) := by decide +kernel
theorem dX7_bits_8 : decode cX7_bits 8 = .ok (.iinc 1 1, 3) := by decide +kernel
theorem dX7_bits_11 : decode cX7_bits 11 = .ok (.iload_n 2, 1) := by decide +kernel
theorem dX7_bits_12 : decode cX7_bits 12 = .ok (.iload_n 2, 1) := by decide +kernel
theorem dX7_bits_13 : decode cX7_bits 13 = .ok (.iconst 1, 1) := by decide +kernel
theorem dX7_bits_14 : decode cX7_bits 14 = .ok (.isub, 1) := by decide +kernel
theorem dX7_bits_15 : decode cX7_bits 15 = .ok (.iand, 1) := by decide +kernel
theorem dX7_bits_16 : decode cX7_bits 16 = .ok (.istore_n 2, 1) := by decide +kernel
theorem dX7_bits_17 : decode cX7_bits 17 = .ok (.goto (-13), 3) := by decide +kernel
theorem dX7_bits_20 : decode cX7_bits 20 = .ok (.iload_n 1, 1) := by decide +kernel
theorem dX7_bits_21 : decode cX7_bits 21 = .ok (.ireturn, 1) := by decide +kernel
theorem dX7_mostOf_0 : decode cX7_mostOf 0 = .ok (.iload_n 0, 1) := by decide +kernel
theorem dX7_mostOf_1 : decode cX7_mostOf 1 = .ok (.iconst 1, 1) := by decide +kernel
theorem dX7_mostOf_2 : decode cX7_mostOf 2 = .ok (.if_icmp .ne 8, 3) := by decide +kernel
theorem dX7_mostOf_5 : decode cX7_mostOf 5 = .ok (.bipush 8, 2) := by decide +kernel
theorem dX7_mostOf_7 : decode cX7_mostOf 7 = .ok (.goto 16, 3) := by decide +kernel
theorem dX7_mostOf_10 : decode cX7_mostOf 10 = .ok (.iload_n 0, 1) := by decide +kernel
theorem dX7_mostOf_11 : decode cX7_mostOf 11 = .ok (.iconst 2, 1) := by decide +kernel
theorem dX7_mostOf_12 : decode cX7_mostOf 12 = .ok (.if_icmp .ne 9, 3) := by decide +kernel
theorem dX7_mostOf_15 : decode cX7_mostOf 15 = .ok (.sipush 999, 3) := by decide +kernel
theorem dX7_mostOf_18 : decode cX7_mostOf 18 = .ok (.goto 5, 3) := by decide +kernel
theorem dX7_mostOf_21 : decode cX7_mostOf 21 = .ok (.bipush 9, 2) := by decide +kernel
theorem dX7_mostOf_23 : decode cX7_mostOf 23 = .ok (.ireturn, 1) := by decide +kernel
theorem dX7_jar_0 : decode cX7_jar 0 = .ok (.iload_n 1, 1) := by decide +kernel
theorem dX7_jar_1 : decode cX7_jar 1 = .ok (.iconst 0, 1) := by decide +kernel
theorem dX7_jar_2 : decode cX7_jar 2 = .ok (.iconst 3, 1) := by decide +kernel
theorem dX7_jar_3 : decode cX7_jar 3 = .ok (.invokestatic 45, 3) := by decide +kernel
theorem dX7_jar_6 : decode cX7_jar 6 = .ok (.ifCond .eq 26, 3) := by decide +kernel
theorem dX7_jar_9 : decode cX7_jar 9 = .ok (.iload_n 2, 1) := by decide +kernel
theorem dX7_jar_10 : decode cX7_jar 10 = .ok (.iconst 0, 1) := by decide +kernel
theorem dX7_jar_11 : decode cX7_jar 11 = .ok (.iload_n 1, 1) := by decide +kernel
theorem dX7_jar_12 : decode cX7_jar 12 = .ok (.invokestatic 49, 3) := by decide +kernel
theorem dX7_jar_15 : decode cX7_jar 15 = .ok (.invokestatic 45, 3) := by decide +kernel
theorem dX7_jar_18 : decode cX7_jar 18 = .ok (.ifCond .eq 14, 3) := by decide +kernel
theorem dX7_jar_21 : decode cX7_jar 21 = .ok (.aload_n 0, 1) := by decide +kernel
theorem dX7_jar_22 : decode cX7_jar 22 = .ok (.iconst 1, 1) := by decide +kernel
theorem dX7_jar_23 : decode cX7_jar 23 = .ok (.iload_n 1, 1) := by decide +kernel
theorem dX7_jar_24 : decode cX7_jar 24 = .ok (.iadd, 1) := by decide +kernel
theorem dX7_jar_25 : decode cX7_jar 25 = .ok (.iload_n 2, 1) := by decide +kernel
theorem dX7_jar_26 : decode cX7_jar 26 = .ok (.invokevirtual 53, 3) := by decide +kernel
theorem dX7_jar_29 : decode cX7_jar 29 = .ok (.goto 9, 3) := by decide +kernel
theorem dX7_jar_32 : decode cX7_jar 32 = .ok (.aload_n 0, 1) := by decide +kernel
theorem dX7_jar_33 : decode cX7_jar 33 = .ok (.ldc 44, 2) := by decide +kernel
theorem dX7_jar_35 : decode cX7_jar 35 = .ok (.invokevirtual 57, 3) := by decide +kernel
theorem dX7_jar_38 : decode cX7_jar 38 = .ok (.ireturn, 1) := by decide +kernel
theorem dX7_dark_0 : decode cX7_dark 0 = .ok (.iload_n 1, 1) := by decide +kernel
theorem dX7_dark_1 : decode cX7_dark 1 = .ok (.iconst 0, 1) := by decide +kernel
theorem dX7_dark_2 : decode cX7_dark 2 = .ok (.bipush 11, 2) := by decide +kernel
theorem dX7_dark_4 : decode cX7_dark 4 = .ok (.invokestatic 45, 3) := by decide +kernel
theorem dX7_dark_7 : decode cX7_dark 7 = .ok (.ifCond .eq 25, 3) := by decide +kernel
theorem dX7_dark_10 : decode cX7_dark 10 = .ok (.iload_n 2, 1) := by decide +kernel
theorem dX7_dark_11 : decode cX7_dark 11 = .ok (.iconst 0, 1) := by decide +kernel
theorem dX7_dark_12 : decode cX7_dark 12 = .ok (.bipush 20, 2) := by decide +kernel
theorem dX7_dark_14 : decode cX7_dark 14 = .ok (.invokestatic 45, 3) := by decide +kernel
theorem dX7_dark_17 : decode cX7_dark 17 = .ok (.ifCond .eq 15, 3) := by decide +kernel
theorem dX7_dark_20 : decode cX7_dark 20 = .ok (.aload_n 0, 1) := by decide +kernel
theorem dX7_dark_21 : decode cX7_dark 21 = .ok (.bipush 6, 2) := by decide +kernel
theorem dX7_dark_23 : decode cX7_dark 23 = .ok (.iload_n 1, 1) := by decide +kernel
theorem dX7_dark_24 : decode cX7_dark 24 = .ok (.iadd, 1) := by decide +kernel
theorem dX7_dark_25 : decode cX7_dark 25 = .ok (.iload_n 2, 1) := by decide +kernel
theorem dX7_dark_26 : decode cX7_dark 26 = .ok (.invokevirtual 53, 3) := by decide +kernel
theorem dX7_dark_29 : decode cX7_dark 29 = .ok (.goto 9, 3) := by decide +kernel
theorem dX7_dark_32 : decode cX7_dark 32 = .ok (.aload_n 0, 1) := by decide +kernel
theorem dX7_dark_33 : decode cX7_dark 33 = .ok (.ldc 44, 2) := by decide +kernel
theorem dX7_dark_35 : decode cX7_dark 35 = .ok (.invokevirtual 57, 3) := by decide +kernel
theorem dX7_dark_38 : decode cX7_dark 38 = .ok (.ireturn, 1) := by decide +kernel
theorem dX7_darkNow_0 : decode cX7_darkNow 0 = .ok (.aload_n 0, 1) := by decide +kernel
theorem dX7_darkNow_1 : decode cX7_darkNow 1 = .ok (.getfield 7, 3) := by decide +kernel
theorem dX7_darkNow_4 : decode cX7_darkNow 4 = .ok (.bipush 6, 2) := by decide +kernel
theorem dX7_darkNow_6 : decode cX7_darkNow 6 = .ok (.aload_n 0, 1) := by decide +kernel
theorem dX7_darkNow_7 : decode cX7_darkNow 7 = .ok (.getfield 7, 3) := by decide +kernel
theorem dX7_darkNow_10 : decode cX7_darkNow 10 = .ok (.iconst 0, 1) := by decide +kernel
theorem dX7_darkNow_11 : decode cX7_darkNow 11 = .ok (.iaload, 1) := by decide +kernel
theorem dX7_darkNow_12 : decode cX7_darkNow 12 = .ok (.bipush 12, 2) := by decide +kernel
theorem dX7_darkNow_14 : decode cX7_darkNow 14 = .ok (.irem, 1) := by decide +kernel
theorem dX7_darkNow_15 : decode cX7_darkNow 15 = .ok (.iadd, 1) := by decide +kernel
theorem dX7_darkNow_16 : decode cX7_darkNow 16 = .ok (.iaload, 1) := by decide +kernel
theorem dX7_darkNow_17 : decode cX7_darkNow 17 = .ok (.ireturn, 1) := by decide +kernel
theorem dX7_costs_0 : decode cX7_costs 0 = .ok (.iconst 1, 1) := by decide +kernel
theorem dX7_costs_1 : decode cX7_costs 1 = .ok (.iload_n 1, 1) := by decide +kernel
theorem dX7_costs_2 : decode cX7_costs 2 = .ok (.bipush 20, 2) := by decide +kernel
theorem dX7_costs_4 : decode cX7_costs 4 = .ok (.idiv, 1) := by decide +kernel
theorem dX7_costs_5 : decode cX7_costs 5 = .ok (.iadd, 1) := by decide +kernel
theorem dX7_costs_6 : decode cX7_costs 6 = .ok (.istore_n 2, 1) := by decide +kernel
theorem dX7_costs_7 : decode cX7_costs 7 = .ok (.iload_n 2, 1) := by decide +kernel
theorem dX7_costs_8 : decode cX7_costs 8 = .ok (.iconst 2, 1) := by decide +kernel
theorem dX7_costs_9 : decode cX7_costs 9 = .ok (.idiv, 1) := by decide +kernel
theorem dX7_costs_10 : decode cX7_costs 10 = .ok (.iconst 1, 1) := by decide +kernel
theorem dX7_costs_11 : decode cX7_costs 11 = .ok (.if_icmp .le 9, 3) := by decide +kernel
theorem dX7_costs_14 : decode cX7_costs 14 = .ok (.iload_n 2, 1) := by decide +kernel
theorem dX7_costs_15 : decode cX7_costs 15 = .ok (.iconst 2, 1) := by decide +kernel
theorem dX7_costs_16 : decode cX7_costs 16 = .ok (.idiv, 1) := by decide +kernel
theorem dX7_costs_17 : decode cX7_costs 17 = .ok (.goto 4, 3) := by decide +kernel
theorem dX7_costs_20 : decode cX7_costs 20 = .ok (.iconst 1, 1) := by decide +kernel
theorem dX7_costs_21 : decode cX7_costs 21 = .ok (.istore_n 3, 1) := by decide +kernel
theorem dX7_costs_22 : decode cX7_costs 22 = .ok (.iload_n 0, 1) := by decide +kernel
theorem dX7_costs_23 : decode cX7_costs 23 = .ok (.tableswitch 51 1 5 #[33, 41, 47, 37, 43], 33) := by decide +kernel
theorem dX7_costs_56 : decode cX7_costs 56 = .ok (.iload_n 2, 1) := by decide +kernel
theorem dX7_costs_57 : decode cX7_costs 57 = .ok (.iconst 2, 1) := by decide +kernel
theorem dX7_costs_58 : decode cX7_costs 58 = .ok (.iadd, 1) := by decide +kernel
theorem dX7_costs_59 : decode cX7_costs 59 = .ok (.ireturn, 1) := by decide +kernel
theorem dX7_costs_60 : decode cX7_costs 60 = .ok (.iload_n 2, 1) := by decide +kernel
theorem dX7_costs_61 : decode cX7_costs 61 = .ok (.iconst 1, 1) := by decide +kernel
theorem dX7_costs_62 : decode cX7_costs 62 = .ok (.iadd, 1) := by decide +kernel
theorem dX7_costs_63 : decode cX7_costs 63 = .ok (.ireturn, 1) := by decide +kernel
theorem dX7_costs_64 : decode cX7_costs 64 = .ok (.iload_n 3, 1) := by decide +kernel
theorem dX7_costs_65 : decode cX7_costs 65 = .ok (.ireturn, 1) := by decide +kernel
theorem dX7_costs_66 : decode cX7_costs 66 = .ok (.iload_n 3, 1) := by decide +kernel
theorem dX7_costs_67 : decode cX7_costs 67 = .ok (.iconst 1, 1) := by decide +kernel
theorem dX7_costs_68 : decode cX7_costs 68 = .ok (.iadd, 1) := by decide +kernel
theorem dX7_costs_69 : decode cX7_costs 69 = .ok (.ireturn, 1) := by decide +kernel
theorem dX7_costs_70 : decode cX7_costs 70 = .ok (.iconst 2, 1) := by decide +kernel
theorem dX7_costs_71 : decode cX7_costs 71 = .ok (.iload_n 2, 1) := by decide +kernel
theorem dX7_costs_72 : decode cX7_costs 72 = .ok (.imul, 1) := by decide +kernel
theorem dX7_costs_73 : decode cX7_costs 73 = .ok (.ireturn, 1) := by decide +kernel
theorem dX7_costs_74 : decode cX7_costs 74 = .ok (.iload_n 2, 1) := by decide +kernel
theorem dX7_costs_75 : decode cX7_costs 75 = .ok (.ireturn, 1) := by decide +kernel
theorem dX7_takes_0 : decode cX7_takes 0 = .ok (.iload_n 0, 1) := by decide +kernel
theorem dX7_takes_1 : decode cX7_takes 1 = .ok (.tableswitch 82 1 5 #[35, 82, 48, 35, 70], 35) := by decide +kernel
theorem dX7_takes_36 : decode cX7_takes 36 = .ok (.iconst 4, 1) := by decide +kernel
theorem dX7_takes_37 : decode cX7_takes 37 = .ok (.iload_n 1, 1) := by decide +kernel
theorem dX7_takes_38 : decode cX7_takes 38 = .ok (.imul, 1) := by decide +kernel
theorem dX7_takes_39 : decode cX7_takes 39 = .ok (.bipush 10, 2) := by decide +kernel
theorem dX7_takes_41 : decode cX7_takes 41 = .ok (.iadd, 1) := by decide +kernel
theorem dX7_takes_42 : decode cX7_takes 42 = .ok (.iconst 0, 1) := by decide +kernel
theorem dX7_takes_43 : decode cX7_takes 43 = .ok (.bipush 99, 2) := by decide +kernel
theorem dX7_takes_45 : decode cX7_takes 45 = .ok (.invokestatic 60, 3) := by decide +kernel
theorem dX7_takes_48 : decode cX7_takes 48 = .ok (.ireturn, 1) := by decide +kernel
theorem dX7_takes_49 : decode cX7_takes 49 = .ok (.iload_n 1, 1) := by decide +kernel
theorem dX7_takes_50 : decode cX7_takes 50 = .ok (.bipush 15, 2) := by decide +kernel
theorem dX7_takes_52 : decode cX7_takes 52 = .ok (.if_icmp .lt 9, 3) := by decide +kernel
theorem dX7_takes_55 : decode cX7_takes 55 = .ok (.iconst 5, 1) := by decide +kernel
theorem dX7_takes_56 : decode cX7_takes 56 = .ok (.iload_n 1, 1) := by decide +kernel
theorem dX7_takes_57 : decode cX7_takes 57 = .ok (.imul, 1) := by decide +kernel
theorem dX7_takes_58 : decode cX7_takes 58 = .ok (.goto 6, 3) := by decide +kernel
theorem dX7_takes_61 : decode cX7_takes 61 = .ok (.iconst 4, 1) := by decide +kernel
theorem dX7_takes_62 : decode cX7_takes 62 = .ok (.iload_n 1, 1) := by decide +kernel
theorem dX7_takes_63 : decode cX7_takes 63 = .ok (.imul, 1) := by decide +kernel
theorem dX7_takes_64 : decode cX7_takes 64 = .ok (.iconst 0, 1) := by decide +kernel
theorem dX7_takes_65 : decode cX7_takes 65 = .ok (.bipush 99, 2) := by decide +kernel
theorem dX7_takes_67 : decode cX7_takes 67 = .ok (.invokestatic 60, 3) := by decide +kernel
theorem dX7_takes_70 : decode cX7_takes 70 = .ok (.ireturn, 1) := by decide +kernel
theorem dX7_takes_71 : decode cX7_takes 71 = .ok (.iconst 4, 1) := by decide +kernel
theorem dX7_takes_72 : decode cX7_takes 72 = .ok (.iload_n 1, 1) := by decide +kernel
theorem dX7_takes_73 : decode cX7_takes 73 = .ok (.imul, 1) := by decide +kernel
theorem dX7_takes_74 : decode cX7_takes 74 = .ok (.iconst 5, 1) := by decide +kernel
theorem dX7_takes_75 : decode cX7_takes 75 = .ok (.isub, 1) := by decide +kernel
theorem dX7_takes_76 : decode cX7_takes 76 = .ok (.iconst 0, 1) := by decide +kernel
theorem dX7_takes_77 : decode cX7_takes 77 = .ok (.bipush 99, 2) := by decide +kernel
theorem dX7_takes_79 : decode cX7_takes 79 = .ok (.invokestatic 60, 3) := by decide +kernel
theorem dX7_takes_82 : decode cX7_takes 82 = .ok (.ireturn, 1) := by decide +kernel
theorem dX7_takes_83 : decode cX7_takes 83 = .ok (.iconst 4, 1) := by decide +kernel
theorem dX7_takes_84 : decode cX7_takes 84 = .ok (.iload_n 1, 1) := by decide +kernel
theorem dX7_takes_85 : decode cX7_takes 85 = .ok (.imul, 1) := by decide +kernel
theorem dX7_takes_86 : decode cX7_takes 86 = .ok (.iconst 0, 1) := by decide +kernel
theorem dX7_takes_87 : decode cX7_takes 87 = .ok (.bipush 99, 2) := by decide +kernel
theorem dX7_takes_89 : decode cX7_takes 89 = .ok (.invokestatic 60, 3) := by decide +kernel
theorem dX7_takes_92 : decode cX7_takes 92 = .ok (.ireturn, 1) := by decide +kernel
theorem dX7_fades_0 : decode cX7_fades 0 = .ok (.aload_n 0, 1) := by decide +kernel
theorem dX7_fades_1 : decode cX7_fades 1 = .ok (.iload_n 1, 1) := by decide +kernel
theorem dX7_fades_2 : decode cX7_fades 2 = .ok (.iconst 3, 1) := by decide +kernel
theorem dX7_fades_3 : decode cX7_fades 3 = .ok (.invokevirtual 64, 3) := by decide +kernel
theorem dX7_fades_6 : decode cX7_fades 6 = .ok (.iconst 1, 1) := by decide +kernel
theorem dX7_fades_7 : decode cX7_fades 7 = .ok (.if_icmp .ne 8, 3) := by decide +kernel
theorem dX7_fades_10 : decode cX7_fades 10 = .ok (.bipush 9, 2) := by decide +kernel
theorem dX7_fades_12 : decode cX7_fades 12 = .ok (.goto 4, 3) := by decide +kernel
theorem dX7_fades_15 : decode cX7_fades 15 = .ok (.iconst 0, 1) := by decide +kernel
theorem dX7_fades_16 : decode cX7_fades 16 = .ok (.istore_n 2, 1) := by decide +kernel
theorem dX7_fades_17 : decode cX7_fades 17 = .ok (.aload_n 0, 1) := by decide +kernel
theorem dX7_fades_18 : decode cX7_fades 18 = .ok (.iload_n 1, 1) := by decide +kernel
theorem dX7_fades_19 : decode cX7_fades 19 = .ok (.iconst 0, 1) := by decide +kernel
theorem dX7_fades_20 : decode cX7_fades 20 = .ok (.invokevirtual 64, 3) := by decide +kernel
theorem dX7_fades_23 : decode cX7_fades 23 = .ok (.tableswitch 71 1 5 #[33, 54, 71, 37, 58], 33) := by decide +kernel
theorem dX7_fades_56 : decode cX7_fades 56 = .ok (.iload_n 2, 1) := by decide +kernel
theorem dX7_fades_57 : decode cX7_fades 57 = .ok (.iconst 2, 1) := by decide +kernel
theorem dX7_fades_58 : decode cX7_fades 58 = .ok (.idiv, 1) := by decide +kernel
theorem dX7_fades_59 : decode cX7_fades 59 = .ok (.ireturn, 1) := by decide +kernel
theorem dX7_fades_60 : decode cX7_fades 60 = .ok (.aload_n 0, 1) := by decide +kernel
theorem dX7_fades_61 : decode cX7_fades 61 = .ok (.iload_n 1, 1) := by decide +kernel
theorem dX7_fades_62 : decode cX7_fades 62 = .ok (.iconst 4, 1) := by decide +kernel
theorem dX7_fades_63 : decode cX7_fades 63 = .ok (.invokevirtual 64, 3) := by decide +kernel
theorem dX7_fades_66 : decode cX7_fades 66 = .ok (.ifCond .ne 7, 3) := by decide +kernel
theorem dX7_fades_69 : decode cX7_fades 69 = .ok (.iconst 0, 1) := by decide +kernel
theorem dX7_fades_70 : decode cX7_fades 70 = .ok (.goto 6, 3) := by decide +kernel
theorem dX7_fades_73 : decode cX7_fades 73 = .ok (.iload_n 2, 1) := by decide +kernel
theorem dX7_fades_74 : decode cX7_fades 74 = .ok (.iconst 2, 1) := by decide +kernel
theorem dX7_fades_75 : decode cX7_fades 75 = .ok (.idiv, 1) := by decide +kernel
theorem dX7_fades_76 : decode cX7_fades 76 = .ok (.ireturn, 1) := by decide +kernel
theorem dX7_fades_77 : decode cX7_fades 77 = .ok (.iload_n 2, 1) := by decide +kernel
theorem dX7_fades_78 : decode cX7_fades 78 = .ok (.iconst 1, 1) := by decide +kernel
theorem dX7_fades_79 : decode cX7_fades 79 = .ok (.iadd, 1) := by decide +kernel
theorem dX7_fades_80 : decode cX7_fades 80 = .ok (.ireturn, 1) := by decide +kernel
theorem dX7_fades_81 : decode cX7_fades 81 = .ok (.iload_n 2, 1) := by decide +kernel
theorem dX7_fades_82 : decode cX7_fades 82 = .ok (.iconst 1, 1) := by decide +kernel
theorem dX7_fades_83 : decode cX7_fades 83 = .ok (.iadd, 1) := by decide +kernel
theorem dX7_fades_84 : decode cX7_fades 84 = .ok (.aload_n 0, 1) := by decide +kernel
theorem dX7_fades_85 : decode cX7_fades 85 = .ok (.iload_n 1, 1) := by decide +kernel
theorem dX7_fades_86 : decode cX7_fades 86 = .ok (.iconst 4, 1) := by decide +kernel
theorem dX7_fades_87 : decode cX7_fades 87 = .ok (.invokevirtual 64, 3) := by decide +kernel
theorem dX7_fades_90 : decode cX7_fades 90 = .ok (.iconst 4, 1) := by decide +kernel
theorem dX7_fades_91 : decode cX7_fades 91 = .ok (.idiv, 1) := by decide +kernel
theorem dX7_fades_92 : decode cX7_fades 92 = .ok (.iadd, 1) := by decide +kernel
theorem dX7_fades_93 : decode cX7_fades 93 = .ok (.ireturn, 1) := by decide +kernel
theorem dX7_fades_94 : decode cX7_fades 94 = .ok (.iload_n 2, 1) := by decide +kernel
theorem dX7_fades_95 : decode cX7_fades 95 = .ok (.ireturn, 1) := by decide +kernel
theorem dX7_believed_0 : decode cX7_believed 0 = .ok (.aload_n 0, 1) := by decide +kernel
theorem dX7_believed_1 : decode cX7_believed 1 = .ok (.iload_n 1, 1) := by decide +kernel
theorem dX7_believed_2 : decode cX7_believed 2 = .ok (.iconst 2, 1) := by decide +kernel
theorem dX7_believed_3 : decode cX7_believed 3 = .ok (.invokevirtual 64, 3) := by decide +kernel
theorem dX7_believed_6 : decode cX7_believed 6 = .ok (.istore_n 2, 1) := by decide +kernel
theorem dX7_believed_7 : decode cX7_believed 7 = .ok (.aload_n 0, 1) := by decide +kernel
theorem dX7_believed_8 : decode cX7_believed 8 = .ok (.getfield 7, 3) := by decide +kernel
theorem dX7_believed_11 : decode cX7_believed 11 = .ok (.iconst 4, 1) := by decide +kernel
theorem dX7_believed_12 : decode cX7_believed 12 = .ok (.iaload, 1) := by decide +kernel
theorem dX7_believed_13 : decode cX7_believed 13 = .ok (.istore_n 3, 1) := by decide +kernel
theorem dX7_believed_14 : decode cX7_believed 14 = .ok (.iload_n 2, 1) := by decide +kernel
theorem dX7_believed_15 : decode cX7_believed 15 = .ok (.ifCond .ne 5, 3) := by decide +kernel
theorem dX7_believed_18 : decode cX7_believed 18 = .ok (.iconst 0, 1) := by decide +kernel
theorem dX7_believed_19 : decode cX7_believed 19 = .ok (.ireturn, 1) := by decide +kernel
theorem dX7_believed_20 : decode cX7_believed 20 = .ok (.iload_n 2, 1) := by decide +kernel
theorem dX7_believed_21 : decode cX7_believed 21 = .ok (.iload_n 3, 1) := by decide +kernel
theorem dX7_believed_22 : decode cX7_believed 22 = .ok (.imul, 1) := by decide +kernel
theorem dX7_believed_23 : decode cX7_believed 23 = .ok (.bipush 9, 2) := by decide +kernel
theorem dX7_believed_25 : decode cX7_believed 25 = .ok (.idiv, 1) := by decide +kernel
theorem dX7_believed_26 : decode cX7_believed 26 = .ok (.istore 4, 2) := by decide +kernel
theorem dX7_believed_28 : decode cX7_believed 28 = .ok (.iload_n 2, 1) := by decide +kernel
theorem dX7_believed_29 : decode cX7_believed 29 = .ok (.bipush 50, 2) := by decide +kernel
theorem dX7_believed_31 : decode cX7_believed 31 = .ok (.if_icmp .le 10, 3) := by decide +kernel
theorem dX7_believed_34 : decode cX7_believed 34 = .ok (.iload 4, 2) := by decide +kernel
theorem dX7_believed_36 : decode cX7_believed 36 = .ok (.iconst 5, 1) := by decide +kernel
theorem dX7_believed_37 : decode cX7_believed 37 = .ok (.iadd, 1) := by decide +kernel
theorem dX7_believed_38 : decode cX7_believed 38 = .ok (.goto 5, 3) := by decide +kernel
theorem dX7_believed_41 : decode cX7_believed 41 = .ok (.iload 4, 2) := by decide +kernel
theorem dX7_believed_43 : decode cX7_believed 43 = .ok (.istore 5, 2) := by decide +kernel
theorem dX7_believed_45 : decode cX7_believed 45 = .ok (.iload 4, 2) := by decide +kernel
theorem dX7_believed_47 : decode cX7_believed 47 = .ok (.aload_n 0, 1) := by decide +kernel
theorem dX7_believed_48 : decode cX7_believed 48 = .ok (.iload_n 1, 1) := by decide +kernel
theorem dX7_believed_49 : decode cX7_believed 49 = .ok (.iconst 4, 1) := by decide +kernel
theorem dX7_believed_50 : decode cX7_believed 50 = .ok (.invokevirtual 64, 3) := by decide +kernel
theorem dX7_believed_53 : decode cX7_believed 53 = .ok (.if_icmp .le 15, 3) := by decide +kernel
theorem dX7_believed_56 : decode cX7_believed 56 = .ok (.iload 4, 2) := by decide +kernel
theorem dX7_believed_58 : decode cX7_believed 58 = .ok (.aload_n 0, 1) := by decide +kernel
theorem dX7_believed_59 : decode cX7_believed 59 = .ok (.iload_n 1, 1) := by decide +kernel
theorem dX7_believed_60 : decode cX7_believed 60 = .ok (.iconst 4, 1) := by decide +kernel
theorem dX7_believed_61 : decode cX7_believed 61 = .ok (.invokevirtual 64, 3) := by decide +kernel
theorem dX7_believed_64 : decode cX7_believed 64 = .ok (.isub, 1) := by decide +kernel
theorem dX7_believed_65 : decode cX7_believed 65 = .ok (.goto 4, 3) := by decide +kernel
theorem dX7_believed_68 : decode cX7_believed 68 = .ok (.iconst 0, 1) := by decide +kernel
theorem dX7_believed_69 : decode cX7_believed 69 = .ok (.istore 6, 2) := by decide +kernel
theorem dX7_believed_71 : decode cX7_believed 71 = .ok (.aload_n 0, 1) := by decide +kernel
theorem dX7_believed_72 : decode cX7_believed 72 = .ok (.iload_n 1, 1) := by decide +kernel
theorem dX7_believed_73 : decode cX7_believed 73 = .ok (.iconst 0, 1) := by decide +kernel
theorem dX7_believed_74 : decode cX7_believed 74 = .ok (.invokevirtual 64, 3) := by decide +kernel
theorem dX7_believed_77 : decode cX7_believed 77 = .ok (.tableswitch 62 1 5 #[35, 43, 51, 38, 46], 35) := by decide +kernel
theorem dX7_believed_112 : decode cX7_believed 112 = .ok (.iload 5, 2) := by decide +kernel
theorem dX7_believed_114 : decode cX7_believed 114 = .ok (.ireturn, 1) := by decide +kernel
theorem dX7_believed_115 : decode cX7_believed 115 = .ok (.iconst 2, 1) := by decide +kernel
theorem dX7_believed_116 : decode cX7_believed 116 = .ok (.iload 5, 2) := by decide +kernel
theorem dX7_believed_118 : decode cX7_believed 118 = .ok (.imul, 1) := by decide +kernel
theorem dX7_believed_119 : decode cX7_believed 119 = .ok (.ireturn, 1) := by decide +kernel
theorem dX7_believed_120 : decode cX7_believed 120 = .ok (.iload 6, 2) := by decide +kernel
theorem dX7_believed_122 : decode cX7_believed 122 = .ok (.ireturn, 1) := by decide +kernel
theorem dX7_believed_123 : decode cX7_believed 123 = .ok (.iload 6, 2) := by decide +kernel
theorem dX7_believed_125 : decode cX7_believed 125 = .ok (.iload_n 3, 1) := by decide +kernel
theorem dX7_believed_126 : decode cX7_believed 126 = .ok (.iadd, 1) := by decide +kernel
theorem dX7_believed_127 : decode cX7_believed 127 = .ok (.ireturn, 1) := by decide +kernel
theorem dX7_believed_128 : decode cX7_believed 128 = .ok (.iload_n 3, 1) := by decide +kernel
theorem dX7_believed_129 : decode cX7_believed 129 = .ok (.iconst 5, 1) := by decide +kernel
theorem dX7_believed_130 : decode cX7_believed 130 = .ok (.if_icmp .lt 7, 3) := by decide +kernel
theorem dX7_believed_133 : decode cX7_believed 133 = .ok (.iload_n 2, 1) := by decide +kernel
theorem dX7_believed_134 : decode cX7_believed 134 = .ok (.goto 4, 3) := by decide +kernel
theorem dX7_believed_137 : decode cX7_believed 137 = .ok (.iconst 0, 1) := by decide +kernel
theorem dX7_believed_138 : decode cX7_believed 138 = .ok (.ireturn, 1) := by decide +kernel
theorem dX7_believed_139 : decode cX7_believed 139 = .ok (.iload 4, 2) := by decide +kernel
theorem dX7_believed_141 : decode cX7_believed 141 = .ok (.ireturn, 1) := by decide +kernel
theorem dX7_notWhite_0 : decode cX7_notWhite 0 = .ok (.iconst 0, 1) := by decide +kernel
theorem dX7_notWhite_1 : decode cX7_notWhite 1 = .ok (.istore_n 1, 1) := by decide +kernel
theorem dX7_notWhite_2 : decode cX7_notWhite 2 = .ok (.iconst 0, 1) := by decide +kernel
theorem dX7_notWhite_3 : decode cX7_notWhite 3 = .ok (.istore_n 2, 1) := by decide +kernel
theorem dX7_notWhite_4 : decode cX7_notWhite 4 = .ok (.iload_n 2, 1) := by decide +kernel
theorem dX7_notWhite_5 : decode cX7_notWhite 5 = .ok (.aload_n 0, 1) := by decide +kernel
theorem dX7_notWhite_6 : decode cX7_notWhite 6 = .ok (.getfield 7, 3) := by decide +kernel
theorem dX7_notWhite_9 : decode cX7_notWhite 9 = .ok (.iconst 5, 1) := by decide +kernel
theorem dX7_notWhite_10 : decode cX7_notWhite 10 = .ok (.iaload, 1) := by decide +kernel
theorem dX7_notWhite_11 : decode cX7_notWhite 11 = .ok (.if_icmp .ge 28, 3) := by decide +kernel
theorem dX7_notWhite_14 : decode cX7_notWhite 14 = .ok (.iload_n 1, 1) := by decide +kernel
theorem dX7_notWhite_15 : decode cX7_notWhite 15 = .ok (.aload_n 0, 1) := by decide +kernel
theorem dX7_notWhite_16 : decode cX7_notWhite 16 = .ok (.iload_n 2, 1) := by decide +kernel
theorem dX7_notWhite_17 : decode cX7_notWhite 17 = .ok (.iconst 2, 1) := by decide +kernel
theorem dX7_notWhite_18 : decode cX7_notWhite 18 = .ok (.invokevirtual 64, 3) := by decide +kernel
theorem dX7_notWhite_21 : decode cX7_notWhite 21 = .ok (.ifCond .le 9, 3) := by decide +kernel
theorem dX7_notWhite_24 : decode cX7_notWhite 24 = .ok (.iconst 1, 1) := by decide +kernel
theorem dX7_notWhite_25 : decode cX7_notWhite 25 = .ok (.iload_n 2, 1) := by decide +kernel
theorem dX7_notWhite_26 : decode cX7_notWhite 26 = .ok (.ishl, 1) := by decide +kernel
theorem dX7_notWhite_27 : decode cX7_notWhite 27 = .ok (.goto 4, 3) := by decide +kernel
theorem dX7_notWhite_30 : decode cX7_notWhite 30 = .ok (.iconst 0, 1) := by decide +kernel
theorem dX7_notWhite_31 : decode cX7_notWhite 31 = .ok (.ior, 1) := by decide +kernel
theorem dX7_notWhite_32 : decode cX7_notWhite 32 = .ok (.istore_n 1, 1) := by decide +kernel
theorem dX7_notWhite_33 : decode cX7_notWhite 33 = .ok (.iinc 2 1, 3) := by decide +kernel
theorem dX7_notWhite_36 : decode cX7_notWhite 36 = .ok (.goto (-32), 3) := by decide +kernel
theorem dX7_notWhite_39 : decode cX7_notWhite 39 = .ok (.iload_n 1, 1) := by decide +kernel
theorem dX7_notWhite_40 : decode cX7_notWhite 40 = .ok (.ireturn, 1) := by decide +kernel
theorem dX7_allBelieved_0 : decode cX7_allBelieved 0 = .ok (.iconst 0, 1) := by decide +kernel
theorem dX7_allBelieved_1 : decode cX7_allBelieved 1 = .ok (.istore_n 1, 1) := by decide +kernel
theorem dX7_allBelieved_2 : decode cX7_allBelieved 2 = .ok (.iconst 0, 1) := by decide +kernel
theorem dX7_allBelieved_3 : decode cX7_allBelieved 3 = .ok (.istore_n 2, 1) := by decide +kernel
theorem dX7_allBelieved_4 : decode cX7_allBelieved 4 = .ok (.iload_n 2, 1) := by decide +kernel
theorem dX7_allBelieved_5 : decode cX7_allBelieved 5 = .ok (.aload_n 0, 1) := by decide +kernel
theorem dX7_allBelieved_6 : decode cX7_allBelieved 6 = .ok (.getfield 7, 3) := by decide +kernel
theorem dX7_allBelieved_9 : decode cX7_allBelieved 9 = .ok (.iconst 5, 1) := by decide +kernel
theorem dX7_allBelieved_10 : decode cX7_allBelieved 10 = .ok (.iaload, 1) := by decide +kernel
theorem dX7_allBelieved_11 : decode cX7_allBelieved 11 = .ok (.if_icmp .ge 17, 3) := by decide +kernel
theorem dX7_allBelieved_14 : decode cX7_allBelieved 14 = .ok (.iload_n 1, 1) := by decide +kernel
theorem dX7_allBelieved_15 : decode cX7_allBelieved 15 = .ok (.aload_n 0, 1) := by decide +kernel
theorem dX7_allBelieved_16 : decode cX7_allBelieved 16 = .ok (.iload_n 2, 1) := by decide +kernel
theorem dX7_allBelieved_17 : decode cX7_allBelieved 17 = .ok (.invokevirtual 67, 3) := by decide +kernel
theorem dX7_allBelieved_20 : decode cX7_allBelieved 20 = .ok (.iadd, 1) := by decide +kernel
theorem dX7_allBelieved_21 : decode cX7_allBelieved 21 = .ok (.istore_n 1, 1) := by decide +kernel
theorem dX7_allBelieved_22 : decode cX7_allBelieved 22 = .ok (.iinc 2 1, 3) := by decide +kernel
theorem dX7_allBelieved_25 : decode cX7_allBelieved 25 = .ok (.goto (-21), 3) := by decide +kernel
theorem dX7_allBelieved_28 : decode cX7_allBelieved 28 = .ok (.iload_n 1, 1) := by decide +kernel
theorem dX7_allBelieved_29 : decode cX7_allBelieved 29 = .ok (.ireturn, 1) := by decide +kernel
theorem dX7_now_0 : decode cX7_now 0 = .ok (.iload_n 1, 1) := by decide +kernel
theorem dX7_now_1 : decode cX7_now 1 = .ok (.tableswitch 69 0 7 #[47, 54, 69, 69, 69, 69, 59, 64], 47) := by decide +kernel
theorem dX7_now_48 : decode cX7_now 48 = .ok (.aload_n 0, 1) := by decide +kernel
theorem dX7_now_49 : decode cX7_now 49 = .ok (.getfield 7, 3) := by decide +kernel
theorem dX7_now_52 : decode cX7_now 52 = .ok (.iconst 0, 1) := by decide +kernel
theorem dX7_now_53 : decode cX7_now 53 = .ok (.iaload, 1) := by decide +kernel
theorem dX7_now_54 : decode cX7_now 54 = .ok (.ireturn, 1) := by decide +kernel
theorem dX7_now_55 : decode cX7_now 55 = .ok (.aload_n 0, 1) := by decide +kernel
theorem dX7_now_56 : decode cX7_now 56 = .ok (.invokevirtual 70, 3) := by decide +kernel
theorem dX7_now_59 : decode cX7_now 59 = .ok (.ireturn, 1) := by decide +kernel
theorem dX7_now_60 : decode cX7_now 60 = .ok (.aload_n 0, 1) := by decide +kernel
theorem dX7_now_61 : decode cX7_now 61 = .ok (.invokevirtual 74, 3) := by decide +kernel
theorem dX7_now_64 : decode cX7_now 64 = .ok (.ireturn, 1) := by decide +kernel
theorem dX7_now_65 : decode cX7_now 65 = .ok (.aload_n 0, 1) := by decide +kernel
theorem dX7_now_66 : decode cX7_now 66 = .ok (.invokevirtual 77, 3) := by decide +kernel
theorem dX7_now_69 : decode cX7_now 69 = .ok (.ireturn, 1) := by decide +kernel
theorem dX7_now_70 : decode cX7_now 70 = .ok (.iload_n 1, 1) := by decide +kernel
theorem dX7_now_71 : decode cX7_now 71 = .ok (.iconst 2, 1) := by decide +kernel
theorem dX7_now_72 : decode cX7_now 72 = .ok (.iconst 5, 1) := by decide +kernel
theorem dX7_now_73 : decode cX7_now 73 = .ok (.invokestatic 45, 3) := by decide +kernel
theorem dX7_now_76 : decode cX7_now 76 = .ok (.ifCond .eq 16, 3) := by decide +kernel
theorem dX7_now_79 : decode cX7_now 79 = .ok (.aload_n 0, 1) := by decide +kernel
theorem dX7_now_80 : decode cX7_now 80 = .ok (.getfield 7, 3) := by decide +kernel
theorem dX7_now_83 : decode cX7_now 83 = .ok (.iconst 1, 1) := by decide +kernel
theorem dX7_now_84 : decode cX7_now 84 = .ok (.iload_n 1, 1) := by decide +kernel
theorem dX7_now_85 : decode cX7_now 85 = .ok (.iadd, 1) := by decide +kernel
theorem dX7_now_86 : decode cX7_now 86 = .ok (.iconst 2, 1) := by decide +kernel
theorem dX7_now_87 : decode cX7_now 87 = .ok (.isub, 1) := by decide +kernel
theorem dX7_now_88 : decode cX7_now 88 = .ok (.iaload, 1) := by decide +kernel
theorem dX7_now_89 : decode cX7_now 89 = .ok (.goto 9, 3) := by decide +kernel
theorem dX7_now_92 : decode cX7_now 92 = .ok (.aload_n 0, 1) := by decide +kernel
theorem dX7_now_93 : decode cX7_now 93 = .ok (.ldc 44, 2) := by decide +kernel
theorem dX7_now_95 : decode cX7_now 95 = .ok (.invokevirtual 57, 3) := by decide +kernel
theorem dX7_now_98 : decode cX7_now 98 = .ok (.ireturn, 1) := by decide +kernel
theorem dX7_adds_0 : decode cX7_adds 0 = .ok (.aload_n 0, 1) := by decide +kernel
theorem dX7_adds_1 : decode cX7_adds 1 = .ok (.getfield 7, 3) := by decide +kernel
theorem dX7_adds_4 : decode cX7_adds 4 = .ok (.iconst 5, 1) := by decide +kernel
theorem dX7_adds_5 : decode cX7_adds 5 = .ok (.iaload, 1) := by decide +kernel
theorem dX7_adds_6 : decode cX7_adds 6 = .ok (.istore 4, 2) := by decide +kernel
theorem dX7_adds_8 : decode cX7_adds 8 = .ok (.aload_n 0, 1) := by decide +kernel
theorem dX7_adds_9 : decode cX7_adds 9 = .ok (.getfield 7, 3) := by decide +kernel
theorem dX7_adds_12 : decode cX7_adds 12 = .ok (.iconst 3, 1) := by decide +kernel
theorem dX7_adds_13 : decode cX7_adds 13 = .ok (.dup2, 1) := by decide +kernel
theorem dX7_adds_14 : decode cX7_adds 14 = .ok (.iaload, 1) := by decide +kernel
theorem dX7_adds_15 : decode cX7_adds 15 = .ok (.iload_n 1, 1) := by decide +kernel
theorem dX7_adds_16 : decode cX7_adds 16 = .ok (.iload_n 2, 1) := by decide +kernel
theorem dX7_adds_17 : decode cX7_adds 17 = .ok (.invokestatic 80, 3) := by decide +kernel
theorem dX7_adds_20 : decode cX7_adds 20 = .ok (.isub, 1) := by decide +kernel
theorem dX7_adds_21 : decode cX7_adds 21 = .ok (.iastore, 1) := by decide +kernel
theorem dX7_adds_22 : decode cX7_adds 22 = .ok (.aload_n 0, 1) := by decide +kernel
theorem dX7_adds_23 : decode cX7_adds 23 = .ok (.iload 4, 2) := by decide +kernel
theorem dX7_adds_25 : decode cX7_adds 25 = .ok (.iconst 0, 1) := by decide +kernel
theorem dX7_adds_26 : decode cX7_adds 26 = .ok (.iload_n 1, 1) := by decide +kernel
theorem dX7_adds_27 : decode cX7_adds 27 = .ok (.invokevirtual 83, 3) := by decide +kernel
theorem dX7_adds_30 : decode cX7_adds 30 = .ok (.aload_n 0, 1) := by decide +kernel
theorem dX7_adds_31 : decode cX7_adds 31 = .ok (.iload 4, 2) := by decide +kernel
theorem dX7_adds_33 : decode cX7_adds 33 = .ok (.iconst 1, 1) := by decide +kernel
theorem dX7_adds_34 : decode cX7_adds 34 = .ok (.iload_n 2, 1) := by decide +kernel
theorem dX7_adds_35 : decode cX7_adds 35 = .ok (.invokevirtual 83, 3) := by decide +kernel
theorem dX7_adds_38 : decode cX7_adds 38 = .ok (.aload_n 0, 1) := by decide +kernel
theorem dX7_adds_39 : decode cX7_adds 39 = .ok (.iload 4, 2) := by decide +kernel
theorem dX7_adds_41 : decode cX7_adds 41 = .ok (.iconst 2, 1) := by decide +kernel
theorem dX7_adds_42 : decode cX7_adds 42 = .ok (.iload_n 1, 1) := by decide +kernel
theorem dX7_adds_43 : decode cX7_adds 43 = .ok (.aload_n 0, 1) := by decide +kernel
theorem dX7_adds_44 : decode cX7_adds 44 = .ok (.invokevirtual 70, 3) := by decide +kernel
theorem dX7_adds_47 : decode cX7_adds 47 = .ok (.invokestatic 87, 3) := by decide +kernel
theorem dX7_adds_50 : decode cX7_adds 50 = .ok (.invokevirtual 83, 3) := by decide +kernel
theorem dX7_adds_53 : decode cX7_adds 53 = .ok (.aload_n 0, 1) := by decide +kernel
theorem dX7_adds_54 : decode cX7_adds 54 = .ok (.iload 4, 2) := by decide +kernel
theorem dX7_adds_56 : decode cX7_adds 56 = .ok (.iconst 3, 1) := by decide +kernel
theorem dX7_adds_57 : decode cX7_adds 57 = .ok (.iload_n 3, 1) := by decide +kernel
theorem dX7_adds_58 : decode cX7_adds 58 = .ok (.invokevirtual 83, 3) := by decide +kernel
theorem dX7_adds_61 : decode cX7_adds 61 = .ok (.aload_n 0, 1) := by decide +kernel
theorem dX7_adds_62 : decode cX7_adds 62 = .ok (.iload 4, 2) := by decide +kernel
theorem dX7_adds_64 : decode cX7_adds 64 = .ok (.iconst 4, 1) := by decide +kernel
theorem dX7_adds_65 : decode cX7_adds 65 = .ok (.iconst 0, 1) := by decide +kernel
theorem dX7_adds_66 : decode cX7_adds 66 = .ok (.invokevirtual 83, 3) := by decide +kernel
theorem dX7_adds_69 : decode cX7_adds 69 = .ok (.aload_n 0, 1) := by decide +kernel
theorem dX7_adds_70 : decode cX7_adds 70 = .ok (.getfield 7, 3) := by decide +kernel
theorem dX7_adds_73 : decode cX7_adds 73 = .ok (.iconst 5, 1) := by decide +kernel
theorem dX7_adds_74 : decode cX7_adds 74 = .ok (.dup2, 1) := by decide +kernel
theorem dX7_adds_75 : decode cX7_adds 75 = .ok (.iaload, 1) := by decide +kernel
theorem dX7_adds_76 : decode cX7_adds 76 = .ok (.iconst 1, 1) := by decide +kernel
theorem dX7_adds_77 : decode cX7_adds 77 = .ok (.iadd, 1) := by decide +kernel
theorem dX7_adds_78 : decode cX7_adds 78 = .ok (.iastore, 1) := by decide +kernel
theorem dX7_adds_79 : decode cX7_adds 79 = .ok (.return_, 1) := by decide +kernel
theorem dX7_scribe_0 : decode cX7_scribe 0 = .ok (.iload_n 1, 1) := by decide +kernel
theorem dX7_scribe_1 : decode cX7_scribe 1 = .ok (.invokestatic 90, 3) := by decide +kernel
theorem dX7_scribe_4 : decode cX7_scribe 4 = .ok (.ifCond .eq 13, 3) := by decide +kernel
theorem dX7_scribe_7 : decode cX7_scribe 7 = .ok (.iload_n 2, 1) := by decide +kernel
theorem dX7_scribe_8 : decode cX7_scribe 8 = .ok (.iconst 1, 1) := by decide +kernel
theorem dX7_scribe_9 : decode cX7_scribe 9 = .ok (.bipush 99, 2) := by decide +kernel
theorem dX7_scribe_11 : decode cX7_scribe 11 = .ok (.invokestatic 45, 3) := by decide +kernel
theorem dX7_scribe_14 : decode cX7_scribe 14 = .ok (.ifCond .ne 10, 3) := by decide +kernel
theorem dX7_scribe_17 : decode cX7_scribe 17 = .ok (.aload_n 0, 1) := by decide +kernel
theorem dX7_scribe_18 : decode cX7_scribe 18 = .ok (.ldc 44, 2) := by decide +kernel
theorem dX7_scribe_20 : decode cX7_scribe 20 = .ok (.invokevirtual 57, 3) := by decide +kernel
theorem dX7_scribe_23 : decode cX7_scribe 23 = .ok (.ireturn, 1) := by decide +kernel
theorem dX7_scribe_24 : decode cX7_scribe 24 = .ok (.aload_n 0, 1) := by decide +kernel
theorem dX7_scribe_25 : decode cX7_scribe 25 = .ok (.getfield 7, 3) := by decide +kernel
theorem dX7_scribe_28 : decode cX7_scribe 28 = .ok (.iconst 5, 1) := by decide +kernel
theorem dX7_scribe_29 : decode cX7_scribe 29 = .ok (.iaload, 1) := by decide +kernel
theorem dX7_scribe_30 : decode cX7_scribe 30 = .ok (.bipush 8, 2) := by decide +kernel
theorem dX7_scribe_32 : decode cX7_scribe 32 = .ok (.if_icmp .ne 10, 3) := by decide +kernel
theorem dX7_scribe_35 : decode cX7_scribe 35 = .ok (.aload_n 0, 1) := by decide +kernel
theorem dX7_scribe_36 : decode cX7_scribe 36 = .ok (.ldc 94, 2) := by decide +kernel
theorem dX7_scribe_38 : decode cX7_scribe 38 = .ok (.invokevirtual 57, 3) := by decide +kernel
theorem dX7_scribe_41 : decode cX7_scribe 41 = .ok (.ireturn, 1) := by decide +kernel
theorem dX7_scribe_42 : decode cX7_scribe 42 = .ok (.iload_n 1, 1) := by decide +kernel
theorem dX7_scribe_43 : decode cX7_scribe 43 = .ok (.iload_n 2, 1) := by decide +kernel
theorem dX7_scribe_44 : decode cX7_scribe 44 = .ok (.invokestatic 80, 3) := by decide +kernel
theorem dX7_scribe_47 : decode cX7_scribe 47 = .ok (.aload_n 0, 1) := by decide +kernel
theorem dX7_scribe_48 : decode cX7_scribe 48 = .ok (.getfield 7, 3) := by decide +kernel
theorem dX7_scribe_51 : decode cX7_scribe 51 = .ok (.iconst 3, 1) := by decide +kernel
theorem dX7_scribe_52 : decode cX7_scribe 52 = .ok (.iaload, 1) := by decide +kernel
theorem dX7_scribe_53 : decode cX7_scribe 53 = .ok (.if_icmp .le 10, 3) := by decide +kernel
theorem dX7_scribe_56 : decode cX7_scribe 56 = .ok (.aload_n 0, 1) := by decide +kernel
theorem dX7_scribe_57 : decode cX7_scribe 57 = .ok (.ldc 95, 2) := by decide +kernel
theorem dX7_scribe_59 : decode cX7_scribe 59 = .ok (.invokevirtual 57, 3) := by decide +kernel
theorem dX7_scribe_62 : decode cX7_scribe 62 = .ok (.ireturn, 1) := by decide +kernel
theorem dX7_scribe_63 : decode cX7_scribe 63 = .ok (.aload_n 0, 1) := by decide +kernel
theorem dX7_scribe_64 : decode cX7_scribe 64 = .ok (.iload_n 1, 1) := by decide +kernel
theorem dX7_scribe_65 : decode cX7_scribe 65 = .ok (.iload_n 2, 1) := by decide +kernel
theorem dX7_scribe_66 : decode cX7_scribe 66 = .ok (.iconst 0, 1) := by decide +kernel
theorem dX7_scribe_67 : decode cX7_scribe 67 = .ok (.invokevirtual 96, 3) := by decide +kernel
theorem dX7_scribe_70 : decode cX7_scribe 70 = .ok (.aload_n 0, 1) := by decide +kernel
theorem dX7_scribe_71 : decode cX7_scribe 71 = .ok (.getfield 7, 3) := by decide +kernel
theorem dX7_scribe_74 : decode cX7_scribe 74 = .ok (.iconst 5, 1) := by decide +kernel
theorem dX7_scribe_75 : decode cX7_scribe 75 = .ok (.iaload, 1) := by decide +kernel
theorem dX7_scribe_76 : decode cX7_scribe 76 = .ok (.iconst 1, 1) := by decide +kernel
theorem dX7_scribe_77 : decode cX7_scribe 77 = .ok (.isub, 1) := by decide +kernel
theorem dX7_scribe_78 : decode cX7_scribe 78 = .ok (.ireturn, 1) := by decide +kernel
theorem dX7_of_0 : decode cX7_of 0 = .ok (.aload_n 0, 1) := by decide +kernel
theorem dX7_of_1 : decode cX7_of 1 = .ok (.iload_n 1, 1) := by decide +kernel
theorem dX7_of_2 : decode cX7_of 2 = .ok (.invokevirtual 99, 3) := by decide +kernel
theorem dX7_of_5 : decode cX7_of 5 = .ok (.ifCond .eq 13, 3) := by decide +kernel
theorem dX7_of_8 : decode cX7_of 8 = .ok (.iload_n 2, 1) := by decide +kernel
theorem dX7_of_9 : decode cX7_of 9 = .ok (.iconst 0, 1) := by decide +kernel
theorem dX7_of_10 : decode cX7_of 10 = .ok (.bipush 8, 2) := by decide +kernel
theorem dX7_of_12 : decode cX7_of 12 = .ok (.invokestatic 45, 3) := by decide +kernel
theorem dX7_of_15 : decode cX7_of 15 = .ok (.ifCond .ne 10, 3) := by decide +kernel
theorem dX7_of_18 : decode cX7_of 18 = .ok (.aload_n 0, 1) := by decide +kernel
theorem dX7_of_19 : decode cX7_of 19 = .ok (.ldc 44, 2) := by decide +kernel
theorem dX7_of_21 : decode cX7_of 21 = .ok (.invokevirtual 57, 3) := by decide +kernel
theorem dX7_of_24 : decode cX7_of 24 = .ok (.ireturn, 1) := by decide +kernel
theorem dX7_of_25 : decode cX7_of 25 = .ok (.iload_n 2, 1) := by decide +kernel
theorem dX7_of_26 : decode cX7_of 26 = .ok (.tableswitch 72 5 8 #[30, 46, 60, 66], 30) := by decide +kernel
theorem dX7_of_56 : decode cX7_of 56 = .ok (.aload_n 0, 1) := by decide +kernel
theorem dX7_of_57 : decode cX7_of 57 = .ok (.iload_n 1, 1) := by decide +kernel
theorem dX7_of_58 : decode cX7_of 58 = .ok (.iconst 0, 1) := by decide +kernel
theorem dX7_of_59 : decode cX7_of 59 = .ok (.invokevirtual 64, 3) := by decide +kernel
theorem dX7_of_62 : decode cX7_of 62 = .ok (.aload_n 0, 1) := by decide +kernel
theorem dX7_of_63 : decode cX7_of 63 = .ok (.iload_n 1, 1) := by decide +kernel
theorem dX7_of_64 : decode cX7_of 64 = .ok (.iconst 1, 1) := by decide +kernel
theorem dX7_of_65 : decode cX7_of 65 = .ok (.invokevirtual 64, 3) := by decide +kernel
theorem dX7_of_68 : decode cX7_of 68 = .ok (.invokestatic 80, 3) := by decide +kernel
theorem dX7_of_71 : decode cX7_of 71 = .ok (.ireturn, 1) := by decide +kernel
theorem dX7_of_72 : decode cX7_of 72 = .ok (.aload_n 0, 1) := by decide +kernel
theorem dX7_of_73 : decode cX7_of 73 = .ok (.iload_n 1, 1) := by decide +kernel
theorem dX7_of_74 : decode cX7_of 74 = .ok (.iconst 0, 1) := by decide +kernel
theorem dX7_of_75 : decode cX7_of 75 = .ok (.invokevirtual 64, 3) := by decide +kernel
theorem dX7_of_78 : decode cX7_of 78 = .ok (.aload_n 0, 1) := by decide +kernel
theorem dX7_of_79 : decode cX7_of 79 = .ok (.invokevirtual 70, 3) := by decide +kernel
theorem dX7_of_82 : decode cX7_of 82 = .ok (.invokestatic 87, 3) := by decide +kernel
theorem dX7_of_85 : decode cX7_of 85 = .ok (.ireturn, 1) := by decide +kernel
theorem dX7_of_86 : decode cX7_of 86 = .ok (.aload_n 0, 1) := by decide +kernel
theorem dX7_of_87 : decode cX7_of 87 = .ok (.iload_n 1, 1) := by decide +kernel
theorem dX7_of_88 : decode cX7_of 88 = .ok (.invokevirtual 102, 3) := by decide +kernel
theorem dX7_of_91 : decode cX7_of 91 = .ok (.ireturn, 1) := by decide +kernel
theorem dX7_of_92 : decode cX7_of 92 = .ok (.aload_n 0, 1) := by decide +kernel
theorem dX7_of_93 : decode cX7_of 93 = .ok (.iload_n 1, 1) := by decide +kernel
theorem dX7_of_94 : decode cX7_of 94 = .ok (.invokevirtual 67, 3) := by decide +kernel
theorem dX7_of_97 : decode cX7_of 97 = .ok (.ireturn, 1) := by decide +kernel
theorem dX7_of_98 : decode cX7_of 98 = .ok (.aload_n 0, 1) := by decide +kernel
theorem dX7_of_99 : decode cX7_of 99 = .ok (.iload_n 1, 1) := by decide +kernel
theorem dX7_of_100 : decode cX7_of 100 = .ok (.iload_n 2, 1) := by decide +kernel
theorem dX7_of_101 : decode cX7_of 101 = .ok (.invokevirtual 64, 3) := by decide +kernel
theorem dX7_of_104 : decode cX7_of 104 = .ok (.ireturn, 1) := by decide +kernel
theorem dX7_isPart_0 : decode cX7_isPart 0 = .ok (.iload_n 0, 1) := by decide +kernel
theorem dX7_isPart_1 : decode cX7_isPart 1 = .ok (.tableswitch 50 1 3 #[27, 35, 43], 27) := by decide +kernel
theorem dX7_isPart_28 : decode cX7_isPart 28 = .ok (.iload_n 1, 1) := by decide +kernel
theorem dX7_isPart_29 : decode cX7_isPart 29 = .ok (.iconst 1, 1) := by decide +kernel
theorem dX7_isPart_30 : decode cX7_isPart 30 = .ok (.bipush 99, 2) := by decide +kernel
theorem dX7_isPart_32 : decode cX7_isPart 32 = .ok (.invokestatic 45, 3) := by decide +kernel
theorem dX7_isPart_35 : decode cX7_isPart 35 = .ok (.ireturn, 1) := by decide +kernel
theorem dX7_isPart_36 : decode cX7_isPart 36 = .ok (.iload_n 1, 1) := by decide +kernel
theorem dX7_isPart_37 : decode cX7_isPart 37 = .ok (.iconst 0, 1) := by decide +kernel
theorem dX7_isPart_38 : decode cX7_isPart 38 = .ok (.bipush 99, 2) := by decide +kernel
theorem dX7_isPart_40 : decode cX7_isPart 40 = .ok (.invokestatic 45, 3) := by decide +kernel
theorem dX7_isPart_43 : decode cX7_isPart 43 = .ok (.ireturn, 1) := by decide +kernel
theorem dX7_isPart_44 : decode cX7_isPart 44 = .ok (.iload_n 1, 1) := by decide +kernel
theorem dX7_isPart_45 : decode cX7_isPart 45 = .ok (.iconst 0, 1) := by decide +kernel
theorem dX7_isPart_46 : decode cX7_isPart 46 = .ok (.iconst 1, 1) := by decide +kernel
theorem dX7_isPart_47 : decode cX7_isPart 47 = .ok (.invokestatic 45, 3) := by decide +kernel
theorem dX7_isPart_50 : decode cX7_isPart 50 = .ok (.ireturn, 1) := by decide +kernel
theorem dX7_isPart_51 : decode cX7_isPart 51 = .ok (.iload_n 0, 1) := by decide +kernel
theorem dX7_isPart_52 : decode cX7_isPart 52 = .ok (.iconst 4, 1) := by decide +kernel
theorem dX7_isPart_53 : decode cX7_isPart 53 = .ok (.if_icmp .ne 18, 3) := by decide +kernel
theorem dX7_isPart_56 : decode cX7_isPart 56 = .ok (.iload_n 1, 1) := by decide +kernel
theorem dX7_isPart_57 : decode cX7_isPart 57 = .ok (.iconst 0, 1) := by decide +kernel
theorem dX7_isPart_58 : decode cX7_isPart 58 = .ok (.sipush 9999, 3) := by decide +kernel
theorem dX7_isPart_61 : decode cX7_isPart 61 = .ok (.invokestatic 45, 3) := by decide +kernel
theorem dX7_isPart_64 : decode cX7_isPart 64 = .ok (.ifCond .eq 7, 3) := by decide +kernel
theorem dX7_isPart_67 : decode cX7_isPart 67 = .ok (.iconst 1, 1) := by decide +kernel
theorem dX7_isPart_68 : decode cX7_isPart 68 = .ok (.goto 4, 3) := by decide +kernel
theorem dX7_isPart_71 : decode cX7_isPart 71 = .ok (.iconst 0, 1) := by decide +kernel
theorem dX7_isPart_72 : decode cX7_isPart 72 = .ok (.ireturn, 1) := by decide +kernel
theorem dX7_set_0 : decode cX7_set 0 = .ok (.aload_n 0, 1) := by decide +kernel
theorem dX7_set_1 : decode cX7_set 1 = .ok (.iload_n 1, 1) := by decide +kernel
theorem dX7_set_2 : decode cX7_set 2 = .ok (.invokevirtual 99, 3) := by decide +kernel
theorem dX7_set_5 : decode cX7_set 5 = .ok (.ifCond .eq 27, 3) := by decide +kernel
theorem dX7_set_8 : decode cX7_set 8 = .ok (.iload_n 2, 1) := by decide +kernel
theorem dX7_set_9 : decode cX7_set 9 = .ok (.iload_n 3, 1) := by decide +kernel
theorem dX7_set_10 : decode cX7_set 10 = .ok (.invokestatic 105, 3) := by decide +kernel
theorem dX7_set_13 : decode cX7_set 13 = .ok (.ifCond .eq 19, 3) := by decide +kernel
theorem dX7_set_16 : decode cX7_set 16 = .ok (.aload_n 0, 1) := by decide +kernel
theorem dX7_set_17 : decode cX7_set 17 = .ok (.bipush 18, 2) := by decide +kernel
theorem dX7_set_19 : decode cX7_set 19 = .ok (.iconst 5, 1) := by decide +kernel
theorem dX7_set_20 : decode cX7_set 20 = .ok (.iload_n 1, 1) := by decide +kernel
theorem dX7_set_21 : decode cX7_set 21 = .ok (.imul, 1) := by decide +kernel
theorem dX7_set_22 : decode cX7_set 22 = .ok (.iadd, 1) := by decide +kernel
theorem dX7_set_23 : decode cX7_set 23 = .ok (.iload_n 2, 1) := by decide +kernel
theorem dX7_set_24 : decode cX7_set 24 = .ok (.iadd, 1) := by decide +kernel
theorem dX7_set_25 : decode cX7_set 25 = .ok (.iload_n 3, 1) := by decide +kernel
theorem dX7_set_26 : decode cX7_set 26 = .ok (.invokevirtual 53, 3) := by decide +kernel
theorem dX7_set_29 : decode cX7_set 29 = .ok (.goto 9, 3) := by decide +kernel
