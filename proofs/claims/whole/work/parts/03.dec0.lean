theorem dX0_isKind_0 : decode cX0_isKind 0 = .ok (.iload_n 0, 1) := by decide +kernel
theorem dX0_isKind_1 : decode cX0_isKind 1 = .ok (.iconst 0, 1) := by decide +kernel
theorem dX0_isKind_2 : decode cX0_isKind 2 = .ok (.iconst 5, 1) := by decide +kernel
theorem dX0_isKind_3 : decode cX0_isKind 3 = .ok (.invokestatic 9, 3) := by decide +kernel
theorem dX0_isKind_6 : decode cX0_isKind 6 = .ok (.ireturn, 1) := by decide +kernel
theorem dX0_nameOf_0 : decode cX0_nameOf 0 = .ok (.iload_n 0, 1) := by decide +kernel
theorem dX0_nameOf_1 : decode cX0_nameOf 1 = .ok (.tableswitch 50 1 5 #[35, 38, 41, 44, 47], 35) := by decide +kernel
theorem dX0_nameOf_36 : decode cX0_nameOf 36 = .ok (.ldc 15, 2) := by decide +kernel
theorem dX0_nameOf_38 : decode cX0_nameOf 38 = .ok (.areturn, 1) := by decide +kernel
theorem dX0_nameOf_39 : decode cX0_nameOf 39 = .ok (.ldc 17, 2) := by decide +kernel
theorem dX0_nameOf_41 : decode cX0_nameOf 41 = .ok (.areturn, 1) := by decide +kernel
theorem dX0_nameOf_42 : decode cX0_nameOf 42 = .ok (.ldc 19, 2) := by decide +kernel
theorem dX0_nameOf_44 : decode cX0_nameOf 44 = .ok (.areturn, 1) := by decide +kernel
theorem dX0_nameOf_45 : decode cX0_nameOf 45 = .ok (.ldc 21, 2) := by decide +kernel
theorem dX0_nameOf_47 : decode cX0_nameOf 47 = .ok (.areturn, 1) := by decide +kernel
theorem dX0_nameOf_48 : decode cX0_nameOf 48 = .ok (.ldc 23, 2) := by decide +kernel
theorem dX0_nameOf_50 : decode cX0_nameOf 50 = .ok (.areturn, 1) := by decide +kernel
theorem dX0_nameOf_51 : decode cX0_nameOf 51 = .ok (.ldc 25, 2) := by decide +kernel
theorem dX0_nameOf_53 : decode cX0_nameOf 53 = .ok (.areturn, 1) := by decide +kernel
theorem dX0_isOneOf_0 : decode cX0_isOneOf 0 = .ok (.iload_n 1, 1) := by decide +kernel
theorem dX0_isOneOf_1 : decode cX0_isOneOf 1 = .ok (.tableswitch 61 0 2 #[27, 29, 45], 27) := by decide +kernel
theorem dX0_isOneOf_28 : decode cX0_isOneOf 28 = .ok (.iconst 1, 1) := by decide +kernel
theorem dX0_isOneOf_29 : decode cX0_isOneOf 29 = .ok (.ireturn, 1) := by decide +kernel
theorem dX0_isOneOf_30 : decode cX0_isOneOf 30 = .ok (.iload_n 0, 1) := by decide +kernel
theorem dX0_isOneOf_31 : decode cX0_isOneOf 31 = .ok (.iconst 1, 1) := by decide +kernel
theorem dX0_isOneOf_32 : decode cX0_isOneOf 32 = .ok (.if_icmp .eq 8, 3) := by decide +kernel
theorem dX0_isOneOf_35 : decode cX0_isOneOf 35 = .ok (.iload_n 0, 1) := by decide +kernel
theorem dX0_isOneOf_36 : decode cX0_isOneOf 36 = .ok (.iconst 4, 1) := by decide +kernel
theorem dX0_isOneOf_37 : decode cX0_isOneOf 37 = .ok (.if_icmp .ne 7, 3) := by decide +kernel
theorem dX0_isOneOf_40 : decode cX0_isOneOf 40 = .ok (.iconst 1, 1) := by decide +kernel
theorem dX0_isOneOf_41 : decode cX0_isOneOf 41 = .ok (.goto 4, 3) := by decide +kernel
theorem dX0_isOneOf_44 : decode cX0_isOneOf 44 = .ok (.iconst 0, 1) := by decide +kernel
theorem dX0_isOneOf_45 : decode cX0_isOneOf 45 = .ok (.ireturn, 1) := by decide +kernel
theorem dX0_isOneOf_46 : decode cX0_isOneOf 46 = .ok (.iload_n 0, 1) := by decide +kernel
theorem dX0_isOneOf_47 : decode cX0_isOneOf 47 = .ok (.iconst 2, 1) := by decide +kernel
theorem dX0_isOneOf_48 : decode cX0_isOneOf 48 = .ok (.if_icmp .eq 8, 3) := by decide +kernel
theorem dX0_isOneOf_51 : decode cX0_isOneOf 51 = .ok (.iload_n 0, 1) := by decide +kernel
theorem dX0_isOneOf_52 : decode cX0_isOneOf 52 = .ok (.iconst 5, 1) := by decide +kernel
theorem dX0_isOneOf_53 : decode cX0_isOneOf 53 = .ok (.if_icmp .ne 7, 3) := by decide +kernel
theorem dX0_isOneOf_56 : decode cX0_isOneOf 56 = .ok (.iconst 1, 1) := by decide +kernel
theorem dX0_isOneOf_57 : decode cX0_isOneOf 57 = .ok (.goto 4, 3) := by decide +kernel
theorem dX0_isOneOf_60 : decode cX0_isOneOf 60 = .ok (.iconst 0, 1) := by decide +kernel
theorem dX0_isOneOf_61 : decode cX0_isOneOf 61 = .ok (.ireturn, 1) := by decide +kernel
theorem dX0_isOneOf_62 : decode cX0_isOneOf 62 = .ok (.iload_n 0, 1) := by decide +kernel
theorem dX0_isOneOf_63 : decode cX0_isOneOf 63 = .ok (.iload_n 1, 1) := by decide +kernel
theorem dX0_isOneOf_64 : decode cX0_isOneOf 64 = .ok (.if_icmp .ne 7, 3) := by decide +kernel
theorem dX0_isOneOf_67 : decode cX0_isOneOf 67 = .ok (.iconst 1, 1) := by decide +kernel
theorem dX0_isOneOf_68 : decode cX0_isOneOf 68 = .ok (.goto 4, 3) := by decide +kernel
theorem dX0_isOneOf_71 : decode cX0_isOneOf 71 = .ok (.iconst 0, 1) := by decide +kernel
theorem dX0_isOneOf_72 : decode cX0_isOneOf 72 = .ok (.ireturn, 1) := by decide +kernel
theorem dX0_costs_0 : decode cX0_costs 0 = .ok (.iconst 1, 1) := by decide +kernel
theorem dX0_costs_1 : decode cX0_costs 1 = .ok (.iload_n 1, 1) := by decide +kernel
theorem dX0_costs_2 : decode cX0_costs 2 = .ok (.bipush 20, 2) := by decide +kernel
theorem dX0_costs_4 : decode cX0_costs 4 = .ok (.idiv, 1) := by decide +kernel
theorem dX0_costs_5 : decode cX0_costs 5 = .ok (.iadd, 1) := by decide +kernel
theorem dX0_costs_6 : decode cX0_costs 6 = .ok (.istore_n 2, 1) := by decide +kernel
theorem dX0_costs_7 : decode cX0_costs 7 = .ok (.iload_n 2, 1) := by decide +kernel
theorem dX0_costs_8 : decode cX0_costs 8 = .ok (.iconst 2, 1) := by decide +kernel
theorem dX0_costs_9 : decode cX0_costs 9 = .ok (.iadd, 1) := by decide +kernel
theorem dX0_costs_10 : decode cX0_costs 10 = .ok (.istore_n 3, 1) := by decide +kernel
theorem dX0_costs_11 : decode cX0_costs 11 = .ok (.iconst 1, 1) := by decide +kernel
theorem dX0_costs_12 : decode cX0_costs 12 = .ok (.iload_n 2, 1) := by decide +kernel
theorem dX0_costs_13 : decode cX0_costs 13 = .ok (.iconst 2, 1) := by decide +kernel
theorem dX0_costs_14 : decode cX0_costs 14 = .ok (.idiv, 1) := by decide +kernel
theorem dX0_costs_15 : decode cX0_costs 15 = .ok (.invokestatic 27, 3) := by decide +kernel
theorem dX0_costs_18 : decode cX0_costs 18 = .ok (.istore 4, 2) := by decide +kernel
theorem dX0_costs_20 : decode cX0_costs 20 = .ok (.iload_n 0, 1) := by decide +kernel
theorem dX0_costs_21 : decode cX0_costs 21 = .ok (.tableswitch 53 1 5 #[35, 37, 40, 44, 48], 35) := by decide +kernel
theorem dX0_costs_56 : decode cX0_costs 56 = .ok (.iload_n 3, 1) := by decide +kernel
theorem dX0_costs_57 : decode cX0_costs 57 = .ok (.ireturn, 1) := by decide +kernel
theorem dX0_costs_58 : decode cX0_costs 58 = .ok (.iload 4, 2) := by decide +kernel
theorem dX0_costs_60 : decode cX0_costs 60 = .ok (.ireturn, 1) := by decide +kernel
theorem dX0_costs_61 : decode cX0_costs 61 = .ok (.iconst 2, 1) := by decide +kernel
theorem dX0_costs_62 : decode cX0_costs 62 = .ok (.iload_n 2, 1) := by decide +kernel
theorem dX0_costs_63 : decode cX0_costs 63 = .ok (.imul, 1) := by decide +kernel
theorem dX0_costs_64 : decode cX0_costs 64 = .ok (.ireturn, 1) := by decide +kernel
theorem dX0_costs_65 : decode cX0_costs 65 = .ok (.iload_n 3, 1) := by decide +kernel
theorem dX0_costs_66 : decode cX0_costs 66 = .ok (.iconst 1, 1) := by decide +kernel
theorem dX0_costs_67 : decode cX0_costs 67 = .ok (.isub, 1) := by decide +kernel
theorem dX0_costs_68 : decode cX0_costs 68 = .ok (.ireturn, 1) := by decide +kernel
theorem dX0_costs_69 : decode cX0_costs 69 = .ok (.iload 4, 2) := by decide +kernel
theorem dX0_costs_71 : decode cX0_costs 71 = .ok (.iconst 1, 1) := by decide +kernel
theorem dX0_costs_72 : decode cX0_costs 72 = .ok (.iadd, 1) := by decide +kernel
theorem dX0_costs_73 : decode cX0_costs 73 = .ok (.ireturn, 1) := by decide +kernel
theorem dX0_costs_74 : decode cX0_costs 74 = .ok (.iload_n 2, 1) := by decide +kernel
theorem dX0_costs_75 : decode cX0_costs 75 = .ok (.ireturn, 1) := by decide +kernel
theorem dX0_takes_0 : decode cX0_takes 0 = .ok (.iconst 4, 1) := by decide +kernel
theorem dX0_takes_1 : decode cX0_takes 1 = .ok (.iload_n 1, 1) := by decide +kernel
theorem dX0_takes_2 : decode cX0_takes 2 = .ok (.imul, 1) := by decide +kernel
theorem dX0_takes_3 : decode cX0_takes 3 = .ok (.istore_n 2, 1) := by decide +kernel
theorem dX0_takes_4 : decode cX0_takes 4 = .ok (.iload_n 0, 1) := by decide +kernel
theorem dX0_takes_5 : decode cX0_takes 5 = .ok (.iconst 1, 1) := by decide +kernel
theorem dX0_takes_6 : decode cX0_takes 6 = .ok (.if_icmp .eq 8, 3) := by decide +kernel
theorem dX0_takes_9 : decode cX0_takes 9 = .ok (.iload_n 0, 1) := by decide +kernel
theorem dX0_takes_10 : decode cX0_takes 10 = .ok (.iconst 4, 1) := by decide +kernel
theorem dX0_takes_11 : decode cX0_takes 11 = .ok (.if_icmp .ne 9, 3) := by decide +kernel
theorem dX0_takes_14 : decode cX0_takes 14 = .ok (.iinc 2 10, 3) := by decide +kernel
theorem dX0_takes_17 : decode cX0_takes 17 = .ok (.goto 34, 3) := by decide +kernel
theorem dX0_takes_20 : decode cX0_takes 20 = .ok (.iload_n 0, 1) := by decide +kernel
theorem dX0_takes_21 : decode cX0_takes 21 = .ok (.iconst 3, 1) := by decide +kernel
theorem dX0_takes_22 : decode cX0_takes 22 = .ok (.if_icmp .ne 16, 3) := by decide +kernel
theorem dX0_takes_25 : decode cX0_takes 25 = .ok (.iload_n 1, 1) := by decide +kernel
theorem dX0_takes_26 : decode cX0_takes 26 = .ok (.bipush 15, 2) := by decide +kernel
theorem dX0_takes_28 : decode cX0_takes 28 = .ok (.if_icmp .lt 10, 3) := by decide +kernel
theorem dX0_takes_31 : decode cX0_takes 31 = .ok (.iconst 5, 1) := by decide +kernel
theorem dX0_takes_32 : decode cX0_takes 32 = .ok (.iload_n 1, 1) := by decide +kernel
theorem dX0_takes_33 : decode cX0_takes 33 = .ok (.imul, 1) := by decide +kernel
theorem dX0_takes_34 : decode cX0_takes 34 = .ok (.istore_n 2, 1) := by decide +kernel
theorem dX0_takes_35 : decode cX0_takes 35 = .ok (.goto 16, 3) := by decide +kernel
theorem dX0_takes_38 : decode cX0_takes 38 = .ok (.iload_n 0, 1) := by decide +kernel
theorem dX0_takes_39 : decode cX0_takes 39 = .ok (.iconst 5, 1) := by decide +kernel
theorem dX0_takes_40 : decode cX0_takes 40 = .ok (.if_icmp .ne 11, 3) := by decide +kernel
theorem dX0_takes_43 : decode cX0_takes 43 = .ok (.iconst 0, 1) := by decide +kernel
theorem dX0_takes_44 : decode cX0_takes 44 = .ok (.iload_n 2, 1) := by decide +kernel
theorem dX0_takes_45 : decode cX0_takes 45 = .ok (.iconst 5, 1) := by decide +kernel
theorem dX0_takes_46 : decode cX0_takes 46 = .ok (.isub, 1) := by decide +kernel
theorem dX0_takes_47 : decode cX0_takes 47 = .ok (.invokestatic 27, 3) := by decide +kernel
theorem dX0_takes_50 : decode cX0_takes 50 = .ok (.istore_n 2, 1) := by decide +kernel
theorem dX0_takes_51 : decode cX0_takes 51 = .ok (.bipush 99, 2) := by decide +kernel
theorem dX0_takes_53 : decode cX0_takes 53 = .ok (.iload_n 2, 1) := by decide +kernel
theorem dX0_takes_54 : decode cX0_takes 54 = .ok (.invokestatic 35, 3) := by decide +kernel
theorem dX0_takes_57 : decode cX0_takes 57 = .ok (.ireturn, 1) := by decide +kernel
theorem dX0_fades_0 : decode cX0_fades 0 = .ok (.iload_n 1, 1) := by decide +kernel
theorem dX0_fades_1 : decode cX0_fades 1 = .ok (.iconst 1, 1) := by decide +kernel
theorem dX0_fades_2 : decode cX0_fades 2 = .ok (.if_icmp .ne 8, 3) := by decide +kernel
theorem dX0_fades_5 : decode cX0_fades 5 = .ok (.bipush 9, 2) := by decide +kernel
theorem dX0_fades_7 : decode cX0_fades 7 = .ok (.goto 4, 3) := by decide +kernel
theorem dX0_fades_10 : decode cX0_fades 10 = .ok (.iconst 0, 1) := by decide +kernel
theorem dX0_fades_11 : decode cX0_fades 11 = .ok (.istore_n 3, 1) := by decide +kernel
theorem dX0_fades_12 : decode cX0_fades 12 = .ok (.iload_n 3, 1) := by decide +kernel
theorem dX0_fades_13 : decode cX0_fades 13 = .ok (.iconst 2, 1) := by decide +kernel
theorem dX0_fades_14 : decode cX0_fades 14 = .ok (.idiv, 1) := by decide +kernel
theorem dX0_fades_15 : decode cX0_fades 15 = .ok (.istore 4, 2) := by decide +kernel
theorem dX0_fades_17 : decode cX0_fades 17 = .ok (.iload_n 3, 1) := by decide +kernel
theorem dX0_fades_18 : decode cX0_fades 18 = .ok (.iconst 1, 1) := by decide +kernel
theorem dX0_fades_19 : decode cX0_fades 19 = .ok (.iadd, 1) := by decide +kernel
theorem dX0_fades_20 : decode cX0_fades 20 = .ok (.istore 5, 2) := by decide +kernel
theorem dX0_fades_22 : decode cX0_fades 22 = .ok (.iload_n 0, 1) := by decide +kernel
theorem dX0_fades_23 : decode cX0_fades 23 = .ok (.tableswitch 57 1 5 #[33, 36, 57, 39, 50], 33) := by decide +kernel
theorem dX0_fades_56 : decode cX0_fades 56 = .ok (.iload 4, 2) := by decide +kernel
theorem dX0_fades_58 : decode cX0_fades 58 = .ok (.ireturn, 1) := by decide +kernel
theorem dX0_fades_59 : decode cX0_fades 59 = .ok (.iload 5, 2) := by decide +kernel
theorem dX0_fades_61 : decode cX0_fades 61 = .ok (.ireturn, 1) := by decide +kernel
theorem dX0_fades_62 : decode cX0_fades 62 = .ok (.iload_n 2, 1) := by decide +kernel
theorem dX0_fades_63 : decode cX0_fades 63 = .ok (.ifCond .ne 7, 3) := by decide +kernel
theorem dX0_fades_66 : decode cX0_fades 66 = .ok (.iconst 0, 1) := by decide +kernel
theorem dX0_fades_67 : decode cX0_fades 67 = .ok (.goto 5, 3) := by decide +kernel
theorem dX0_fades_70 : decode cX0_fades 70 = .ok (.iload 4, 2) := by decide +kernel
theorem dX0_fades_72 : decode cX0_fades 72 = .ok (.ireturn, 1) := by decide +kernel
theorem dX0_fades_73 : decode cX0_fades 73 = .ok (.iload 5, 2) := by decide +kernel
theorem dX0_fades_75 : decode cX0_fades 75 = .ok (.iload_n 2, 1) := by decide +kernel
theorem dX0_fades_76 : decode cX0_fades 76 = .ok (.iconst 4, 1) := by decide +kernel
theorem dX0_fades_77 : decode cX0_fades 77 = .ok (.idiv, 1) := by decide +kernel
theorem dX0_fades_78 : decode cX0_fades 78 = .ok (.iadd, 1) := by decide +kernel
theorem dX0_fades_79 : decode cX0_fades 79 = .ok (.ireturn, 1) := by decide +kernel
theorem dX0_fades_80 : decode cX0_fades 80 = .ok (.iload_n 3, 1) := by decide +kernel
theorem dX0_fades_81 : decode cX0_fades 81 = .ok (.ireturn, 1) := by decide +kernel
theorem dX0_believed_0 : decode cX0_believed 0 = .ok (.iload_n 1, 1) := by decide +kernel
theorem dX0_believed_1 : decode cX0_believed 1 = .ok (.ifCond .ne 5, 3) := by decide +kernel
theorem dX0_believed_4 : decode cX0_believed 4 = .ok (.iconst 0, 1) := by decide +kernel
theorem dX0_believed_5 : decode cX0_believed 5 = .ok (.ireturn, 1) := by decide +kernel
theorem dX0_believed_6 : decode cX0_believed 6 = .ok (.iload_n 1, 1) := by decide +kernel
theorem dX0_believed_7 : decode cX0_believed 7 = .ok (.iload_n 3, 1) := by decide +kernel
theorem dX0_believed_8 : decode cX0_believed 8 = .ok (.imul, 1) := by decide +kernel
theorem dX0_believed_9 : decode cX0_believed 9 = .ok (.bipush 9, 2) := by decide +kernel
theorem dX0_believed_11 : decode cX0_believed 11 = .ok (.idiv, 1) := by decide +kernel
theorem dX0_believed_12 : decode cX0_believed 12 = .ok (.istore 4, 2) := by decide +kernel
theorem dX0_believed_14 : decode cX0_believed 14 = .ok (.iload_n 1, 1) := by decide +kernel
theorem dX0_believed_15 : decode cX0_believed 15 = .ok (.bipush 50, 2) := by decide +kernel
theorem dX0_believed_17 : decode cX0_believed 17 = .ok (.if_icmp .le 10, 3) := by decide +kernel
theorem dX0_believed_20 : decode cX0_believed 20 = .ok (.iload 4, 2) := by decide +kernel
theorem dX0_believed_22 : decode cX0_believed 22 = .ok (.iconst 5, 1) := by decide +kernel
theorem dX0_believed_23 : decode cX0_believed 23 = .ok (.iadd, 1) := by decide +kernel
theorem dX0_believed_24 : decode cX0_believed 24 = .ok (.goto 5, 3) := by decide +kernel
theorem dX0_believed_27 : decode cX0_believed 27 = .ok (.iload 4, 2) := by decide +kernel
theorem dX0_believed_29 : decode cX0_believed 29 = .ok (.istore 5, 2) := by decide +kernel
theorem dX0_believed_31 : decode cX0_believed 31 = .ok (.iconst 0, 1) := by decide +kernel
theorem dX0_believed_32 : decode cX0_believed 32 = .ok (.iload 4, 2) := by decide +kernel
theorem dX0_believed_34 : decode cX0_believed 34 = .ok (.iload_n 2, 1) := by decide +kernel
theorem dX0_believed_35 : decode cX0_believed 35 = .ok (.isub, 1) := by decide +kernel
theorem dX0_believed_36 : decode cX0_believed 36 = .ok (.invokestatic 27, 3) := by decide +kernel
theorem dX0_believed_39 : decode cX0_believed 39 = .ok (.istore 6, 2) := by decide +kernel
theorem dX0_believed_41 : decode cX0_believed 41 = .ok (.iload_n 0, 1) := by decide +kernel
theorem dX0_believed_42 : decode cX0_believed 42 = .ok (.tableswitch 61 1 5 #[34, 37, 40, 51, 56], 34) := by decide +kernel
theorem dX0_believed_76 : decode cX0_believed 76 = .ok (.iload 5, 2) := by decide +kernel
theorem dX0_believed_78 : decode cX0_believed 78 = .ok (.ireturn, 1) := by decide +kernel
theorem dX0_believed_79 : decode cX0_believed 79 = .ok (.iload 6, 2) := by decide +kernel
theorem dX0_believed_81 : decode cX0_believed 81 = .ok (.ireturn, 1) := by decide +kernel
theorem dX0_believed_82 : decode cX0_believed 82 = .ok (.iload_n 3, 1) := by decide +kernel
theorem dX0_believed_83 : decode cX0_believed 83 = .ok (.iconst 5, 1) := by decide +kernel
theorem dX0_believed_84 : decode cX0_believed 84 = .ok (.if_icmp .lt 7, 3) := by decide +kernel
theorem dX0_believed_87 : decode cX0_believed 87 = .ok (.iload_n 1, 1) := by decide +kernel
theorem dX0_believed_88 : decode cX0_believed 88 = .ok (.goto 4, 3) := by decide +kernel
theorem dX0_believed_91 : decode cX0_believed 91 = .ok (.iconst 0, 1) := by decide +kernel
theorem dX0_believed_92 : decode cX0_believed 92 = .ok (.ireturn, 1) := by decide +kernel
theorem dX0_believed_93 : decode cX0_believed 93 = .ok (.iconst 2, 1) := by decide +kernel
theorem dX0_believed_94 : decode cX0_believed 94 = .ok (.iload 5, 2) := by decide +kernel
theorem dX0_believed_96 : decode cX0_believed 96 = .ok (.imul, 1) := by decide +kernel
theorem dX0_believed_97 : decode cX0_believed 97 = .ok (.ireturn, 1) := by decide +kernel
theorem dX0_believed_98 : decode cX0_believed 98 = .ok (.iload 6, 2) := by decide +kernel
theorem dX0_believed_100 : decode cX0_believed 100 = .ok (.iload_n 3, 1) := by decide +kernel
theorem dX0_believed_101 : decode cX0_believed 101 = .ok (.iadd, 1) := by decide +kernel
theorem dX0_believed_102 : decode cX0_believed 102 = .ok (.ireturn, 1) := by decide +kernel
theorem dX0_believed_103 : decode cX0_believed 103 = .ok (.iload 4, 2) := by decide +kernel
theorem dX0_believed_105 : decode cX0_believed 105 = .ok (.ireturn, 1) := by decide +kernel
theorem dX1_init_0 : decode cX1_init 0 = .ok (.aload_n 0, 1) := by decide +kernel
theorem dX1_init_1 : decode cX1_init 1 = .ok (.invokespecial 1, 3) := by decide +kernel
theorem dX1_init_4 : decode cX1_init 4 = .ok (.return_, 1) := by decide +kernel
theorem dX1_become_0 : decode cX1_become 0 = .ok (.aload_n 0, 1) := by decide +kernel
theorem dX1_become_1 : decode cX1_become 1 = .ok (.aload_n 1, 1) := by decide +kernel
theorem dX1_become_2 : decode cX1_become 2 = .ok (.getfield 7, 3) := by decide +kernel
theorem dX1_become_5 : decode cX1_become 5 = .ok (.putfield 7, 3) := by decide +kernel
theorem dX1_become_8 : decode cX1_become 8 = .ok (.aload_n 0, 1) := by decide +kernel
theorem dX1_become_9 : decode cX1_become 9 = .ok (.aload_n 1, 1) := by decide +kernel
theorem dX1_become_10 : decode cX1_become 10 = .ok (.getfield 13, 3) := by decide +kernel
theorem dX1_become_13 : decode cX1_become 13 = .ok (.putfield 13, 3) := by decide +kernel
theorem dX1_become_16 : decode cX1_become 16 = .ok (.aload_n 0, 1) := by decide +kernel
theorem dX1_become_17 : decode cX1_become 17 = .ok (.aload_n 1, 1) := by decide +kernel
theorem dX1_become_18 : decode cX1_become 18 = .ok (.getfield 16, 3) := by decide +kernel
theorem dX1_become_21 : decode cX1_become 21 = .ok (.putfield 16, 3) := by decide +kernel
theorem dX1_become_24 : decode cX1_become 24 = .ok (.aload_n 0, 1) := by decide +kernel
theorem dX1_become_25 : decode cX1_become 25 = .ok (.aload_n 1, 1) := by decide +kernel
theorem dX1_become_26 : decode cX1_become 26 = .ok (.getfield 19, 3) := by decide +kernel
theorem dX1_become_29 : decode cX1_become 29 = .ok (.putfield 19, 3) := by decide +kernel
theorem dX1_become_32 : decode cX1_become 32 = .ok (.aload_n 0, 1) := by decide +kernel
theorem dX1_become_33 : decode cX1_become 33 = .ok (.aload_n 1, 1) := by decide +kernel
theorem dX1_become_34 : decode cX1_become 34 = .ok (.getfield 22, 3) := by decide +kernel
theorem dX1_become_37 : decode cX1_become 37 = .ok (.putfield 22, 3) := by decide +kernel
theorem dX1_become_40 : decode cX1_become 40 = .ok (.return_, 1) := by decide +kernel
theorem dX1_least_0 : decode cX1_least 0 = .ok (.iload_n 0, 1) := by decide +kernel
theorem dX1_least_1 : decode cX1_least 1 = .ok (.iconst 1, 1) := by decide +kernel
theorem dX1_least_2 : decode cX1_least 2 = .ok (.if_icmp .ne 7, 3) := by decide +kernel
theorem dX1_least_5 : decode cX1_least 5 = .ok (.iconst 1, 1) := by decide +kernel
theorem dX1_least_6 : decode cX1_least 6 = .ok (.goto 4, 3) := by decide +kernel
theorem dX1_least_9 : decode cX1_least 9 = .ok (.iconst 0, 1) := by decide +kernel
theorem dX1_least_10 : decode cX1_least 10 = .ok (.ireturn, 1) := by decide +kernel
theorem dX1_most_0 : decode cX1_most 0 = .ok (.iload_n 0, 1) := by decide +kernel
theorem dX1_most_1 : decode cX1_most 1 = .ok (.tableswitch 43 1 4 #[31, 34, 37, 39], 31) := by decide +kernel
theorem dX1_most_32 : decode cX1_most 32 = .ok (.bipush 99, 2) := by decide +kernel
theorem dX1_most_34 : decode cX1_most 34 = .ok (.ireturn, 1) := by decide +kernel
theorem dX1_most_35 : decode cX1_most 35 = .ok (.bipush 99, 2) := by decide +kernel
theorem dX1_most_37 : decode cX1_most 37 = .ok (.ireturn, 1) := by decide +kernel
theorem dX1_most_38 : decode cX1_most 38 = .ok (.iconst 1, 1) := by decide +kernel
theorem dX1_most_39 : decode cX1_most 39 = .ok (.ireturn, 1) := by decide +kernel
theorem dX1_most_40 : decode cX1_most 40 = .ok (.sipush 9999, 3) := by decide +kernel
theorem dX1_most_43 : decode cX1_most 43 = .ok (.ireturn, 1) := by decide +kernel
theorem dX1_most_44 : decode cX1_most 44 = .ok (.iconst (-1), 1) := by decide +kernel
theorem dX1_most_45 : decode cX1_most 45 = .ok (.ireturn, 1) := by decide +kernel
theorem dX1_has_0 : decode cX1_has 0 = .ok (.iload_n 1, 1) := by decide +kernel
theorem dX1_has_1 : decode cX1_has 1 = .ok (.tableswitch 42 1 3 #[27, 32, 37], 27) := by decide +kernel
theorem dX1_has_28 : decode cX1_has 28 = .ok (.aload_n 0, 1) := by decide +kernel
theorem dX1_has_29 : decode cX1_has 29 = .ok (.getfield 13, 3) := by decide +kernel
theorem dX1_has_32 : decode cX1_has 32 = .ok (.ireturn, 1) := by decide +kernel
theorem dX1_has_33 : decode cX1_has 33 = .ok (.aload_n 0, 1) := by decide +kernel
theorem dX1_has_34 : decode cX1_has 34 = .ok (.getfield 16, 3) := by decide +kernel
theorem dX1_has_37 : decode cX1_has 37 = .ok (.ireturn, 1) := by decide +kernel
theorem dX1_has_38 : decode cX1_has 38 = .ok (.aload_n 0, 1) := by decide +kernel
theorem dX1_has_39 : decode cX1_has 39 = .ok (.getfield 19, 3) := by decide +kernel
theorem dX1_has_42 : decode cX1_has 42 = .ok (.ireturn, 1) := by decide +kernel
theorem dX1_has_43 : decode cX1_has 43 = .ok (.aload_n 0, 1) := by decide +kernel
theorem dX1_has_44 : decode cX1_has 44 = .ok (.getfield 22, 3) := by decide +kernel
theorem dX1_has_47 : decode cX1_has 47 = .ok (.ireturn, 1) := by decide +kernel
theorem dX1_put_0 : decode cX1_put 0 = .ok (.iload_n 1, 1) := by decide +kernel
theorem dX1_put_1 : decode cX1_put 1 = .ok (.tableswitch 51 1 3 #[27, 35, 43], 27) := by decide +kernel
theorem dX1_put_28 : decode cX1_put 28 = .ok (.aload_n 0, 1) := by decide +kernel
theorem dX1_put_29 : decode cX1_put 29 = .ok (.iload_n 2, 1) := by decide +kernel
theorem dX1_put_30 : decode cX1_put 30 = .ok (.putfield 13, 3) := by decide +kernel
theorem dX1_put_33 : decode cX1_put 33 = .ok (.goto 24, 3) := by decide +kernel
theorem dX1_put_36 : decode cX1_put 36 = .ok (.aload_n 0, 1) := by decide +kernel
theorem dX1_put_37 : decode cX1_put 37 = .ok (.iload_n 2, 1) := by decide +kernel
theorem dX1_put_38 : decode cX1_put 38 = .ok (.putfield 16, 3) := by decide +kernel
theorem dX1_put_41 : decode cX1_put 41 = .ok (.goto 16, 3) := by decide +kernel
theorem dX1_put_44 : decode cX1_put 44 = .ok (.aload_n 0, 1) := by decide +kernel
theorem dX1_put_45 : decode cX1_put 45 = .ok (.iload_n 2, 1) := by decide +kernel
theorem dX1_put_46 : decode cX1_put 46 = .ok (.putfield 19, 3) := by decide +kernel
theorem dX1_put_49 : decode cX1_put 49 = .ok (.goto 8, 3) := by decide +kernel
theorem dX1_put_52 : decode cX1_put 52 = .ok (.aload_n 0, 1) := by decide +kernel
theorem dX1_put_53 : decode cX1_put 53 = .ok (.iload_n 2, 1) := by decide +kernel
theorem dX1_put_54 : decode cX1_put 54 = .ok (.putfield 22, 3) := by decide +kernel
theorem dX1_put_57 : decode cX1_put 57 = .ok (.return_, 1) := by decide +kernel
theorem dX1_blackOn_0 : decode cX1_blackOn 0 = .ok (.aload_n 0, 1) := by decide +kernel
theorem dX1_blackOn_1 : decode cX1_blackOn 1 = .ok (.getfield 16, 3) := by decide +kernel
theorem dX1_blackOn_4 : decode cX1_blackOn 4 = .ok (.aload_n 0, 1) := by decide +kernel
theorem dX1_blackOn_5 : decode cX1_blackOn 5 = .ok (.getfield 7, 3) := by decide +kernel
theorem dX1_blackOn_8 : decode cX1_blackOn 8 = .ok (.aload_n 0, 1) := by decide +kernel
theorem dX1_blackOn_9 : decode cX1_blackOn 9 = .ok (.getfield 19, 3) := by decide +kernel
theorem dX1_blackOn_12 : decode cX1_blackOn 12 = .ok (.aload_n 0, 1) := by decide +kernel
theorem dX1_blackOn_13 : decode cX1_blackOn 13 = .ok (.getfield 22, 3) := by decide +kernel
theorem dX1_blackOn_16 : decode cX1_blackOn 16 = .ok (.invokestatic 25, 3) := by decide +kernel
theorem dX1_blackOn_19 : decode cX1_blackOn 19 = .ok (.iload_n 1, 1) := by decide +kernel
theorem dX1_blackOn_20 : decode cX1_blackOn 20 = .ok (.invokestatic 31, 3) := by decide +kernel
theorem dX1_blackOn_23 : decode cX1_blackOn 23 = .ok (.ireturn, 1) := by decide +kernel
theorem dX1_believedOn_0 : decode cX1_believedOn 0 = .ok (.aload_n 0, 1) := by decide +kernel
theorem dX1_believedOn_1 : decode cX1_believedOn 1 = .ok (.aload_n 0, 1) := by decide +kernel
theorem dX1_believedOn_2 : decode cX1_believedOn 2 = .ok (.getfield 7, 3) := by decide +kernel
theorem dX1_believedOn_5 : decode cX1_believedOn 5 = .ok (.aload_n 0, 1) := by decide +kernel
theorem dX1_believedOn_6 : decode cX1_believedOn 6 = .ok (.getfield 19, 3) := by decide +kernel
theorem dX1_believedOn_9 : decode cX1_believedOn 9 = .ok (.iload_n 1, 1) := by decide +kernel
theorem dX1_believedOn_10 : decode cX1_believedOn 10 = .ok (.iload_n 2, 1) := by decide +kernel
theorem dX1_believedOn_11 : decode cX1_believedOn 11 = .ok (.invokevirtual 34, 3) := by decide +kernel
theorem dX1_believedOn_14 : decode cX1_believedOn 14 = .ok (.ireturn, 1) := by decide +kernel
theorem dX1_believedAs_0 : decode cX1_believedAs 0 = .ok (.aload_n 0, 1) := by decide +kernel
theorem dX1_believedAs_1 : decode cX1_believedAs 1 = .ok (.getfield 16, 3) := by decide +kernel
theorem dX1_believedAs_4 : decode cX1_believedAs 4 = .ok (.iload_n 1, 1) := by decide +kernel
theorem dX1_believedAs_5 : decode cX1_believedAs 5 = .ok (.iload_n 2, 1) := by decide +kernel
theorem dX1_believedAs_6 : decode cX1_believedAs 6 = .ok (.aload_n 0, 1) := by decide +kernel
theorem dX1_believedAs_7 : decode cX1_believedAs 7 = .ok (.getfield 22, 3) := by decide +kernel
theorem dX1_believedAs_10 : decode cX1_believedAs 10 = .ok (.invokestatic 25, 3) := by decide +kernel
theorem dX1_believedAs_13 : decode cX1_believedAs 13 = .ok (.iload_n 3, 1) := by decide +kernel
theorem dX1_believedAs_14 : decode cX1_believedAs 14 = .ok (.invokestatic 31, 3) := by decide +kernel
theorem dX1_believedAs_17 : decode cX1_believedAs 17 = .ok (.istore 5, 2) := by decide +kernel
theorem dX1_believedAs_19 : decode cX1_believedAs 19 = .ok (.iload_n 1, 1) := by decide +kernel
theorem dX1_believedAs_20 : decode cX1_believedAs 20 = .ok (.iload 5, 2) := by decide +kernel
theorem dX1_believedAs_22 : decode cX1_believedAs 22 = .ok (.aload_n 0, 1) := by decide +kernel
theorem dX1_believedAs_23 : decode cX1_believedAs 23 = .ok (.getfield 22, 3) := by decide +kernel
theorem dX1_believedAs_26 : decode cX1_believedAs 26 = .ok (.iload 4, 2) := by decide +kernel
theorem dX1_believedAs_28 : decode cX1_believedAs 28 = .ok (.invokestatic 38, 3) := by decide +kernel
theorem dX1_believedAs_31 : decode cX1_believedAs 31 = .ok (.ireturn, 1) := by decide +kernel
theorem dX1_firstWhite_0 : decode cX1_firstWhite 0 = .ok (.iconst 0, 1) := by decide +kernel
theorem dX1_firstWhite_1 : decode cX1_firstWhite 1 = .ok (.istore_n 2, 1) := by decide +kernel
theorem dX1_firstWhite_2 : decode cX1_firstWhite 2 = .ok (.iload_n 2, 1) := by decide +kernel
theorem dX1_firstWhite_3 : decode cX1_firstWhite 3 = .ok (.iload_n 1, 1) := by decide +kernel
theorem dX1_firstWhite_4 : decode cX1_firstWhite 4 = .ok (.if_icmp .gt 19, 3) := by decide +kernel
theorem dX1_firstWhite_7 : decode cX1_firstWhite 7 = .ok (.aload_n 0, 1) := by decide +kernel
theorem dX1_firstWhite_8 : decode cX1_firstWhite 8 = .ok (.iload_n 2, 1) := by decide +kernel
theorem dX1_firstWhite_9 : decode cX1_firstWhite 9 = .ok (.invokevirtual 41, 3) := by decide +kernel
theorem dX1_firstWhite_12 : decode cX1_firstWhite 12 = .ok (.ifCond .ne 5, 3) := by decide +kernel
theorem dX1_firstWhite_15 : decode cX1_firstWhite 15 = .ok (.iload_n 2, 1) := by decide +kernel
theorem dX1_firstWhite_16 : decode cX1_firstWhite 16 = .ok (.ireturn, 1) := by decide +kernel
theorem dX1_firstWhite_17 : decode cX1_firstWhite 17 = .ok (.iinc 2 1, 3) := by decide +kernel
theorem dX1_firstWhite_20 : decode cX1_firstWhite 20 = .ok (.goto (-18), 3) := by decide +kernel
theorem dX1_firstWhite_23 : decode cX1_firstWhite 23 = .ok (.iconst (-1), 1) := by decide +kernel
theorem dX1_firstWhite_24 : decode cX1_firstWhite 24 = .ok (.ireturn, 1) := by decide +kernel
theorem dX1_mostBelievedKind_0 : decode cX1_mostBelievedKind 0 = .ok (.iconst 0, 1) := by decide +kernel
theorem dX1_mostBelievedKind_1 : decode cX1_mostBelievedKind 1 = .ok (.istore_n 3, 1) := by decide +kernel
theorem dX1_mostBelievedKind_2 : decode cX1_mostBelievedKind 2 = .ok (.iconst (-1), 1) := by decide +kernel
theorem dX1_mostBelievedKind_3 : decode cX1_mostBelievedKind 3 = .ok (.istore 4, 2) := by decide +kernel
theorem dX1_mostBelievedKind_5 : decode cX1_mostBelievedKind 5 = .ok (.iconst 0, 1) := by decide +kernel
theorem dX1_mostBelievedKind_6 : decode cX1_mostBelievedKind 6 = .ok (.istore 5, 2) := by decide +kernel
theorem dX1_mostBelievedKind_8 : decode cX1_mostBelievedKind 8 = .ok (.iload 5, 2) := by decide +kernel
theorem dX1_mostBelievedKind_10 : decode cX1_mostBelievedKind 10 = .ok (.bipush 6, 2) := by decide +kernel
theorem dX1_mostBelievedKind_12 : decode cX1_mostBelievedKind 12 = .ok (.if_icmp .ge 37, 3) := by decide +kernel
theorem dX1_mostBelievedKind_15 : decode cX1_mostBelievedKind 15 = .ok (.aload_n 0, 1) := by decide +kernel
theorem dX1_mostBelievedKind_16 : decode cX1_mostBelievedKind 16 = .ok (.iload 5, 2) := by decide +kernel
theorem dX1_mostBelievedKind_18 : decode cX1_mostBelievedKind 18 = .ok (.aload_n 0, 1) := by decide +kernel
theorem dX1_mostBelievedKind_19 : decode cX1_mostBelievedKind 19 = .ok (.getfield 19, 3) := by decide +kernel
theorem dX1_mostBelievedKind_22 : decode cX1_mostBelievedKind 22 = .ok (.iload_n 1, 1) := by decide +kernel
theorem dX1_mostBelievedKind_23 : decode cX1_mostBelievedKind 23 = .ok (.iload_n 2, 1) := by decide +kernel
theorem dX1_mostBelievedKind_24 : decode cX1_mostBelievedKind 24 = .ok (.invokevirtual 34, 3) := by decide +kernel
theorem dX1_mostBelievedKind_27 : decode cX1_mostBelievedKind 27 = .ok (.istore 6, 2) := by decide +kernel
theorem dX1_mostBelievedKind_29 : decode cX1_mostBelievedKind 29 = .ok (.iload 6, 2) := by decide +kernel
theorem dX1_mostBelievedKind_31 : decode cX1_mostBelievedKind 31 = .ok (.iload 4, 2) := by decide +kernel
theorem dX1_mostBelievedKind_33 : decode cX1_mostBelievedKind 33 = .ok (.if_icmp .le 10, 3) := by decide +kernel
theorem dX1_mostBelievedKind_36 : decode cX1_mostBelievedKind 36 = .ok (.iload 5, 2) := by decide +kernel
theorem dX1_mostBelievedKind_38 : decode cX1_mostBelievedKind 38 = .ok (.istore_n 3, 1) := by decide +kernel
theorem dX1_mostBelievedKind_39 : decode cX1_mostBelievedKind 39 = .ok (.iload 6, 2) := by decide +kernel
theorem dX1_mostBelievedKind_41 : decode cX1_mostBelievedKind 41 = .ok (.istore 4, 2) := by decide +kernel
theorem dX1_mostBelievedKind_43 : decode cX1_mostBelievedKind 43 = .ok (.iinc 5 1, 3) := by decide +kernel
theorem dX1_mostBelievedKind_46 : decode cX1_mostBelievedKind 46 = .ok (.goto (-38), 3) := by decide +kernel
theorem dX1_mostBelievedKind_49 : decode cX1_mostBelievedKind 49 = .ok (.iload_n 3, 1) := by decide +kernel
theorem dX1_mostBelievedKind_50 : decode cX1_mostBelievedKind 50 = .ok (.ireturn, 1) := by decide +kernel
theorem dX1_waysToFadeAs_0 : decode cX1_waysToFadeAs 0 = .ok (.iconst 0, 1) := by decide +kernel
theorem dX1_waysToFadeAs_1 : decode cX1_waysToFadeAs 1 = .ok (.istore_n 2, 1) := by decide +kernel
theorem dX1_waysToFadeAs_2 : decode cX1_waysToFadeAs 2 = .ok (.iconst 0, 1) := by decide +kernel
theorem dX1_waysToFadeAs_3 : decode cX1_waysToFadeAs 3 = .ok (.istore_n 3, 1) := by decide +kernel
theorem dX1_waysToFadeAs_4 : decode cX1_waysToFadeAs 4 = .ok (.iload_n 3, 1) := by decide +kernel
theorem dX1_waysToFadeAs_5 : decode cX1_waysToFadeAs 5 = .ok (.bipush 6, 2) := by decide +kernel
theorem dX1_waysToFadeAs_7 : decode cX1_waysToFadeAs 7 = .ok (.if_icmp .ge 53, 3) := by decide +kernel
theorem dX1_waysToFadeAs_10 : decode cX1_waysToFadeAs 10 = .ok (.iload_n 3, 1) := by decide +kernel
theorem dX1_waysToFadeAs_11 : decode cX1_waysToFadeAs 11 = .ok (.aload_n 0, 1) := by decide +kernel
theorem dX1_waysToFadeAs_12 : decode cX1_waysToFadeAs 12 = .ok (.getfield 19, 3) := by decide +kernel
theorem dX1_waysToFadeAs_15 : decode cX1_waysToFadeAs 15 = .ok (.aload_n 0, 1) := by decide +kernel
theorem dX1_waysToFadeAs_16 : decode cX1_waysToFadeAs 16 = .ok (.getfield 22, 3) := by decide +kernel
theorem dX1_waysToFadeAs_19 : decode cX1_waysToFadeAs 19 = .ok (.invokestatic 25, 3) := by decide +kernel
theorem dX1_waysToFadeAs_22 : decode cX1_waysToFadeAs 22 = .ok (.istore 4, 2) := by decide +kernel
theorem dX1_waysToFadeAs_24 : decode cX1_waysToFadeAs 24 = .ok (.iconst 0, 1) := by decide +kernel
theorem dX1_waysToFadeAs_25 : decode cX1_waysToFadeAs 25 = .ok (.istore 5, 2) := by decide +kernel
theorem dX1_waysToFadeAs_27 : decode cX1_waysToFadeAs 27 = .ok (.iload 5, 2) := by decide +kernel
theorem dX1_waysToFadeAs_29 : decode cX1_waysToFadeAs 29 = .ok (.bipush 99, 2) := by decide +kernel
theorem dX1_waysToFadeAs_31 : decode cX1_waysToFadeAs 31 = .ok (.if_icmp .gt 23, 3) := by decide +kernel
theorem dX1_waysToFadeAs_34 : decode cX1_waysToFadeAs 34 = .ok (.aload_n 1, 1) := by decide +kernel
theorem dX1_waysToFadeAs_35 : decode cX1_waysToFadeAs 35 = .ok (.iload 5, 2) := by decide +kernel
theorem dX1_waysToFadeAs_37 : decode cX1_waysToFadeAs 37 = .ok (.iload 4, 2) := by decide +kernel
theorem dX1_waysToFadeAs_39 : decode cX1_waysToFadeAs 39 = .ok (.invokestatic 45, 3) := by decide +kernel
theorem dX1_waysToFadeAs_42 : decode cX1_waysToFadeAs 42 = .ok (.ifCond .eq 6, 3) := by decide +kernel
theorem dX1_waysToFadeAs_45 : decode cX1_waysToFadeAs 45 = .ok (.iinc 2 1, 3) := by decide +kernel
theorem dX1_waysToFadeAs_48 : decode cX1_waysToFadeAs 48 = .ok (.iinc 5 1, 3) := by decide +kernel
theorem dX1_waysToFadeAs_51 : decode cX1_waysToFadeAs 51 = .ok (.goto (-24), 3) := by decide +kernel
theorem dX1_waysToFadeAs_54 : decode cX1_waysToFadeAs 54 = .ok (.iinc 3 1, 3) := by decide +kernel
theorem dX1_waysToFadeAs_57 : decode cX1_waysToFadeAs 57 = .ok (.goto (-53), 3) := by decide +kernel
theorem dX1_waysToFadeAs_60 : decode cX1_waysToFadeAs 60 = .ok (.iload_n 2, 1) := by decide +kernel
theorem dX1_waysToFadeAs_61 : decode cX1_waysToFadeAs 61 = .ok (.ireturn, 1) := by decide +kernel
theorem dX1_tells_0 : decode cX1_tells 0 = .ok (.iconst 0, 1) := by decide +kernel
theorem dX1_tells_1 : decode cX1_tells 1 = .ok (.istore_n 3, 1) := by decide +kernel
theorem dX1_tells_2 : decode cX1_tells 2 = .ok (.iload_n 3, 1) := by decide +kernel
theorem dX1_tells_3 : decode cX1_tells 3 = .ok (.aload_n 0, 1) := by decide +kernel
theorem dX1_tells_4 : decode cX1_tells 4 = .ok (.getfield 49, 3) := by decide +kernel
theorem dX1_tells_7 : decode cX1_tells 7 = .ok (.if_icmp .ge 28, 3) := by decide +kernel
theorem dX1_tells_10 : decode cX1_tells 10 = .ok (.aload_n 0, 1) := by decide +kernel
theorem dX1_tells_11 : decode cX1_tells 11 = .ok (.getfield 54, 3) := by decide +kernel
theorem dX1_tells_14 : decode cX1_tells 14 = .ok (.iload_n 3, 1) := by decide +kernel
theorem dX1_tells_15 : decode cX1_tells 15 = .ok (.laload, 1) := by decide +kernel
theorem dX1_tells_16 : decode cX1_tells 16 = .ok (.iload_n 1, 1) := by decide +kernel
theorem dX1_tells_17 : decode cX1_tells 17 = .ok (.iload_n 2, 1) := by decide +kernel
theorem dX1_tells_18 : decode cX1_tells 18 = .ok (.iload_n 3, 1) := by decide +kernel
theorem dX1_tells_19 : decode cX1_tells 19 = .ok (.invokestatic 31, 3) := by decide +kernel
theorem dX1_tells_22 : decode cX1_tells 22 = .ok (.i2l, 1) := by decide +kernel
theorem dX1_tells_23 : decode cX1_tells 23 = .ok (.lcmp, 1) := by decide +kernel
theorem dX1_tells_24 : decode cX1_tells 24 = .ok (.ifCond .eq 5, 3) := by decide +kernel
theorem dX1_tells_27 : decode cX1_tells 27 = .ok (.iconst 0, 1) := by decide +kernel
theorem dX1_tells_28 : decode cX1_tells 28 = .ok (.ireturn, 1) := by decide +kernel
theorem dX1_tells_29 : decode cX1_tells 29 = .ok (.iinc 3 1, 3) := by decide +kernel
theorem dX1_tells_32 : decode cX1_tells 32 = .ok (.goto (-30), 3) := by decide +kernel
theorem dX1_tells_35 : decode cX1_tells 35 = .ok (.iconst 1, 1) := by decide +kernel
theorem dX1_tells_36 : decode cX1_tells 36 = .ok (.ireturn, 1) := by decide +kernel
theorem dX1_faded_0 : decode cX1_faded 0 = .ok (.iconst 0, 1) := by decide +kernel
theorem dX1_faded_1 : decode cX1_faded 1 = .ok (.iload_n 0, 1) := by decide +kernel
theorem dX1_faded_2 : decode cX1_faded 2 = .ok (.iload_n 2, 1) := by decide +kernel
theorem dX1_faded_3 : decode cX1_faded 3 = .ok (.iload_n 1, 1) := by decide +kernel
theorem dX1_faded_4 : decode cX1_faded 4 = .ok (.imul, 1) := by decide +kernel
theorem dX1_faded_5 : decode cX1_faded 5 = .ok (.isub, 1) := by decide +kernel
theorem dX1_faded_6 : decode cX1_faded 6 = .ok (.invokestatic 58, 3) := by decide +kernel
theorem dX1_faded_9 : decode cX1_faded 9 = .ok (.ireturn, 1) := by decide +kernel
theorem dX2_init_0 : decode cX2_init 0 = .ok (.aload_n 0, 1) := by decide +kernel
theorem dX2_init_1 : decode cX2_init 1 = .ok (.invokespecial 1, 3) := by decide +kernel
theorem dX2_init_4 : decode cX2_init 4 = .ok (.aload_n 0, 1) := by decide +kernel
theorem dX2_init_5 : decode cX2_init 5 = .ok (.iconst 0, 1) := by decide +kernel
theorem dX2_init_6 : decode cX2_init 6 = .ok (.putfield 7, 3) := by decide +kernel
theorem dX2_init_9 : decode cX2_init 9 = .ok (.aload_n 0, 1) := by decide +kernel
theorem dX2_init_10 : decode cX2_init 10 = .ok (.iconst 3, 1) := by decide +kernel
theorem dX2_init_11 : decode cX2_init 11 = .ok (.putfield 13, 3) := by decide +kernel
theorem dX2_init_14 : decode cX2_init 14 = .ok (.aload_n 0, 1) := by decide +kernel
theorem dX2_init_15 : decode cX2_init 15 = .ok (.iconst 0, 1) := by decide +kernel
theorem dX2_init_16 : decode cX2_init 16 = .ok (.putfield 16, 3) := by decide +kernel
theorem dX2_init_19 : decode cX2_init 19 = .ok (.aload_n 0, 1) := by decide +kernel
theorem dX2_init_20 : decode cX2_init 20 = .ok (.iconst 5, 1) := by decide +kernel
theorem dX2_init_21 : decode cX2_init 21 = .ok (.putfield 19, 3) := by decide +kernel
theorem dX2_init_24 : decode cX2_init 24 = .ok (.aload_n 0, 1) := by decide +kernel
theorem dX2_init_25 : decode cX2_init 25 = .ok (.iconst 5, 1) := by decide +kernel
theorem dX2_init_26 : decode cX2_init 26 = .ok (.putfield 22, 3) := by decide +kernel
theorem dX2_init_29 : decode cX2_init 29 = .ok (.aload_n 0, 1) := by decide +kernel
theorem dX2_init_30 : decode cX2_init 30 = .ok (.iconst 0, 1) := by decide +kernel
theorem dX2_init_31 : decode cX2_init 31 = .ok (.putfield 25, 3) := by decide +kernel
theorem dX2_init_34 : decode cX2_init 34 = .ok (.aload_n 0, 1) := by decide +kernel
theorem dX2_init_35 : decode cX2_init 35 = .ok (.bipush 12, 2) := by decide +kernel
theorem dX2_init_37 : decode cX2_init 37 = .ok (.newarray .int, 2) := by decide +kernel
theorem dX2_init_39 : decode cX2_init 39 = .ok (.putfield 28, 3) := by decide +kernel
theorem dX2_init_42 : decode cX2_init 42 = .ok (.aload_n 0, 1) := by decide +kernel
theorem dX2_init_43 : decode cX2_init 43 = .ok (.bipush 8, 2) := by decide +kernel
theorem dX2_init_45 : decode cX2_init 45 = .ok (.anewarray 32, 3) := by decide +kernel
theorem dX2_init_48 : decode cX2_init 48 = .ok (.putfield 34, 3) := by decide +kernel
theorem dX2_init_51 : decode cX2_init 51 = .ok (.aload_n 0, 1) := by decide +kernel
theorem dX2_init_52 : decode cX2_init 52 = .ok (.bipush 8, 2) := by decide +kernel
theorem dX2_init_54 : decode cX2_init 54 = .ok (.newarray .int, 2) := by decide +kernel
theorem dX2_init_56 : decode cX2_init 56 = .ok (.putfield 38, 3) := by decide +kernel
theorem dX2_init_59 : decode cX2_init 59 = .ok (.iconst 0, 1) := by decide +kernel
theorem dX2_init_60 : decode cX2_init 60 = .ok (.istore_n 1, 1) := by decide +kernel
theorem dX2_init_61 : decode cX2_init 61 = .ok (.iload_n 1, 1) := by decide +kernel
theorem dX2_init_62 : decode cX2_init 62 = .ok (.bipush 12, 2) := by decide +kernel
theorem dX2_init_64 : decode cX2_init 64 = .ok (.if_icmp .ge 23, 3) := by decide +kernel
theorem dX2_init_67 : decode cX2_init 67 = .ok (.aload_n 0, 1) := by decide +kernel
theorem dX2_init_68 : decode cX2_init 68 = .ok (.getfield 28, 3) := by decide +kernel
theorem dX2_init_71 : decode cX2_init 71 = .ok (.iload_n 1, 1) := by decide +kernel
theorem dX2_init_72 : decode cX2_init 72 = .ok (.iconst 4, 1) := by decide +kernel
theorem dX2_init_73 : decode cX2_init 73 = .ok (.iconst 5, 1) := by decide +kernel
theorem dX2_init_74 : decode cX2_init 74 = .ok (.iload_n 1, 1) := by decide +kernel
theorem dX2_init_75 : decode cX2_init 75 = .ok (.imul, 1) := by decide +kernel
theorem dX2_init_76 : decode cX2_init 76 = .ok (.bipush 13, 2) := by decide +kernel
theorem dX2_init_78 : decode cX2_init 78 = .ok (.irem, 1) := by decide +kernel
theorem dX2_init_79 : decode cX2_init 79 = .ok (.iadd, 1) := by decide +kernel
theorem dX2_init_80 : decode cX2_init 80 = .ok (.iastore, 1) := by decide +kernel
theorem dX2_init_81 : decode cX2_init 81 = .ok (.iinc 1 1, 3) := by decide +kernel
theorem dX2_init_84 : decode cX2_init 84 = .ok (.goto (-23), 3) := by decide +kernel
theorem dX2_init_87 : decode cX2_init 87 = .ok (.iconst 0, 1) := by decide +kernel
theorem dX2_init_88 : decode cX2_init 88 = .ok (.istore_n 1, 1) := by decide +kernel
theorem dX2_init_89 : decode cX2_init 89 = .ok (.iload_n 1, 1) := by decide +kernel
theorem dX2_init_90 : decode cX2_init 90 = .ok (.bipush 8, 2) := by decide +kernel
theorem dX2_init_92 : decode cX2_init 92 = .ok (.if_icmp .ge 22, 3) := by decide +kernel
theorem dX2_init_95 : decode cX2_init 95 = .ok (.aload_n 0, 1) := by decide +kernel
theorem dX2_init_96 : decode cX2_init 96 = .ok (.getfield 34, 3) := by decide +kernel
theorem dX2_init_99 : decode cX2_init 99 = .ok (.iload_n 1, 1) := by decide +kernel
theorem dX2_init_100 : decode cX2_init 100 = .ok (.new 32, 3) := by decide +kernel
theorem dX2_init_103 : decode cX2_init 103 = .ok (.dup, 1) := by decide +kernel
theorem dX2_init_104 : decode cX2_init 104 = .ok (.invokespecial 41, 3) := by decide +kernel
theorem dX2_init_107 : decode cX2_init 107 = .ok (.aastore, 1) := by decide +kernel
theorem dX2_init_108 : decode cX2_init 108 = .ok (.iinc 1 1, 3) := by decide +kernel
theorem dX2_init_111 : decode cX2_init 111 = .ok (.goto (-22), 3) := by decide +kernel
theorem dX2_init_114 : decode cX2_init 114 = .ok (.return_, 1) := by decide +kernel
theorem dX2_become_0 : decode cX2_become 0 = .ok (.aload_n 0, 1) := by decide +kernel
theorem dX2_become_1 : decode cX2_become 1 = .ok (.aload_n 1, 1) := by decide +kernel
theorem dX2_become_2 : decode cX2_become 2 = .ok (.getfield 7, 3) := by decide +kernel
theorem dX2_become_5 : decode cX2_become 5 = .ok (.putfield 7, 3) := by decide +kernel
theorem dX2_become_8 : decode cX2_become 8 = .ok (.aload_n 0, 1) := by decide +kernel
theorem dX2_become_9 : decode cX2_become 9 = .ok (.aload_n 1, 1) := by decide +kernel
theorem dX2_become_10 : decode cX2_become 10 = .ok (.getfield 13, 3) := by decide +kernel
theorem dX2_become_13 : decode cX2_become 13 = .ok (.putfield 13, 3) := by decide +kernel
theorem dX2_become_16 : decode cX2_become 16 = .ok (.aload_n 0, 1) := by decide +kernel
theorem dX2_become_17 : decode cX2_become 17 = .ok (.aload_n 1, 1) := by decide +kernel
theorem dX2_become_18 : decode cX2_become 18 = .ok (.getfield 16, 3) := by decide +kernel
theorem dX2_become_21 : decode cX2_become 21 = .ok (.putfield 16, 3) := by decide +kernel
theorem dX2_become_24 : decode cX2_become 24 = .ok (.aload_n 0, 1) := by decide +kernel
theorem dX2_become_25 : decode cX2_become 25 = .ok (.aload_n 1, 1) := by decide +kernel
theorem dX2_become_26 : decode cX2_become 26 = .ok (.getfield 19, 3) := by decide +kernel
theorem dX2_become_29 : decode cX2_become 29 = .ok (.putfield 19, 3) := by decide +kernel
theorem dX2_become_32 : decode cX2_become 32 = .ok (.aload_n 0, 1) := by decide +kernel
theorem dX2_become_33 : decode cX2_become 33 = .ok (.aload_n 1, 1) := by decide +kernel
theorem dX2_become_34 : decode cX2_become 34 = .ok (.getfield 22, 3) := by decide +kernel
theorem dX2_become_37 : decode cX2_become 37 = .ok (.putfield 22, 3) := by decide +kernel
theorem dX2_become_40 : decode cX2_become 40 = .ok (.aload_n 0, 1) := by decide +kernel
theorem dX2_become_41 : decode cX2_become 41 = .ok (.aload_n 1, 1) := by decide +kernel
theorem dX2_become_42 : decode cX2_become 42 = .ok (.getfield 25, 3) := by decide +kernel
theorem dX2_become_45 : decode cX2_become 45 = .ok (.putfield 25, 3) := by decide +kernel
theorem dX2_become_48 : decode cX2_become 48 = .ok (.aload_n 1, 1) := by decide +kernel
theorem dX2_become_49 : decode cX2_become 49 = .ok (.getfield 28, 3) := by decide +kernel
theorem dX2_become_52 : decode cX2_become 52 = .ok (.iconst 0, 1) := by decide +kernel
theorem dX2_become_53 : decode cX2_become 53 = .ok (.aload_n 0, 1) := by decide +kernel
theorem dX2_become_54 : decode cX2_become 54 = .ok (.getfield 28, 3) := by decide +kernel
theorem dX2_become_57 : decode cX2_become 57 = .ok (.iconst 0, 1) := by decide +kernel
theorem dX2_become_58 : decode cX2_become 58 = .ok (.bipush 12, 2) := by decide +kernel
theorem dX2_become_60 : decode cX2_become 60 = .ok (.invokestatic 42, 3) := by decide +kernel
theorem dX2_become_63 : decode cX2_become 63 = .ok (.iconst 0, 1) := by decide +kernel
theorem dX2_become_64 : decode cX2_become 64 = .ok (.istore_n 2, 1) := by decide +kernel
theorem dX2_become_65 : decode cX2_become 65 = .ok (.iload_n 2, 1) := by decide +kernel
theorem dX2_become_66 : decode cX2_become 66 = .ok (.bipush 8, 2) := by decide +kernel
theorem dX2_become_68 : decode cX2_become 68 = .ok (.if_icmp .ge 24, 3) := by decide +kernel
theorem dX2_become_71 : decode cX2_become 71 = .ok (.aload_n 0, 1) := by decide +kernel
theorem dX2_become_72 : decode cX2_become 72 = .ok (.getfield 34, 3) := by decide +kernel
theorem dX2_become_75 : decode cX2_become 75 = .ok (.iload_n 2, 1) := by decide +kernel
theorem dX2_become_76 : decode cX2_become 76 = .ok (.aaload, 1) := by decide +kernel
theorem dX2_become_77 : decode cX2_become 77 = .ok (.aload_n 1, 1) := by decide +kernel
theorem dX2_become_78 : decode cX2_become 78 = .ok (.getfield 34, 3) := by decide +kernel
theorem dX2_become_81 : decode cX2_become 81 = .ok (.iload_n 2, 1) := by decide +kernel
theorem dX2_become_82 : decode cX2_become 82 = .ok (.aaload, 1) := by decide +kernel
theorem dX2_become_83 : decode cX2_become 83 = .ok (.invokevirtual 48, 3) := by decide +kernel
theorem dX2_become_86 : decode cX2_become 86 = .ok (.iinc 2 1, 3) := by decide +kernel
theorem dX2_become_89 : decode cX2_become 89 = .ok (.goto (-24), 3) := by decide +kernel
theorem dX2_become_92 : decode cX2_become 92 = .ok (.return_, 1) := by decide +kernel
theorem dX2_mostInJar_0 : decode cX2_mostInJar 0 = .ok (.iload_n 0, 1) := by decide +kernel
theorem dX2_mostInJar_1 : decode cX2_mostInJar 1 = .ok (.tableswitch 44 0 3 #[31, 34, 37, 41], 31) := by decide +kernel
theorem dX2_mostInJar_32 : decode cX2_mostInJar 32 = .ok (.bipush 9, 2) := by decide +kernel
theorem dX2_mostInJar_34 : decode cX2_mostInJar 34 = .ok (.ireturn, 1) := by decide +kernel
theorem dX2_mostInJar_35 : decode cX2_mostInJar 35 = .ok (.bipush 8, 2) := by decide +kernel
theorem dX2_mostInJar_37 : decode cX2_mostInJar 37 = .ok (.ireturn, 1) := by decide +kernel
theorem dX2_mostInJar_38 : decode cX2_mostInJar 38 = .ok (.sipush 999, 3) := by decide +kernel
theorem dX2_mostInJar_41 : decode cX2_mostInJar 41 = .ok (.ireturn, 1) := by decide +kernel
theorem dX2_mostInJar_42 : decode cX2_mostInJar 42 = .ok (.bipush 9, 2) := by decide +kernel
theorem dX2_mostInJar_44 : decode cX2_mostInJar 44 = .ok (.ireturn, 1) := by decide +kernel
theorem dX2_mostInJar_45 : decode cX2_mostInJar 45 = .ok (.iconst (-1), 1) := by decide +kernel
theorem dX2_mostInJar_46 : decode cX2_mostInJar 46 = .ok (.ireturn, 1) := by decide +kernel
theorem dX2_jarHolds_0 : decode cX2_jarHolds 0 = .ok (.iload_n 1, 1) := by decide +kernel
theorem dX2_jarHolds_1 : decode cX2_jarHolds 1 = .ok (.tableswitch 42 0 2 #[27, 32, 37], 27) := by decide +kernel
theorem dX2_jarHolds_28 : decode cX2_jarHolds 28 = .ok (.aload_n 0, 1) := by decide +kernel
theorem dX2_jarHolds_29 : decode cX2_jarHolds 29 = .ok (.getfield 13, 3) := by decide +kernel
theorem dX2_jarHolds_32 : decode cX2_jarHolds 32 = .ok (.ireturn, 1) := by decide +kernel
theorem dX2_jarHolds_33 : decode cX2_jarHolds 33 = .ok (.aload_n 0, 1) := by decide +kernel
theorem dX2_jarHolds_34 : decode cX2_jarHolds 34 = .ok (.getfield 16, 3) := by decide +kernel
theorem dX2_jarHolds_37 : decode cX2_jarHolds 37 = .ok (.ireturn, 1) := by decide +kernel
theorem dX2_jarHolds_38 : decode cX2_jarHolds 38 = .ok (.aload_n 0, 1) := by decide +kernel
theorem dX2_jarHolds_39 : decode cX2_jarHolds 39 = .ok (.getfield 19, 3) := by decide +kernel
theorem dX2_jarHolds_42 : decode cX2_jarHolds 42 = .ok (.ireturn, 1) := by decide +kernel
theorem dX2_jarHolds_43 : decode cX2_jarHolds 43 = .ok (.aload_n 0, 1) := by decide +kernel
theorem dX2_jarHolds_44 : decode cX2_jarHolds 44 = .ok (.getfield 22, 3) := by decide +kernel
theorem dX2_jarHolds_47 : decode cX2_jarHolds 47 = .ok (.ireturn, 1) := by decide +kernel
theorem dX2_fillJar_0 : decode cX2_fillJar 0 = .ok (.iload_n 1, 1) := by decide +kernel
theorem dX2_fillJar_1 : decode cX2_fillJar 1 = .ok (.tableswitch 51 0 2 #[27, 35, 43], 27) := by decide +kernel
theorem dX2_fillJar_28 : decode cX2_fillJar 28 = .ok (.aload_n 0, 1) := by decide +kernel
theorem dX2_fillJar_29 : decode cX2_fillJar 29 = .ok (.iload_n 2, 1) := by decide +kernel
theorem dX2_fillJar_30 : decode cX2_fillJar 30 = .ok (.putfield 13, 3) := by decide +kernel
theorem dX2_fillJar_33 : decode cX2_fillJar 33 = .ok (.goto 24, 3) := by decide +kernel
theorem dX2_fillJar_36 : decode cX2_fillJar 36 = .ok (.aload_n 0, 1) := by decide +kernel
theorem dX2_fillJar_37 : decode cX2_fillJar 37 = .ok (.iload_n 2, 1) := by decide +kernel
theorem dX2_fillJar_38 : decode cX2_fillJar 38 = .ok (.putfield 16, 3) := by decide +kernel
theorem dX2_fillJar_41 : decode cX2_fillJar 41 = .ok (.goto 16, 3) := by decide +kernel
theorem dX2_fillJar_44 : decode cX2_fillJar 44 = .ok (.aload_n 0, 1) := by decide +kernel
theorem dX2_fillJar_45 : decode cX2_fillJar 45 = .ok (.iload_n 2, 1) := by decide +kernel
theorem dX2_fillJar_46 : decode cX2_fillJar 46 = .ok (.putfield 19, 3) := by decide +kernel
theorem dX2_fillJar_49 : decode cX2_fillJar 49 = .ok (.goto 8, 3) := by decide +kernel
theorem dX2_fillJar_52 : decode cX2_fillJar 52 = .ok (.aload_n 0, 1) := by decide +kernel
theorem dX2_fillJar_53 : decode cX2_fillJar 53 = .ok (.iload_n 2, 1) := by decide +kernel
theorem dX2_fillJar_54 : decode cX2_fillJar 54 = .ok (.putfield 22, 3) := by decide +kernel
theorem dX2_fillJar_57 : decode cX2_fillJar 57 = .ok (.return_, 1) := by decide +kernel
theorem dX2_hasPage_0 : decode cX2_hasPage 0 = .ok (.iload_n 1, 1) := by decide +kernel
theorem dX2_hasPage_1 : decode cX2_hasPage 1 = .ok (.ifCond .lt 15, 3) := by decide +kernel
theorem dX2_hasPage_4 : decode cX2_hasPage 4 = .ok (.iload_n 1, 1) := by decide +kernel
theorem dX2_hasPage_5 : decode cX2_hasPage 5 = .ok (.aload_n 0, 1) := by decide +kernel
theorem dX2_hasPage_6 : decode cX2_hasPage 6 = .ok (.getfield 25, 3) := by decide +kernel
theorem dX2_hasPage_9 : decode cX2_hasPage 9 = .ok (.if_icmp .ge 7, 3) := by decide +kernel
theorem dX2_hasPage_12 : decode cX2_hasPage 12 = .ok (.iconst 1, 1) := by decide +kernel
theorem dX2_hasPage_13 : decode cX2_hasPage 13 = .ok (.goto 4, 3) := by decide +kernel
theorem dX2_hasPage_16 : decode cX2_hasPage 16 = .ok (.iconst 0, 1) := by decide +kernel
theorem dX2_hasPage_17 : decode cX2_hasPage 17 = .ok (.ireturn, 1) := by decide +kernel
theorem dX2_isFull_0 : decode cX2_isFull 0 = .ok (.aload_n 0, 1) := by decide +kernel
theorem dX2_isFull_1 : decode cX2_isFull 1 = .ok (.getfield 25, 3) := by decide +kernel
theorem dX2_isFull_4 : decode cX2_isFull 4 = .ok (.bipush 8, 2) := by decide +kernel
theorem dX2_isFull_6 : decode cX2_isFull 6 = .ok (.if_icmp .lt 7, 3) := by decide +kernel
theorem dX2_isFull_9 : decode cX2_isFull 9 = .ok (.iconst 1, 1) := by decide +kernel
theorem dX2_isFull_10 : decode cX2_isFull 10 = .ok (.goto 4, 3) := by decide +kernel
theorem dX2_isFull_13 : decode cX2_isFull 13 = .ok (.iconst 0, 1) := by decide +kernel
theorem dX2_isFull_14 : decode cX2_isFull 14 = .ok (.ireturn, 1) := by decide +kernel
theorem dX2_hasInkFor_0 : decode cX2_hasInkFor 0 = .ok (.aload_n 0, 1) := by decide +kernel
theorem dX2_hasInkFor_1 : decode cX2_hasInkFor 1 = .ok (.getfield 19, 3) := by decide +kernel
theorem dX2_hasInkFor_4 : decode cX2_hasInkFor 4 = .ok (.iload_n 1, 1) := by decide +kernel
theorem dX2_hasInkFor_5 : decode cX2_hasInkFor 5 = .ok (.iload_n 2, 1) := by decide +kernel
theorem dX2_hasInkFor_6 : decode cX2_hasInkFor 6 = .ok (.invokestatic 52, 3) := by decide +kernel
theorem dX2_hasInkFor_9 : decode cX2_hasInkFor 9 = .ok (.if_icmp .lt 7, 3) := by decide +kernel
theorem dX2_hasInkFor_12 : decode cX2_hasInkFor 12 = .ok (.iconst 1, 1) := by decide +kernel
theorem dX2_hasInkFor_13 : decode cX2_hasInkFor 13 = .ok (.goto 4, 3) := by decide +kernel
theorem dX2_hasInkFor_16 : decode cX2_hasInkFor 16 = .ok (.iconst 0, 1) := by decide +kernel
theorem dX2_hasInkFor_17 : decode cX2_hasInkFor 17 = .ok (.ireturn, 1) := by decide +kernel
theorem dX2_addPage_0 : decode cX2_addPage 0 = .ok (.aload_n 0, 1) := by decide +kernel
theorem dX2_addPage_1 : decode cX2_addPage 1 = .ok (.invokevirtual 58, 3) := by decide +kernel
theorem dX2_addPage_4 : decode cX2_addPage 4 = .ok (.ifCond .eq 5, 3) := by decide +kernel
theorem dX2_addPage_7 : decode cX2_addPage 7 = .ok (.iconst (-1), 1) := by decide +kernel
theorem dX2_addPage_8 : decode cX2_addPage 8 = .ok (.ireturn, 1) := by decide +kernel
theorem dX2_addPage_9 : decode cX2_addPage 9 = .ok (.aload_n 0, 1) := by decide +kernel
theorem dX2_addPage_10 : decode cX2_addPage 10 = .ok (.getfield 34, 3) := by decide +kernel
theorem dX2_addPage_13 : decode cX2_addPage 13 = .ok (.aload_n 0, 1) := by decide +kernel
theorem dX2_addPage_14 : decode cX2_addPage 14 = .ok (.getfield 25, 3) := by decide +kernel
theorem dX2_addPage_17 : decode cX2_addPage 17 = .ok (.aaload, 1) := by decide +kernel
theorem dX2_addPage_18 : decode cX2_addPage 18 = .ok (.astore_n 3, 1) := by decide +kernel
theorem dX2_addPage_19 : decode cX2_addPage 19 = .ok (.aload_n 3, 1) := by decide +kernel
theorem dX2_addPage_20 : decode cX2_addPage 20 = .ok (.iload_n 1, 1) := by decide +kernel
theorem dX2_addPage_21 : decode cX2_addPage 21 = .ok (.putfield 62, 3) := by decide +kernel
theorem dX2_addPage_24 : decode cX2_addPage 24 = .ok (.aload_n 3, 1) := by decide +kernel
theorem dX2_addPage_25 : decode cX2_addPage 25 = .ok (.iload_n 2, 1) := by decide +kernel
theorem dX2_addPage_26 : decode cX2_addPage 26 = .ok (.putfield 65, 3) := by decide +kernel
theorem dX2_addPage_29 : decode cX2_addPage 29 = .ok (.aload_n 3, 1) := by decide +kernel
theorem dX2_addPage_30 : decode cX2_addPage 30 = .ok (.iconst 0, 1) := by decide +kernel
theorem dX2_addPage_31 : decode cX2_addPage 31 = .ok (.putfield 68, 3) := by decide +kernel
theorem dX2_addPage_34 : decode cX2_addPage 34 = .ok (.aload_n 0, 1) := by decide +kernel
theorem dX2_addPage_35 : decode cX2_addPage 35 = .ok (.aload_n 3, 1) := by decide +kernel
theorem dX2_addPage_36 : decode cX2_addPage 36 = .ok (.invokevirtual 71, 3) := by decide +kernel
theorem dX2_addPage_39 : decode cX2_addPage 39 = .ok (.aload_n 0, 1) := by decide +kernel
theorem dX2_addPage_40 : decode cX2_addPage 40 = .ok (.dup, 1) := by decide +kernel
theorem dX2_addPage_41 : decode cX2_addPage 41 = .ok (.getfield 25, 3) := by decide +kernel
theorem dX2_addPage_44 : decode cX2_addPage 44 = .ok (.iconst 1, 1) := by decide +kernel
theorem dX2_addPage_45 : decode cX2_addPage 45 = .ok (.iadd, 1) := by decide +kernel
theorem dX2_addPage_46 : decode cX2_addPage 46 = .ok (.putfield 25, 3) := by decide +kernel
theorem dX2_addPage_49 : decode cX2_addPage 49 = .ok (.aload_n 0, 1) := by decide +kernel
theorem dX2_addPage_50 : decode cX2_addPage 50 = .ok (.getfield 25, 3) := by decide +kernel
theorem dX2_addPage_53 : decode cX2_addPage 53 = .ok (.iconst 1, 1) := by decide +kernel
theorem dX2_addPage_54 : decode cX2_addPage 54 = .ok (.isub, 1) := by decide +kernel
theorem dX2_addPage_55 : decode cX2_addPage 55 = .ok (.ireturn, 1) := by decide +kernel
theorem dX2_spendInkOn_0 : decode cX2_spendInkOn 0 = .ok (.aload_n 0, 1) := by decide +kernel
theorem dX2_spendInkOn_1 : decode cX2_spendInkOn 1 = .ok (.dup, 1) := by decide +kernel
theorem dX2_spendInkOn_2 : decode cX2_spendInkOn 2 = .ok (.getfield 19, 3) := by decide +kernel
theorem dX2_spendInkOn_5 : decode cX2_spendInkOn 5 = .ok (.aload_n 1, 1) := by decide +kernel
theorem dX2_spendInkOn_6 : decode cX2_spendInkOn 6 = .ok (.getfield 62, 3) := by decide +kernel
theorem dX2_spendInkOn_9 : decode cX2_spendInkOn 9 = .ok (.aload_n 1, 1) := by decide +kernel
theorem dX2_spendInkOn_10 : decode cX2_spendInkOn 10 = .ok (.getfield 65, 3) := by decide +kernel
theorem dX2_spendInkOn_13 : decode cX2_spendInkOn 13 = .ok (.invokestatic 52, 3) := by decide +kernel
theorem dX2_spendInkOn_16 : decode cX2_spendInkOn 16 = .ok (.isub, 1) := by decide +kernel
theorem dX2_spendInkOn_17 : decode cX2_spendInkOn 17 = .ok (.putfield 19, 3) := by decide +kernel
theorem dX2_spendInkOn_20 : decode cX2_spendInkOn 20 = .ok (.aload_n 1, 1) := by decide +kernel
theorem dX2_spendInkOn_21 : decode cX2_spendInkOn 21 = .ok (.aload_n 1, 1) := by decide +kernel
theorem dX2_spendInkOn_22 : decode cX2_spendInkOn 22 = .ok (.getfield 62, 3) := by decide +kernel
theorem dX2_spendInkOn_25 : decode cX2_spendInkOn 25 = .ok (.aload_n 0, 1) := by decide +kernel
theorem dX2_spendInkOn_26 : decode cX2_spendInkOn 26 = .ok (.iconst 0, 1) := by decide +kernel
theorem dX2_spendInkOn_27 : decode cX2_spendInkOn 27 = .ok (.invokevirtual 74, 3) := by decide +kernel
theorem dX2_spendInkOn_30 : decode cX2_spendInkOn 30 = .ok (.invokestatic 78, 3) := by decide +kernel
theorem dX2_spendInkOn_33 : decode cX2_spendInkOn 33 = .ok (.putfield 81, 3) := by decide +kernel
theorem dX2_spendInkOn_36 : decode cX2_spendInkOn 36 = .ok (.aload_n 1, 1) := by decide +kernel
theorem dX2_spendInkOn_37 : decode cX2_spendInkOn 37 = .ok (.iconst 0, 1) := by decide +kernel
theorem dX2_spendInkOn_38 : decode cX2_spendInkOn 38 = .ok (.putfield 84, 3) := by decide +kernel
theorem dX2_spendInkOn_41 : decode cX2_spendInkOn 41 = .ok (.return_, 1) := by decide +kernel
theorem dX2_darkOn_0 : decode cX2_darkOn 0 = .ok (.aload_n 0, 1) := by decide +kernel
theorem dX2_darkOn_1 : decode cX2_darkOn 1 = .ok (.getfield 28, 3) := by decide +kernel
theorem dX2_darkOn_4 : decode cX2_darkOn 4 = .ok (.aload_n 0, 1) := by decide +kernel
theorem dX2_darkOn_5 : decode cX2_darkOn 5 = .ok (.getfield 7, 3) := by decide +kernel
theorem dX2_darkOn_8 : decode cX2_darkOn 8 = .ok (.iload_n 1, 1) := by decide +kernel
theorem dX2_darkOn_9 : decode cX2_darkOn 9 = .ok (.iadd, 1) := by decide +kernel
theorem dX2_darkOn_10 : decode cX2_darkOn 10 = .ok (.bipush 12, 2) := by decide +kernel
theorem dX2_darkOn_12 : decode cX2_darkOn 12 = .ok (.invokestatic 87, 3) := by decide +kernel
theorem dX2_darkOn_15 : decode cX2_darkOn 15 = .ok (.iaload, 1) := by decide +kernel
theorem dX2_darkOn_16 : decode cX2_darkOn 16 = .ok (.ireturn, 1) := by decide +kernel
theorem dX2_darkTogether_0 : decode cX2_darkTogether 0 = .ok (.iconst 0, 1) := by decide +kernel
theorem dX2_darkTogether_1 : decode cX2_darkTogether 1 = .ok (.istore_n 2, 1) := by decide +kernel
theorem dX2_darkTogether_2 : decode cX2_darkTogether 2 = .ok (.iconst 0, 1) := by decide +kernel
theorem dX2_darkTogether_3 : decode cX2_darkTogether 3 = .ok (.istore_n 3, 1) := by decide +kernel
theorem dX2_darkTogether_4 : decode cX2_darkTogether 4 = .ok (.iload_n 3, 1) := by decide +kernel
theorem dX2_darkTogether_5 : decode cX2_darkTogether 5 = .ok (.iload_n 1, 1) := by decide +kernel
theorem dX2_darkTogether_6 : decode cX2_darkTogether 6 = .ok (.if_icmp .ge 17, 3) := by decide +kernel
theorem dX2_darkTogether_9 : decode cX2_darkTogether 9 = .ok (.iload_n 2, 1) := by decide +kernel
theorem dX2_darkTogether_10 : decode cX2_darkTogether 10 = .ok (.aload_n 0, 1) := by decide +kernel
theorem dX2_darkTogether_11 : decode cX2_darkTogether 11 = .ok (.iload_n 3, 1) := by decide +kernel
theorem dX2_darkTogether_12 : decode cX2_darkTogether 12 = .ok (.invokevirtual 74, 3) := by decide +kernel
theorem dX2_darkTogether_15 : decode cX2_darkTogether 15 = .ok (.iadd, 1) := by decide +kernel
theorem dX2_darkTogether_16 : decode cX2_darkTogether 16 = .ok (.istore_n 2, 1) := by decide +kernel
theorem dX2_darkTogether_17 : decode cX2_darkTogether 17 = .ok (.iinc 3 1, 3) := by decide +kernel
theorem dX2_darkTogether_20 : decode cX2_darkTogether 20 = .ok (.goto (-16), 3) := by decide +kernel
theorem dX2_darkTogether_23 : decode cX2_darkTogether 23 = .ok (.iload_n 2, 1) := by decide +kernel
theorem dX2_darkTogether_24 : decode cX2_darkTogether 24 = .ok (.ireturn, 1) := by decide +kernel
theorem dX2_inkWith_0 : decode cX2_inkWith 0 = .ok (.sipush 999, 3) := by decide +kernel
theorem dX2_inkWith_3 : decode cX2_inkWith 3 = .ok (.aload_n 0, 1) := by decide +kernel
theorem dX2_inkWith_4 : decode cX2_inkWith 4 = .ok (.getfield 19, 3) := by decide +kernel
theorem dX2_inkWith_7 : decode cX2_inkWith 7 = .ok (.iload_n 1, 1) := by decide +kernel
theorem dX2_inkWith_8 : decode cX2_inkWith 8 = .ok (.bipush 9, 2) := by decide +kernel
theorem dX2_inkWith_10 : decode cX2_inkWith 10 = .ok (.idiv, 1) := by decide +kernel
theorem dX2_inkWith_11 : decode cX2_inkWith 11 = .ok (.iadd, 1) := by decide +kernel
theorem dX2_inkWith_12 : decode cX2_inkWith 12 = .ok (.invokestatic 92, 3) := by decide +kernel
theorem dX2_inkWith_15 : decode cX2_inkWith 15 = .ok (.ireturn, 1) := by decide +kernel
theorem dX2_inkOn_0 : decode cX2_inkOn 0 = .ok (.aload_n 0, 1) := by decide +kernel
theorem dX2_inkOn_1 : decode cX2_inkOn 1 = .ok (.aload_n 0, 1) := by decide +kernel
theorem dX2_inkOn_2 : decode cX2_inkOn 2 = .ok (.getfield 16, 3) := by decide +kernel
theorem dX2_inkOn_5 : decode cX2_inkOn 5 = .ok (.iload_n 2, 1) := by decide +kernel
theorem dX2_inkOn_6 : decode cX2_inkOn 6 = .ok (.aload_n 0, 1) := by decide +kernel
theorem dX2_inkOn_7 : decode cX2_inkOn 7 = .ok (.iload_n 1, 1) := by decide +kernel
theorem dX2_inkOn_8 : decode cX2_inkOn 8 = .ok (.invokevirtual 95, 3) := by decide +kernel
theorem dX2_inkOn_11 : decode cX2_inkOn 11 = .ok (.imul, 1) := by decide +kernel
theorem dX2_inkOn_12 : decode cX2_inkOn 12 = .ok (.iadd, 1) := by decide +kernel
theorem dX2_inkOn_13 : decode cX2_inkOn 13 = .ok (.invokevirtual 98, 3) := by decide +kernel
theorem dX2_inkOn_16 : decode cX2_inkOn 16 = .ok (.ireturn, 1) := by decide +kernel
theorem dX2_letGo_0 : decode cX2_letGo 0 = .ok (.aload_n 0, 1) := by decide +kernel
theorem dX2_letGo_1 : decode cX2_letGo 1 = .ok (.getfield 16, 3) := by decide +kernel
theorem dX2_letGo_4 : decode cX2_letGo 4 = .ok (.aload_n 0, 1) := by decide +kernel
theorem dX2_letGo_5 : decode cX2_letGo 5 = .ok (.getfield 13, 3) := by decide +kernel
theorem dX2_letGo_8 : decode cX2_letGo 8 = .ok (.aload_n 0, 1) := by decide +kernel
theorem dX2_letGo_9 : decode cX2_letGo 9 = .ok (.iload_n 1, 1) := by decide +kernel
theorem dX2_letGo_10 : decode cX2_letGo 10 = .ok (.invokevirtual 95, 3) := by decide +kernel
theorem dX2_letGo_13 : decode cX2_letGo 13 = .ok (.imul, 1) := by decide +kernel
theorem dX2_letGo_14 : decode cX2_letGo 14 = .ok (.iadd, 1) := by decide +kernel
theorem dX2_letGo_15 : decode cX2_letGo 15 = .ok (.istore_n 2, 1) := by decide +kernel
theorem dX2_letGo_16 : decode cX2_letGo 16 = .ok (.aload_n 0, 1) := by decide +kernel
theorem dX2_letGo_17 : decode cX2_letGo 17 = .ok (.aload_n 0, 1) := by decide +kernel
theorem dX2_letGo_18 : decode cX2_letGo 18 = .ok (.iload_n 2, 1) := by decide +kernel
theorem dX2_letGo_19 : decode cX2_letGo 19 = .ok (.invokevirtual 98, 3) := by decide +kernel
theorem dX2_letGo_22 : decode cX2_letGo 22 = .ok (.putfield 19, 3) := by decide +kernel
theorem dX2_letGo_25 : decode cX2_letGo 25 = .ok (.aload_n 0, 1) := by decide +kernel
theorem dX2_letGo_26 : decode cX2_letGo 26 = .ok (.iload_n 2, 1) := by decide +kernel
theorem dX2_letGo_27 : decode cX2_letGo 27 = .ok (.bipush 9, 2) := by decide +kernel
theorem dX2_letGo_29 : decode cX2_letGo 29 = .ok (.irem, 1) := by decide +kernel
theorem dX2_letGo_30 : decode cX2_letGo 30 = .ok (.putfield 16, 3) := by decide +kernel
theorem dX2_letGo_33 : decode cX2_letGo 33 = .ok (.iconst 0, 1) := by decide +kernel
theorem dX2_letGo_34 : decode cX2_letGo 34 = .ok (.istore_n 3, 1) := by decide +kernel
theorem dX2_letGo_35 : decode cX2_letGo 35 = .ok (.iload_n 3, 1) := by decide +kernel
theorem dX2_letGo_36 : decode cX2_letGo 36 = .ok (.aload_n 0, 1) := by decide +kernel
theorem dX2_letGo_37 : decode cX2_letGo 37 = .ok (.getfield 25, 3) := by decide +kernel
theorem dX2_letGo_40 : decode cX2_letGo 40 = .ok (.if_icmp .ge 28, 3) := by decide +kernel
theorem dX2_letGo_43 : decode cX2_letGo 43 = .ok (.aload_n 0, 1) := by decide +kernel
theorem dX2_letGo_44 : decode cX2_letGo 44 = .ok (.getfield 34, 3) := by decide +kernel
theorem dX2_letGo_47 : decode cX2_letGo 47 = .ok (.iload_n 3, 1) := by decide +kernel
theorem dX2_letGo_48 : decode cX2_letGo 48 = .ok (.aaload, 1) := by decide +kernel
theorem dX2_letGo_49 : decode cX2_letGo 49 = .ok (.aload_n 0, 1) := by decide +kernel
theorem dX2_letGo_50 : decode cX2_letGo 50 = .ok (.getfield 34, 3) := by decide +kernel
theorem dX2_letGo_53 : decode cX2_letGo 53 = .ok (.iload_n 3, 1) := by decide +kernel
theorem dX2_letGo_54 : decode cX2_letGo 54 = .ok (.aaload, 1) := by decide +kernel
theorem dX2_letGo_55 : decode cX2_letGo 55 = .ok (.iload_n 1, 1) := by decide +kernel
theorem dX2_letGo_56 : decode cX2_letGo 56 = .ok (.invokevirtual 101, 3) := by decide +kernel
theorem dX2_letGo_59 : decode cX2_letGo 59 = .ok (.putfield 81, 3) := by decide +kernel
theorem dX2_letGo_62 : decode cX2_letGo 62 = .ok (.iinc 3 1, 3) := by decide +kernel
theorem dX2_letGo_65 : decode cX2_letGo 65 = .ok (.goto (-30), 3) := by decide +kernel
theorem dX2_letGo_68 : decode cX2_letGo 68 = .ok (.aload_n 0, 1) := by decide +kernel
theorem dX2_letGo_69 : decode cX2_letGo 69 = .ok (.dup, 1) := by decide +kernel
theorem dX2_letGo_70 : decode cX2_letGo 70 = .ok (.getfield 7, 3) := by decide +kernel
theorem dX2_letGo_73 : decode cX2_letGo 73 = .ok (.iload_n 1, 1) := by decide +kernel
theorem dX2_letGo_74 : decode cX2_letGo 74 = .ok (.iadd, 1) := by decide +kernel
theorem dX2_letGo_75 : decode cX2_letGo 75 = .ok (.putfield 7, 3) := by decide +kernel
theorem dX2_letGo_78 : decode cX2_letGo 78 = .ok (.return_, 1) := by decide +kernel
theorem dX2_notWhite_0 : decode cX2_notWhite 0 = .ok (.iconst 0, 1) := by decide +kernel
theorem dX2_notWhite_1 : decode cX2_notWhite 1 = .ok (.istore_n 1, 1) := by decide +kernel
theorem dX2_notWhite_2 : decode cX2_notWhite 2 = .ok (.iconst 0, 1) := by decide +kernel
theorem dX2_notWhite_3 : decode cX2_notWhite 3 = .ok (.istore_n 2, 1) := by decide +kernel
theorem dX2_notWhite_4 : decode cX2_notWhite 4 = .ok (.iload_n 2, 1) := by decide +kernel
theorem dX2_notWhite_5 : decode cX2_notWhite 5 = .ok (.aload_n 0, 1) := by decide +kernel
theorem dX2_notWhite_6 : decode cX2_notWhite 6 = .ok (.getfield 25, 3) := by decide +kernel
theorem dX2_notWhite_9 : decode cX2_notWhite 9 = .ok (.if_icmp .ge 27, 3) := by decide +kernel
theorem dX2_notWhite_12 : decode cX2_notWhite 12 = .ok (.aload_n 0, 1) := by decide +kernel
theorem dX2_notWhite_13 : decode cX2_notWhite 13 = .ok (.getfield 34, 3) := by decide +kernel
theorem dX2_notWhite_16 : decode cX2_notWhite 16 = .ok (.iload_n 2, 1) := by decide +kernel
theorem dX2_notWhite_17 : decode cX2_notWhite 17 = .ok (.aaload, 1) := by decide +kernel
theorem dX2_notWhite_18 : decode cX2_notWhite 18 = .ok (.getfield 81, 3) := by decide +kernel
theorem dX2_notWhite_21 : decode cX2_notWhite 21 = .ok (.ifCond .le 9, 3) := by decide +kernel
theorem dX2_notWhite_24 : decode cX2_notWhite 24 = .ok (.iload_n 1, 1) := by decide +kernel
theorem dX2_notWhite_25 : decode cX2_notWhite 25 = .ok (.iconst 1, 1) := by decide +kernel
theorem dX2_notWhite_26 : decode cX2_notWhite 26 = .ok (.iload_n 2, 1) := by decide +kernel
theorem dX2_notWhite_27 : decode cX2_notWhite 27 = .ok (.ishl, 1) := by decide +kernel
theorem dX2_notWhite_28 : decode cX2_notWhite 28 = .ok (.ior, 1) := by decide +kernel
theorem dX2_notWhite_29 : decode cX2_notWhite 29 = .ok (.istore_n 1, 1) := by decide +kernel
theorem dX2_notWhite_30 : decode cX2_notWhite 30 = .ok (.iinc 2 1, 3) := by decide +kernel
theorem dX2_notWhite_33 : decode cX2_notWhite 33 = .ok (.goto (-29), 3) := by decide +kernel
theorem dX2_notWhite_36 : decode cX2_notWhite 36 = .ok (.iload_n 1, 1) := by decide +kernel
theorem dX2_notWhite_37 : decode cX2_notWhite 37 = .ok (.ireturn, 1) := by decide +kernel
theorem dX2_believedTogether_0 : decode cX2_believedTogether 0 = .ok (.iconst 0, 1) := by decide +kernel
theorem dX2_believedTogether_1 : decode cX2_believedTogether 1 = .ok (.istore_n 3, 1) := by decide +kernel
theorem dX2_believedTogether_2 : decode cX2_believedTogether 2 = .ok (.iconst 0, 1) := by decide +kernel
theorem dX2_believedTogether_3 : decode cX2_believedTogether 3 = .ok (.istore 4, 2) := by decide +kernel
theorem dX2_believedTogether_5 : decode cX2_believedTogether 5 = .ok (.iload 4, 2) := by decide +kernel
theorem dX2_believedTogether_7 : decode cX2_believedTogether 7 = .ok (.aload_n 0, 1) := by decide +kernel
theorem dX2_believedTogether_8 : decode cX2_believedTogether 8 = .ok (.getfield 25, 3) := by decide +kernel
theorem dX2_believedTogether_11 : decode cX2_believedTogether 11 = .ok (.if_icmp .ge 24, 3) := by decide +kernel
theorem dX2_believedTogether_14 : decode cX2_believedTogether 14 = .ok (.iload_n 3, 1) := by decide +kernel
theorem dX2_believedTogether_15 : decode cX2_believedTogether 15 = .ok (.aload_n 0, 1) := by decide +kernel
theorem dX2_believedTogether_16 : decode cX2_believedTogether 16 = .ok (.getfield 34, 3) := by decide +kernel
theorem dX2_believedTogether_19 : decode cX2_believedTogether 19 = .ok (.iload 4, 2) := by decide +kernel
theorem dX2_believedTogether_21 : decode cX2_believedTogether 21 = .ok (.aaload, 1) := by decide +kernel
theorem dX2_believedTogether_22 : decode cX2_believedTogether 22 = .ok (.iload_n 1, 1) := by decide +kernel
theorem dX2_believedTogether_23 : decode cX2_believedTogether 23 = .ok (.iload_n 2, 1) := by decide +kernel
theorem dX2_believedTogether_24 : decode cX2_believedTogether 24 = .ok (.invokevirtual 104, 3) := by decide +kernel
theorem dX2_believedTogether_27 : decode cX2_believedTogether 27 = .ok (.iadd, 1) := by decide +kernel
theorem dX2_believedTogether_28 : decode cX2_believedTogether 28 = .ok (.istore_n 3, 1) := by decide +kernel
theorem dX2_believedTogether_29 : decode cX2_believedTogether 29 = .ok (.iinc 4 1, 3) := by decide +kernel
theorem dX2_believedTogether_32 : decode cX2_believedTogether 32 = .ok (.goto (-27), 3) := by decide +kernel
theorem dX2_believedTogether_35 : decode cX2_believedTogether 35 = .ok (.iload_n 3, 1) := by decide +kernel
theorem dX2_believedTogether_36 : decode cX2_believedTogether 36 = .ok (.ireturn, 1) := by decide +kernel
theorem dX2_pagesInSun_0 : decode cX2_pagesInSun 0 = .ok (.iconst 0, 1) := by decide +kernel
theorem dX2_pagesInSun_1 : decode cX2_pagesInSun 1 = .ok (.istore_n 1, 1) := by decide +kernel
theorem dX2_pagesInSun_2 : decode cX2_pagesInSun 2 = .ok (.iconst 0, 1) := by decide +kernel
theorem dX2_pagesInSun_3 : decode cX2_pagesInSun 3 = .ok (.istore_n 2, 1) := by decide +kernel
theorem dX2_pagesInSun_4 : decode cX2_pagesInSun 4 = .ok (.iload_n 2, 1) := by decide +kernel
theorem dX2_pagesInSun_5 : decode cX2_pagesInSun 5 = .ok (.aload_n 0, 1) := by decide +kernel
theorem dX2_pagesInSun_6 : decode cX2_pagesInSun 6 = .ok (.getfield 25, 3) := by decide +kernel
theorem dX2_pagesInSun_9 : decode cX2_pagesInSun 9 = .ok (.if_icmp .ge 21, 3) := by decide +kernel
theorem dX2_pagesInSun_12 : decode cX2_pagesInSun 12 = .ok (.iload_n 1, 1) := by decide +kernel
theorem dX2_pagesInSun_13 : decode cX2_pagesInSun 13 = .ok (.aload_n 0, 1) := by decide +kernel
theorem dX2_pagesInSun_14 : decode cX2_pagesInSun 14 = .ok (.getfield 34, 3) := by decide +kernel
theorem dX2_pagesInSun_17 : decode cX2_pagesInSun 17 = .ok (.iload_n 2, 1) := by decide +kernel
theorem dX2_pagesInSun_18 : decode cX2_pagesInSun 18 = .ok (.aaload, 1) := by decide +kernel
theorem dX2_pagesInSun_19 : decode cX2_pagesInSun 19 = .ok (.getfield 68, 3) := by decide +kernel
theorem dX2_pagesInSun_22 : decode cX2_pagesInSun 22 = .ok (.iadd, 1) := by decide +kernel
theorem dX2_pagesInSun_23 : decode cX2_pagesInSun 23 = .ok (.istore_n 1, 1) := by decide +kernel
theorem dX2_pagesInSun_24 : decode cX2_pagesInSun 24 = .ok (.iinc 2 1, 3) := by decide +kernel
theorem dX2_pagesInSun_27 : decode cX2_pagesInSun 27 = .ok (.goto (-23), 3) := by decide +kernel
theorem dX2_pagesInSun_30 : decode cX2_pagesInSun 30 = .ok (.iload_n 1, 1) := by decide +kernel
theorem dX2_pagesInSun_31 : decode cX2_pagesInSun 31 = .ok (.ireturn, 1) := by decide +kernel
theorem dX2_wordsTogether_0 : decode cX2_wordsTogether 0 = .ok (.iconst 0, 1) := by decide +kernel
theorem dX2_wordsTogether_1 : decode cX2_wordsTogether 1 = .ok (.istore_n 1, 1) := by decide +kernel
theorem dX2_wordsTogether_2 : decode cX2_wordsTogether 2 = .ok (.iconst 0, 1) := by decide +kernel
theorem dX2_wordsTogether_3 : decode cX2_wordsTogether 3 = .ok (.istore_n 2, 1) := by decide +kernel
theorem dX2_wordsTogether_4 : decode cX2_wordsTogether 4 = .ok (.iload_n 2, 1) := by decide +kernel
theorem dX2_wordsTogether_5 : decode cX2_wordsTogether 5 = .ok (.aload_n 0, 1) := by decide +kernel
theorem dX2_wordsTogether_6 : decode cX2_wordsTogether 6 = .ok (.getfield 25, 3) := by decide +kernel
theorem dX2_wordsTogether_9 : decode cX2_wordsTogether 9 = .ok (.if_icmp .ge 21, 3) := by decide +kernel
theorem dX2_wordsTogether_12 : decode cX2_wordsTogether 12 = .ok (.iload_n 1, 1) := by decide +kernel
theorem dX2_wordsTogether_13 : decode cX2_wordsTogether 13 = .ok (.aload_n 0, 1) := by decide +kernel
theorem dX2_wordsTogether_14 : decode cX2_wordsTogether 14 = .ok (.getfield 34, 3) := by decide +kernel
theorem dX2_wordsTogether_17 : decode cX2_wordsTogether 17 = .ok (.iload_n 2, 1) := by decide +kernel
theorem dX2_wordsTogether_18 : decode cX2_wordsTogether 18 = .ok (.aaload, 1) := by decide +kernel
theorem dX2_wordsTogether_19 : decode cX2_wordsTogether 19 = .ok (.getfield 65, 3) := by decide +kernel
theorem dX2_wordsTogether_22 : decode cX2_wordsTogether 22 = .ok (.iadd, 1) := by decide +kernel
theorem dX2_wordsTogether_23 : decode cX2_wordsTogether 23 = .ok (.istore_n 1, 1) := by decide +kernel
theorem dX2_wordsTogether_24 : decode cX2_wordsTogether 24 = .ok (.iinc 2 1, 3) := by decide +kernel
theorem dX2_wordsTogether_27 : decode cX2_wordsTogether 27 = .ok (.goto (-23), 3) := by decide +kernel
theorem dX2_wordsTogether_30 : decode cX2_wordsTogether 30 = .ok (.iload_n 1, 1) := by decide +kernel
theorem dX2_wordsTogether_31 : decode cX2_wordsTogether 31 = .ok (.ireturn, 1) := by decide +kernel
theorem dX2_firstWithInk_0 : decode cX2_firstWithInk 0 = .ok (.aload_n 0, 1) := by decide +kernel
theorem dX2_firstWithInk_1 : decode cX2_firstWithInk 1 = .ok (.getfield 16, 3) := by decide +kernel
theorem dX2_firstWithInk_4 : decode cX2_firstWithInk 4 = .ok (.istore_n 3, 1) := by decide +kernel
theorem dX2_firstWithInk_5 : decode cX2_firstWithInk 5 = .ok (.iconst 0, 1) := by decide +kernel
theorem dX2_firstWithInk_6 : decode cX2_firstWithInk 6 = .ok (.istore 4, 2) := by decide +kernel
theorem dX2_firstWithInk_8 : decode cX2_firstWithInk 8 = .ok (.iload 4, 2) := by decide +kernel
theorem dX2_firstWithInk_10 : decode cX2_firstWithInk 10 = .ok (.iload_n 2, 1) := by decide +kernel
theorem dX2_firstWithInk_11 : decode cX2_firstWithInk 11 = .ok (.if_icmp .gt 35, 3) := by decide +kernel
theorem dX2_firstWithInk_14 : decode cX2_firstWithInk 14 = .ok (.aload_n 0, 1) := by decide +kernel
theorem dX2_firstWithInk_15 : decode cX2_firstWithInk 15 = .ok (.iload_n 3, 1) := by decide +kernel
theorem dX2_firstWithInk_16 : decode cX2_firstWithInk 16 = .ok (.invokevirtual 98, 3) := by decide +kernel
theorem dX2_firstWithInk_19 : decode cX2_firstWithInk 19 = .ok (.iload_n 1, 1) := by decide +kernel
theorem dX2_firstWithInk_20 : decode cX2_firstWithInk 20 = .ok (.if_icmp .lt 6, 3) := by decide +kernel
theorem dX2_firstWithInk_23 : decode cX2_firstWithInk 23 = .ok (.iload 4, 2) := by decide +kernel
theorem dX2_firstWithInk_25 : decode cX2_firstWithInk 25 = .ok (.ireturn, 1) := by decide +kernel
theorem dX2_firstWithInk_26 : decode cX2_firstWithInk 26 = .ok (.iload_n 3, 1) := by decide +kernel
theorem dX2_firstWithInk_27 : decode cX2_firstWithInk 27 = .ok (.aload_n 0, 1) := by decide +kernel
theorem dX2_firstWithInk_28 : decode cX2_firstWithInk 28 = .ok (.getfield 13, 3) := by decide +kernel
theorem dX2_firstWithInk_31 : decode cX2_firstWithInk 31 = .ok (.aload_n 0, 1) := by decide +kernel
theorem dX2_firstWithInk_32 : decode cX2_firstWithInk 32 = .ok (.iload 4, 2) := by decide +kernel
theorem dX2_firstWithInk_34 : decode cX2_firstWithInk 34 = .ok (.invokevirtual 74, 3) := by decide +kernel
theorem dX2_firstWithInk_37 : decode cX2_firstWithInk 37 = .ok (.imul, 1) := by decide +kernel
theorem dX2_firstWithInk_38 : decode cX2_firstWithInk 38 = .ok (.iadd, 1) := by decide +kernel
theorem dX2_firstWithInk_39 : decode cX2_firstWithInk 39 = .ok (.istore_n 3, 1) := by decide +kernel
theorem dX2_firstWithInk_40 : decode cX2_firstWithInk 40 = .ok (.iinc 4 1, 3) := by decide +kernel
theorem dX2_firstWithInk_43 : decode cX2_firstWithInk 43 = .ok (.goto (-35), 3) := by decide +kernel
theorem dX2_firstWithInk_46 : decode cX2_firstWithInk 46 = .ok (.iconst (-1), 1) := by decide +kernel
theorem dX2_firstWithInk_47 : decode cX2_firstWithInk 47 = .ok (.ireturn, 1) := by decide +kernel
theorem dX2_blackestNight_0 : decode cX2_blackestNight 0 = .ok (.iload_n 1, 1) := by decide +kernel
theorem dX2_blackestNight_1 : decode cX2_blackestNight 1 = .ok (.iload_n 2, 1) := by decide +kernel
theorem dX2_blackestNight_2 : decode cX2_blackestNight 2 = .ok (.invokestatic 52, 3) := by decide +kernel
theorem dX2_blackestNight_5 : decode cX2_blackestNight 5 = .ok (.istore_n 3, 1) := by decide +kernel
theorem dX2_blackestNight_6 : decode cX2_blackestNight 6 = .ok (.aload_n 0, 1) := by decide +kernel
theorem dX2_blackestNight_7 : decode cX2_blackestNight 7 = .ok (.getfield 16, 3) := by decide +kernel
theorem dX2_blackestNight_10 : decode cX2_blackestNight 10 = .ok (.istore 4, 2) := by decide +kernel
theorem dX2_blackestNight_12 : decode cX2_blackestNight 12 = .ok (.iconst (-1), 1) := by decide +kernel
theorem dX2_blackestNight_13 : decode cX2_blackestNight 13 = .ok (.istore 5, 2) := by decide +kernel
theorem dX2_blackestNight_15 : decode cX2_blackestNight 15 = .ok (.iconst (-1), 1) := by decide +kernel
theorem dX2_blackestNight_16 : decode cX2_blackestNight 16 = .ok (.istore 6, 2) := by decide +kernel
theorem dX2_blackestNight_18 : decode cX2_blackestNight 18 = .ok (.iconst 0, 1) := by decide +kernel
theorem dX2_blackestNight_19 : decode cX2_blackestNight 19 = .ok (.istore 7, 2) := by decide +kernel
theorem dX2_blackestNight_21 : decode cX2_blackestNight 21 = .ok (.iload 7, 2) := by decide +kernel
theorem dX2_blackestNight_23 : decode cX2_blackestNight 23 = .ok (.bipush 12, 2) := by decide +kernel
theorem dX2_blackestNight_25 : decode cX2_blackestNight 25 = .ok (.if_icmp .ge 62, 3) := by decide +kernel
theorem dX2_blackestNight_28 : decode cX2_blackestNight 28 = .ok (.iload_n 1, 1) := by decide +kernel
theorem dX2_blackestNight_29 : decode cX2_blackestNight 29 = .ok (.aload_n 0, 1) := by decide +kernel
theorem dX2_blackestNight_30 : decode cX2_blackestNight 30 = .ok (.iload 7, 2) := by decide +kernel
theorem dX2_blackestNight_32 : decode cX2_blackestNight 32 = .ok (.invokevirtual 74, 3) := by decide +kernel
theorem dX2_blackestNight_35 : decode cX2_blackestNight 35 = .ok (.invokestatic 78, 3) := by decide +kernel
theorem dX2_blackestNight_38 : decode cX2_blackestNight 38 = .ok (.istore 8, 2) := by decide +kernel
theorem dX2_blackestNight_40 : decode cX2_blackestNight 40 = .ok (.aload_n 0, 1) := by decide +kernel
theorem dX2_blackestNight_41 : decode cX2_blackestNight 41 = .ok (.iload 4, 2) := by decide +kernel
theorem dX2_blackestNight_43 : decode cX2_blackestNight 43 = .ok (.invokevirtual 98, 3) := by decide +kernel
theorem dX2_blackestNight_46 : decode cX2_blackestNight 46 = .ok (.iload_n 3, 1) := by decide +kernel
theorem dX2_blackestNight_47 : decode cX2_blackestNight 47 = .ok (.if_icmp .lt 18, 3) := by decide +kernel
theorem dX2_blackestNight_50 : decode cX2_blackestNight 50 = .ok (.iload 8, 2) := by decide +kernel
theorem dX2_blackestNight_52 : decode cX2_blackestNight 52 = .ok (.iload 6, 2) := by decide +kernel
theorem dX2_blackestNight_54 : decode cX2_blackestNight 54 = .ok (.if_icmp .le 11, 3) := by decide +kernel
theorem dX2_blackestNight_57 : decode cX2_blackestNight 57 = .ok (.iload 7, 2) := by decide +kernel
theorem dX2_blackestNight_59 : decode cX2_blackestNight 59 = .ok (.istore 5, 2) := by decide +kernel
theorem dX2_blackestNight_61 : decode cX2_blackestNight 61 = .ok (.iload 8, 2) := by decide +kernel
theorem dX2_blackestNight_63 : decode cX2_blackestNight 63 = .ok (.istore 6, 2) := by decide +kernel
theorem dX2_blackestNight_65 : decode cX2_blackestNight 65 = .ok (.iload 4, 2) := by decide +kernel
theorem dX2_blackestNight_67 : decode cX2_blackestNight 67 = .ok (.aload_n 0, 1) := by decide +kernel
theorem dX2_blackestNight_68 : decode cX2_blackestNight 68 = .ok (.getfield 13, 3) := by decide +kernel
theorem dX2_blackestNight_71 : decode cX2_blackestNight 71 = .ok (.aload_n 0, 1) := by decide +kernel
theorem dX2_blackestNight_72 : decode cX2_blackestNight 72 = .ok (.iload 7, 2) := by decide +kernel
theorem dX2_blackestNight_74 : decode cX2_blackestNight 74 = .ok (.invokevirtual 74, 3) := by decide +kernel
theorem dX2_blackestNight_77 : decode cX2_blackestNight 77 = .ok (.imul, 1) := by decide +kernel
theorem dX2_blackestNight_78 : decode cX2_blackestNight 78 = .ok (.iadd, 1) := by decide +kernel
theorem dX2_blackestNight_79 : decode cX2_blackestNight 79 = .ok (.istore 4, 2) := by decide +kernel
theorem dX2_blackestNight_81 : decode cX2_blackestNight 81 = .ok (.iinc 7 1, 3) := by decide +kernel
theorem dX2_blackestNight_84 : decode cX2_blackestNight 84 = .ok (.goto (-63), 3) := by decide +kernel
theorem dX2_blackestNight_87 : decode cX2_blackestNight 87 = .ok (.iload 5, 2) := by decide +kernel
theorem dX2_blackestNight_89 : decode cX2_blackestNight 89 = .ok (.ireturn, 1) := by decide +kernel
theorem dX2_bestShaded_0 : decode cX2_bestShaded 0 = .ok (.aload_n 0, 1) := by decide +kernel
theorem dX2_bestShaded_1 : decode cX2_bestShaded 1 = .ok (.iload_n 1, 1) := by decide +kernel
theorem dX2_bestShaded_2 : decode cX2_bestShaded 2 = .ok (.invokevirtual 107, 3) := by decide +kernel
theorem dX2_bestShaded_5 : decode cX2_bestShaded 5 = .ok (.pop, 1) := by decide +kernel
theorem dX2_bestShaded_6 : decode cX2_bestShaded 6 = .ok (.iconst (-1), 1) := by decide +kernel
theorem dX2_bestShaded_7 : decode cX2_bestShaded 7 = .ok (.istore_n 2, 1) := by decide +kernel
theorem dX2_bestShaded_8 : decode cX2_bestShaded 8 = .ok (.iconst 0, 1) := by decide +kernel
theorem dX2_bestShaded_9 : decode cX2_bestShaded 9 = .ok (.istore_n 3, 1) := by decide +kernel
theorem dX2_bestShaded_10 : decode cX2_bestShaded 10 = .ok (.iload_n 3, 1) := by decide +kernel
theorem dX2_bestShaded_11 : decode cX2_bestShaded 11 = .ok (.aload_n 0, 1) := by decide +kernel
theorem dX2_bestShaded_12 : decode cX2_bestShaded 12 = .ok (.getfield 25, 3) := by decide +kernel
theorem dX2_bestShaded_15 : decode cX2_bestShaded 15 = .ok (.if_icmp .ge 43, 3) := by decide +kernel
theorem dX2_bestShaded_18 : decode cX2_bestShaded 18 = .ok (.aload_n 0, 1) := by decide +kernel
theorem dX2_bestShaded_19 : decode cX2_bestShaded 19 = .ok (.getfield 34, 3) := by decide +kernel
theorem dX2_bestShaded_22 : decode cX2_bestShaded 22 = .ok (.iload_n 3, 1) := by decide +kernel
theorem dX2_bestShaded_23 : decode cX2_bestShaded 23 = .ok (.aaload, 1) := by decide +kernel
theorem dX2_bestShaded_24 : decode cX2_bestShaded 24 = .ok (.getfield 68, 3) := by decide +kernel
theorem dX2_bestShaded_27 : decode cX2_bestShaded 27 = .ok (.iconst 1, 1) := by decide +kernel
theorem dX2_bestShaded_28 : decode cX2_bestShaded 28 = .ok (.if_icmp .ne 24, 3) := by decide +kernel
theorem dX2_bestShaded_31 : decode cX2_bestShaded 31 = .ok (.iload_n 2, 1) := by decide +kernel
theorem dX2_bestShaded_32 : decode cX2_bestShaded 32 = .ok (.ifCond .lt 18, 3) := by decide +kernel
theorem dX2_bestShaded_35 : decode cX2_bestShaded 35 = .ok (.aload_n 0, 1) := by decide +kernel
theorem dX2_bestShaded_36 : decode cX2_bestShaded 36 = .ok (.getfield 38, 3) := by decide +kernel
theorem dX2_bestShaded_39 : decode cX2_bestShaded 39 = .ok (.iload_n 3, 1) := by decide +kernel
theorem dX2_bestShaded_40 : decode cX2_bestShaded 40 = .ok (.iaload, 1) := by decide +kernel
theorem dX2_bestShaded_41 : decode cX2_bestShaded 41 = .ok (.aload_n 0, 1) := by decide +kernel
theorem dX2_bestShaded_42 : decode cX2_bestShaded 42 = .ok (.getfield 38, 3) := by decide +kernel
theorem dX2_bestShaded_45 : decode cX2_bestShaded 45 = .ok (.iload_n 2, 1) := by decide +kernel
theorem dX2_bestShaded_46 : decode cX2_bestShaded 46 = .ok (.iaload, 1) := by decide +kernel
theorem dX2_bestShaded_47 : decode cX2_bestShaded 47 = .ok (.if_icmp .le 5, 3) := by decide +kernel
theorem dX2_bestShaded_50 : decode cX2_bestShaded 50 = .ok (.iload_n 3, 1) := by decide +kernel
theorem dX2_bestShaded_51 : decode cX2_bestShaded 51 = .ok (.istore_n 2, 1) := by decide +kernel
theorem dX2_bestShaded_52 : decode cX2_bestShaded 52 = .ok (.iinc 3 1, 3) := by decide +kernel
theorem dX2_bestShaded_55 : decode cX2_bestShaded 55 = .ok (.goto (-45), 3) := by decide +kernel
theorem dX2_bestShaded_58 : decode cX2_bestShaded 58 = .ok (.iload_n 2, 1) := by decide +kernel
theorem dX2_bestShaded_59 : decode cX2_bestShaded 59 = .ok (.ireturn, 1) := by decide +kernel
theorem dX2_fewestBrothers_0 : decode cX2_fewestBrothers 0 = .ok (.aload_n 0, 1) := by decide +kernel
theorem dX2_fewestBrothers_1 : decode cX2_fewestBrothers 1 = .ok (.iload_n 1, 1) := by decide +kernel
theorem dX2_fewestBrothers_2 : decode cX2_fewestBrothers 2 = .ok (.invokevirtual 95, 3) := by decide +kernel
theorem dX2_fewestBrothers_5 : decode cX2_fewestBrothers 5 = .ok (.istore_n 3, 1) := by decide +kernel
theorem dX2_fewestBrothers_6 : decode cX2_fewestBrothers 6 = .ok (.iconst 0, 1) := by decide +kernel
theorem dX2_fewestBrothers_7 : decode cX2_fewestBrothers 7 = .ok (.istore 4, 2) := by decide +kernel
theorem dX2_fewestBrothers_9 : decode cX2_fewestBrothers 9 = .ok (.iload 4, 2) := by decide +kernel
theorem dX2_fewestBrothers_11 : decode cX2_fewestBrothers 11 = .ok (.bipush 9, 2) := by decide +kernel
theorem dX2_fewestBrothers_13 : decode cX2_fewestBrothers 13 = .ok (.if_icmp .gt 29, 3) := by decide +kernel
theorem dX2_fewestBrothers_16 : decode cX2_fewestBrothers 16 = .ok (.aload_n 0, 1) := by decide +kernel
theorem dX2_fewestBrothers_17 : decode cX2_fewestBrothers 17 = .ok (.aload_n 0, 1) := by decide +kernel
theorem dX2_fewestBrothers_18 : decode cX2_fewestBrothers 18 = .ok (.getfield 16, 3) := by decide +kernel
theorem dX2_fewestBrothers_21 : decode cX2_fewestBrothers 21 = .ok (.iload 4, 2) := by decide +kernel
theorem dX2_fewestBrothers_23 : decode cX2_fewestBrothers 23 = .ok (.iload_n 3, 1) := by decide +kernel
theorem dX2_fewestBrothers_24 : decode cX2_fewestBrothers 24 = .ok (.imul, 1) := by decide +kernel
theorem dX2_fewestBrothers_25 : decode cX2_fewestBrothers 25 = .ok (.iadd, 1) := by decide +kernel
theorem dX2_fewestBrothers_26 : decode cX2_fewestBrothers 26 = .ok (.invokevirtual 98, 3) := by decide +kernel
theorem dX2_fewestBrothers_29 : decode cX2_fewestBrothers 29 = .ok (.iload_n 2, 1) := by decide +kernel
theorem dX2_fewestBrothers_30 : decode cX2_fewestBrothers 30 = .ok (.if_icmp .lt 6, 3) := by decide +kernel
theorem dX2_fewestBrothers_33 : decode cX2_fewestBrothers 33 = .ok (.iload 4, 2) := by decide +kernel
theorem dX2_fewestBrothers_35 : decode cX2_fewestBrothers 35 = .ok (.ireturn, 1) := by decide +kernel
theorem dX2_fewestBrothers_36 : decode cX2_fewestBrothers 36 = .ok (.iinc 4 1, 3) := by decide +kernel
theorem dX2_fewestBrothers_39 : decode cX2_fewestBrothers 39 = .ok (.goto (-30), 3) := by decide +kernel
theorem dX2_fewestBrothers_42 : decode cX2_fewestBrothers 42 = .ok (.iconst (-1), 1) := by decide +kernel
theorem dX2_fewestBrothers_43 : decode cX2_fewestBrothers 43 = .ok (.ireturn, 1) := by decide +kernel
theorem dX2_leastLamp_0 : decode cX2_leastLamp 0 = .ok (.iconst 0, 1) := by decide +kernel
theorem dX2_leastLamp_1 : decode cX2_leastLamp 1 = .ok (.istore_n 3, 1) := by decide +kernel
theorem dX2_leastLamp_2 : decode cX2_leastLamp 2 = .ok (.iload_n 3, 1) := by decide +kernel
theorem dX2_leastLamp_3 : decode cX2_leastLamp 3 = .ok (.bipush 9, 2) := by decide +kernel
theorem dX2_leastLamp_5 : decode cX2_leastLamp 5 = .ok (.if_icmp .gt 21, 3) := by decide +kernel
theorem dX2_leastLamp_8 : decode cX2_leastLamp 8 = .ok (.aload_n 0, 1) := by decide +kernel
theorem dX2_leastLamp_9 : decode cX2_leastLamp 9 = .ok (.iload_n 1, 1) := by decide +kernel
theorem dX2_leastLamp_10 : decode cX2_leastLamp 10 = .ok (.iload_n 3, 1) := by decide +kernel
theorem dX2_leastLamp_11 : decode cX2_leastLamp 11 = .ok (.invokevirtual 110, 3) := by decide +kernel
theorem dX2_leastLamp_14 : decode cX2_leastLamp 14 = .ok (.iload_n 2, 1) := by decide +kernel
theorem dX2_leastLamp_15 : decode cX2_leastLamp 15 = .ok (.if_icmp .lt 5, 3) := by decide +kernel
theorem dX2_leastLamp_18 : decode cX2_leastLamp 18 = .ok (.iload_n 3, 1) := by decide +kernel
theorem dX2_leastLamp_19 : decode cX2_leastLamp 19 = .ok (.ireturn, 1) := by decide +kernel
theorem dX2_leastLamp_20 : decode cX2_leastLamp 20 = .ok (.iinc 3 1, 3) := by decide +kernel
theorem dX2_leastLamp_23 : decode cX2_leastLamp 23 = .ok (.goto (-21), 3) := by decide +kernel
theorem dX2_leastLamp_26 : decode cX2_leastLamp 26 = .ok (.iconst (-1), 1) := by decide +kernel
theorem dX2_leastLamp_27 : decode cX2_leastLamp 27 = .ok (.ireturn, 1) := by decide +kernel
theorem dX2_mostWords_0 : decode cX2_mostWords 0 = .ok (.bipush 99, 2) := by decide +kernel
theorem dX2_mostWords_2 : decode cX2_mostWords 2 = .ok (.istore_n 2, 1) := by decide +kernel
theorem dX2_mostWords_3 : decode cX2_mostWords 3 = .ok (.iload_n 2, 1) := by decide +kernel
theorem dX2_mostWords_4 : decode cX2_mostWords 4 = .ok (.iconst 1, 1) := by decide +kernel
theorem dX2_mostWords_5 : decode cX2_mostWords 5 = .ok (.if_icmp .lt 20, 3) := by decide +kernel
theorem dX2_mostWords_8 : decode cX2_mostWords 8 = .ok (.aload_n 0, 1) := by decide +kernel
theorem dX2_mostWords_9 : decode cX2_mostWords 9 = .ok (.iload_n 1, 1) := by decide +kernel
theorem dX2_mostWords_10 : decode cX2_mostWords 10 = .ok (.iload_n 2, 1) := by decide +kernel
theorem dX2_mostWords_11 : decode cX2_mostWords 11 = .ok (.invokevirtual 113, 3) := by decide +kernel
theorem dX2_mostWords_14 : decode cX2_mostWords 14 = .ok (.ifCond .eq 5, 3) := by decide +kernel
theorem dX2_mostWords_17 : decode cX2_mostWords 17 = .ok (.iload_n 2, 1) := by decide +kernel
theorem dX2_mostWords_18 : decode cX2_mostWords 18 = .ok (.ireturn, 1) := by decide +kernel
theorem dX2_mostWords_19 : decode cX2_mostWords 19 = .ok (.iinc 2 (-1), 3) := by decide +kernel
theorem dX2_mostWords_22 : decode cX2_mostWords 22 = .ok (.goto (-19), 3) := by decide +kernel
theorem dX2_mostWords_25 : decode cX2_mostWords 25 = .ok (.iconst (-1), 1) := by decide +kernel
theorem dX2_mostWords_26 : decode cX2_mostWords 26 = .ok (.ireturn, 1) := by decide +kernel
theorem dX2_mostInSun_0 : decode cX2_mostInSun 0 = .ok (.aload_n 0, 1) := by decide +kernel
theorem dX2_mostInSun_1 : decode cX2_mostInSun 1 = .ok (.iload_n 1, 1) := by decide +kernel
theorem dX2_mostInSun_2 : decode cX2_mostInSun 2 = .ok (.invokevirtual 107, 3) := by decide +kernel
theorem dX2_mostInSun_5 : decode cX2_mostInSun 5 = .ok (.istore_n 3, 1) := by decide +kernel
theorem dX2_mostInSun_6 : decode cX2_mostInSun 6 = .ok (.iconst (-1), 1) := by decide +kernel
theorem dX2_mostInSun_7 : decode cX2_mostInSun 7 = .ok (.istore 4, 2) := by decide +kernel
theorem dX2_mostInSun_9 : decode cX2_mostInSun 9 = .ok (.iconst 0, 1) := by decide +kernel
theorem dX2_mostInSun_10 : decode cX2_mostInSun 10 = .ok (.istore 5, 2) := by decide +kernel
theorem dX2_mostInSun_12 : decode cX2_mostInSun 12 = .ok (.iload 5, 2) := by decide +kernel
theorem dX2_mostInSun_14 : decode cX2_mostInSun 14 = .ok (.iconst 1, 1) := by decide +kernel
theorem dX2_mostInSun_15 : decode cX2_mostInSun 15 = .ok (.aload_n 0, 1) := by decide +kernel
theorem dX2_mostInSun_16 : decode cX2_mostInSun 16 = .ok (.getfield 25, 3) := by decide +kernel
theorem dX2_mostInSun_19 : decode cX2_mostInSun 19 = .ok (.ishl, 1) := by decide +kernel
theorem dX2_mostInSun_20 : decode cX2_mostInSun 20 = .ok (.if_icmp .ge 55, 3) := by decide +kernel
theorem dX2_mostInSun_23 : decode cX2_mostInSun 23 = .ok (.iload 4, 2) := by decide +kernel
theorem dX2_mostInSun_25 : decode cX2_mostInSun 25 = .ok (.ifCond .lt 16, 3) := by decide +kernel
theorem dX2_mostInSun_28 : decode cX2_mostInSun 28 = .ok (.iload 5, 2) := by decide +kernel
theorem dX2_mostInSun_30 : decode cX2_mostInSun 30 = .ok (.invokestatic 117, 3) := by decide +kernel
theorem dX2_mostInSun_33 : decode cX2_mostInSun 33 = .ok (.iload 4, 2) := by decide +kernel
theorem dX2_mostInSun_35 : decode cX2_mostInSun 35 = .ok (.invokestatic 117, 3) := by decide +kernel
theorem dX2_mostInSun_38 : decode cX2_mostInSun 38 = .ok (.if_icmp .le 7, 3) := by decide +kernel
theorem dX2_mostInSun_41 : decode cX2_mostInSun 41 = .ok (.iconst 1, 1) := by decide +kernel
theorem dX2_mostInSun_42 : decode cX2_mostInSun 42 = .ok (.goto 4, 3) := by decide +kernel
theorem dX2_mostInSun_45 : decode cX2_mostInSun 45 = .ok (.iconst 0, 1) := by decide +kernel
theorem dX2_mostInSun_46 : decode cX2_mostInSun 46 = .ok (.istore 6, 2) := by decide +kernel
theorem dX2_mostInSun_48 : decode cX2_mostInSun 48 = .ok (.iload 6, 2) := by decide +kernel
theorem dX2_mostInSun_50 : decode cX2_mostInSun 50 = .ok (.ifCond .eq 19, 3) := by decide +kernel
theorem dX2_mostInSun_53 : decode cX2_mostInSun 53 = .ok (.iload_n 3, 1) := by decide +kernel
theorem dX2_mostInSun_54 : decode cX2_mostInSun 54 = .ok (.aload_n 0, 1) := by decide +kernel
theorem dX2_mostInSun_55 : decode cX2_mostInSun 55 = .ok (.iload 5, 2) := by decide +kernel
theorem dX2_mostInSun_57 : decode cX2_mostInSun 57 = .ok (.invokevirtual 122, 3) := by decide +kernel
theorem dX2_mostInSun_60 : decode cX2_mostInSun 60 = .ok (.isub, 1) := by decide +kernel
theorem dX2_mostInSun_61 : decode cX2_mostInSun 61 = .ok (.iload_n 2, 1) := by decide +kernel
theorem dX2_mostInSun_62 : decode cX2_mostInSun 62 = .ok (.if_icmp .lt 7, 3) := by decide +kernel
theorem dX2_mostInSun_65 : decode cX2_mostInSun 65 = .ok (.iload 5, 2) := by decide +kernel
theorem dX2_mostInSun_67 : decode cX2_mostInSun 67 = .ok (.istore 4, 2) := by decide +kernel
theorem dX2_mostInSun_69 : decode cX2_mostInSun 69 = .ok (.iinc 5 1, 3) := by decide +kernel
theorem dX2_mostInSun_72 : decode cX2_mostInSun 72 = .ok (.goto (-60), 3) := by decide +kernel
theorem dX2_mostInSun_75 : decode cX2_mostInSun 75 = .ok (.iload 4, 2) := by decide +kernel
theorem dX2_mostInSun_77 : decode cX2_mostInSun 77 = .ok (.ireturn, 1) := by decide +kernel
theorem dX2_measureSun_0 : decode cX2_measureSun 0 = .ok (.iconst 0, 1) := by decide +kernel
theorem dX2_measureSun_1 : decode cX2_measureSun 1 = .ok (.istore_n 2, 1) := by decide +kernel
theorem dX2_measureSun_2 : decode cX2_measureSun 2 = .ok (.iconst 0, 1) := by decide +kernel
theorem dX2_measureSun_3 : decode cX2_measureSun 3 = .ok (.istore_n 3, 1) := by decide +kernel
theorem dX2_measureSun_4 : decode cX2_measureSun 4 = .ok (.iload_n 3, 1) := by decide +kernel
theorem dX2_measureSun_5 : decode cX2_measureSun 5 = .ok (.aload_n 0, 1) := by decide +kernel
theorem dX2_measureSun_6 : decode cX2_measureSun 6 = .ok (.getfield 25, 3) := by decide +kernel
theorem dX2_measureSun_9 : decode cX2_measureSun 9 = .ok (.if_icmp .ge 73, 3) := by decide +kernel
theorem dX2_measureSun_12 : decode cX2_measureSun 12 = .ok (.aload_n 0, 1) := by decide +kernel
theorem dX2_measureSun_13 : decode cX2_measureSun 13 = .ok (.getfield 34, 3) := by decide +kernel
theorem dX2_measureSun_16 : decode cX2_measureSun 16 = .ok (.iload_n 3, 1) := by decide +kernel
theorem dX2_measureSun_17 : decode cX2_measureSun 17 = .ok (.aaload, 1) := by decide +kernel
theorem dX2_measureSun_18 : decode cX2_measureSun 18 = .ok (.aload_n 0, 1) := by decide +kernel
theorem dX2_measureSun_19 : decode cX2_measureSun 19 = .ok (.getfield 34, 3) := by decide +kernel
theorem dX2_measureSun_22 : decode cX2_measureSun 22 = .ok (.iload_n 3, 1) := by decide +kernel
theorem dX2_measureSun_23 : decode cX2_measureSun 23 = .ok (.aaload, 1) := by decide +kernel
theorem dX2_measureSun_24 : decode cX2_measureSun 24 = .ok (.getfield 62, 3) := by decide +kernel
theorem dX2_measureSun_27 : decode cX2_measureSun 27 = .ok (.iconst 0, 1) := by decide +kernel
theorem dX2_measureSun_28 : decode cX2_measureSun 28 = .ok (.iload_n 1, 1) := by decide +kernel
theorem dX2_measureSun_29 : decode cX2_measureSun 29 = .ok (.aload_n 0, 1) := by decide +kernel
theorem dX2_measureSun_30 : decode cX2_measureSun 30 = .ok (.getfield 22, 3) := by decide +kernel
theorem dX2_measureSun_33 : decode cX2_measureSun 33 = .ok (.invokevirtual 125, 3) := by decide +kernel
theorem dX2_measureSun_36 : decode cX2_measureSun 36 = .ok (.istore 4, 2) := by decide +kernel
theorem dX2_measureSun_38 : decode cX2_measureSun 38 = .ok (.aload_n 0, 1) := by decide +kernel
theorem dX2_measureSun_39 : decode cX2_measureSun 39 = .ok (.getfield 38, 3) := by decide +kernel
theorem dX2_measureSun_42 : decode cX2_measureSun 42 = .ok (.iload_n 3, 1) := by decide +kernel
theorem dX2_measureSun_43 : decode cX2_measureSun 43 = .ok (.iload 4, 2) := by decide +kernel
theorem dX2_measureSun_45 : decode cX2_measureSun 45 = .ok (.aload_n 0, 1) := by decide +kernel
theorem dX2_measureSun_46 : decode cX2_measureSun 46 = .ok (.getfield 34, 3) := by decide +kernel
theorem dX2_measureSun_49 : decode cX2_measureSun 49 = .ok (.iload_n 3, 1) := by decide +kernel
theorem dX2_measureSun_50 : decode cX2_measureSun 50 = .ok (.aaload, 1) := by decide +kernel
theorem dX2_measureSun_51 : decode cX2_measureSun 51 = .ok (.aload_n 0, 1) := by decide +kernel
theorem dX2_measureSun_52 : decode cX2_measureSun 52 = .ok (.getfield 34, 3) := by decide +kernel
theorem dX2_measureSun_55 : decode cX2_measureSun 55 = .ok (.iload_n 3, 1) := by decide +kernel
theorem dX2_measureSun_56 : decode cX2_measureSun 56 = .ok (.aaload, 1) := by decide +kernel
theorem dX2_measureSun_57 : decode cX2_measureSun 57 = .ok (.getfield 62, 3) := by decide +kernel
theorem dX2_measureSun_60 : decode cX2_measureSun 60 = .ok (.iconst 1, 1) := by decide +kernel
theorem dX2_measureSun_61 : decode cX2_measureSun 61 = .ok (.iload_n 1, 1) := by decide +kernel
theorem dX2_measureSun_62 : decode cX2_measureSun 62 = .ok (.aload_n 0, 1) := by decide +kernel
theorem dX2_measureSun_63 : decode cX2_measureSun 63 = .ok (.getfield 22, 3) := by decide +kernel
theorem dX2_measureSun_66 : decode cX2_measureSun 66 = .ok (.invokevirtual 125, 3) := by decide +kernel
theorem dX2_measureSun_69 : decode cX2_measureSun 69 = .ok (.isub, 1) := by decide +kernel
theorem dX2_measureSun_70 : decode cX2_measureSun 70 = .ok (.iastore, 1) := by decide +kernel
theorem dX2_measureSun_71 : decode cX2_measureSun 71 = .ok (.iload_n 2, 1) := by decide +kernel
theorem dX2_measureSun_72 : decode cX2_measureSun 72 = .ok (.iload 4, 2) := by decide +kernel
theorem dX2_measureSun_74 : decode cX2_measureSun 74 = .ok (.iadd, 1) := by decide +kernel
theorem dX2_measureSun_75 : decode cX2_measureSun 75 = .ok (.istore_n 2, 1) := by decide +kernel
theorem dX2_measureSun_76 : decode cX2_measureSun 76 = .ok (.iinc 3 1, 3) := by decide +kernel
theorem dX2_measureSun_79 : decode cX2_measureSun 79 = .ok (.goto (-75), 3) := by decide +kernel
theorem dX2_measureSun_82 : decode cX2_measureSun 82 = .ok (.iload_n 2, 1) := by decide +kernel
theorem dX2_measureSun_83 : decode cX2_measureSun 83 = .ok (.ireturn, 1) := by decide +kernel
theorem dX2_takenBySun_0 : decode cX2_takenBySun 0 = .ok (.iconst 0, 1) := by decide +kernel
theorem dX2_takenBySun_1 : decode cX2_takenBySun 1 = .ok (.istore_n 2, 1) := by decide +kernel
theorem dX2_takenBySun_2 : decode cX2_takenBySun 2 = .ok (.iconst 0, 1) := by decide +kernel
theorem dX2_takenBySun_3 : decode cX2_takenBySun 3 = .ok (.istore_n 3, 1) := by decide +kernel
theorem dX2_takenBySun_4 : decode cX2_takenBySun 4 = .ok (.iload_n 3, 1) := by decide +kernel
theorem dX2_takenBySun_5 : decode cX2_takenBySun 5 = .ok (.aload_n 0, 1) := by decide +kernel
theorem dX2_takenBySun_6 : decode cX2_takenBySun 6 = .ok (.getfield 25, 3) := by decide +kernel
theorem dX2_takenBySun_9 : decode cX2_takenBySun 9 = .ok (.if_icmp .ge 27, 3) := by decide +kernel
theorem dX2_takenBySun_12 : decode cX2_takenBySun 12 = .ok (.iload_n 1, 1) := by decide +kernel
theorem dX2_takenBySun_13 : decode cX2_takenBySun 13 = .ok (.iload_n 3, 1) := by decide +kernel
theorem dX2_takenBySun_14 : decode cX2_takenBySun 14 = .ok (.ishr, 1) := by decide +kernel
theorem dX2_takenBySun_15 : decode cX2_takenBySun 15 = .ok (.iconst 1, 1) := by decide +kernel
theorem dX2_takenBySun_16 : decode cX2_takenBySun 16 = .ok (.iand, 1) := by decide +kernel
theorem dX2_takenBySun_17 : decode cX2_takenBySun 17 = .ok (.iconst 1, 1) := by decide +kernel
theorem dX2_takenBySun_18 : decode cX2_takenBySun 18 = .ok (.if_icmp .ne 12, 3) := by decide +kernel
theorem dX2_takenBySun_21 : decode cX2_takenBySun 21 = .ok (.iload_n 2, 1) := by decide +kernel
theorem dX2_takenBySun_22 : decode cX2_takenBySun 22 = .ok (.aload_n 0, 1) := by decide +kernel
theorem dX2_takenBySun_23 : decode cX2_takenBySun 23 = .ok (.getfield 38, 3) := by decide +kernel
theorem dX2_takenBySun_26 : decode cX2_takenBySun 26 = .ok (.iload_n 3, 1) := by decide +kernel
theorem dX2_takenBySun_27 : decode cX2_takenBySun 27 = .ok (.iaload, 1) := by decide +kernel
theorem dX2_takenBySun_28 : decode cX2_takenBySun 28 = .ok (.iadd, 1) := by decide +kernel
theorem dX2_takenBySun_29 : decode cX2_takenBySun 29 = .ok (.istore_n 2, 1) := by decide +kernel
theorem dX2_takenBySun_30 : decode cX2_takenBySun 30 = .ok (.iinc 3 1, 3) := by decide +kernel
theorem dX2_takenBySun_33 : decode cX2_takenBySun 33 = .ok (.goto (-29), 3) := by decide +kernel
theorem dX2_takenBySun_36 : decode cX2_takenBySun 36 = .ok (.iload_n 2, 1) := by decide +kernel
theorem dX2_takenBySun_37 : decode cX2_takenBySun 37 = .ok (.ireturn, 1) := by decide +kernel
theorem dX2_blacken_0 : decode cX2_blacken 0 = .ok (.iconst 0, 1) := by decide +kernel
theorem dX2_blacken_1 : decode cX2_blacken 1 = .ok (.istore_n 2, 1) := by decide +kernel
theorem dX2_blacken_2 : decode cX2_blacken 2 = .ok (.iconst 0, 1) := by decide +kernel
theorem dX2_blacken_3 : decode cX2_blacken 3 = .ok (.istore_n 3, 1) := by decide +kernel
theorem dX2_blacken_4 : decode cX2_blacken 4 = .ok (.iload_n 3, 1) := by decide +kernel
theorem dX2_blacken_5 : decode cX2_blacken 5 = .ok (.aload_n 0, 1) := by decide +kernel
theorem dX2_blacken_6 : decode cX2_blacken 6 = .ok (.getfield 25, 3) := by decide +kernel
theorem dX2_blacken_9 : decode cX2_blacken 9 = .ok (.if_icmp .ge 56, 3) := by decide +kernel
theorem dX2_blacken_12 : decode cX2_blacken 12 = .ok (.iload_n 3, 1) := by decide +kernel
theorem dX2_blacken_13 : decode cX2_blacken 13 = .ok (.aload_n 1, 1) := by decide +kernel
theorem dX2_blacken_14 : decode cX2_blacken 14 = .ok (.getfield 129, 3) := by decide +kernel
theorem dX2_blacken_17 : decode cX2_blacken 17 = .ok (.if_icmp .ge 48, 3) := by decide +kernel
theorem dX2_blacken_20 : decode cX2_blacken 20 = .ok (.aload_n 1, 1) := by decide +kernel
theorem dX2_blacken_21 : decode cX2_blacken 21 = .ok (.getfield 134, 3) := by decide +kernel
theorem dX2_blacken_24 : decode cX2_blacken 24 = .ok (.iload_n 3, 1) := by decide +kernel
theorem dX2_blacken_25 : decode cX2_blacken 25 = .ok (.laload, 1) := by decide +kernel
theorem dX2_blacken_26 : decode cX2_blacken 26 = .ok (.lstore 4, 2) := by decide +kernel
theorem dX2_blacken_28 : decode cX2_blacken 28 = .ok (.lload 4, 2) := by decide +kernel
theorem dX2_blacken_30 : decode cX2_blacken 30 = .ok (.lconst 0, 1) := by decide +kernel
theorem dX2_blacken_31 : decode cX2_blacken 31 = .ok (.lcmp, 1) := by decide +kernel
theorem dX2_blacken_32 : decode cX2_blacken 32 = .ok (.ifCond .lt 27, 3) := by decide +kernel
theorem dX2_blacken_35 : decode cX2_blacken 35 = .ok (.lload 4, 2) := by decide +kernel
theorem dX2_blacken_37 : decode cX2_blacken 37 = .ok (.ldc2_w 138, 3) := by decide +kernel
theorem dX2_blacken_40 : decode cX2_blacken 40 = .ok (.lcmp, 1) := by decide +kernel
theorem dX2_blacken_41 : decode cX2_blacken 41 = .ok (.ifCond .gt 18, 3) := by decide +kernel
theorem dX2_blacken_44 : decode cX2_blacken 44 = .ok (.aload_n 0, 1) := by decide +kernel
theorem dX2_blacken_45 : decode cX2_blacken 45 = .ok (.getfield 34, 3) := by decide +kernel
theorem dX2_blacken_48 : decode cX2_blacken 48 = .ok (.iload_n 3, 1) := by decide +kernel
theorem dX2_blacken_49 : decode cX2_blacken 49 = .ok (.aaload, 1) := by decide +kernel
theorem dX2_blacken_50 : decode cX2_blacken 50 = .ok (.lload 4, 2) := by decide +kernel
theorem dX2_blacken_52 : decode cX2_blacken 52 = .ok (.l2i, 1) := by decide +kernel
theorem dX2_blacken_53 : decode cX2_blacken 53 = .ok (.putfield 81, 3) := by decide +kernel
theorem dX2_blacken_56 : decode cX2_blacken 56 = .ok (.iinc 2 1, 3) := by decide +kernel
theorem dX2_blacken_59 : decode cX2_blacken 59 = .ok (.iinc 3 1, 3) := by decide +kernel
theorem dX2_blacken_62 : decode cX2_blacken 62 = .ok (.goto (-58), 3) := by decide +kernel
theorem dX2_blacken_65 : decode cX2_blacken 65 = .ok (.iload_n 2, 1) := by decide +kernel
theorem dX2_blacken_66 : decode cX2_blacken 66 = .ok (.ireturn, 1) := by decide +kernel
theorem dX3_init_0 : decode cX3_init 0 = .ok (.aload_n 0, 1) := by decide +kernel
theorem dX3_init_1 : decode cX3_init 1 = .ok (.invokespecial 1, 3) := by decide +kernel
theorem dX3_init_4 : decode cX3_init 4 = .ok (.aload_n 0, 1) := by decide +kernel
theorem dX3_init_5 : decode cX3_init 5 = .ok (.iconst 0, 1) := by decide +kernel
theorem dX3_init_6 : decode cX3_init 6 = .ok (.putfield 7, 3) := by decide +kernel
theorem dX3_init_9 : decode cX3_init 9 = .ok (.aload_n 0, 1) := by decide +kernel
theorem dX3_init_10 : decode cX3_init 10 = .ok (.iconst 0, 1) := by decide +kernel
theorem dX3_init_11 : decode cX3_init 11 = .ok (.putfield 13, 3) := by decide +kernel
theorem dX3_init_14 : decode cX3_init 14 = .ok (.aload_n 0, 1) := by decide +kernel
theorem dX3_init_15 : decode cX3_init 15 = .ok (.bipush 40, 2) := by decide +kernel
theorem dX3_init_17 : decode cX3_init 17 = .ok (.newarray .long, 2) := by decide +kernel
theorem dX3_init_19 : decode cX3_init 19 = .ok (.putfield 16, 3) := by decide +kernel
theorem dX3_init_22 : decode cX3_init 22 = .ok (.return_, 1) := by decide +kernel
theorem dX3_mayHaveBits_0 : decode cX3_mayHaveBits 0 = .ok (.iload_n 0, 1) := by decide +kernel
theorem dX3_mayHaveBits_1 : decode cX3_mayHaveBits 1 = .ok (.ifCond .eq 21, 3) := by decide +kernel
theorem dX3_mayHaveBits_4 : decode cX3_mayHaveBits 4 = .ok (.iload_n 0, 1) := by decide +kernel
theorem dX3_mayHaveBits_5 : decode cX3_mayHaveBits 5 = .ok (.bipush 8, 2) := by decide +kernel
theorem dX3_mayHaveBits_7 : decode cX3_mayHaveBits 7 = .ok (.if_icmp .eq 15, 3) := by decide +kernel
theorem dX3_mayHaveBits_10 : decode cX3_mayHaveBits 10 = .ok (.iload_n 0, 1) := by decide +kernel
theorem dX3_mayHaveBits_11 : decode cX3_mayHaveBits 11 = .ok (.bipush 16, 2) := by decide +kernel
theorem dX3_mayHaveBits_13 : decode cX3_mayHaveBits 13 = .ok (.if_icmp .eq 9, 3) := by decide +kernel
theorem dX3_mayHaveBits_16 : decode cX3_mayHaveBits 16 = .ok (.iload_n 0, 1) := by decide +kernel
theorem dX3_mayHaveBits_17 : decode cX3_mayHaveBits 17 = .ok (.bipush 64, 2) := by decide +kernel
theorem dX3_mayHaveBits_19 : decode cX3_mayHaveBits 19 = .ok (.if_icmp .ne 7, 3) := by decide +kernel
theorem dX3_mayHaveBits_22 : decode cX3_mayHaveBits 22 = .ok (.iconst 1, 1) := by decide +kernel
theorem dX3_mayHaveBits_23 : decode cX3_mayHaveBits 23 = .ok (.goto 4, 3) := by decide +kernel
theorem dX3_mayHaveBits_26 : decode cX3_mayHaveBits 26 = .ok (.iconst 0, 1) := by decide +kernel
theorem dX3_mayHaveBits_27 : decode cX3_mayHaveBits 27 = .ok (.ireturn, 1) := by decide +kernel
theorem dX3_isMissing_0 : decode cX3_isMissing 0 = .ok (.aload_n 0, 1) := by decide +kernel
theorem dX3_isMissing_1 : decode cX3_isMissing 1 = .ok (.getfield 7, 3) := by decide +kernel
theorem dX3_isMissing_4 : decode cX3_isMissing 4 = .ok (.ifCond .ne 7, 3) := by decide +kernel
theorem dX3_isMissing_7 : decode cX3_isMissing 7 = .ok (.iconst 1, 1) := by decide +kernel
theorem dX3_isMissing_8 : decode cX3_isMissing 8 = .ok (.goto 4, 3) := by decide +kernel
theorem dX3_isMissing_11 : decode cX3_isMissing 11 = .ok (.iconst 0, 1) := by decide +kernel
theorem dX3_isMissing_12 : decode cX3_isMissing 12 = .ok (.ireturn, 1) := by decide +kernel
theorem dX3_layOut_0 : decode cX3_layOut 0 = .ok (.aload_n 0, 1) := by decide +kernel
theorem dX3_layOut_1 : decode cX3_layOut 1 = .ok (.iload_n 1, 1) := by decide +kernel
theorem dX3_layOut_2 : decode cX3_layOut 2 = .ok (.putfield 7, 3) := by decide +kernel
theorem dX3_layOut_5 : decode cX3_layOut 5 = .ok (.aload_n 0, 1) := by decide +kernel
theorem dX3_layOut_6 : decode cX3_layOut 6 = .ok (.iload_n 1, 1) := by decide +kernel
theorem dX3_layOut_7 : decode cX3_layOut 7 = .ok (.ifCond .ne 7, 3) := by decide +kernel
theorem dX3_layOut_10 : decode cX3_layOut 10 = .ok (.iconst 0, 1) := by decide +kernel
theorem dX3_layOut_11 : decode cX3_layOut 11 = .ok (.goto 4, 3) := by decide +kernel
theorem dX3_layOut_14 : decode cX3_layOut 14 = .ok (.iload_n 2, 1) := by decide +kernel
theorem dX3_layOut_15 : decode cX3_layOut 15 = .ok (.putfield 13, 3) := by decide +kernel
theorem dX3_layOut_18 : decode cX3_layOut 18 = .ok (.aload_n 0, 1) := by decide +kernel
theorem dX3_layOut_19 : decode cX3_layOut 19 = .ok (.getfield 16, 3) := by decide +kernel
theorem dX3_layOut_22 : decode cX3_layOut 22 = .ok (.lconst 0, 1) := by decide +kernel
theorem dX3_layOut_23 : decode cX3_layOut 23 = .ok (.invokestatic 20, 3) := by decide +kernel
theorem dX3_layOut_26 : decode cX3_layOut 26 = .ok (.return_, 1) := by decide +kernel
theorem dX3_lowestBits_0 : decode cX3_lowestBits 0 = .ok (.aload_n 0, 1) := by decide +kernel
theorem dX3_lowestBits_1 : decode cX3_lowestBits 1 = .ok (.getfield 7, 3) := by decide +kernel
theorem dX3_lowestBits_4 : decode cX3_lowestBits 4 = .ok (.lookupswitch 38 #[(8, 28), (16, 33)], 28) := by decide +kernel
theorem dX3_lowestBits_32 : decode cX3_lowestBits 32 = .ok (.lload_n 1, 1) := by decide +kernel
theorem dX3_lowestBits_33 : decode cX3_lowestBits 33 = .ok (.l2i, 1) := by decide +kernel
theorem dX3_lowestBits_34 : decode cX3_lowestBits 34 = .ok (.i2b, 1) := by decide +kernel
theorem dX3_lowestBits_35 : decode cX3_lowestBits 35 = .ok (.i2l, 1) := by decide +kernel
theorem dX3_lowestBits_36 : decode cX3_lowestBits 36 = .ok (.lreturn, 1) := by decide +kernel
theorem dX3_lowestBits_37 : decode cX3_lowestBits 37 = .ok (.lload_n 1, 1) := by decide +kernel
theorem dX3_lowestBits_38 : decode cX3_lowestBits 38 = .ok (.l2i, 1) := by decide +kernel
theorem dX3_lowestBits_39 : decode cX3_lowestBits 39 = .ok (.i2s, 1) := by decide +kernel
theorem dX3_lowestBits_40 : decode cX3_lowestBits 40 = .ok (.i2l, 1) := by decide +kernel
theorem dX3_lowestBits_41 : decode cX3_lowestBits 41 = .ok (.lreturn, 1) := by decide +kernel
theorem dX3_lowestBits_42 : decode cX3_lowestBits 42 = .ok (.lload_n 1, 1) := by decide +kernel
theorem dX3_lowestBits_43 : decode cX3_lowestBits 43 = .ok (.lreturn, 1) := by decide +kernel
theorem dX3_hasRow_0 : decode cX3_hasRow 0 = .ok (.iload_n 1, 1) := by decide +kernel
theorem dX3_hasRow_1 : decode cX3_hasRow 1 = .ok (.ifCond .lt 21, 3) := by decide +kernel
theorem dX3_hasRow_4 : decode cX3_hasRow 4 = .ok (.iload_n 2, 1) := by decide +kernel
theorem dX3_hasRow_5 : decode cX3_hasRow 5 = .ok (.ifCond .lt 17, 3) := by decide +kernel
theorem dX3_hasRow_8 : decode cX3_hasRow 8 = .ok (.iload_n 1, 1) := by decide +kernel
theorem dX3_hasRow_9 : decode cX3_hasRow 9 = .ok (.aload_n 0, 1) := by decide +kernel
theorem dX3_hasRow_10 : decode cX3_hasRow 10 = .ok (.getfield 13, 3) := by decide +kernel
theorem dX3_hasRow_13 : decode cX3_hasRow 13 = .ok (.iload_n 2, 1) := by decide +kernel
theorem dX3_hasRow_14 : decode cX3_hasRow 14 = .ok (.isub, 1) := by decide +kernel
theorem dX3_hasRow_15 : decode cX3_hasRow 15 = .ok (.if_icmp .gt 7, 3) := by decide +kernel
theorem dX3_hasRow_18 : decode cX3_hasRow 18 = .ok (.iconst 1, 1) := by decide +kernel
theorem dX3_hasRow_19 : decode cX3_hasRow 19 = .ok (.goto 4, 3) := by decide +kernel
theorem dX3_hasRow_22 : decode cX3_hasRow 22 = .ok (.iconst 0, 1) := by decide +kernel
theorem dX3_hasRow_23 : decode cX3_hasRow 23 = .ok (.ireturn, 1) := by decide +kernel
theorem dX4_init_0 : decode cX4_init 0 = .ok (.aload_n 0, 1) := by decide +kernel
theorem dX4_init_1 : decode cX4_init 1 = .ok (.invokespecial 1, 3) := by decide +kernel
theorem dX4_init_4 : decode cX4_init 4 = .ok (.aload_n 0, 1) := by decide +kernel
theorem dX4_init_5 : decode cX4_init 5 = .ok (.iconst 0, 1) := by decide +kernel
theorem dX4_init_6 : decode cX4_init 6 = .ok (.putfield 7, 3) := by decide +kernel
theorem dX4_init_9 : decode cX4_init 9 = .ok (.aload_n 0, 1) := by decide +kernel
theorem dX4_init_10 : decode cX4_init 10 = .ok (.iconst 0, 1) := by decide +kernel
theorem dX4_init_11 : decode cX4_init 11 = .ok (.putfield 13, 3) := by decide +kernel
theorem dX4_init_14 : decode cX4_init 14 = .ok (.aload_n 0, 1) := by decide +kernel
theorem dX4_init_15 : decode cX4_init 15 = .ok (.iconst 0, 1) := by decide +kernel
theorem dX4_init_16 : decode cX4_init 16 = .ok (.putfield 16, 3) := by decide +kernel
theorem dX4_init_19 : decode cX4_init 19 = .ok (.aload_n 0, 1) := by decide +kernel
theorem dX4_init_20 : decode cX4_init 20 = .ok (.iconst 0, 1) := by decide +kernel
theorem dX4_init_21 : decode cX4_init 21 = .ok (.putfield 19, 3) := by decide +kernel
theorem dX4_init_24 : decode cX4_init 24 = .ok (.aload_n 0, 1) := by decide +kernel
theorem dX4_init_25 : decode cX4_init 25 = .ok (.iconst 0, 1) := by decide +kernel
theorem dX4_init_26 : decode cX4_init 26 = .ok (.putfield 22, 3) := by decide +kernel
theorem dX4_init_29 : decode cX4_init 29 = .ok (.aload_n 0, 1) := by decide +kernel
theorem dX4_init_30 : decode cX4_init 30 = .ok (.bipush 120, 2) := by decide +kernel
theorem dX4_init_32 : decode cX4_init 32 = .ok (.newarray .int, 2) := by decide +kernel
theorem dX4_init_34 : decode cX4_init 34 = .ok (.putfield 25, 3) := by decide +kernel
theorem dX4_init_37 : decode cX4_init 37 = .ok (.return_, 1) := by decide +kernel
theorem dX4_addByte_0 : decode cX4_addByte 0 = .ok (.aload_n 0, 1) := by decide +kernel
theorem dX4_addByte_1 : decode cX4_addByte 1 = .ok (.getfield 7, 3) := by decide +kernel
theorem dX4_addByte_4 : decode cX4_addByte 4 = .ok (.bipush 120, 2) := by decide +kernel
theorem dX4_addByte_6 : decode cX4_addByte 6 = .ok (.if_icmp .ge 23, 3) := by decide +kernel
theorem dX4_addByte_9 : decode cX4_addByte 9 = .ok (.aload_n 0, 1) := by decide +kernel
theorem dX4_addByte_10 : decode cX4_addByte 10 = .ok (.getfield 25, 3) := by decide +kernel
theorem dX4_addByte_13 : decode cX4_addByte 13 = .ok (.aload_n 0, 1) := by decide +kernel
theorem dX4_addByte_14 : decode cX4_addByte 14 = .ok (.getfield 7, 3) := by decide +kernel
theorem dX4_addByte_17 : decode cX4_addByte 17 = .ok (.iload_n 1, 1) := by decide +kernel
theorem dX4_addByte_18 : decode cX4_addByte 18 = .ok (.iastore, 1) := by decide +kernel
theorem dX4_addByte_19 : decode cX4_addByte 19 = .ok (.aload_n 0, 1) := by decide +kernel
theorem dX4_addByte_20 : decode cX4_addByte 20 = .ok (.dup, 1) := by decide +kernel
theorem dX4_addByte_21 : decode cX4_addByte 21 = .ok (.getfield 7, 3) := by decide +kernel
theorem dX4_addByte_24 : decode cX4_addByte 24 = .ok (.iconst 1, 1) := by decide +kernel
theorem dX4_addByte_25 : decode cX4_addByte 25 = .ok (.iadd, 1) := by decide +kernel
theorem dX4_addByte_26 : decode cX4_addByte 26 = .ok (.putfield 7, 3) := by decide +kernel
theorem dX4_addByte_29 : decode cX4_addByte 29 = .ok (.return_, 1) := by decide +kernel
theorem dX4_toFirstToken_0 : decode cX4_toFirstToken 0 = .ok (.aload_n 0, 1) := by decide +kernel
theorem dX4_toFirstToken_1 : decode cX4_toFirstToken 1 = .ok (.iconst 0, 1) := by decide +kernel
theorem dX4_toFirstToken_2 : decode cX4_toFirstToken 2 = .ok (.putfield 19, 3) := by decide +kernel
theorem dX4_toFirstToken_5 : decode cX4_toFirstToken 5 = .ok (.aload_n 0, 1) := by decide +kernel
theorem dX4_toFirstToken_6 : decode cX4_toFirstToken 6 = .ok (.invokevirtual 29, 3) := by decide +kernel
theorem dX4_toFirstToken_9 : decode cX4_toFirstToken 9 = .ok (.return_, 1) := by decide +kernel
theorem dX4_toNextToken_0 : decode cX4_toNextToken 0 = .ok (.aload_n 0, 1) := by decide +kernel
theorem dX4_toNextToken_1 : decode cX4_toNextToken 1 = .ok (.getfield 19, 3) := by decide +kernel
theorem dX4_toNextToken_4 : decode cX4_toNextToken 4 = .ok (.aload_n 0, 1) := by decide +kernel
theorem dX4_toNextToken_5 : decode cX4_toNextToken 5 = .ok (.getfield 7, 3) := by decide +kernel
theorem dX4_toNextToken_8 : decode cX4_toNextToken 8 = .ok (.if_icmp .ge 30, 3) := by decide +kernel
theorem dX4_toNextToken_11 : decode cX4_toNextToken 11 = .ok (.aload_n 0, 1) := by decide +kernel
theorem dX4_toNextToken_12 : decode cX4_toNextToken 12 = .ok (.getfield 25, 3) := by decide +kernel
theorem dX4_toNextToken_15 : decode cX4_toNextToken 15 = .ok (.aload_n 0, 1) := by decide +kernel
theorem dX4_toNextToken_16 : decode cX4_toNextToken 16 = .ok (.getfield 19, 3) := by decide +kernel
theorem dX4_toNextToken_19 : decode cX4_toNextToken 19 = .ok (.iaload, 1) := by decide +kernel
theorem dX4_toNextToken_20 : decode cX4_toNextToken 20 = .ok (.bipush 32, 2) := by decide +kernel
theorem dX4_toNextToken_22 : decode cX4_toNextToken 22 = .ok (.if_icmp .ne 16, 3) := by decide +kernel
theorem dX4_toNextToken_25 : decode cX4_toNextToken 25 = .ok (.aload_n 0, 1) := by decide +kernel
theorem dX4_toNextToken_26 : decode cX4_toNextToken 26 = .ok (.dup, 1) := by decide +kernel
theorem dX4_toNextToken_27 : decode cX4_toNextToken 27 = .ok (.getfield 19, 3) := by decide +kernel
theorem dX4_toNextToken_30 : decode cX4_toNextToken 30 = .ok (.iconst 1, 1) := by decide +kernel
theorem dX4_toNextToken_31 : decode cX4_toNextToken 31 = .ok (.iadd, 1) := by decide +kernel
theorem dX4_toNextToken_32 : decode cX4_toNextToken 32 = .ok (.putfield 19, 3) := by decide +kernel
theorem dX4_toNextToken_35 : decode cX4_toNextToken 35 = .ok (.goto (-35), 3) := by decide +kernel
theorem dX4_toNextToken_38 : decode cX4_toNextToken 38 = .ok (.aload_n 0, 1) := by decide +kernel
theorem dX4_toNextToken_39 : decode cX4_toNextToken 39 = .ok (.aload_n 0, 1) := by decide +kernel
theorem dX4_toNextToken_40 : decode cX4_toNextToken 40 = .ok (.getfield 19, 3) := by decide +kernel
theorem dX4_toNextToken_43 : decode cX4_toNextToken 43 = .ok (.putfield 16, 3) := by decide +kernel
theorem dX4_toNextToken_46 : decode cX4_toNextToken 46 = .ok (.aload_n 0, 1) := by decide +kernel
theorem dX4_toNextToken_47 : decode cX4_toNextToken 47 = .ok (.getfield 19, 3) := by decide +kernel
theorem dX4_toNextToken_50 : decode cX4_toNextToken 50 = .ok (.aload_n 0, 1) := by decide +kernel
theorem dX4_toNextToken_51 : decode cX4_toNextToken 51 = .ok (.getfield 7, 3) := by decide +kernel
theorem dX4_toNextToken_54 : decode cX4_toNextToken 54 = .ok (.if_icmp .lt 11, 3) := by decide +kernel
theorem dX4_toNextToken_57 : decode cX4_toNextToken 57 = .ok (.aload_n 0, 1) := by decide +kernel
theorem dX4_toNextToken_58 : decode cX4_toNextToken 58 = .ok (.iconst 0, 1) := by decide +kernel
theorem dX4_toNextToken_59 : decode cX4_toNextToken 59 = .ok (.putfield 13, 3) := by decide +kernel
theorem dX4_toNextToken_62 : decode cX4_toNextToken 62 = .ok (.goto 90, 3) := by decide +kernel
theorem dX4_toNextToken_65 : decode cX4_toNextToken 65 = .ok (.aload_n 0, 1) := by decide +kernel
theorem dX4_toNextToken_66 : decode cX4_toNextToken 66 = .ok (.getfield 25, 3) := by decide +kernel
theorem dX4_toNextToken_69 : decode cX4_toNextToken 69 = .ok (.aload_n 0, 1) := by decide +kernel
theorem dX4_toNextToken_70 : decode cX4_toNextToken 70 = .ok (.getfield 19, 3) := by decide +kernel
theorem dX4_toNextToken_73 : decode cX4_toNextToken 73 = .ok (.iaload, 1) := by decide +kernel
theorem dX4_toNextToken_74 : decode cX4_toNextToken 74 = .ok (.invokestatic 32, 3) := by decide +kernel
theorem dX4_toNextToken_77 : decode cX4_toNextToken 77 = .ok (.ifCond .eq 15, 3) := by decide +kernel
theorem dX4_toNextToken_80 : decode cX4_toNextToken 80 = .ok (.aload_n 0, 1) := by decide +kernel
theorem dX4_toNextToken_81 : decode cX4_toNextToken 81 = .ok (.iconst 1, 1) := by decide +kernel
theorem dX4_toNextToken_82 : decode cX4_toNextToken 82 = .ok (.putfield 13, 3) := by decide +kernel
theorem dX4_toNextToken_85 : decode cX4_toNextToken 85 = .ok (.aload_n 0, 1) := by decide +kernel
theorem dX4_toNextToken_86 : decode cX4_toNextToken 86 = .ok (.invokevirtual 36, 3) := by decide +kernel
theorem dX4_toNextToken_89 : decode cX4_toNextToken 89 = .ok (.goto 63, 3) := by decide +kernel
theorem dX4_toNextToken_92 : decode cX4_toNextToken 92 = .ok (.aload_n 0, 1) := by decide +kernel
theorem dX4_toNextToken_93 : decode cX4_toNextToken 93 = .ok (.getfield 25, 3) := by decide +kernel
theorem dX4_toNextToken_96 : decode cX4_toNextToken 96 = .ok (.aload_n 0, 1) := by decide +kernel
theorem dX4_toNextToken_97 : decode cX4_toNextToken 97 = .ok (.getfield 19, 3) := by decide +kernel
theorem dX4_toNextToken_100 : decode cX4_toNextToken 100 = .ok (.iaload, 1) := by decide +kernel
theorem dX4_toNextToken_101 : decode cX4_toNextToken 101 = .ok (.invokestatic 39, 3) := by decide +kernel
theorem dX4_toNextToken_104 : decode cX4_toNextToken 104 = .ok (.ifCond .eq 15, 3) := by decide +kernel
theorem dX4_toNextToken_107 : decode cX4_toNextToken 107 = .ok (.aload_n 0, 1) := by decide +kernel
theorem dX4_toNextToken_108 : decode cX4_toNextToken 108 = .ok (.iconst 2, 1) := by decide +kernel
theorem dX4_toNextToken_109 : decode cX4_toNextToken 109 = .ok (.putfield 13, 3) := by decide +kernel
theorem dX4_toNextToken_112 : decode cX4_toNextToken 112 = .ok (.aload_n 0, 1) := by decide +kernel
theorem dX4_toNextToken_113 : decode cX4_toNextToken 113 = .ok (.invokevirtual 42, 3) := by decide +kernel
theorem dX4_toNextToken_116 : decode cX4_toNextToken 116 = .ok (.goto 36, 3) := by decide +kernel
theorem dX4_toNextToken_119 : decode cX4_toNextToken 119 = .ok (.aload_n 0, 1) := by decide +kernel
theorem dX4_toNextToken_120 : decode cX4_toNextToken 120 = .ok (.aload_n 0, 1) := by decide +kernel
theorem dX4_toNextToken_121 : decode cX4_toNextToken 121 = .ok (.getfield 25, 3) := by decide +kernel
theorem dX4_toNextToken_124 : decode cX4_toNextToken 124 = .ok (.aload_n 0, 1) := by decide +kernel
theorem dX4_toNextToken_125 : decode cX4_toNextToken 125 = .ok (.getfield 19, 3) := by decide +kernel
theorem dX4_toNextToken_128 : decode cX4_toNextToken 128 = .ok (.iaload, 1) := by decide +kernel
theorem dX4_toNextToken_129 : decode cX4_toNextToken 129 = .ok (.bipush 59, 2) := by decide +kernel
theorem dX4_toNextToken_131 : decode cX4_toNextToken 131 = .ok (.if_icmp .ne 7, 3) := by decide +kernel
theorem dX4_toNextToken_134 : decode cX4_toNextToken 134 = .ok (.iconst 3, 1) := by decide +kernel
theorem dX4_toNextToken_135 : decode cX4_toNextToken 135 = .ok (.goto 4, 3) := by decide +kernel
theorem dX4_toNextToken_138 : decode cX4_toNextToken 138 = .ok (.iconst 4, 1) := by decide +kernel
theorem dX4_toNextToken_139 : decode cX4_toNextToken 139 = .ok (.putfield 13, 3) := by decide +kernel
theorem dX4_toNextToken_142 : decode cX4_toNextToken 142 = .ok (.aload_n 0, 1) := by decide +kernel
theorem dX4_toNextToken_143 : decode cX4_toNextToken 143 = .ok (.dup, 1) := by decide +kernel
theorem dX4_toNextToken_144 : decode cX4_toNextToken 144 = .ok (.getfield 19, 3) := by decide +kernel
theorem dX4_toNextToken_147 : decode cX4_toNextToken 147 = .ok (.iconst 1, 1) := by decide +kernel
theorem dX4_toNextToken_148 : decode cX4_toNextToken 148 = .ok (.iadd, 1) := by decide +kernel
theorem dX4_toNextToken_149 : decode cX4_toNextToken 149 = .ok (.putfield 19, 3) := by decide +kernel
theorem dX4_toNextToken_152 : decode cX4_toNextToken 152 = .ok (.return_, 1) := by decide +kernel
theorem dX4_passLetters_0 : decode cX4_passLetters 0 = .ok (.aload_n 0, 1) := by decide +kernel
theorem dX4_passLetters_1 : decode cX4_passLetters 1 = .ok (.getfield 19, 3) := by decide +kernel
theorem dX4_passLetters_4 : decode cX4_passLetters 4 = .ok (.aload_n 0, 1) := by decide +kernel
theorem dX4_passLetters_5 : decode cX4_passLetters 5 = .ok (.getfield 7, 3) := by decide +kernel
theorem dX4_passLetters_8 : decode cX4_passLetters 8 = .ok (.if_icmp .ge 31, 3) := by decide +kernel
theorem dX4_passLetters_11 : decode cX4_passLetters 11 = .ok (.aload_n 0, 1) := by decide +kernel
theorem dX4_passLetters_12 : decode cX4_passLetters 12 = .ok (.getfield 25, 3) := by decide +kernel
theorem dX4_passLetters_15 : decode cX4_passLetters 15 = .ok (.aload_n 0, 1) := by decide +kernel
theorem dX4_passLetters_16 : decode cX4_passLetters 16 = .ok (.getfield 19, 3) := by decide +kernel
theorem dX4_passLetters_19 : decode cX4_passLetters 19 = .ok (.iaload, 1) := by decide +kernel
theorem dX4_passLetters_20 : decode cX4_passLetters 20 = .ok (.invokestatic 32, 3) := by decide +kernel
theorem dX4_passLetters_23 : decode cX4_passLetters 23 = .ok (.ifCond .eq 16, 3) := by decide +kernel
theorem dX4_passLetters_26 : decode cX4_passLetters 26 = .ok (.aload_n 0, 1) := by decide +kernel
theorem dX4_passLetters_27 : decode cX4_passLetters 27 = .ok (.dup, 1) := by decide +kernel
theorem dX4_passLetters_28 : decode cX4_passLetters 28 = .ok (.getfield 19, 3) := by decide +kernel
theorem dX4_passLetters_31 : decode cX4_passLetters 31 = .ok (.iconst 1, 1) := by decide +kernel
theorem dX4_passLetters_32 : decode cX4_passLetters 32 = .ok (.iadd, 1) := by decide +kernel
theorem dX4_passLetters_33 : decode cX4_passLetters 33 = .ok (.putfield 19, 3) := by decide +kernel
theorem dX4_passLetters_36 : decode cX4_passLetters 36 = .ok (.goto (-36), 3) := by decide +kernel
theorem dX4_passLetters_39 : decode cX4_passLetters 39 = .ok (.return_, 1) := by decide +kernel
theorem dX4_passDigits_0 : decode cX4_passDigits 0 = .ok (.aload_n 0, 1) := by decide +kernel
theorem dX4_passDigits_1 : decode cX4_passDigits 1 = .ok (.iconst 0, 1) := by decide +kernel
theorem dX4_passDigits_2 : decode cX4_passDigits 2 = .ok (.putfield 22, 3) := by decide +kernel
theorem dX4_passDigits_5 : decode cX4_passDigits 5 = .ok (.aload_n 0, 1) := by decide +kernel
theorem dX4_passDigits_6 : decode cX4_passDigits 6 = .ok (.getfield 19, 3) := by decide +kernel
theorem dX4_passDigits_9 : decode cX4_passDigits 9 = .ok (.aload_n 0, 1) := by decide +kernel
theorem dX4_passDigits_10 : decode cX4_passDigits 10 = .ok (.getfield 7, 3) := by decide +kernel
theorem dX4_passDigits_13 : decode cX4_passDigits 13 = .ok (.if_icmp .ge 61, 3) := by decide +kernel
theorem dX4_passDigits_16 : decode cX4_passDigits 16 = .ok (.aload_n 0, 1) := by decide +kernel
theorem dX4_passDigits_17 : decode cX4_passDigits 17 = .ok (.getfield 25, 3) := by decide +kernel
theorem dX4_passDigits_20 : decode cX4_passDigits 20 = .ok (.aload_n 0, 1) := by decide +kernel
theorem dX4_passDigits_21 : decode cX4_passDigits 21 = .ok (.getfield 19, 3) := by decide +kernel
theorem dX4_passDigits_24 : decode cX4_passDigits 24 = .ok (.iaload, 1) := by decide +kernel
theorem dX4_passDigits_25 : decode cX4_passDigits 25 = .ok (.invokestatic 39, 3) := by decide +kernel
theorem dX4_passDigits_28 : decode cX4_passDigits 28 = .ok (.ifCond .eq 46, 3) := by decide +kernel
theorem dX4_passDigits_31 : decode cX4_passDigits 31 = .ok (.aload_n 0, 1) := by decide +kernel
theorem dX4_passDigits_32 : decode cX4_passDigits 32 = .ok (.sipush 1000, 3) := by decide +kernel
theorem dX4_passDigits_35 : decode cX4_passDigits 35 = .ok (.bipush 10, 2) := by decide +kernel
theorem dX4_passDigits_37 : decode cX4_passDigits 37 = .ok (.aload_n 0, 1) := by decide +kernel
theorem dX4_passDigits_38 : decode cX4_passDigits 38 = .ok (.getfield 22, 3) := by decide +kernel
theorem dX4_passDigits_41 : decode cX4_passDigits 41 = .ok (.imul, 1) := by decide +kernel
theorem dX4_passDigits_42 : decode cX4_passDigits 42 = .ok (.aload_n 0, 1) := by decide +kernel
theorem dX4_passDigits_43 : decode cX4_passDigits 43 = .ok (.getfield 25, 3) := by decide +kernel
theorem dX4_passDigits_46 : decode cX4_passDigits 46 = .ok (.aload_n 0, 1) := by decide +kernel
theorem dX4_passDigits_47 : decode cX4_passDigits 47 = .ok (.getfield 19, 3) := by decide +kernel
theorem dX4_passDigits_50 : decode cX4_passDigits 50 = .ok (.iaload, 1) := by decide +kernel
theorem dX4_passDigits_51 : decode cX4_passDigits 51 = .ok (.iadd, 1) := by decide +kernel
theorem dX4_passDigits_52 : decode cX4_passDigits 52 = .ok (.bipush 48, 2) := by decide +kernel
theorem dX4_passDigits_54 : decode cX4_passDigits 54 = .ok (.isub, 1) := by decide +kernel
theorem dX4_passDigits_55 : decode cX4_passDigits 55 = .ok (.invokestatic 45, 3) := by decide +kernel
theorem dX4_passDigits_58 : decode cX4_passDigits 58 = .ok (.putfield 22, 3) := by decide +kernel
theorem dX4_passDigits_61 : decode cX4_passDigits 61 = .ok (.aload_n 0, 1) := by decide +kernel
theorem dX4_passDigits_62 : decode cX4_passDigits 62 = .ok (.dup, 1) := by decide +kernel
theorem dX4_passDigits_63 : decode cX4_passDigits 63 = .ok (.getfield 19, 3) := by decide +kernel
theorem dX4_passDigits_66 : decode cX4_passDigits 66 = .ok (.iconst 1, 1) := by decide +kernel
theorem dX4_passDigits_67 : decode cX4_passDigits 67 = .ok (.iadd, 1) := by decide +kernel
theorem dX4_passDigits_68 : decode cX4_passDigits 68 = .ok (.putfield 19, 3) := by decide +kernel
theorem dX4_passDigits_71 : decode cX4_passDigits 71 = .ok (.goto (-66), 3) := by decide +kernel
theorem dX4_passDigits_74 : decode cX4_passDigits 74 = .ok (.return_, 1) := by decide +kernel
theorem dX4_isWord_0 : decode cX4_isWord 0 = .ok (.aload_n 0, 1) := by decide +kernel
theorem dX4_isWord_1 : decode cX4_isWord 1 = .ok (.getfield 13, 3) := by decide +kernel
theorem dX4_isWord_4 : decode cX4_isWord 4 = .ok (.iconst 1, 1) := by decide +kernel
theorem dX4_isWord_5 : decode cX4_isWord 5 = .ok (.if_icmp .ne 19, 3) := by decide +kernel
theorem dX4_isWord_8 : decode cX4_isWord 8 = .ok (.aload_n 0, 1) := by decide +kernel
theorem dX4_isWord_9 : decode cX4_isWord 9 = .ok (.getfield 19, 3) := by decide +kernel
theorem dX4_isWord_12 : decode cX4_isWord 12 = .ok (.aload_n 0, 1) := by decide +kernel
theorem dX4_isWord_13 : decode cX4_isWord 13 = .ok (.getfield 16, 3) := by decide +kernel
theorem dX4_isWord_16 : decode cX4_isWord 16 = .ok (.isub, 1) := by decide +kernel
theorem dX4_isWord_17 : decode cX4_isWord 17 = .ok (.aload_n 1, 1) := by decide +kernel
theorem dX4_isWord_18 : decode cX4_isWord 18 = .ok (.invokevirtual 51, 3) := by decide +kernel
theorem dX4_isWord_21 : decode cX4_isWord 21 = .ok (.if_icmp .eq 5, 3) := by decide +kernel
theorem dX4_isWord_24 : decode cX4_isWord 24 = .ok (.iconst 0, 1) := by decide +kernel
theorem dX4_isWord_25 : decode cX4_isWord 25 = .ok (.ireturn, 1) := by decide +kernel
theorem dX4_isWord_26 : decode cX4_isWord 26 = .ok (.iconst 0, 1) := by decide +kernel
theorem dX4_isWord_27 : decode cX4_isWord 27 = .ok (.istore_n 2, 1) := by decide +kernel
theorem dX4_isWord_28 : decode cX4_isWord 28 = .ok (.iload_n 2, 1) := by decide +kernel
theorem dX4_isWord_29 : decode cX4_isWord 29 = .ok (.aload_n 1, 1) := by decide +kernel
theorem dX4_isWord_30 : decode cX4_isWord 30 = .ok (.invokevirtual 51, 3) := by decide +kernel
theorem dX4_isWord_33 : decode cX4_isWord 33 = .ok (.if_icmp .ge 30, 3) := by decide +kernel
theorem dX4_isWord_36 : decode cX4_isWord 36 = .ok (.aload_n 0, 1) := by decide +kernel
theorem dX4_isWord_37 : decode cX4_isWord 37 = .ok (.getfield 25, 3) := by decide +kernel
theorem dX4_isWord_40 : decode cX4_isWord 40 = .ok (.aload_n 0, 1) := by decide +kernel
theorem dX4_isWord_41 : decode cX4_isWord 41 = .ok (.getfield 16, 3) := by decide +kernel
theorem dX4_isWord_44 : decode cX4_isWord 44 = .ok (.iload_n 2, 1) := by decide +kernel
theorem dX4_isWord_45 : decode cX4_isWord 45 = .ok (.iadd, 1) := by decide +kernel
theorem dX4_isWord_46 : decode cX4_isWord 46 = .ok (.iaload, 1) := by decide +kernel
theorem dX4_isWord_47 : decode cX4_isWord 47 = .ok (.aload_n 1, 1) := by decide +kernel
theorem dX4_isWord_48 : decode cX4_isWord 48 = .ok (.iload_n 2, 1) := by decide +kernel
theorem dX4_isWord_49 : decode cX4_isWord 49 = .ok (.invokevirtual 56, 3) := by decide +kernel
theorem dX4_isWord_52 : decode cX4_isWord 52 = .ok (.if_icmp .eq 5, 3) := by decide +kernel
theorem dX4_isWord_55 : decode cX4_isWord 55 = .ok (.iconst 0, 1) := by decide +kernel
theorem dX4_isWord_56 : decode cX4_isWord 56 = .ok (.ireturn, 1) := by decide +kernel
theorem dX4_isWord_57 : decode cX4_isWord 57 = .ok (.iinc 2 1, 3) := by decide +kernel
theorem dX4_isWord_60 : decode cX4_isWord 60 = .ok (.goto (-32), 3) := by decide +kernel
theorem dX4_isWord_63 : decode cX4_isWord 63 = .ok (.iconst 1, 1) := by decide +kernel
theorem dX4_isWord_64 : decode cX4_isWord 64 = .ok (.ireturn, 1) := by decide +kernel
theorem dX4_number_0 : decode cX4_number 0 = .ok (.aload_n 0, 1) := by decide +kernel
theorem dX4_number_1 : decode cX4_number 1 = .ok (.getfield 13, 3) := by decide +kernel
theorem dX4_number_4 : decode cX4_number 4 = .ok (.iconst 2, 1) := by decide +kernel
theorem dX4_number_5 : decode cX4_number 5 = .ok (.if_icmp .ne 22, 3) := by decide +kernel
theorem dX4_number_8 : decode cX4_number 8 = .ok (.aload_n 0, 1) := by decide +kernel
theorem dX4_number_9 : decode cX4_number 9 = .ok (.getfield 22, 3) := by decide +kernel
theorem dX4_number_12 : decode cX4_number 12 = .ok (.iload_n 1, 1) := by decide +kernel
theorem dX4_number_13 : decode cX4_number 13 = .ok (.iload_n 2, 1) := by decide +kernel
theorem dX4_number_14 : decode cX4_number 14 = .ok (.invokestatic 60, 3) := by decide +kernel
theorem dX4_number_17 : decode cX4_number 17 = .ok (.ifCond .eq 10, 3) := by decide +kernel
theorem dX4_number_20 : decode cX4_number 20 = .ok (.aload_n 0, 1) := by decide +kernel
theorem dX4_number_21 : decode cX4_number 21 = .ok (.getfield 22, 3) := by decide +kernel
theorem dX4_number_24 : decode cX4_number 24 = .ok (.goto 4, 3) := by decide +kernel
theorem dX4_number_27 : decode cX4_number 27 = .ok (.iconst (-1), 1) := by decide +kernel
theorem dX4_number_28 : decode cX4_number 28 = .ok (.ireturn, 1) := by decide +kernel
theorem dX4_isLetter_0 : decode cX4_isLetter 0 = .ok (.iload_n 0, 1) := by decide +kernel
theorem dX4_isLetter_1 : decode cX4_isLetter 1 = .ok (.bipush 97, 2) := by decide +kernel
theorem dX4_isLetter_3 : decode cX4_isLetter 3 = .ok (.if_icmp .lt 13, 3) := by decide +kernel
theorem dX4_isLetter_6 : decode cX4_isLetter 6 = .ok (.iload_n 0, 1) := by decide +kernel
theorem dX4_isLetter_7 : decode cX4_isLetter 7 = .ok (.bipush 122, 2) := by decide +kernel
theorem dX4_isLetter_9 : decode cX4_isLetter 9 = .ok (.if_icmp .gt 7, 3) := by decide +kernel
theorem dX4_isLetter_12 : decode cX4_isLetter 12 = .ok (.iconst 1, 1) := by decide +kernel
theorem dX4_isLetter_13 : decode cX4_isLetter 13 = .ok (.goto 4, 3) := by decide +kernel
theorem dX4_isLetter_16 : decode cX4_isLetter 16 = .ok (.iconst 0, 1) := by decide +kernel
theorem dX4_isLetter_17 : decode cX4_isLetter 17 = .ok (.ireturn, 1) := by decide +kernel
theorem dX4_isDigit_0 : decode cX4_isDigit 0 = .ok (.iload_n 0, 1) := by decide +kernel
theorem dX4_isDigit_1 : decode cX4_isDigit 1 = .ok (.bipush 48, 2) := by decide +kernel
theorem dX4_isDigit_3 : decode cX4_isDigit 3 = .ok (.if_icmp .lt 13, 3) := by decide +kernel
theorem dX4_isDigit_6 : decode cX4_isDigit 6 = .ok (.iload_n 0, 1) := by decide +kernel
theorem dX4_isDigit_7 : decode cX4_isDigit 7 = .ok (.bipush 57, 2) := by decide +kernel
theorem dX4_isDigit_9 : decode cX4_isDigit 9 = .ok (.if_icmp .gt 7, 3) := by decide +kernel
theorem dX4_isDigit_12 : decode cX4_isDigit 12 = .ok (.iconst 1, 1) := by decide +kernel
theorem dX4_isDigit_13 : decode cX4_isDigit 13 = .ok (.goto 4, 3) := by decide +kernel
theorem dX4_isDigit_16 : decode cX4_isDigit 16 = .ok (.iconst 0, 1) := by decide +kernel
theorem dX4_isDigit_17 : decode cX4_isDigit 17 = .ok (.ireturn, 1) := by decide +kernel
theorem dX5_tell_0 : decode cX5_tell 0 = .ok (.aload_n 0, 1) := by decide +kernel
theorem dX5_tell_1 : decode cX5_tell 1 = .ok (.invokevirtual 7, 3) := by decide +kernel
theorem dX5_tell_4 : decode cX5_tell 4 = .ok (.iconst 1, 1) := by decide +kernel
theorem dX5_tell_5 : decode cX5_tell 5 = .ok (.istore_n 2, 1) := by decide +kernel
theorem dX5_tell_6 : decode cX5_tell 6 = .ok (.iload_n 2, 1) := by decide +kernel
theorem dX5_tell_7 : decode cX5_tell 7 = .ok (.bipush 120, 2) := by decide +kernel
theorem dX5_tell_9 : decode cX5_tell 9 = .ok (.if_icmp .gt 47, 3) := by decide +kernel
theorem dX5_tell_12 : decode cX5_tell 12 = .ok (.aload_n 0, 1) := by decide +kernel
theorem dX5_tell_13 : decode cX5_tell 13 = .ok (.aload_n 1, 1) := by decide +kernel
theorem dX5_tell_14 : decode cX5_tell 14 = .ok (.invokestatic 12, 3) := by decide +kernel
theorem dX5_tell_17 : decode cX5_tell 17 = .ok (.istore_n 3, 1) := by decide +kernel
theorem dX5_tell_18 : decode cX5_tell 18 = .ok (.iload_n 3, 1) := by decide +kernel
theorem dX5_tell_19 : decode cX5_tell 19 = .ok (.ifCond .eq 12, 3) := by decide +kernel
theorem dX5_tell_22 : decode cX5_tell 22 = .ok (.aload_n 0, 1) := by decide +kernel
theorem dX5_tell_23 : decode cX5_tell 23 = .ok (.getfield 18, 3) := by decide +kernel
theorem dX5_tell_26 : decode cX5_tell 26 = .ok (.ifCond .ne 5, 3) := by decide +kernel
theorem dX5_tell_29 : decode cX5_tell 29 = .ok (.iload_n 2, 1) := by decide +kernel
theorem dX5_tell_30 : decode cX5_tell 30 = .ok (.ireturn, 1) := by decide +kernel
theorem dX5_tell_31 : decode cX5_tell 31 = .ok (.iload_n 3, 1) := by decide +kernel
theorem dX5_tell_32 : decode cX5_tell 32 = .ok (.ifCond .eq 24, 3) := by decide +kernel
theorem dX5_tell_35 : decode cX5_tell 35 = .ok (.aload_n 0, 1) := by decide +kernel
theorem dX5_tell_36 : decode cX5_tell 36 = .ok (.getfield 18, 3) := by decide +kernel
theorem dX5_tell_39 : decode cX5_tell 39 = .ok (.iconst 3, 1) := by decide +kernel
theorem dX5_tell_40 : decode cX5_tell 40 = .ok (.if_icmp .eq 6, 3) := by decide +kernel
theorem dX5_tell_43 : decode cX5_tell 43 = .ok (.goto 13, 3) := by decide +kernel
theorem dX5_tell_46 : decode cX5_tell 46 = .ok (.aload_n 0, 1) := by decide +kernel
theorem dX5_tell_47 : decode cX5_tell 47 = .ok (.invokevirtual 22, 3) := by decide +kernel
theorem dX5_tell_50 : decode cX5_tell 50 = .ok (.iinc 2 1, 3) := by decide +kernel
theorem dX5_tell_53 : decode cX5_tell 53 = .ok (.goto (-47), 3) := by decide +kernel
theorem dX5_tell_56 : decode cX5_tell 56 = .ok (.iconst (-1), 1) := by decide +kernel
theorem dX5_tell_57 : decode cX5_tell 57 = .ok (.aload_n 0, 1) := by decide +kernel
theorem dX5_tell_58 : decode cX5_tell 58 = .ok (.getfield 25, 3) := by decide +kernel
theorem dX5_tell_61 : decode cX5_tell 61 = .ok (.isub, 1) := by decide +kernel
theorem dX5_tell_62 : decode cX5_tell 62 = .ok (.ireturn, 1) := by decide +kernel
theorem dX5_tellItem_0 : decode cX5_tellItem 0 = .ok (.iconst 0, 1) := by decide +kernel
theorem dX5_tellItem_1 : decode cX5_tellItem 1 = .ok (.istore_n 2, 1) := by decide +kernel
theorem dX5_tellItem_2 : decode cX5_tellItem 2 = .ok (.iload_n 2, 1) := by decide +kernel
theorem dX5_tellItem_3 : decode cX5_tellItem 3 = .ok (.bipush 6, 2) := by decide +kernel
theorem dX5_tellItem_5 : decode cX5_tellItem 5 = .ok (.if_icmp .ge 27, 3) := by decide +kernel
theorem dX5_tellItem_8 : decode cX5_tellItem 8 = .ok (.aload_n 0, 1) := by decide +kernel
theorem dX5_tellItem_9 : decode cX5_tellItem 9 = .ok (.iload_n 2, 1) := by decide +kernel
theorem dX5_tellItem_10 : decode cX5_tellItem 10 = .ok (.invokestatic 30, 3) := by decide +kernel
theorem dX5_tellItem_13 : decode cX5_tellItem 13 = .ok (.invokevirtual 34, 3) := by decide +kernel
theorem dX5_tellItem_16 : decode cX5_tellItem 16 = .ok (.ifCond .eq 10, 3) := by decide +kernel
theorem dX5_tellItem_19 : decode cX5_tellItem 19 = .ok (.aload_n 0, 1) := by decide +kernel
theorem dX5_tellItem_20 : decode cX5_tellItem 20 = .ok (.aload_n 1, 1) := by decide +kernel
theorem dX5_tellItem_21 : decode cX5_tellItem 21 = .ok (.iload_n 2, 1) := by decide +kernel
theorem dX5_tellItem_22 : decode cX5_tellItem 22 = .ok (.invokestatic 38, 3) := by decide +kernel
theorem dX5_tellItem_25 : decode cX5_tellItem 25 = .ok (.ireturn, 1) := by decide +kernel
theorem dX5_tellItem_26 : decode cX5_tellItem 26 = .ok (.iinc 2 1, 3) := by decide +kernel
theorem dX5_tellItem_29 : decode cX5_tellItem 29 = .ok (.goto (-27), 3) := by decide +kernel
theorem dX5_tellItem_32 : decode cX5_tellItem 32 = .ok (.aload_n 0, 1) := by decide +kernel
theorem dX5_tellItem_33 : decode cX5_tellItem 33 = .ok (.ldc 42, 2) := by decide +kernel
theorem dX5_tellItem_35 : decode cX5_tellItem 35 = .ok (.invokevirtual 34, 3) := by decide +kernel
theorem dX5_tellItem_38 : decode cX5_tellItem 38 = .ok (.ifCond .eq 9, 3) := by decide +kernel
theorem dX5_tellItem_41 : decode cX5_tellItem 41 = .ok (.aload_n 0, 1) := by decide +kernel
theorem dX5_tellItem_42 : decode cX5_tellItem 42 = .ok (.aload_n 1, 1) := by decide +kernel
theorem dX5_tellItem_43 : decode cX5_tellItem 43 = .ok (.invokestatic 44, 3) := by decide +kernel
theorem dX5_tellItem_46 : decode cX5_tellItem 46 = .ok (.ireturn, 1) := by decide +kernel
theorem dX5_tellItem_47 : decode cX5_tellItem 47 = .ok (.aload_n 0, 1) := by decide +kernel
theorem dX5_tellItem_48 : decode cX5_tellItem 48 = .ok (.ldc 47, 2) := by decide +kernel
theorem dX5_tellItem_50 : decode cX5_tellItem 50 = .ok (.invokevirtual 34, 3) := by decide +kernel
theorem dX5_tellItem_53 : decode cX5_tellItem 53 = .ok (.ifCond .eq 10, 3) := by decide +kernel
theorem dX5_tellItem_56 : decode cX5_tellItem 56 = .ok (.aload_n 0, 1) := by decide +kernel
theorem dX5_tellItem_57 : decode cX5_tellItem 57 = .ok (.aload_n 1, 1) := by decide +kernel
theorem dX5_tellItem_58 : decode cX5_tellItem 58 = .ok (.iconst 0, 1) := by decide +kernel
theorem dX5_tellItem_59 : decode cX5_tellItem 59 = .ok (.invokestatic 49, 3) := by decide +kernel
theorem dX5_tellItem_62 : decode cX5_tellItem 62 = .ok (.ireturn, 1) := by decide +kernel
theorem dX5_tellItem_63 : decode cX5_tellItem 63 = .ok (.aload_n 0, 1) := by decide +kernel
theorem dX5_tellItem_64 : decode cX5_tellItem 64 = .ok (.ldc 52, 2) := by decide +kernel
theorem dX5_tellItem_66 : decode cX5_tellItem 66 = .ok (.invokevirtual 34, 3) := by decide +kernel
theorem dX5_tellItem_69 : decode cX5_tellItem 69 = .ok (.ifCond .eq 10, 3) := by decide +kernel
theorem dX5_tellItem_72 : decode cX5_tellItem 72 = .ok (.aload_n 0, 1) := by decide +kernel
theorem dX5_tellItem_73 : decode cX5_tellItem 73 = .ok (.aload_n 1, 1) := by decide +kernel
theorem dX5_tellItem_74 : decode cX5_tellItem 74 = .ok (.iconst 2, 1) := by decide +kernel
theorem dX5_tellItem_75 : decode cX5_tellItem 75 = .ok (.invokestatic 49, 3) := by decide +kernel
theorem dX5_tellItem_78 : decode cX5_tellItem 78 = .ok (.ireturn, 1) := by decide +kernel
theorem dX5_tellItem_79 : decode cX5_tellItem 79 = .ok (.aload_n 0, 1) := by decide +kernel
theorem dX5_tellItem_80 : decode cX5_tellItem 80 = .ok (.ldc 54, 2) := by decide +kernel
theorem dX5_tellItem_82 : decode cX5_tellItem 82 = .ok (.invokevirtual 34, 3) := by decide +kernel
theorem dX5_tellItem_85 : decode cX5_tellItem 85 = .ok (.ifCond .eq 16, 3) := by decide +kernel
theorem dX5_tellItem_88 : decode cX5_tellItem 88 = .ok (.aload_n 0, 1) := by decide +kernel
theorem dX5_tellItem_89 : decode cX5_tellItem 89 = .ok (.aload_n 1, 1) := by decide +kernel
theorem dX5_tellItem_90 : decode cX5_tellItem 90 = .ok (.iconst 3, 1) := by decide +kernel
theorem dX5_tellItem_91 : decode cX5_tellItem 91 = .ok (.invokestatic 49, 3) := by decide +kernel
theorem dX5_tellItem_94 : decode cX5_tellItem 94 = .ok (.ifCond .eq 7, 3) := by decide +kernel
theorem dX5_tellItem_97 : decode cX5_tellItem 97 = .ok (.iconst 1, 1) := by decide +kernel
theorem dX5_tellItem_98 : decode cX5_tellItem 98 = .ok (.goto 4, 3) := by decide +kernel
theorem dX5_tellItem_101 : decode cX5_tellItem 101 = .ok (.iconst 0, 1) := by decide +kernel
theorem dX5_tellItem_102 : decode cX5_tellItem 102 = .ok (.ireturn, 1) := by decide +kernel
theorem dX5_tellPage_0 : decode cX5_tellPage 0 = .ok (.aload_n 1, 1) := by decide +kernel
theorem dX5_tellPage_1 : decode cX5_tellPage 1 = .ok (.invokevirtual 56, 3) := by decide +kernel
theorem dX5_tellPage_4 : decode cX5_tellPage 4 = .ok (.ifCond .eq 5, 3) := by decide +kernel
theorem dX5_tellPage_7 : decode cX5_tellPage 7 = .ok (.iconst 0, 1) := by decide +kernel
theorem dX5_tellPage_8 : decode cX5_tellPage 8 = .ok (.ireturn, 1) := by decide +kernel
theorem dX5_tellPage_9 : decode cX5_tellPage 9 = .ok (.aload_n 0, 1) := by decide +kernel
theorem dX5_tellPage_10 : decode cX5_tellPage 10 = .ok (.invokevirtual 22, 3) := by decide +kernel
theorem dX5_tellPage_13 : decode cX5_tellPage 13 = .ok (.aload_n 0, 1) := by decide +kernel
theorem dX5_tellPage_14 : decode cX5_tellPage 14 = .ok (.iconst 1, 1) := by decide +kernel
theorem dX5_tellPage_15 : decode cX5_tellPage 15 = .ok (.bipush 99, 2) := by decide +kernel
theorem dX5_tellPage_17 : decode cX5_tellPage 17 = .ok (.invokevirtual 64, 3) := by decide +kernel
theorem dX5_tellPage_20 : decode cX5_tellPage 20 = .ok (.istore_n 3, 1) := by decide +kernel
theorem dX5_tellPage_21 : decode cX5_tellPage 21 = .ok (.iload_n 3, 1) := by decide +kernel
theorem dX5_tellPage_22 : decode cX5_tellPage 22 = .ok (.ifCond .lt 12, 3) := by decide +kernel
theorem dX5_tellPage_25 : decode cX5_tellPage 25 = .ok (.aload_n 1, 1) := by decide +kernel
theorem dX5_tellPage_26 : decode cX5_tellPage 26 = .ok (.iload_n 2, 1) := by decide +kernel
theorem dX5_tellPage_27 : decode cX5_tellPage 27 = .ok (.iload_n 3, 1) := by decide +kernel
theorem dX5_tellPage_28 : decode cX5_tellPage 28 = .ok (.invokevirtual 68, 3) := by decide +kernel
theorem dX5_tellPage_31 : decode cX5_tellPage 31 = .ok (.ifCond .ne 5, 3) := by decide +kernel
theorem dX5_tellPage_34 : decode cX5_tellPage 34 = .ok (.iconst 0, 1) := by decide +kernel
theorem dX5_tellPage_35 : decode cX5_tellPage 35 = .ok (.ireturn, 1) := by decide +kernel
theorem dX5_tellPage_36 : decode cX5_tellPage 36 = .ok (.aload_n 1, 1) := by decide +kernel
theorem dX5_tellPage_37 : decode cX5_tellPage 37 = .ok (.iload_n 2, 1) := by decide +kernel
theorem dX5_tellPage_38 : decode cX5_tellPage 38 = .ok (.iload_n 3, 1) := by decide +kernel
theorem dX5_tellPage_39 : decode cX5_tellPage 39 = .ok (.invokevirtual 72, 3) := by decide +kernel
theorem dX5_tellPage_42 : decode cX5_tellPage 42 = .ok (.istore 4, 2) := by decide +kernel
theorem dX5_tellPage_44 : decode cX5_tellPage 44 = .ok (.aload_n 0, 1) := by decide +kernel
theorem dX5_tellPage_45 : decode cX5_tellPage 45 = .ok (.invokevirtual 22, 3) := by decide +kernel
theorem dX5_tellPage_48 : decode cX5_tellPage 48 = .ok (.aload_n 0, 1) := by decide +kernel
theorem dX5_tellPage_49 : decode cX5_tellPage 49 = .ok (.ldc 75, 2) := by decide +kernel
theorem dX5_tellPage_51 : decode cX5_tellPage 51 = .ok (.invokevirtual 34, 3) := by decide +kernel
theorem dX5_tellPage_54 : decode cX5_tellPage 54 = .ok (.ifCond .eq 27, 3) := by decide +kernel
theorem dX5_tellPage_57 : decode cX5_tellPage 57 = .ok (.aload_n 1, 1) := by decide +kernel
theorem dX5_tellPage_58 : decode cX5_tellPage 58 = .ok (.iload 4, 2) := by decide +kernel
theorem dX5_tellPage_60 : decode cX5_tellPage 60 = .ok (.invokevirtual 77, 3) := by decide +kernel
theorem dX5_tellPage_63 : decode cX5_tellPage 63 = .ok (.ifCond .eq 18, 3) := by decide +kernel
theorem dX5_tellPage_66 : decode cX5_tellPage 66 = .ok (.aload_n 1, 1) := by decide +kernel
theorem dX5_tellPage_67 : decode cX5_tellPage 67 = .ok (.getfield 81, 3) := by decide +kernel
theorem dX5_tellPage_70 : decode cX5_tellPage 70 = .ok (.iload 4, 2) := by decide +kernel
theorem dX5_tellPage_72 : decode cX5_tellPage 72 = .ok (.aaload, 1) := by decide +kernel
theorem dX5_tellPage_73 : decode cX5_tellPage 73 = .ok (.iconst 1, 1) := by decide +kernel
theorem dX5_tellPage_74 : decode cX5_tellPage 74 = .ok (.putfield 85, 3) := by decide +kernel
theorem dX5_tellPage_77 : decode cX5_tellPage 77 = .ok (.aload_n 0, 1) := by decide +kernel
theorem dX5_tellPage_78 : decode cX5_tellPage 78 = .ok (.invokevirtual 22, 3) := by decide +kernel
theorem dX5_tellPage_81 : decode cX5_tellPage 81 = .ok (.iconst 1, 1) := by decide +kernel
theorem dX5_tellPage_82 : decode cX5_tellPage 82 = .ok (.ireturn, 1) := by decide +kernel
theorem dX5_tellDark_0 : decode cX5_tellDark 0 = .ok (.aload_n 0, 1) := by decide +kernel
theorem dX5_tellDark_1 : decode cX5_tellDark 1 = .ok (.invokevirtual 22, 3) := by decide +kernel
theorem dX5_tellDark_4 : decode cX5_tellDark 4 = .ok (.aload_n 0, 1) := by decide +kernel
theorem dX5_tellDark_5 : decode cX5_tellDark 5 = .ok (.iconst 0, 1) := by decide +kernel
theorem dX5_tellDark_6 : decode cX5_tellDark 6 = .ok (.bipush 11, 2) := by decide +kernel
theorem dX5_tellDark_8 : decode cX5_tellDark 8 = .ok (.invokevirtual 64, 3) := by decide +kernel
theorem dX5_tellDark_11 : decode cX5_tellDark 11 = .ok (.istore_n 2, 1) := by decide +kernel
theorem dX5_tellDark_12 : decode cX5_tellDark 12 = .ok (.iload_n 2, 1) := by decide +kernel
theorem dX5_tellDark_13 : decode cX5_tellDark 13 = .ok (.ifCond .ge 5, 3) := by decide +kernel
theorem dX5_tellDark_16 : decode cX5_tellDark 16 = .ok (.iconst 0, 1) := by decide +kernel
theorem dX5_tellDark_17 : decode cX5_tellDark 17 = .ok (.ireturn, 1) := by decide +kernel
theorem dX5_tellDark_18 : decode cX5_tellDark 18 = .ok (.aload_n 0, 1) := by decide +kernel
theorem dX5_tellDark_19 : decode cX5_tellDark 19 = .ok (.invokevirtual 22, 3) := by decide +kernel
theorem dX5_tellDark_22 : decode cX5_tellDark 22 = .ok (.aload_n 0, 1) := by decide +kernel
theorem dX5_tellDark_23 : decode cX5_tellDark 23 = .ok (.iconst 0, 1) := by decide +kernel
theorem dX5_tellDark_24 : decode cX5_tellDark 24 = .ok (.bipush 20, 2) := by decide +kernel
theorem dX5_tellDark_26 : decode cX5_tellDark 26 = .ok (.invokevirtual 64, 3) := by decide +kernel
theorem dX5_tellDark_29 : decode cX5_tellDark 29 = .ok (.istore_n 3, 1) := by decide +kernel
theorem dX5_tellDark_30 : decode cX5_tellDark 30 = .ok (.iload_n 3, 1) := by decide +kernel
theorem dX5_tellDark_31 : decode cX5_tellDark 31 = .ok (.ifCond .ge 5, 3) := by decide +kernel
theorem dX5_tellDark_34 : decode cX5_tellDark 34 = .ok (.iconst 0, 1) := by decide +kernel
theorem dX5_tellDark_35 : decode cX5_tellDark 35 = .ok (.ireturn, 1) := by decide +kernel
theorem dX5_tellDark_36 : decode cX5_tellDark 36 = .ok (.aload_n 1, 1) := by decide +kernel
theorem dX5_tellDark_37 : decode cX5_tellDark 37 = .ok (.getfield 87, 3) := by decide +kernel
theorem dX5_tellDark_40 : decode cX5_tellDark 40 = .ok (.iload_n 2, 1) := by decide +kernel
theorem dX5_tellDark_41 : decode cX5_tellDark 41 = .ok (.iload_n 3, 1) := by decide +kernel
theorem dX5_tellDark_42 : decode cX5_tellDark 42 = .ok (.iastore, 1) := by decide +kernel
theorem dX5_tellDark_43 : decode cX5_tellDark 43 = .ok (.aload_n 0, 1) := by decide +kernel
theorem dX5_tellDark_44 : decode cX5_tellDark 44 = .ok (.invokevirtual 22, 3) := by decide +kernel
theorem dX5_tellDark_47 : decode cX5_tellDark 47 = .ok (.iconst 1, 1) := by decide +kernel
theorem dX5_tellDark_48 : decode cX5_tellDark 48 = .ok (.ireturn, 1) := by decide +kernel
theorem dX5_tellJar_0 : decode cX5_tellJar 0 = .ok (.aload_n 0, 1) := by decide +kernel
theorem dX5_tellJar_1 : decode cX5_tellJar 1 = .ok (.invokevirtual 22, 3) := by decide +kernel
theorem dX5_tellJar_4 : decode cX5_tellJar 4 = .ok (.aload_n 0, 1) := by decide +kernel
theorem dX5_tellJar_5 : decode cX5_tellJar 5 = .ok (.iconst 0, 1) := by decide +kernel
theorem dX5_tellJar_6 : decode cX5_tellJar 6 = .ok (.iload_n 2, 1) := by decide +kernel
theorem dX5_tellJar_7 : decode cX5_tellJar 7 = .ok (.invokestatic 90, 3) := by decide +kernel
theorem dX5_tellJar_10 : decode cX5_tellJar 10 = .ok (.invokevirtual 64, 3) := by decide +kernel
theorem dX5_tellJar_13 : decode cX5_tellJar 13 = .ok (.istore_n 3, 1) := by decide +kernel
theorem dX5_tellJar_14 : decode cX5_tellJar 14 = .ok (.iload_n 3, 1) := by decide +kernel
theorem dX5_tellJar_15 : decode cX5_tellJar 15 = .ok (.ifCond .ge 5, 3) := by decide +kernel
theorem dX5_tellJar_18 : decode cX5_tellJar 18 = .ok (.iconst 0, 1) := by decide +kernel
theorem dX5_tellJar_19 : decode cX5_tellJar 19 = .ok (.ireturn, 1) := by decide +kernel
theorem dX5_tellJar_20 : decode cX5_tellJar 20 = .ok (.aload_n 1, 1) := by decide +kernel
theorem dX5_tellJar_21 : decode cX5_tellJar 21 = .ok (.iload_n 2, 1) := by decide +kernel
theorem dX5_tellJar_22 : decode cX5_tellJar 22 = .ok (.iload_n 3, 1) := by decide +kernel
theorem dX5_tellJar_23 : decode cX5_tellJar 23 = .ok (.invokevirtual 94, 3) := by decide +kernel
theorem dX5_tellJar_26 : decode cX5_tellJar 26 = .ok (.aload_n 0, 1) := by decide +kernel
theorem dX5_tellJar_27 : decode cX5_tellJar 27 = .ok (.invokevirtual 22, 3) := by decide +kernel
theorem dX5_tellJar_30 : decode cX5_tellJar 30 = .ok (.iconst 1, 1) := by decide +kernel
theorem dX5_tellJar_31 : decode cX5_tellJar 31 = .ok (.ireturn, 1) := by decide +kernel
theorem dX6_init_0 : decode cX6_init 0 = .ok (.aload_n 0, 1) := by decide +kernel
theorem dX6_init_1 : decode cX6_init 1 = .ok (.invokespecial 1, 3) := by decide +kernel
theorem dX6_init_4 : decode cX6_init 4 = .ok (.aload_n 0, 1) := by decide +kernel
theorem dX6_init_5 : decode cX6_init 5 = .ok (.bipush 7, 2) := by decide +kernel
theorem dX6_init_7 : decode cX6_init 7 = .ok (.newarray .int, 2) := by decide +kernel
theorem dX6_init_9 : decode cX6_init 9 = .ok (.putfield 9, 3) := by decide +kernel
theorem dX6_init_12 : decode cX6_init 12 = .ok (.aload_n 0, 1) := by decide +kernel
theorem dX6_init_13 : decode cX6_init 13 = .ok (.new 13, 3) := by decide +kernel
theorem dX6_init_16 : decode cX6_init 16 = .ok (.dup, 1) := by decide +kernel
theorem dX6_init_17 : decode cX6_init 17 = .ok (.invokespecial 15, 3) := by decide +kernel
theorem dX6_init_20 : decode cX6_init 20 = .ok (.putfield 16, 3) := by decide +kernel
theorem dX6_init_23 : decode cX6_init 23 = .ok (.aload_n 0, 1) := by decide +kernel
theorem dX6_init_24 : decode cX6_init 24 = .ok (.new 13, 3) := by decide +kernel
theorem dX6_init_27 : decode cX6_init 27 = .ok (.dup, 1) := by decide +kernel
theorem dX6_init_28 : decode cX6_init 28 = .ok (.invokespecial 15, 3) := by decide +kernel
theorem dX6_init_31 : decode cX6_init 31 = .ok (.putfield 20, 3) := by decide +kernel
theorem dX6_init_34 : decode cX6_init 34 = .ok (.aload_n 0, 1) := by decide +kernel
theorem dX6_init_35 : decode cX6_init 35 = .ok (.new 13, 3) := by decide +kernel
theorem dX6_init_38 : decode cX6_init 38 = .ok (.dup, 1) := by decide +kernel
theorem dX6_init_39 : decode cX6_init 39 = .ok (.invokespecial 15, 3) := by decide +kernel
theorem dX6_init_42 : decode cX6_init 42 = .ok (.putfield 23, 3) := by decide +kernel
theorem dX6_init_45 : decode cX6_init 45 = .ok (.aload_n 0, 1) := by decide +kernel
theorem dX6_init_46 : decode cX6_init 46 = .ok (.new 26, 3) := by decide +kernel
theorem dX6_init_49 : decode cX6_init 49 = .ok (.dup, 1) := by decide +kernel
theorem dX6_init_50 : decode cX6_init 50 = .ok (.invokespecial 28, 3) := by decide +kernel
theorem dX6_init_53 : decode cX6_init 53 = .ok (.putfield 29, 3) := by decide +kernel
theorem dX6_init_56 : decode cX6_init 56 = .ok (.aload_n 0, 1) := by decide +kernel
theorem dX6_init_57 : decode cX6_init 57 = .ok (.iconst 4, 1) := by decide +kernel
theorem dX6_init_58 : decode cX6_init 58 = .ok (.anewarray 33, 3) := by decide +kernel
theorem dX6_init_61 : decode cX6_init 61 = .ok (.putfield 35, 3) := by decide +kernel
theorem dX6_init_64 : decode cX6_init 64 = .ok (.iconst 0, 1) := by decide +kernel
theorem dX6_init_65 : decode cX6_init 65 = .ok (.istore_n 1, 1) := by decide +kernel
theorem dX6_init_66 : decode cX6_init 66 = .ok (.iload_n 1, 1) := by decide +kernel
theorem dX6_init_67 : decode cX6_init 67 = .ok (.aload_n 0, 1) := by decide +kernel
theorem dX6_init_68 : decode cX6_init 68 = .ok (.getfield 35, 3) := by decide +kernel
theorem dX6_init_71 : decode cX6_init 71 = .ok (.arraylength, 1) := by decide +kernel
theorem dX6_init_72 : decode cX6_init 72 = .ok (.if_icmp .ge 22, 3) := by decide +kernel
theorem dX6_init_75 : decode cX6_init 75 = .ok (.aload_n 0, 1) := by decide +kernel
theorem dX6_init_76 : decode cX6_init 76 = .ok (.getfield 35, 3) := by decide +kernel
theorem dX6_init_79 : decode cX6_init 79 = .ok (.iload_n 1, 1) := by decide +kernel
theorem dX6_init_80 : decode cX6_init 80 = .ok (.new 33, 3) := by decide +kernel
theorem dX6_init_83 : decode cX6_init 83 = .ok (.dup, 1) := by decide +kernel
theorem dX6_init_84 : decode cX6_init 84 = .ok (.invokespecial 39, 3) := by decide +kernel
theorem dX6_init_87 : decode cX6_init 87 = .ok (.aastore, 1) := by decide +kernel
theorem dX6_init_88 : decode cX6_init 88 = .ok (.iinc 1 1, 3) := by decide +kernel
theorem dX6_init_91 : decode cX6_init 91 = .ok (.goto (-25), 3) := by decide +kernel
theorem dX6_init_94 : decode cX6_init 94 = .ok (.return_, 1) := by decide +kernel
theorem dX6_jar_0 : decode cX6_jar 0 = .ok (.iload_n 2, 1) := by decide +kernel
theorem dX6_jar_1 : decode cX6_jar 1 = .ok (.iconst 0, 1) := by decide +kernel
theorem dX6_jar_2 : decode cX6_jar 2 = .ok (.iload_n 1, 1) := by decide +kernel
theorem dX6_jar_3 : decode cX6_jar 3 = .ok (.invokestatic 40, 3) := by decide +kernel
theorem dX6_jar_6 : decode cX6_jar 6 = .ok (.invokestatic 44, 3) := by decide +kernel
theorem dX6_jar_9 : decode cX6_jar 9 = .ok (.ifCond .ne 9, 3) := by decide +kernel
theorem dX6_jar_12 : decode cX6_jar 12 = .ok (.aload_n 0, 1) := by decide +kernel
theorem dX6_jar_13 : decode cX6_jar 13 = .ok (.iconst 0, 1) := by decide +kernel
theorem dX6_jar_14 : decode cX6_jar 14 = .ok (.invokevirtual 48, 3) := by decide +kernel
theorem dX6_jar_17 : decode cX6_jar 17 = .ok (.ireturn, 1) := by decide +kernel
theorem dX6_jar_18 : decode cX6_jar 18 = .ok (.aload_n 0, 1) := by decide +kernel
theorem dX6_jar_19 : decode cX6_jar 19 = .ok (.getfield 16, 3) := by decide +kernel
theorem dX6_jar_22 : decode cX6_jar 22 = .ok (.iload_n 1, 1) := by decide +kernel
theorem dX6_jar_23 : decode cX6_jar 23 = .ok (.invokevirtual 51, 3) := by decide +kernel
theorem dX6_jar_26 : decode cX6_jar 26 = .ok (.istore_n 3, 1) := by decide +kernel
theorem dX6_jar_27 : decode cX6_jar 27 = .ok (.aload_n 0, 1) := by decide +kernel
theorem dX6_jar_28 : decode cX6_jar 28 = .ok (.getfield 16, 3) := by decide +kernel
theorem dX6_jar_31 : decode cX6_jar 31 = .ok (.iload_n 1, 1) := by decide +kernel
theorem dX6_jar_32 : decode cX6_jar 32 = .ok (.iload_n 2, 1) := by decide +kernel
theorem dX6_jar_33 : decode cX6_jar 33 = .ok (.invokevirtual 54, 3) := by decide +kernel
theorem dX6_jar_36 : decode cX6_jar 36 = .ok (.iload_n 3, 1) := by decide +kernel
theorem dX6_jar_37 : decode cX6_jar 37 = .ok (.ireturn, 1) := by decide +kernel
theorem dX6_dark_0 : decode cX6_dark 0 = .ok (.iload_n 1, 1) := by decide +kernel
theorem dX6_dark_1 : decode cX6_dark 1 = .ok (.iconst 0, 1) := by decide +kernel
theorem dX6_dark_2 : decode cX6_dark 2 = .ok (.bipush 11, 2) := by decide +kernel
theorem dX6_dark_4 : decode cX6_dark 4 = .ok (.invokestatic 44, 3) := by decide +kernel
theorem dX6_dark_7 : decode cX6_dark 7 = .ok (.ifCond .eq 13, 3) := by decide +kernel
theorem dX6_dark_10 : decode cX6_dark 10 = .ok (.iload_n 2, 1) := by decide +kernel
theorem dX6_dark_11 : decode cX6_dark 11 = .ok (.iconst 0, 1) := by decide +kernel
theorem dX6_dark_12 : decode cX6_dark 12 = .ok (.bipush 20, 2) := by decide +kernel
theorem dX6_dark_14 : decode cX6_dark 14 = .ok (.invokestatic 44, 3) := by decide +kernel
theorem dX6_dark_17 : decode cX6_dark 17 = .ok (.ifCond .ne 9, 3) := by decide +kernel
theorem dX6_dark_20 : decode cX6_dark 20 = .ok (.aload_n 0, 1) := by decide +kernel
theorem dX6_dark_21 : decode cX6_dark 21 = .ok (.iconst 0, 1) := by decide +kernel
theorem dX6_dark_22 : decode cX6_dark 22 = .ok (.invokevirtual 48, 3) := by decide +kernel
theorem dX6_dark_25 : decode cX6_dark 25 = .ok (.ireturn, 1) := by decide +kernel
theorem dX6_dark_26 : decode cX6_dark 26 = .ok (.aload_n 0, 1) := by decide +kernel
theorem dX6_dark_27 : decode cX6_dark 27 = .ok (.getfield 16, 3) := by decide +kernel
theorem dX6_dark_30 : decode cX6_dark 30 = .ok (.getfield 58, 3) := by decide +kernel
theorem dX6_dark_33 : decode cX6_dark 33 = .ok (.iload_n 1, 1) := by decide +kernel
theorem dX6_dark_34 : decode cX6_dark 34 = .ok (.iaload, 1) := by decide +kernel
theorem dX6_dark_35 : decode cX6_dark 35 = .ok (.istore_n 3, 1) := by decide +kernel
theorem dX6_dark_36 : decode cX6_dark 36 = .ok (.aload_n 0, 1) := by decide +kernel
theorem dX6_dark_37 : decode cX6_dark 37 = .ok (.getfield 16, 3) := by decide +kernel
theorem dX6_dark_40 : decode cX6_dark 40 = .ok (.getfield 58, 3) := by decide +kernel
theorem dX6_dark_43 : decode cX6_dark 43 = .ok (.iload_n 1, 1) := by decide +kernel
theorem dX6_dark_44 : decode cX6_dark 44 = .ok (.iload_n 2, 1) := by decide +kernel
theorem dX6_dark_45 : decode cX6_dark 45 = .ok (.iastore, 1) := by decide +kernel
theorem dX6_dark_46 : decode cX6_dark 46 = .ok (.iload_n 3, 1) := by decide +kernel
theorem dX6_dark_47 : decode cX6_dark 47 = .ok (.ireturn, 1) := by decide +kernel
theorem dX6_now_0 : decode cX6_now 0 = .ok (.iload_n 1, 1) := by decide +kernel
theorem dX6_now_1 : decode cX6_now 1 = .ok (.tableswitch 120 0 7 #[47, 55, 64, 72, 80, 88, 96, 104], 47) := by decide +kernel
theorem dX6_now_48 : decode cX6_now 48 = .ok (.aload_n 0, 1) := by decide +kernel
theorem dX6_now_49 : decode cX6_now 49 = .ok (.getfield 16, 3) := by decide +kernel
theorem dX6_now_52 : decode cX6_now 52 = .ok (.getfield 61, 3) := by decide +kernel
theorem dX6_now_55 : decode cX6_now 55 = .ok (.ireturn, 1) := by decide +kernel
theorem dX6_now_56 : decode cX6_now 56 = .ok (.aload_n 0, 1) := by decide +kernel
theorem dX6_now_57 : decode cX6_now 57 = .ok (.getfield 16, 3) := by decide +kernel
theorem dX6_now_60 : decode cX6_now 60 = .ok (.iconst 0, 1) := by decide +kernel
theorem dX6_now_61 : decode cX6_now 61 = .ok (.invokevirtual 65, 3) := by decide +kernel
theorem dX6_now_64 : decode cX6_now 64 = .ok (.ireturn, 1) := by decide +kernel
theorem dX6_now_65 : decode cX6_now 65 = .ok (.aload_n 0, 1) := by decide +kernel
theorem dX6_now_66 : decode cX6_now 66 = .ok (.getfield 16, 3) := by decide +kernel
theorem dX6_now_69 : decode cX6_now 69 = .ok (.getfield 68, 3) := by decide +kernel
theorem dX6_now_72 : decode cX6_now 72 = .ok (.ireturn, 1) := by decide +kernel
theorem dX6_now_73 : decode cX6_now 73 = .ok (.aload_n 0, 1) := by decide +kernel
theorem dX6_now_74 : decode cX6_now 74 = .ok (.getfield 16, 3) := by decide +kernel
