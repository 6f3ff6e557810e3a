/-! what each instruction decodes to, printed by wip/tools/names.py -/
theorem d_CY_init_0 : decode c_CY_init 0 = .ok (.aload_n 0, 1) := by decide +kernel
theorem d_CY_init_1 : decode c_CY_init 1 = .ok (.invokespecial 1, 3) := by decide +kernel
theorem d_CY_init_4 : decode c_CY_init 4 = .ok (.aload_n 0, 1) := by decide +kernel
theorem d_CY_init_5 : decode c_CY_init 5 = .ok (.new 7, 3) := by decide +kernel
theorem d_CY_init_8 : decode c_CY_init 8 = .ok (.dup, 1) := by decide +kernel
theorem d_CY_init_9 : decode c_CY_init 9 = .ok (.iconst 1, 1) := by decide +kernel
theorem d_CY_init_10 : decode c_CY_init 10 = .ok (.iload_n 1, 1) := by decide +kernel
theorem d_CY_init_11 : decode c_CY_init 11 = .ok (.bipush 12, 2) := by decide +kernel
theorem d_CY_init_13 : decode c_CY_init 13 = .ok (.invokestatic 9, 3) := by decide +kernel
theorem d_CY_init_16 : decode c_CY_init 16 = .ok (.invokestatic 15, 3) := by decide +kernel
theorem d_CY_init_19 : decode c_CY_init 19 = .ok (.invokespecial 18, 3) := by decide +kernel
theorem d_CY_init_22 : decode c_CY_init 22 = .ok (.putfield 21, 3) := by decide +kernel
theorem d_CY_init_25 : decode c_CY_init 25 = .ok (.aload_n 0, 1) := by decide +kernel
theorem d_CY_init_26 : decode c_CY_init 26 = .ok (.new 27, 3) := by decide +kernel
theorem d_CY_init_29 : decode c_CY_init 29 = .ok (.dup, 1) := by decide +kernel
theorem d_CY_init_30 : decode c_CY_init 30 = .ok (.invokespecial 29, 3) := by decide +kernel
theorem d_CY_init_33 : decode c_CY_init 33 = .ok (.putfield 30, 3) := by decide +kernel
theorem d_CY_init_36 : decode c_CY_init 36 = .ok (.aload_n 0, 1) := by decide +kernel
theorem d_CY_init_37 : decode c_CY_init 37 = .ok (.new 34, 3) := by decide +kernel
theorem d_CY_init_40 : decode c_CY_init 40 = .ok (.dup, 1) := by decide +kernel
theorem d_CY_init_41 : decode c_CY_init 41 = .ok (.aload_n 0, 1) := by decide +kernel
theorem d_CY_init_42 : decode c_CY_init 42 = .ok (.getfield 21, 3) := by decide +kernel
theorem d_CY_init_45 : decode c_CY_init 45 = .ok (.invokespecial 36, 3) := by decide +kernel
theorem d_CY_init_48 : decode c_CY_init 48 = .ok (.putfield 39, 3) := by decide +kernel
theorem d_CY_init_51 : decode c_CY_init 51 = .ok (.aload_n 0, 1) := by decide +kernel
theorem d_CY_init_52 : decode c_CY_init 52 = .ok (.bipush 12, 2) := by decide +kernel
theorem d_CY_init_54 : decode c_CY_init 54 = .ok (.newarray .long, 2) := by decide +kernel
theorem d_CY_init_56 : decode c_CY_init 56 = .ok (.putfield 43, 3) := by decide +kernel
theorem d_CY_init_59 : decode c_CY_init 59 = .ok (.return_, 1) := by decide +kernel
theorem d_CY_index_0 : decode c_CY_index 0 = .ok (.aload_n 0, 1) := by decide +kernel
theorem d_CY_index_1 : decode c_CY_index 1 = .ok (.getfield 21, 3) := by decide +kernel
theorem d_CY_index_4 : decode c_CY_index 4 = .ok (.iload_n 1, 1) := by decide +kernel
theorem d_CY_index_5 : decode c_CY_index 5 = .ok (.invokevirtual 47, 3) := by decide +kernel
theorem d_CY_index_8 : decode c_CY_index 8 = .ok (.ifCond .eq 20, 3) := by decide +kernel
theorem d_CY_index_11 : decode c_CY_index 11 = .ok (.iload_n 2, 1) := by decide +kernel
theorem d_CY_index_12 : decode c_CY_index 12 = .ok (.sipush 500, 3) := by decide +kernel
theorem d_CY_index_15 : decode c_CY_index 15 = .ok (.sipush 2000, 3) := by decide +kernel
theorem d_CY_index_18 : decode c_CY_index 18 = .ok (.invokestatic 51, 3) := by decide +kernel
theorem d_CY_index_21 : decode c_CY_index 21 = .ok (.ifCond .eq 7, 3) := by decide +kernel
theorem d_CY_index_24 : decode c_CY_index 24 = .ok (.iconst 1, 1) := by decide +kernel
theorem d_CY_index_25 : decode c_CY_index 25 = .ok (.goto 4, 3) := by decide +kernel
theorem d_CY_index_28 : decode c_CY_index 28 = .ok (.iconst 0, 1) := by decide +kernel
theorem d_CY_index_29 : decode c_CY_index 29 = .ok (.invokestatic 55, 3) := by decide +kernel
theorem d_CY_index_32 : decode c_CY_index 32 = .ok (.aload_n 0, 1) := by decide +kernel
theorem d_CY_index_33 : decode c_CY_index 33 = .ok (.getfield 21, 3) := by decide +kernel
theorem d_CY_index_36 : decode c_CY_index 36 = .ok (.getfield 59, 3) := by decide +kernel
theorem d_CY_index_39 : decode c_CY_index 39 = .ok (.iload_n 1, 1) := by decide +kernel
theorem d_CY_index_40 : decode c_CY_index 40 = .ok (.iaload, 1) := by decide +kernel
theorem d_CY_index_41 : decode c_CY_index 41 = .ok (.istore_n 3, 1) := by decide +kernel
theorem d_CY_index_42 : decode c_CY_index 42 = .ok (.aload_n 0, 1) := by decide +kernel
theorem d_CY_index_43 : decode c_CY_index 43 = .ok (.getfield 21, 3) := by decide +kernel
theorem d_CY_index_46 : decode c_CY_index 46 = .ok (.getfield 59, 3) := by decide +kernel
theorem d_CY_index_49 : decode c_CY_index 49 = .ok (.iload_n 1, 1) := by decide +kernel
theorem d_CY_index_50 : decode c_CY_index 50 = .ok (.iload_n 2, 1) := by decide +kernel
theorem d_CY_index_51 : decode c_CY_index 51 = .ok (.iastore, 1) := by decide +kernel
theorem d_CY_index_52 : decode c_CY_index 52 = .ok (.iload_n 3, 1) := by decide +kernel
theorem d_CY_index_53 : decode c_CY_index 53 = .ok (.ireturn, 1) := by decide +kernel
theorem d_CY_budget_0 : decode c_CY_budget 0 = .ok (.aload_n 0, 1) := by decide +kernel
theorem d_CY_budget_1 : decode c_CY_budget 1 = .ok (.getfield 21, 3) := by decide +kernel
theorem d_CY_budget_4 : decode c_CY_budget 4 = .ok (.iload_n 1, 1) := by decide +kernel
theorem d_CY_budget_5 : decode c_CY_budget 5 = .ok (.invokevirtual 47, 3) := by decide +kernel
theorem d_CY_budget_8 : decode c_CY_budget 8 = .ok (.ifCond .eq 17, 3) := by decide +kernel
theorem d_CY_budget_11 : decode c_CY_budget 11 = .ok (.iload_n 2, 1) := by decide +kernel
theorem d_CY_budget_12 : decode c_CY_budget 12 = .ok (.iconst 0, 1) := by decide +kernel
theorem d_CY_budget_13 : decode c_CY_budget 13 = .ok (.ldc 63, 2) := by decide +kernel
theorem d_CY_budget_15 : decode c_CY_budget 15 = .ok (.invokestatic 51, 3) := by decide +kernel
theorem d_CY_budget_18 : decode c_CY_budget 18 = .ok (.ifCond .eq 7, 3) := by decide +kernel
theorem d_CY_budget_21 : decode c_CY_budget 21 = .ok (.iconst 1, 1) := by decide +kernel
theorem d_CY_budget_22 : decode c_CY_budget 22 = .ok (.goto 4, 3) := by decide +kernel
theorem d_CY_budget_25 : decode c_CY_budget 25 = .ok (.iconst 0, 1) := by decide +kernel
theorem d_CY_budget_26 : decode c_CY_budget 26 = .ok (.invokestatic 55, 3) := by decide +kernel
theorem d_CY_budget_29 : decode c_CY_budget 29 = .ok (.aload_n 0, 1) := by decide +kernel
theorem d_CY_budget_30 : decode c_CY_budget 30 = .ok (.getfield 21, 3) := by decide +kernel
theorem d_CY_budget_33 : decode c_CY_budget 33 = .ok (.getfield 64, 3) := by decide +kernel
theorem d_CY_budget_36 : decode c_CY_budget 36 = .ok (.iload_n 1, 1) := by decide +kernel
theorem d_CY_budget_37 : decode c_CY_budget 37 = .ok (.iaload, 1) := by decide +kernel
theorem d_CY_budget_38 : decode c_CY_budget 38 = .ok (.istore_n 3, 1) := by decide +kernel
theorem d_CY_budget_39 : decode c_CY_budget 39 = .ok (.aload_n 0, 1) := by decide +kernel
theorem d_CY_budget_40 : decode c_CY_budget 40 = .ok (.getfield 21, 3) := by decide +kernel
theorem d_CY_budget_43 : decode c_CY_budget 43 = .ok (.getfield 64, 3) := by decide +kernel
theorem d_CY_budget_46 : decode c_CY_budget 46 = .ok (.iload_n 1, 1) := by decide +kernel
theorem d_CY_budget_47 : decode c_CY_budget 47 = .ok (.iload_n 2, 1) := by decide +kernel
theorem d_CY_budget_48 : decode c_CY_budget 48 = .ok (.iastore, 1) := by decide +kernel
theorem d_CY_budget_49 : decode c_CY_budget 49 = .ok (.iload_n 3, 1) := by decide +kernel
theorem d_CY_budget_50 : decode c_CY_budget 50 = .ok (.ireturn, 1) := by decide +kernel
theorem d_CY_part_0 : decode c_CY_part 0 = .ok (.iload_n 1, 1) := by decide +kernel
theorem d_CY_part_1 : decode c_CY_part 1 = .ok (.iconst 2, 1) := by decide +kernel
theorem d_CY_part_2 : decode c_CY_part 2 = .ok (.iconst 4, 1) := by decide +kernel
theorem d_CY_part_3 : decode c_CY_part 3 = .ok (.invokestatic 51, 3) := by decide +kernel
theorem d_CY_part_6 : decode c_CY_part 6 = .ok (.invokestatic 55, 3) := by decide +kernel
theorem d_CY_part_9 : decode c_CY_part 9 = .ok (.iload_n 2, 1) := by decide +kernel
theorem d_CY_part_10 : decode c_CY_part 10 = .ok (.iconst 0, 1) := by decide +kernel
theorem d_CY_part_11 : decode c_CY_part 11 = .ok (.iload_n 1, 1) := by decide +kernel
theorem d_CY_part_12 : decode c_CY_part 12 = .ok (.iconst 1, 1) := by decide +kernel
theorem d_CY_part_13 : decode c_CY_part 13 = .ok (.isub, 1) := by decide +kernel
theorem d_CY_part_14 : decode c_CY_part 14 = .ok (.invokestatic 51, 3) := by decide +kernel
theorem d_CY_part_17 : decode c_CY_part 17 = .ok (.invokestatic 55, 3) := by decide +kernel
theorem d_CY_part_20 : decode c_CY_part 20 = .ok (.aload_n 0, 1) := by decide +kernel
theorem d_CY_part_21 : decode c_CY_part 21 = .ok (.getfield 30, 3) := by decide +kernel
theorem d_CY_part_24 : decode c_CY_part 24 = .ok (.getfield 67, 3) := by decide +kernel
theorem d_CY_part_27 : decode c_CY_part 27 = .ok (.bipush 12, 2) := by decide +kernel
theorem d_CY_part_29 : decode c_CY_part 29 = .ok (.if_icmp .lt 7, 3) := by decide +kernel
theorem d_CY_part_32 : decode c_CY_part 32 = .ok (.iconst 1, 1) := by decide +kernel
theorem d_CY_part_33 : decode c_CY_part 33 = .ok (.goto 4, 3) := by decide +kernel
theorem d_CY_part_36 : decode c_CY_part 36 = .ok (.iconst 0, 1) := by decide +kernel
theorem d_CY_part_37 : decode c_CY_part 37 = .ok (.invokestatic 71, 3) := by decide +kernel
theorem d_CY_part_40 : decode c_CY_part 40 = .ok (.aload_n 0, 1) := by decide +kernel
theorem d_CY_part_41 : decode c_CY_part 41 = .ok (.getfield 30, 3) := by decide +kernel
theorem d_CY_part_44 : decode c_CY_part 44 = .ok (.iload_n 1, 1) := by decide +kernel
theorem d_CY_part_45 : decode c_CY_part 45 = .ok (.iload_n 2, 1) := by decide +kernel
theorem d_CY_part_46 : decode c_CY_part 46 = .ok (.invokevirtual 74, 3) := by decide +kernel
theorem d_CY_part_49 : decode c_CY_part 49 = .ok (.ireturn, 1) := by decide +kernel
theorem d_CY_moves_0 : decode c_CY_moves 0 = .ok (.aload_n 0, 1) := by decide +kernel
theorem d_CY_moves_1 : decode c_CY_moves 1 = .ok (.getfield 30, 3) := by decide +kernel
theorem d_CY_moves_4 : decode c_CY_moves 4 = .ok (.iload_n 1, 1) := by decide +kernel
theorem d_CY_moves_5 : decode c_CY_moves 5 = .ok (.iload_n 2, 1) := by decide +kernel
theorem d_CY_moves_6 : decode c_CY_moves 6 = .ok (.invokevirtual 77, 3) := by decide +kernel
theorem d_CY_moves_9 : decode c_CY_moves 9 = .ok (.ifCond .eq 24, 3) := by decide +kernel
theorem d_CY_moves_12 : decode c_CY_moves 12 = .ok (.aload_n 0, 1) := by decide +kernel
theorem d_CY_moves_13 : decode c_CY_moves 13 = .ok (.getfield 30, 3) := by decide +kernel
theorem d_CY_moves_16 : decode c_CY_moves 16 = .ok (.iload_n 1, 1) := by decide +kernel
theorem d_CY_moves_17 : decode c_CY_moves 17 = .ok (.iload_n 3, 1) := by decide +kernel
theorem d_CY_moves_18 : decode c_CY_moves 18 = .ok (.invokevirtual 77, 3) := by decide +kernel
theorem d_CY_moves_21 : decode c_CY_moves 21 = .ok (.ifCond .eq 12, 3) := by decide +kernel
theorem d_CY_moves_24 : decode c_CY_moves 24 = .ok (.iload_n 2, 1) := by decide +kernel
theorem d_CY_moves_25 : decode c_CY_moves 25 = .ok (.iload_n 3, 1) := by decide +kernel
theorem d_CY_moves_26 : decode c_CY_moves 26 = .ok (.if_icmp .eq 7, 3) := by decide +kernel
theorem d_CY_moves_29 : decode c_CY_moves 29 = .ok (.iconst 1, 1) := by decide +kernel
theorem d_CY_moves_30 : decode c_CY_moves 30 = .ok (.goto 4, 3) := by decide +kernel
theorem d_CY_moves_33 : decode c_CY_moves 33 = .ok (.iconst 0, 1) := by decide +kernel
theorem d_CY_moves_34 : decode c_CY_moves 34 = .ok (.invokestatic 55, 3) := by decide +kernel
theorem d_CY_moves_37 : decode c_CY_moves 37 = .ok (.iload 4, 2) := by decide +kernel
theorem d_CY_moves_39 : decode c_CY_moves 39 = .ok (.iconst 0, 1) := by decide +kernel
theorem d_CY_moves_40 : decode c_CY_moves 40 = .ok (.bipush 16, 2) := by decide +kernel
theorem d_CY_moves_42 : decode c_CY_moves 42 = .ok (.invokestatic 51, 3) := by decide +kernel
theorem d_CY_moves_45 : decode c_CY_moves 45 = .ok (.invokestatic 55, 3) := by decide +kernel
theorem d_CY_moves_48 : decode c_CY_moves 48 = .ok (.aload_n 0, 1) := by decide +kernel
theorem d_CY_moves_49 : decode c_CY_moves 49 = .ok (.getfield 30, 3) := by decide +kernel
theorem d_CY_moves_52 : decode c_CY_moves 52 = .ok (.iload_n 1, 1) := by decide +kernel
theorem d_CY_moves_53 : decode c_CY_moves 53 = .ok (.iload_n 2, 1) := by decide +kernel
theorem d_CY_moves_54 : decode c_CY_moves 54 = .ok (.iload_n 3, 1) := by decide +kernel
theorem d_CY_moves_55 : decode c_CY_moves 55 = .ok (.invokevirtual 81, 3) := by decide +kernel
theorem d_CY_moves_58 : decode c_CY_moves 58 = .ok (.istore 5, 2) := by decide +kernel
theorem d_CY_moves_60 : decode c_CY_moves 60 = .ok (.aload_n 0, 1) := by decide +kernel
theorem d_CY_moves_61 : decode c_CY_moves 61 = .ok (.getfield 30, 3) := by decide +kernel
theorem d_CY_moves_64 : decode c_CY_moves 64 = .ok (.iload_n 1, 1) := by decide +kernel
theorem d_CY_moves_65 : decode c_CY_moves 65 = .ok (.iload_n 2, 1) := by decide +kernel
theorem d_CY_moves_66 : decode c_CY_moves 66 = .ok (.iload_n 2, 1) := by decide +kernel
theorem d_CY_moves_67 : decode c_CY_moves 67 = .ok (.invokevirtual 81, 3) := by decide +kernel
theorem d_CY_moves_70 : decode c_CY_moves 70 = .ok (.iload 5, 2) := by decide +kernel
theorem d_CY_moves_72 : decode c_CY_moves 72 = .ok (.iadd, 1) := by decide +kernel
theorem d_CY_moves_73 : decode c_CY_moves 73 = .ok (.iload 4, 2) := by decide +kernel
theorem d_CY_moves_75 : decode c_CY_moves 75 = .ok (.isub, 1) := by decide +kernel
theorem d_CY_moves_76 : decode c_CY_moves 76 = .ok (.istore 6, 2) := by decide +kernel
theorem d_CY_moves_78 : decode c_CY_moves 78 = .ok (.iload 6, 2) := by decide +kernel
theorem d_CY_moves_80 : decode c_CY_moves 80 = .ok (.ifCond .lt 7, 3) := by decide +kernel
theorem d_CY_moves_83 : decode c_CY_moves 83 = .ok (.iconst 1, 1) := by decide +kernel
theorem d_CY_moves_84 : decode c_CY_moves 84 = .ok (.goto 4, 3) := by decide +kernel
theorem d_CY_moves_87 : decode c_CY_moves 87 = .ok (.iconst 0, 1) := by decide +kernel
theorem d_CY_moves_88 : decode c_CY_moves 88 = .ok (.invokestatic 55, 3) := by decide +kernel
theorem d_CY_moves_91 : decode c_CY_moves 91 = .ok (.aload_n 0, 1) := by decide +kernel
theorem d_CY_moves_92 : decode c_CY_moves 92 = .ok (.getfield 30, 3) := by decide +kernel
theorem d_CY_moves_95 : decode c_CY_moves 95 = .ok (.iload_n 1, 1) := by decide +kernel
theorem d_CY_moves_96 : decode c_CY_moves 96 = .ok (.iload_n 2, 1) := by decide +kernel
theorem d_CY_moves_97 : decode c_CY_moves 97 = .ok (.iload_n 3, 1) := by decide +kernel
theorem d_CY_moves_98 : decode c_CY_moves 98 = .ok (.iload 4, 2) := by decide +kernel
theorem d_CY_moves_100 : decode c_CY_moves 100 = .ok (.invokevirtual 85, 3) := by decide +kernel
theorem d_CY_moves_103 : decode c_CY_moves 103 = .ok (.aload_n 0, 1) := by decide +kernel
theorem d_CY_moves_104 : decode c_CY_moves 104 = .ok (.getfield 30, 3) := by decide +kernel
theorem d_CY_moves_107 : decode c_CY_moves 107 = .ok (.iload_n 1, 1) := by decide +kernel
theorem d_CY_moves_108 : decode c_CY_moves 108 = .ok (.iload_n 2, 1) := by decide +kernel
theorem d_CY_moves_109 : decode c_CY_moves 109 = .ok (.iload_n 2, 1) := by decide +kernel
theorem d_CY_moves_110 : decode c_CY_moves 110 = .ok (.iload 6, 2) := by decide +kernel
theorem d_CY_moves_112 : decode c_CY_moves 112 = .ok (.invokevirtual 85, 3) := by decide +kernel
theorem d_CY_moves_115 : decode c_CY_moves 115 = .ok (.iload 5, 2) := by decide +kernel
theorem d_CY_moves_117 : decode c_CY_moves 117 = .ok (.ireturn, 1) := by decide +kernel
theorem d_CY_care_0 : decode c_CY_care 0 = .ok (.aload_n 0, 1) := by decide +kernel
theorem d_CY_care_1 : decode c_CY_care 1 = .ok (.getfield 30, 3) := by decide +kernel
theorem d_CY_care_4 : decode c_CY_care 4 = .ok (.iload_n 1, 1) := by decide +kernel
theorem d_CY_care_5 : decode c_CY_care 5 = .ok (.iload_n 2, 1) := by decide +kernel
theorem d_CY_care_6 : decode c_CY_care 6 = .ok (.invokevirtual 77, 3) := by decide +kernel
theorem d_CY_care_9 : decode c_CY_care 9 = .ok (.ifCond .eq 18, 3) := by decide +kernel
theorem d_CY_care_12 : decode c_CY_care 12 = .ok (.iload_n 3, 1) := by decide +kernel
theorem d_CY_care_13 : decode c_CY_care 13 = .ok (.iconst 0, 1) := by decide +kernel
theorem d_CY_care_14 : decode c_CY_care 14 = .ok (.sipush 1000, 3) := by decide +kernel
theorem d_CY_care_17 : decode c_CY_care 17 = .ok (.invokestatic 51, 3) := by decide +kernel
theorem d_CY_care_20 : decode c_CY_care 20 = .ok (.ifCond .eq 7, 3) := by decide +kernel
theorem d_CY_care_23 : decode c_CY_care 23 = .ok (.iconst 1, 1) := by decide +kernel
theorem d_CY_care_24 : decode c_CY_care 24 = .ok (.goto 4, 3) := by decide +kernel
theorem d_CY_care_27 : decode c_CY_care 27 = .ok (.iconst 0, 1) := by decide +kernel
theorem d_CY_care_28 : decode c_CY_care 28 = .ok (.invokestatic 55, 3) := by decide +kernel
theorem d_CY_care_31 : decode c_CY_care 31 = .ok (.aload_n 0, 1) := by decide +kernel
theorem d_CY_care_32 : decode c_CY_care 32 = .ok (.getfield 30, 3) := by decide +kernel
theorem d_CY_care_35 : decode c_CY_care 35 = .ok (.getfield 89, 3) := by decide +kernel
theorem d_CY_care_38 : decode c_CY_care 38 = .ok (.iload_n 1, 1) := by decide +kernel
theorem d_CY_care_39 : decode c_CY_care 39 = .ok (.aaload, 1) := by decide +kernel
theorem d_CY_care_40 : decode c_CY_care 40 = .ok (.iload_n 2, 1) := by decide +kernel
theorem d_CY_care_41 : decode c_CY_care 41 = .ok (.iaload, 1) := by decide +kernel
theorem d_CY_care_42 : decode c_CY_care 42 = .ok (.istore 4, 2) := by decide +kernel
theorem d_CY_care_44 : decode c_CY_care 44 = .ok (.aload_n 0, 1) := by decide +kernel
theorem d_CY_care_45 : decode c_CY_care 45 = .ok (.getfield 30, 3) := by decide +kernel
theorem d_CY_care_48 : decode c_CY_care 48 = .ok (.getfield 89, 3) := by decide +kernel
theorem d_CY_care_51 : decode c_CY_care 51 = .ok (.iload_n 1, 1) := by decide +kernel
theorem d_CY_care_52 : decode c_CY_care 52 = .ok (.aaload, 1) := by decide +kernel
theorem d_CY_care_53 : decode c_CY_care 53 = .ok (.iload_n 2, 1) := by decide +kernel
theorem d_CY_care_54 : decode c_CY_care 54 = .ok (.iload_n 3, 1) := by decide +kernel
theorem d_CY_care_55 : decode c_CY_care 55 = .ok (.iastore, 1) := by decide +kernel
theorem d_CY_care_56 : decode c_CY_care 56 = .ok (.iload 4, 2) := by decide +kernel
theorem d_CY_care_58 : decode c_CY_care 58 = .ok (.ireturn, 1) := by decide +kernel
theorem d_CY_share_0 : decode c_CY_share 0 = .ok (.aload_n 0, 1) := by decide +kernel
theorem d_CY_share_1 : decode c_CY_share 1 = .ok (.getfield 30, 3) := by decide +kernel
theorem d_CY_share_4 : decode c_CY_share 4 = .ok (.iload_n 1, 1) := by decide +kernel
theorem d_CY_share_5 : decode c_CY_share 5 = .ok (.iload_n 2, 1) := by decide +kernel
theorem d_CY_share_6 : decode c_CY_share 6 = .ok (.invokevirtual 77, 3) := by decide +kernel
theorem d_CY_share_9 : decode c_CY_share 9 = .ok (.ifCond .eq 18, 3) := by decide +kernel
theorem d_CY_share_12 : decode c_CY_share 12 = .ok (.aload_n 0, 1) := by decide +kernel
theorem d_CY_share_13 : decode c_CY_share 13 = .ok (.getfield 21, 3) := by decide +kernel
theorem d_CY_share_16 : decode c_CY_share 16 = .ok (.iload_n 3, 1) := by decide +kernel
theorem d_CY_share_17 : decode c_CY_share 17 = .ok (.invokevirtual 47, 3) := by decide +kernel
theorem d_CY_share_20 : decode c_CY_share 20 = .ok (.ifCond .eq 7, 3) := by decide +kernel
theorem d_CY_share_23 : decode c_CY_share 23 = .ok (.iconst 1, 1) := by decide +kernel
theorem d_CY_share_24 : decode c_CY_share 24 = .ok (.goto 4, 3) := by decide +kernel
theorem d_CY_share_27 : decode c_CY_share 27 = .ok (.iconst 0, 1) := by decide +kernel
theorem d_CY_share_28 : decode c_CY_share 28 = .ok (.invokestatic 55, 3) := by decide +kernel
theorem d_CY_share_31 : decode c_CY_share 31 = .ok (.aload_n 0, 1) := by decide +kernel
theorem d_CY_share_32 : decode c_CY_share 32 = .ok (.getfield 30, 3) := by decide +kernel
theorem d_CY_share_35 : decode c_CY_share 35 = .ok (.iload_n 1, 1) := by decide +kernel
theorem d_CY_share_36 : decode c_CY_share 36 = .ok (.iload_n 3, 1) := by decide +kernel
theorem d_CY_share_37 : decode c_CY_share 37 = .ok (.invokevirtual 93, 3) := by decide +kernel
theorem d_CY_share_40 : decode c_CY_share 40 = .ok (.aload_n 0, 1) := by decide +kernel
theorem d_CY_share_41 : decode c_CY_share 41 = .ok (.getfield 30, 3) := by decide +kernel
theorem d_CY_share_44 : decode c_CY_share 44 = .ok (.getfield 97, 3) := by decide +kernel
theorem d_CY_share_47 : decode c_CY_share 47 = .ok (.iload_n 2, 1) := by decide +kernel
theorem d_CY_share_48 : decode c_CY_share 48 = .ok (.laload, 1) := by decide +kernel
theorem d_CY_share_49 : decode c_CY_share 49 = .ok (.lreturn, 1) := by decide +kernel
theorem d_CY_cares_0 : decode c_CY_cares 0 = .ok (.aload_n 0, 1) := by decide +kernel
theorem d_CY_cares_1 : decode c_CY_cares 1 = .ok (.getfield 30, 3) := by decide +kernel
theorem d_CY_cares_4 : decode c_CY_cares 4 = .ok (.iload_n 1, 1) := by decide +kernel
theorem d_CY_cares_5 : decode c_CY_cares 5 = .ok (.invokevirtual 100, 3) := by decide +kernel
theorem d_CY_cares_8 : decode c_CY_cares 8 = .ok (.ifCond .eq 18, 3) := by decide +kernel
theorem d_CY_cares_11 : decode c_CY_cares 11 = .ok (.aload_n 0, 1) := by decide +kernel
theorem d_CY_cares_12 : decode c_CY_cares 12 = .ok (.getfield 21, 3) := by decide +kernel
theorem d_CY_cares_15 : decode c_CY_cares 15 = .ok (.iload_n 2, 1) := by decide +kernel
theorem d_CY_cares_16 : decode c_CY_cares 16 = .ok (.invokevirtual 47, 3) := by decide +kernel
theorem d_CY_cares_19 : decode c_CY_cares 19 = .ok (.ifCond .eq 7, 3) := by decide +kernel
theorem d_CY_cares_22 : decode c_CY_cares 22 = .ok (.iconst 1, 1) := by decide +kernel
theorem d_CY_cares_23 : decode c_CY_cares 23 = .ok (.goto 4, 3) := by decide +kernel
theorem d_CY_cares_26 : decode c_CY_cares 26 = .ok (.iconst 0, 1) := by decide +kernel
theorem d_CY_cares_27 : decode c_CY_cares 27 = .ok (.invokestatic 55, 3) := by decide +kernel
theorem d_CY_cares_30 : decode c_CY_cares 30 = .ok (.aload_n 0, 1) := by decide +kernel
theorem d_CY_cares_31 : decode c_CY_cares 31 = .ok (.getfield 30, 3) := by decide +kernel
theorem d_CY_cares_34 : decode c_CY_cares 34 = .ok (.iload_n 1, 1) := by decide +kernel
theorem d_CY_cares_35 : decode c_CY_cares 35 = .ok (.iload_n 2, 1) := by decide +kernel
theorem d_CY_cares_36 : decode c_CY_cares 36 = .ok (.invokevirtual 93, 3) := by decide +kernel
theorem d_CY_cares_39 : decode c_CY_cares 39 = .ok (.aload_n 0, 1) := by decide +kernel
theorem d_CY_cares_40 : decode c_CY_cares 40 = .ok (.getfield 21, 3) := by decide +kernel
theorem d_CY_cares_43 : decode c_CY_cares 43 = .ok (.iload_n 2, 1) := by decide +kernel
theorem d_CY_cares_44 : decode c_CY_cares 44 = .ok (.aload_n 0, 1) := by decide +kernel
theorem d_CY_cares_45 : decode c_CY_cares 45 = .ok (.getfield 30, 3) := by decide +kernel
theorem d_CY_cares_48 : decode c_CY_cares 48 = .ok (.iload_n 1, 1) := by decide +kernel
theorem d_CY_cares_49 : decode c_CY_cares 49 = .ok (.invokevirtual 101, 3) := by decide +kernel
theorem d_CY_cares_52 : decode c_CY_cares 52 = .ok (.invokevirtual 105, 3) := by decide +kernel
theorem d_CY_cares_55 : decode c_CY_cares 55 = .ok (.ireturn, 1) := by decide +kernel
theorem d_CY_most_0 : decode c_CY_most 0 = .ok (.aload_n 0, 1) := by decide +kernel
theorem d_CY_most_1 : decode c_CY_most 1 = .ok (.getfield 30, 3) := by decide +kernel
theorem d_CY_most_4 : decode c_CY_most 4 = .ok (.iload_n 1, 1) := by decide +kernel
theorem d_CY_most_5 : decode c_CY_most 5 = .ok (.invokevirtual 100, 3) := by decide +kernel
theorem d_CY_most_8 : decode c_CY_most 8 = .ok (.ifCond .eq 18, 3) := by decide +kernel
theorem d_CY_most_11 : decode c_CY_most 11 = .ok (.aload_n 0, 1) := by decide +kernel
theorem d_CY_most_12 : decode c_CY_most 12 = .ok (.getfield 21, 3) := by decide +kernel
theorem d_CY_most_15 : decode c_CY_most 15 = .ok (.iload_n 2, 1) := by decide +kernel
theorem d_CY_most_16 : decode c_CY_most 16 = .ok (.invokevirtual 47, 3) := by decide +kernel
theorem d_CY_most_19 : decode c_CY_most 19 = .ok (.ifCond .eq 7, 3) := by decide +kernel
theorem d_CY_most_22 : decode c_CY_most 22 = .ok (.iconst 1, 1) := by decide +kernel
theorem d_CY_most_23 : decode c_CY_most 23 = .ok (.goto 4, 3) := by decide +kernel
theorem d_CY_most_26 : decode c_CY_most 26 = .ok (.iconst 0, 1) := by decide +kernel
theorem d_CY_most_27 : decode c_CY_most 27 = .ok (.invokestatic 55, 3) := by decide +kernel
theorem d_CY_most_30 : decode c_CY_most 30 = .ok (.aload_n 0, 1) := by decide +kernel
theorem d_CY_most_31 : decode c_CY_most 31 = .ok (.getfield 30, 3) := by decide +kernel
theorem d_CY_most_34 : decode c_CY_most 34 = .ok (.iload_n 1, 1) := by decide +kernel
theorem d_CY_most_35 : decode c_CY_most 35 = .ok (.iload_n 2, 1) := by decide +kernel
theorem d_CY_most_36 : decode c_CY_most 36 = .ok (.invokevirtual 93, 3) := by decide +kernel
theorem d_CY_most_39 : decode c_CY_most 39 = .ok (.aload_n 0, 1) := by decide +kernel
theorem d_CY_most_40 : decode c_CY_most 40 = .ok (.getfield 30, 3) := by decide +kernel
theorem d_CY_most_43 : decode c_CY_most 43 = .ok (.iload_n 1, 1) := by decide +kernel
theorem d_CY_most_44 : decode c_CY_most 44 = .ok (.invokevirtual 108, 3) := by decide +kernel
theorem d_CY_most_47 : decode c_CY_most 47 = .ok (.ireturn, 1) := by decide +kernel
theorem d_CY_work_0 : decode c_CY_work 0 = .ok (.aload_n 0, 1) := by decide +kernel
theorem d_CY_work_1 : decode c_CY_work 1 = .ok (.getfield 21, 3) := by decide +kernel
theorem d_CY_work_4 : decode c_CY_work 4 = .ok (.iload_n 1, 1) := by decide +kernel
theorem d_CY_work_5 : decode c_CY_work 5 = .ok (.invokevirtual 47, 3) := by decide +kernel
theorem d_CY_work_8 : decode c_CY_work 8 = .ok (.ifCond .eq 25, 3) := by decide +kernel
theorem d_CY_work_11 : decode c_CY_work 11 = .ok (.iload 4, 2) := by decide +kernel
theorem d_CY_work_13 : decode c_CY_work 13 = .ok (.iconst (-1), 1) := by decide +kernel
theorem d_CY_work_14 : decode c_CY_work 14 = .ok (.if_icmp .eq 15, 3) := by decide +kernel
theorem d_CY_work_17 : decode c_CY_work 17 = .ok (.aload_n 0, 1) := by decide +kernel
theorem d_CY_work_18 : decode c_CY_work 18 = .ok (.getfield 30, 3) := by decide +kernel
theorem d_CY_work_21 : decode c_CY_work 21 = .ok (.iload 4, 2) := by decide +kernel
theorem d_CY_work_23 : decode c_CY_work 23 = .ok (.invokevirtual 100, 3) := by decide +kernel
theorem d_CY_work_26 : decode c_CY_work 26 = .ok (.ifCond .eq 7, 3) := by decide +kernel
theorem d_CY_work_29 : decode c_CY_work 29 = .ok (.iconst 1, 1) := by decide +kernel
theorem d_CY_work_30 : decode c_CY_work 30 = .ok (.goto 4, 3) := by decide +kernel
theorem d_CY_work_33 : decode c_CY_work 33 = .ok (.iconst 0, 1) := by decide +kernel
theorem d_CY_work_34 : decode c_CY_work 34 = .ok (.invokestatic 55, 3) := by decide +kernel
theorem d_CY_work_37 : decode c_CY_work 37 = .ok (.iload_n 2, 1) := by decide +kernel
theorem d_CY_work_38 : decode c_CY_work 38 = .ok (.iconst 1, 1) := by decide +kernel
theorem d_CY_work_39 : decode c_CY_work 39 = .ok (.ldc 111, 2) := by decide +kernel
theorem d_CY_work_41 : decode c_CY_work 41 = .ok (.invokestatic 51, 3) := by decide +kernel
theorem d_CY_work_44 : decode c_CY_work 44 = .ok (.ifCond .eq 17, 3) := by decide +kernel
theorem d_CY_work_47 : decode c_CY_work 47 = .ok (.iload_n 3, 1) := by decide +kernel
theorem d_CY_work_48 : decode c_CY_work 48 = .ok (.iconst 0, 1) := by decide +kernel
theorem d_CY_work_49 : decode c_CY_work 49 = .ok (.ldc 111, 2) := by decide +kernel
theorem d_CY_work_51 : decode c_CY_work 51 = .ok (.invokestatic 51, 3) := by decide +kernel
theorem d_CY_work_54 : decode c_CY_work 54 = .ok (.ifCond .eq 7, 3) := by decide +kernel
theorem d_CY_work_57 : decode c_CY_work 57 = .ok (.iconst 1, 1) := by decide +kernel
theorem d_CY_work_58 : decode c_CY_work 58 = .ok (.goto 4, 3) := by decide +kernel
theorem d_CY_work_61 : decode c_CY_work 61 = .ok (.iconst 0, 1) := by decide +kernel
theorem d_CY_work_62 : decode c_CY_work 62 = .ok (.invokestatic 55, 3) := by decide +kernel
theorem d_CY_work_65 : decode c_CY_work 65 = .ok (.aload_n 0, 1) := by decide +kernel
theorem d_CY_work_66 : decode c_CY_work 66 = .ok (.getfield 39, 3) := by decide +kernel
theorem d_CY_work_69 : decode c_CY_work 69 = .ok (.getfield 112, 3) := by decide +kernel
theorem d_CY_work_72 : decode c_CY_work 72 = .ok (.bipush 10, 2) := by decide +kernel
theorem d_CY_work_74 : decode c_CY_work 74 = .ok (.if_icmp .lt 7, 3) := by decide +kernel
theorem d_CY_work_77 : decode c_CY_work 77 = .ok (.iconst 1, 1) := by decide +kernel
theorem d_CY_work_78 : decode c_CY_work 78 = .ok (.goto 4, 3) := by decide +kernel
theorem d_CY_work_81 : decode c_CY_work 81 = .ok (.iconst 0, 1) := by decide +kernel
theorem d_CY_work_82 : decode c_CY_work 82 = .ok (.invokestatic 71, 3) := by decide +kernel
theorem d_CY_work_85 : decode c_CY_work 85 = .ok (.aload_n 0, 1) := by decide +kernel
theorem d_CY_work_86 : decode c_CY_work 86 = .ok (.getfield 39, 3) := by decide +kernel
theorem d_CY_work_89 : decode c_CY_work 89 = .ok (.iload_n 1, 1) := by decide +kernel
theorem d_CY_work_90 : decode c_CY_work 90 = .ok (.iload_n 2, 1) := by decide +kernel
theorem d_CY_work_91 : decode c_CY_work 91 = .ok (.iload_n 3, 1) := by decide +kernel
theorem d_CY_work_92 : decode c_CY_work 92 = .ok (.iload 4, 2) := by decide +kernel
theorem d_CY_work_94 : decode c_CY_work 94 = .ok (.invokevirtual 113, 3) := by decide +kernel
theorem d_CY_work_97 : decode c_CY_work 97 = .ok (.ireturn, 1) := by decide +kernel
theorem d_CY_join_0 : decode c_CY_join 0 = .ok (.aload_n 0, 1) := by decide +kernel
theorem d_CY_join_1 : decode c_CY_join 1 = .ok (.getfield 39, 3) := by decide +kernel
theorem d_CY_join_4 : decode c_CY_join 4 = .ok (.iload_n 1, 1) := by decide +kernel
theorem d_CY_join_5 : decode c_CY_join 5 = .ok (.invokevirtual 116, 3) := by decide +kernel
theorem d_CY_join_8 : decode c_CY_join 8 = .ok (.ifCond .eq 23, 3) := by decide +kernel
theorem d_CY_join_11 : decode c_CY_join 11 = .ok (.aload_n 0, 1) := by decide +kernel
theorem d_CY_join_12 : decode c_CY_join 12 = .ok (.getfield 39, 3) := by decide +kernel
theorem d_CY_join_15 : decode c_CY_join 15 = .ok (.iload_n 2, 1) := by decide +kernel
theorem d_CY_join_16 : decode c_CY_join 16 = .ok (.invokevirtual 116, 3) := by decide +kernel
theorem d_CY_join_19 : decode c_CY_join 19 = .ok (.ifCond .eq 12, 3) := by decide +kernel
theorem d_CY_join_22 : decode c_CY_join 22 = .ok (.iload_n 1, 1) := by decide +kernel
theorem d_CY_join_23 : decode c_CY_join 23 = .ok (.iload_n 2, 1) := by decide +kernel
theorem d_CY_join_24 : decode c_CY_join 24 = .ok (.if_icmp .eq 7, 3) := by decide +kernel
theorem d_CY_join_27 : decode c_CY_join 27 = .ok (.iconst 1, 1) := by decide +kernel
theorem d_CY_join_28 : decode c_CY_join 28 = .ok (.goto 4, 3) := by decide +kernel
theorem d_CY_join_31 : decode c_CY_join 31 = .ok (.iconst 0, 1) := by decide +kernel
theorem d_CY_join_32 : decode c_CY_join 32 = .ok (.invokestatic 55, 3) := by decide +kernel
theorem d_CY_join_35 : decode c_CY_join 35 = .ok (.iload_n 3, 1) := by decide +kernel
theorem d_CY_join_36 : decode c_CY_join 36 = .ok (.iconst 0, 1) := by decide +kernel
theorem d_CY_join_37 : decode c_CY_join 37 = .ok (.ldc 111, 2) := by decide +kernel
theorem d_CY_join_39 : decode c_CY_join 39 = .ok (.invokestatic 51, 3) := by decide +kernel
theorem d_CY_join_42 : decode c_CY_join 42 = .ok (.invokestatic 55, 3) := by decide +kernel
theorem d_CY_join_45 : decode c_CY_join 45 = .ok (.aload_n 0, 1) := by decide +kernel
theorem d_CY_join_46 : decode c_CY_join 46 = .ok (.getfield 39, 3) := by decide +kernel
theorem d_CY_join_49 : decode c_CY_join 49 = .ok (.getfield 117, 3) := by decide +kernel
theorem d_CY_join_52 : decode c_CY_join 52 = .ok (.iload_n 1, 1) := by decide +kernel
theorem d_CY_join_53 : decode c_CY_join 53 = .ok (.aaload, 1) := by decide +kernel
theorem d_CY_join_54 : decode c_CY_join 54 = .ok (.iload_n 2, 1) := by decide +kernel
theorem d_CY_join_55 : decode c_CY_join 55 = .ok (.iaload, 1) := by decide +kernel
theorem d_CY_join_56 : decode c_CY_join 56 = .ok (.istore 4, 2) := by decide +kernel
theorem d_CY_join_58 : decode c_CY_join 58 = .ok (.aload_n 0, 1) := by decide +kernel
theorem d_CY_join_59 : decode c_CY_join 59 = .ok (.getfield 39, 3) := by decide +kernel
theorem d_CY_join_62 : decode c_CY_join 62 = .ok (.getfield 117, 3) := by decide +kernel
theorem d_CY_join_65 : decode c_CY_join 65 = .ok (.iload_n 1, 1) := by decide +kernel
theorem d_CY_join_66 : decode c_CY_join 66 = .ok (.aaload, 1) := by decide +kernel
theorem d_CY_join_67 : decode c_CY_join 67 = .ok (.iload_n 2, 1) := by decide +kernel
theorem d_CY_join_68 : decode c_CY_join 68 = .ok (.iload_n 3, 1) := by decide +kernel
theorem d_CY_join_69 : decode c_CY_join 69 = .ok (.iastore, 1) := by decide +kernel
theorem d_CY_join_70 : decode c_CY_join 70 = .ok (.aload_n 0, 1) := by decide +kernel
theorem d_CY_join_71 : decode c_CY_join 71 = .ok (.getfield 39, 3) := by decide +kernel
theorem d_CY_join_74 : decode c_CY_join 74 = .ok (.getfield 117, 3) := by decide +kernel
theorem d_CY_join_77 : decode c_CY_join 77 = .ok (.iload_n 2, 1) := by decide +kernel
theorem d_CY_join_78 : decode c_CY_join 78 = .ok (.aaload, 1) := by decide +kernel
theorem d_CY_join_79 : decode c_CY_join 79 = .ok (.iload_n 1, 1) := by decide +kernel
theorem d_CY_join_80 : decode c_CY_join 80 = .ok (.iload_n 3, 1) := by decide +kernel
theorem d_CY_join_81 : decode c_CY_join 81 = .ok (.iastore, 1) := by decide +kernel
theorem d_CY_join_82 : decode c_CY_join 82 = .ok (.iload 4, 2) := by decide +kernel
theorem d_CY_join_84 : decode c_CY_join 84 = .ok (.ireturn, 1) := by decide +kernel
theorem d_CY_clash_0 : decode c_CY_clash 0 = .ok (.aload_n 0, 1) := by decide +kernel
theorem d_CY_clash_1 : decode c_CY_clash 1 = .ok (.getfield 39, 3) := by decide +kernel
theorem d_CY_clash_4 : decode c_CY_clash 4 = .ok (.iload_n 1, 1) := by decide +kernel
theorem d_CY_clash_5 : decode c_CY_clash 5 = .ok (.invokevirtual 116, 3) := by decide +kernel
theorem d_CY_clash_8 : decode c_CY_clash 8 = .ok (.ifCond .eq 23, 3) := by decide +kernel
theorem d_CY_clash_11 : decode c_CY_clash 11 = .ok (.aload_n 0, 1) := by decide +kernel
theorem d_CY_clash_12 : decode c_CY_clash 12 = .ok (.getfield 39, 3) := by decide +kernel
theorem d_CY_clash_15 : decode c_CY_clash 15 = .ok (.iload_n 2, 1) := by decide +kernel
theorem d_CY_clash_16 : decode c_CY_clash 16 = .ok (.invokevirtual 116, 3) := by decide +kernel
theorem d_CY_clash_19 : decode c_CY_clash 19 = .ok (.ifCond .eq 12, 3) := by decide +kernel
theorem d_CY_clash_22 : decode c_CY_clash 22 = .ok (.iload_n 1, 1) := by decide +kernel
theorem d_CY_clash_23 : decode c_CY_clash 23 = .ok (.iload_n 2, 1) := by decide +kernel
theorem d_CY_clash_24 : decode c_CY_clash 24 = .ok (.if_icmp .eq 7, 3) := by decide +kernel
theorem d_CY_clash_27 : decode c_CY_clash 27 = .ok (.iconst 1, 1) := by decide +kernel
theorem d_CY_clash_28 : decode c_CY_clash 28 = .ok (.goto 4, 3) := by decide +kernel
theorem d_CY_clash_31 : decode c_CY_clash 31 = .ok (.iconst 0, 1) := by decide +kernel
theorem d_CY_clash_32 : decode c_CY_clash 32 = .ok (.invokestatic 55, 3) := by decide +kernel
theorem d_CY_clash_35 : decode c_CY_clash 35 = .ok (.aload_n 0, 1) := by decide +kernel
theorem d_CY_clash_36 : decode c_CY_clash 36 = .ok (.getfield 39, 3) := by decide +kernel
theorem d_CY_clash_39 : decode c_CY_clash 39 = .ok (.getfield 120, 3) := by decide +kernel
theorem d_CY_clash_42 : decode c_CY_clash 42 = .ok (.iload_n 1, 1) := by decide +kernel
theorem d_CY_clash_43 : decode c_CY_clash 43 = .ok (.iaload, 1) := by decide +kernel
theorem d_CY_clash_44 : decode c_CY_clash 44 = .ok (.iload_n 2, 1) := by decide +kernel
theorem d_CY_clash_45 : decode c_CY_clash 45 = .ok (.invokestatic 123, 3) := by decide +kernel
theorem d_CY_clash_48 : decode c_CY_clash 48 = .ok (.istore 4, 2) := by decide +kernel
theorem d_CY_clash_50 : decode c_CY_clash 50 = .ok (.aload_n 0, 1) := by decide +kernel
theorem d_CY_clash_51 : decode c_CY_clash 51 = .ok (.getfield 39, 3) := by decide +kernel
theorem d_CY_clash_54 : decode c_CY_clash 54 = .ok (.getfield 120, 3) := by decide +kernel
theorem d_CY_clash_57 : decode c_CY_clash 57 = .ok (.iload_n 1, 1) := by decide +kernel
theorem d_CY_clash_58 : decode c_CY_clash 58 = .ok (.aload_n 0, 1) := by decide +kernel
theorem d_CY_clash_59 : decode c_CY_clash 59 = .ok (.getfield 39, 3) := by decide +kernel
theorem d_CY_clash_62 : decode c_CY_clash 62 = .ok (.getfield 120, 3) := by decide +kernel
theorem d_CY_clash_65 : decode c_CY_clash 65 = .ok (.iload_n 1, 1) := by decide +kernel
theorem d_CY_clash_66 : decode c_CY_clash 66 = .ok (.iaload, 1) := by decide +kernel
theorem d_CY_clash_67 : decode c_CY_clash 67 = .ok (.iload_n 2, 1) := by decide +kernel
theorem d_CY_clash_68 : decode c_CY_clash 68 = .ok (.iload_n 3, 1) := by decide +kernel
theorem d_CY_clash_69 : decode c_CY_clash 69 = .ok (.invokestatic 126, 3) := by decide +kernel
theorem d_CY_clash_72 : decode c_CY_clash 72 = .ok (.iastore, 1) := by decide +kernel
theorem d_CY_clash_73 : decode c_CY_clash 73 = .ok (.aload_n 0, 1) := by decide +kernel
theorem d_CY_clash_74 : decode c_CY_clash 74 = .ok (.getfield 39, 3) := by decide +kernel
theorem d_CY_clash_77 : decode c_CY_clash 77 = .ok (.getfield 120, 3) := by decide +kernel
theorem d_CY_clash_80 : decode c_CY_clash 80 = .ok (.iload_n 2, 1) := by decide +kernel
theorem d_CY_clash_81 : decode c_CY_clash 81 = .ok (.aload_n 0, 1) := by decide +kernel
theorem d_CY_clash_82 : decode c_CY_clash 82 = .ok (.getfield 39, 3) := by decide +kernel
theorem d_CY_clash_85 : decode c_CY_clash 85 = .ok (.getfield 120, 3) := by decide +kernel
theorem d_CY_clash_88 : decode c_CY_clash 88 = .ok (.iload_n 2, 1) := by decide +kernel
theorem d_CY_clash_89 : decode c_CY_clash 89 = .ok (.iaload, 1) := by decide +kernel
theorem d_CY_clash_90 : decode c_CY_clash 90 = .ok (.iload_n 1, 1) := by decide +kernel
theorem d_CY_clash_91 : decode c_CY_clash 91 = .ok (.iload_n 3, 1) := by decide +kernel
theorem d_CY_clash_92 : decode c_CY_clash 92 = .ok (.invokestatic 126, 3) := by decide +kernel
theorem d_CY_clash_95 : decode c_CY_clash 95 = .ok (.iastore, 1) := by decide +kernel
theorem d_CY_clash_96 : decode c_CY_clash 96 = .ok (.iload 4, 2) := by decide +kernel
theorem d_CY_clash_98 : decode c_CY_clash 98 = .ok (.ireturn, 1) := by decide +kernel
theorem d_CY_needs_0 : decode c_CY_needs 0 = .ok (.aload_n 0, 1) := by decide +kernel
theorem d_CY_needs_1 : decode c_CY_needs 1 = .ok (.getfield 39, 3) := by decide +kernel
theorem d_CY_needs_4 : decode c_CY_needs 4 = .ok (.iload_n 1, 1) := by decide +kernel
theorem d_CY_needs_5 : decode c_CY_needs 5 = .ok (.invokevirtual 116, 3) := by decide +kernel
theorem d_CY_needs_8 : decode c_CY_needs 8 = .ok (.ifCond .eq 28, 3) := by decide +kernel
theorem d_CY_needs_11 : decode c_CY_needs 11 = .ok (.iload_n 2, 1) := by decide +kernel
theorem d_CY_needs_12 : decode c_CY_needs 12 = .ok (.iconst (-1), 1) := by decide +kernel
theorem d_CY_needs_13 : decode c_CY_needs 13 = .ok (.if_icmp .eq 14, 3) := by decide +kernel
theorem d_CY_needs_16 : decode c_CY_needs 16 = .ok (.aload_n 0, 1) := by decide +kernel
theorem d_CY_needs_17 : decode c_CY_needs 17 = .ok (.getfield 39, 3) := by decide +kernel
theorem d_CY_needs_20 : decode c_CY_needs 20 = .ok (.iload_n 2, 1) := by decide +kernel
theorem d_CY_needs_21 : decode c_CY_needs 21 = .ok (.invokevirtual 116, 3) := by decide +kernel
theorem d_CY_needs_24 : decode c_CY_needs 24 = .ok (.ifCond .eq 12, 3) := by decide +kernel
theorem d_CY_needs_27 : decode c_CY_needs 27 = .ok (.iload_n 1, 1) := by decide +kernel
theorem d_CY_needs_28 : decode c_CY_needs 28 = .ok (.iload_n 2, 1) := by decide +kernel
theorem d_CY_needs_29 : decode c_CY_needs 29 = .ok (.if_icmp .eq 7, 3) := by decide +kernel
theorem d_CY_needs_32 : decode c_CY_needs 32 = .ok (.iconst 1, 1) := by decide +kernel
theorem d_CY_needs_33 : decode c_CY_needs 33 = .ok (.goto 4, 3) := by decide +kernel
theorem d_CY_needs_36 : decode c_CY_needs 36 = .ok (.iconst 0, 1) := by decide +kernel
theorem d_CY_needs_37 : decode c_CY_needs 37 = .ok (.invokestatic 55, 3) := by decide +kernel
theorem d_CY_needs_40 : decode c_CY_needs 40 = .ok (.aload_n 0, 1) := by decide +kernel
theorem d_CY_needs_41 : decode c_CY_needs 41 = .ok (.getfield 39, 3) := by decide +kernel
theorem d_CY_needs_44 : decode c_CY_needs 44 = .ok (.getfield 130, 3) := by decide +kernel
theorem d_CY_needs_47 : decode c_CY_needs 47 = .ok (.iload_n 1, 1) := by decide +kernel
theorem d_CY_needs_48 : decode c_CY_needs 48 = .ok (.iaload, 1) := by decide +kernel
theorem d_CY_needs_49 : decode c_CY_needs 49 = .ok (.istore_n 3, 1) := by decide +kernel
theorem d_CY_needs_50 : decode c_CY_needs 50 = .ok (.aload_n 0, 1) := by decide +kernel
theorem d_CY_needs_51 : decode c_CY_needs 51 = .ok (.getfield 39, 3) := by decide +kernel
theorem d_CY_needs_54 : decode c_CY_needs 54 = .ok (.getfield 130, 3) := by decide +kernel
theorem d_CY_needs_57 : decode c_CY_needs 57 = .ok (.iload_n 1, 1) := by decide +kernel
theorem d_CY_needs_58 : decode c_CY_needs 58 = .ok (.iload_n 2, 1) := by decide +kernel
theorem d_CY_needs_59 : decode c_CY_needs 59 = .ok (.iastore, 1) := by decide +kernel
theorem d_CY_needs_60 : decode c_CY_needs 60 = .ok (.iload_n 3, 1) := by decide +kernel
theorem d_CY_needs_61 : decode c_CY_needs 61 = .ok (.ireturn, 1) := by decide +kernel
theorem d_CY_choose_0 : decode c_CY_choose 0 = .ok (.aload_n 0, 1) := by decide +kernel
theorem d_CY_choose_1 : decode c_CY_choose 1 = .ok (.getfield 39, 3) := by decide +kernel
theorem d_CY_choose_4 : decode c_CY_choose 4 = .ok (.invokevirtual 133, 3) := by decide +kernel
theorem d_CY_choose_7 : decode c_CY_choose 7 = .ok (.aload_n 0, 1) := by decide +kernel
theorem d_CY_choose_8 : decode c_CY_choose 8 = .ok (.invokevirtual 136, 3) := by decide +kernel
theorem d_CY_choose_11 : decode c_CY_choose 11 = .ok (.aload_n 0, 1) := by decide +kernel
theorem d_CY_choose_12 : decode c_CY_choose 12 = .ok (.getfield 39, 3) := by decide +kernel
theorem d_CY_choose_15 : decode c_CY_choose 15 = .ok (.aload_n 0, 1) := by decide +kernel
theorem d_CY_choose_16 : decode c_CY_choose 16 = .ok (.getfield 39, 3) := by decide +kernel
theorem d_CY_choose_19 : decode c_CY_choose 19 = .ok (.getfield 139, 3) := by decide +kernel
theorem d_CY_choose_22 : decode c_CY_choose 22 = .ok (.invokevirtual 142, 3) := by decide +kernel
theorem d_CY_choose_25 : decode c_CY_choose 25 = .ok (.ireturn, 1) := by decide +kernel
theorem d_CY_chosen_0 : decode c_CY_chosen 0 = .ok (.aload_n 0, 1) := by decide +kernel
theorem d_CY_chosen_1 : decode c_CY_chosen 1 = .ok (.getfield 39, 3) := by decide +kernel
theorem d_CY_chosen_4 : decode c_CY_chosen 4 = .ok (.iload_n 1, 1) := by decide +kernel
theorem d_CY_chosen_5 : decode c_CY_chosen 5 = .ok (.invokevirtual 116, 3) := by decide +kernel
theorem d_CY_chosen_8 : decode c_CY_chosen 8 = .ok (.invokestatic 55, 3) := by decide +kernel
theorem d_CY_chosen_11 : decode c_CY_chosen 11 = .ok (.aload_n 0, 1) := by decide +kernel
theorem d_CY_chosen_12 : decode c_CY_chosen 12 = .ok (.getfield 39, 3) := by decide +kernel
theorem d_CY_chosen_15 : decode c_CY_chosen 15 = .ok (.getfield 139, 3) := by decide +kernel
theorem d_CY_chosen_18 : decode c_CY_chosen 18 = .ok (.iload_n 1, 1) := by decide +kernel
theorem d_CY_chosen_19 : decode c_CY_chosen 19 = .ok (.invokestatic 123, 3) := by decide +kernel
theorem d_CY_chosen_22 : decode c_CY_chosen 22 = .ok (.ireturn, 1) := by decide +kernel
theorem d_CY_costs_0 : decode c_CY_costs 0 = .ok (.aload_n 0, 1) := by decide +kernel
theorem d_CY_costs_1 : decode c_CY_costs 1 = .ok (.getfield 21, 3) := by decide +kernel
theorem d_CY_costs_4 : decode c_CY_costs 4 = .ok (.iload_n 1, 1) := by decide +kernel
theorem d_CY_costs_5 : decode c_CY_costs 5 = .ok (.invokevirtual 47, 3) := by decide +kernel
theorem d_CY_costs_8 : decode c_CY_costs 8 = .ok (.invokestatic 55, 3) := by decide +kernel
theorem d_CY_costs_11 : decode c_CY_costs 11 = .ok (.aload_n 0, 1) := by decide +kernel
theorem d_CY_costs_12 : decode c_CY_costs 12 = .ok (.getfield 39, 3) := by decide +kernel
theorem d_CY_costs_15 : decode c_CY_costs 15 = .ok (.aload_n 0, 1) := by decide +kernel
theorem d_CY_costs_16 : decode c_CY_costs 16 = .ok (.getfield 39, 3) := by decide +kernel
theorem d_CY_costs_19 : decode c_CY_costs 19 = .ok (.getfield 139, 3) := by decide +kernel
theorem d_CY_costs_22 : decode c_CY_costs 22 = .ok (.invokevirtual 145, 3) := by decide +kernel
theorem d_CY_costs_25 : decode c_CY_costs 25 = .ok (.aload_n 0, 1) := by decide +kernel
theorem d_CY_costs_26 : decode c_CY_costs 26 = .ok (.getfield 39, 3) := by decide +kernel
theorem d_CY_costs_29 : decode c_CY_costs 29 = .ok (.getfield 148, 3) := by decide +kernel
theorem d_CY_costs_32 : decode c_CY_costs 32 = .ok (.iload_n 1, 1) := by decide +kernel
theorem d_CY_costs_33 : decode c_CY_costs 33 = .ok (.iaload, 1) := by decide +kernel
theorem d_CY_costs_34 : decode c_CY_costs 34 = .ok (.ireturn, 1) := by decide +kernel
theorem d_CY_lacks_0 : decode c_CY_lacks 0 = .ok (.iload_n 1, 1) := by decide +kernel
theorem d_CY_lacks_1 : decode c_CY_lacks 1 = .ok (.aload_n 0, 1) := by decide +kernel
theorem d_CY_lacks_2 : decode c_CY_lacks 2 = .ok (.getfield 39, 3) := by decide +kernel
theorem d_CY_lacks_5 : decode c_CY_lacks 5 = .ok (.invokevirtual 151, 3) := by decide +kernel
theorem d_CY_lacks_8 : decode c_CY_lacks 8 = .ok (.iand, 1) := by decide +kernel
theorem d_CY_lacks_9 : decode c_CY_lacks 9 = .ok (.istore_n 2, 1) := by decide +kernel
theorem d_CY_lacks_10 : decode c_CY_lacks 10 = .ok (.aload_n 0, 1) := by decide +kernel
theorem d_CY_lacks_11 : decode c_CY_lacks 11 = .ok (.getfield 39, 3) := by decide +kernel
theorem d_CY_lacks_14 : decode c_CY_lacks 14 = .ok (.iload_n 2, 1) := by decide +kernel
theorem d_CY_lacks_15 : decode c_CY_lacks 15 = .ok (.invokevirtual 155, 3) := by decide +kernel
theorem d_CY_lacks_18 : decode c_CY_lacks 18 = .ok (.ifCond .ne 5, 3) := by decide +kernel
theorem d_CY_lacks_21 : decode c_CY_lacks 21 = .ok (.iconst (-1), 1) := by decide +kernel
theorem d_CY_lacks_22 : decode c_CY_lacks 22 = .ok (.ireturn, 1) := by decide +kernel
theorem d_CY_lacks_23 : decode c_CY_lacks 23 = .ok (.aload_n 0, 1) := by decide +kernel
theorem d_CY_lacks_24 : decode c_CY_lacks 24 = .ok (.getfield 39, 3) := by decide +kernel
theorem d_CY_lacks_27 : decode c_CY_lacks 27 = .ok (.iload_n 2, 1) := by decide +kernel
theorem d_CY_lacks_28 : decode c_CY_lacks 28 = .ok (.invokevirtual 145, 3) := by decide +kernel
theorem d_CY_lacks_31 : decode c_CY_lacks 31 = .ok (.aload_n 0, 1) := by decide +kernel
theorem d_CY_lacks_32 : decode c_CY_lacks 32 = .ok (.getfield 39, 3) := by decide +kernel
theorem d_CY_lacks_35 : decode c_CY_lacks 35 = .ok (.invokevirtual 158, 3) := by decide +kernel
theorem d_CY_lacks_38 : decode c_CY_lacks 38 = .ok (.ireturn, 1) := by decide +kernel
theorem d_CY_money_0 : decode c_CY_money 0 = .ok (.iload_n 1, 1) := by decide +kernel
theorem d_CY_money_1 : decode c_CY_money 1 = .ok (.iconst 0, 1) := by decide +kernel
theorem d_CY_money_2 : decode c_CY_money 2 = .ok (.ldc 63, 2) := by decide +kernel
theorem d_CY_money_4 : decode c_CY_money 4 = .ok (.invokestatic 51, 3) := by decide +kernel
theorem d_CY_money_7 : decode c_CY_money 7 = .ok (.ifCond .eq 17, 3) := by decide +kernel
theorem d_CY_money_10 : decode c_CY_money 10 = .ok (.iload_n 2, 1) := by decide +kernel
theorem d_CY_money_11 : decode c_CY_money 11 = .ok (.iconst 0, 1) := by decide +kernel
theorem d_CY_money_12 : decode c_CY_money 12 = .ok (.ldc 63, 2) := by decide +kernel
theorem d_CY_money_14 : decode c_CY_money 14 = .ok (.invokestatic 51, 3) := by decide +kernel
theorem d_CY_money_17 : decode c_CY_money 17 = .ok (.ifCond .eq 7, 3) := by decide +kernel
theorem d_CY_money_20 : decode c_CY_money 20 = .ok (.iconst 1, 1) := by decide +kernel
theorem d_CY_money_21 : decode c_CY_money 21 = .ok (.goto 4, 3) := by decide +kernel
theorem d_CY_money_24 : decode c_CY_money 24 = .ok (.iconst 0, 1) := by decide +kernel
theorem d_CY_money_25 : decode c_CY_money 25 = .ok (.invokestatic 55, 3) := by decide +kernel
theorem d_CY_money_28 : decode c_CY_money 28 = .ok (.aload_n 0, 1) := by decide +kernel
theorem d_CY_money_29 : decode c_CY_money 29 = .ok (.iload_n 1, 1) := by decide +kernel
theorem d_CY_money_30 : decode c_CY_money 30 = .ok (.putfield 161, 3) := by decide +kernel
theorem d_CY_money_33 : decode c_CY_money 33 = .ok (.aload_n 0, 1) := by decide +kernel
theorem d_CY_money_34 : decode c_CY_money 34 = .ok (.iload_n 2, 1) := by decide +kernel
theorem d_CY_money_35 : decode c_CY_money 35 = .ok (.putfield 164, 3) := by decide +kernel
theorem d_CY_money_38 : decode c_CY_money 38 = .ok (.return_, 1) := by decide +kernel
theorem d_CY_reserve_0 : decode c_CY_reserve 0 = .ok (.aload_n 0, 1) := by decide +kernel
theorem d_CY_reserve_1 : decode c_CY_reserve 1 = .ok (.getfield 21, 3) := by decide +kernel
theorem d_CY_reserve_4 : decode c_CY_reserve 4 = .ok (.iload_n 1, 1) := by decide +kernel
theorem d_CY_reserve_5 : decode c_CY_reserve 5 = .ok (.invokevirtual 47, 3) := by decide +kernel
theorem d_CY_reserve_8 : decode c_CY_reserve 8 = .ok (.invokestatic 55, 3) := by decide +kernel
theorem d_CY_reserve_11 : decode c_CY_reserve 11 = .ok (.aload_n 0, 1) := by decide +kernel
theorem d_CY_reserve_12 : decode c_CY_reserve 12 = .ok (.invokevirtual 167, 3) := by decide +kernel
theorem d_CY_reserve_15 : decode c_CY_reserve 15 = .ok (.aload_n 0, 1) := by decide +kernel
theorem d_CY_reserve_16 : decode c_CY_reserve 16 = .ok (.getfield 43, 3) := by decide +kernel
theorem d_CY_reserve_19 : decode c_CY_reserve 19 = .ok (.iload_n 1, 1) := by decide +kernel
theorem d_CY_reserve_20 : decode c_CY_reserve 20 = .ok (.laload, 1) := by decide +kernel
theorem d_CY_reserve_21 : decode c_CY_reserve 21 = .ok (.lreturn, 1) := by decide +kernel
theorem d_CY_shortIn_0 : decode c_CY_shortIn 0 = .ok (.aload_n 0, 1) := by decide +kernel
theorem d_CY_shortIn_1 : decode c_CY_shortIn 1 = .ok (.invokevirtual 167, 3) := by decide +kernel
theorem d_CY_shortIn_4 : decode c_CY_shortIn 4 = .ok (.iconst 0, 1) := by decide +kernel
theorem d_CY_shortIn_5 : decode c_CY_shortIn 5 = .ok (.istore_n 1, 1) := by decide +kernel
theorem d_CY_shortIn_6 : decode c_CY_shortIn 6 = .ok (.iload_n 1, 1) := by decide +kernel
theorem d_CY_shortIn_7 : decode c_CY_shortIn 7 = .ok (.aload_n 0, 1) := by decide +kernel
theorem d_CY_shortIn_8 : decode c_CY_shortIn 8 = .ok (.getfield 21, 3) := by decide +kernel
theorem d_CY_shortIn_11 : decode c_CY_shortIn 11 = .ok (.getfield 170, 3) := by decide +kernel
theorem d_CY_shortIn_14 : decode c_CY_shortIn 14 = .ok (.if_icmp .ge 22, 3) := by decide +kernel
theorem d_CY_shortIn_17 : decode c_CY_shortIn 17 = .ok (.aload_n 0, 1) := by decide +kernel
theorem d_CY_shortIn_18 : decode c_CY_shortIn 18 = .ok (.getfield 43, 3) := by decide +kernel
theorem d_CY_shortIn_21 : decode c_CY_shortIn 21 = .ok (.iload_n 1, 1) := by decide +kernel
theorem d_CY_shortIn_22 : decode c_CY_shortIn 22 = .ok (.laload, 1) := by decide +kernel
theorem d_CY_shortIn_23 : decode c_CY_shortIn 23 = .ok (.lconst 0, 1) := by decide +kernel
theorem d_CY_shortIn_24 : decode c_CY_shortIn 24 = .ok (.lcmp, 1) := by decide +kernel
theorem d_CY_shortIn_25 : decode c_CY_shortIn 25 = .ok (.ifCond .ge 5, 3) := by decide +kernel
theorem d_CY_shortIn_28 : decode c_CY_shortIn 28 = .ok (.iload_n 1, 1) := by decide +kernel
theorem d_CY_shortIn_29 : decode c_CY_shortIn 29 = .ok (.ireturn, 1) := by decide +kernel
theorem d_CY_shortIn_30 : decode c_CY_shortIn 30 = .ok (.iinc 1 1, 3) := by decide +kernel
theorem d_CY_shortIn_33 : decode c_CY_shortIn 33 = .ok (.goto (-27), 3) := by decide +kernel
theorem d_CY_shortIn_36 : decode c_CY_shortIn 36 = .ok (.iconst (-1), 1) := by decide +kernel
theorem d_CY_shortIn_37 : decode c_CY_shortIn 37 = .ok (.ireturn, 1) := by decide +kernel
theorem d_CY_payment_0 : decode c_CY_payment 0 = .ok (.iload_n 1, 1) := by decide +kernel
theorem d_CY_payment_1 : decode c_CY_payment 1 = .ok (.iload_n 2, 1) := by decide +kernel
theorem d_CY_payment_2 : decode c_CY_payment 2 = .ok (.iload_n 3, 1) := by decide +kernel
theorem d_CY_payment_3 : decode c_CY_payment 3 = .ok (.invokestatic 171, 3) := by decide +kernel
theorem d_CY_payment_6 : decode c_CY_payment 6 = .ok (.invokestatic 55, 3) := by decide +kernel
theorem d_CY_payment_9 : decode c_CY_payment 9 = .ok (.iload_n 1, 1) := by decide +kernel
theorem d_CY_payment_10 : decode c_CY_payment 10 = .ok (.iload_n 2, 1) := by decide +kernel
theorem d_CY_payment_11 : decode c_CY_payment 11 = .ok (.iload_n 3, 1) := by decide +kernel
theorem d_CY_payment_12 : decode c_CY_payment 12 = .ok (.invokestatic 176, 3) := by decide +kernel
theorem d_CY_payment_15 : decode c_CY_payment 15 = .ok (.ireturn, 1) := by decide +kernel
theorem d_CY_rest_0 : decode c_CY_rest 0 = .ok (.iload_n 1, 1) := by decide +kernel
theorem d_CY_rest_1 : decode c_CY_rest 1 = .ok (.iload_n 2, 1) := by decide +kernel
theorem d_CY_rest_2 : decode c_CY_rest 2 = .ok (.iload_n 3, 1) := by decide +kernel
theorem d_CY_rest_3 : decode c_CY_rest 3 = .ok (.invokestatic 171, 3) := by decide +kernel
theorem d_CY_rest_6 : decode c_CY_rest 6 = .ok (.ifCond .eq 17, 3) := by decide +kernel
theorem d_CY_rest_9 : decode c_CY_rest 9 = .ok (.iload 4, 2) := by decide +kernel
theorem d_CY_rest_11 : decode c_CY_rest 11 = .ok (.iconst 0, 1) := by decide +kernel
theorem d_CY_rest_12 : decode c_CY_rest 12 = .ok (.iload_n 3, 1) := by decide +kernel
theorem d_CY_rest_13 : decode c_CY_rest 13 = .ok (.invokestatic 51, 3) := by decide +kernel
theorem d_CY_rest_16 : decode c_CY_rest 16 = .ok (.ifCond .eq 7, 3) := by decide +kernel
theorem d_CY_rest_19 : decode c_CY_rest 19 = .ok (.iconst 1, 1) := by decide +kernel
theorem d_CY_rest_20 : decode c_CY_rest 20 = .ok (.goto 4, 3) := by decide +kernel
theorem d_CY_rest_23 : decode c_CY_rest 23 = .ok (.iconst 0, 1) := by decide +kernel
theorem d_CY_rest_24 : decode c_CY_rest 24 = .ok (.invokestatic 55, 3) := by decide +kernel
theorem d_CY_rest_27 : decode c_CY_rest 27 = .ok (.iload 4, 2) := by decide +kernel
theorem d_CY_rest_29 : decode c_CY_rest 29 = .ok (.iload_n 1, 1) := by decide +kernel
theorem d_CY_rest_30 : decode c_CY_rest 30 = .ok (.iload_n 2, 1) := by decide +kernel
theorem d_CY_rest_31 : decode c_CY_rest 31 = .ok (.iload_n 1, 1) := by decide +kernel
theorem d_CY_rest_32 : decode c_CY_rest 32 = .ok (.iload_n 2, 1) := by decide +kernel
theorem d_CY_rest_33 : decode c_CY_rest 33 = .ok (.iload_n 3, 1) := by decide +kernel
theorem d_CY_rest_34 : decode c_CY_rest 34 = .ok (.invokestatic 176, 3) := by decide +kernel
theorem d_CY_rest_37 : decode c_CY_rest 37 = .ok (.i2l, 1) := by decide +kernel
theorem d_CY_rest_38 : decode c_CY_rest 38 = .ok (.invokestatic 179, 3) := by decide +kernel
theorem d_CY_rest_41 : decode c_CY_rest 41 = .ok (.l2i, 1) := by decide +kernel
theorem d_CY_rest_42 : decode c_CY_rest 42 = .ok (.ireturn, 1) := by decide +kernel
theorem d_CY_refuseUnless_0 : decode c_CY_refuseUnless 0 = .ok (.iload_n 0, 1) := by decide +kernel
theorem d_CY_refuseUnless_1 : decode c_CY_refuseUnless 1 = .ok (.ifCond .ne 13, 3) := by decide +kernel
theorem d_CY_refuseUnless_4 : decode c_CY_refuseUnless 4 = .ok (.new 183, 3) := by decide +kernel
theorem d_CY_refuseUnless_7 : decode c_CY_refuseUnless 7 = .ok (.dup, 1) := by decide +kernel
theorem d_CY_refuseUnless_8 : decode c_CY_refuseUnless 8 = .ok (.ldc 185, 2) := by decide +kernel
theorem d_CY_refuseUnless_10 : decode c_CY_refuseUnless 10 = .ok (.invokespecial 187, 3) := by decide +kernel
theorem d_CY_refuseUnless_13 : decode c_CY_refuseUnless 13 = .ok (.athrow, 1) := by decide +kernel
theorem d_CY_refuseUnless_14 : decode c_CY_refuseUnless 14 = .ok (.return_, 1) := by decide +kernel
theorem d_CY_refuseIfFull_0 : decode c_CY_refuseIfFull 0 = .ok (.iload_n 0, 1) := by decide +kernel
theorem d_CY_refuseIfFull_1 : decode c_CY_refuseIfFull 1 = .ok (.ifCond .eq 13, 3) := by decide +kernel
theorem d_CY_refuseIfFull_4 : decode c_CY_refuseIfFull 4 = .ok (.new 190, 3) := by decide +kernel
theorem d_CY_refuseIfFull_7 : decode c_CY_refuseIfFull 7 = .ok (.dup, 1) := by decide +kernel
theorem d_CY_refuseIfFull_8 : decode c_CY_refuseIfFull 8 = .ok (.ldc 192, 2) := by decide +kernel
theorem d_CY_refuseIfFull_10 : decode c_CY_refuseIfFull 10 = .ok (.invokespecial 194, 3) := by decide +kernel
theorem d_CY_refuseIfFull_13 : decode c_CY_refuseIfFull 13 = .ok (.athrow, 1) := by decide +kernel
theorem d_CY_refuseIfFull_14 : decode c_CY_refuseIfFull 14 = .ok (.return_, 1) := by decide +kernel
theorem d_CY_isWithin_0 : decode c_CY_isWithin 0 = .ok (.iload_n 0, 1) := by decide +kernel
theorem d_CY_isWithin_1 : decode c_CY_isWithin 1 = .ok (.iload_n 1, 1) := by decide +kernel
theorem d_CY_isWithin_2 : decode c_CY_isWithin 2 = .ok (.if_icmp .lt 12, 3) := by decide +kernel
theorem d_CY_isWithin_5 : decode c_CY_isWithin 5 = .ok (.iload_n 0, 1) := by decide +kernel
theorem d_CY_isWithin_6 : decode c_CY_isWithin 6 = .ok (.iload_n 2, 1) := by decide +kernel
theorem d_CY_isWithin_7 : decode c_CY_isWithin 7 = .ok (.if_icmp .gt 7, 3) := by decide +kernel
theorem d_CY_isWithin_10 : decode c_CY_isWithin 10 = .ok (.iconst 1, 1) := by decide +kernel
theorem d_CY_isWithin_11 : decode c_CY_isWithin 11 = .ok (.goto 4, 3) := by decide +kernel
theorem d_CY_isWithin_14 : decode c_CY_isWithin 14 = .ok (.iconst 0, 1) := by decide +kernel
theorem d_CY_isWithin_15 : decode c_CY_isWithin 15 = .ok (.ireturn, 1) := by decide +kernel
theorem d_CY_holds_0 : decode c_CY_holds 0 = .ok (.iload_n 0, 1) := by decide +kernel
theorem d_CY_holds_1 : decode c_CY_holds 1 = .ok (.iload_n 1, 1) := by decide +kernel
theorem d_CY_holds_2 : decode c_CY_holds 2 = .ok (.ishr, 1) := by decide +kernel
theorem d_CY_holds_3 : decode c_CY_holds 3 = .ok (.iconst 1, 1) := by decide +kernel
theorem d_CY_holds_4 : decode c_CY_holds 4 = .ok (.iand, 1) := by decide +kernel
theorem d_CY_holds_5 : decode c_CY_holds 5 = .ok (.ifCond .eq 7, 3) := by decide +kernel
theorem d_CY_holds_8 : decode c_CY_holds 8 = .ok (.iconst 1, 1) := by decide +kernel
theorem d_CY_holds_9 : decode c_CY_holds 9 = .ok (.goto 4, 3) := by decide +kernel
theorem d_CY_holds_12 : decode c_CY_holds 12 = .ok (.iconst 0, 1) := by decide +kernel
theorem d_CY_holds_13 : decode c_CY_holds 13 = .ok (.ireturn, 1) := by decide +kernel
theorem d_CY_withBit_0 : decode c_CY_withBit 0 = .ok (.iload_n 2, 1) := by decide +kernel
theorem d_CY_withBit_1 : decode c_CY_withBit 1 = .ok (.ifCond .eq 11, 3) := by decide +kernel
theorem d_CY_withBit_4 : decode c_CY_withBit 4 = .ok (.iload_n 0, 1) := by decide +kernel
theorem d_CY_withBit_5 : decode c_CY_withBit 5 = .ok (.iconst 1, 1) := by decide +kernel
theorem d_CY_withBit_6 : decode c_CY_withBit 6 = .ok (.iload_n 1, 1) := by decide +kernel
theorem d_CY_withBit_7 : decode c_CY_withBit 7 = .ok (.ishl, 1) := by decide +kernel
theorem d_CY_withBit_8 : decode c_CY_withBit 8 = .ok (.ior, 1) := by decide +kernel
theorem d_CY_withBit_9 : decode c_CY_withBit 9 = .ok (.goto 10, 3) := by decide +kernel
theorem d_CY_withBit_12 : decode c_CY_withBit 12 = .ok (.iload_n 0, 1) := by decide +kernel
theorem d_CY_withBit_13 : decode c_CY_withBit 13 = .ok (.iconst 1, 1) := by decide +kernel
theorem d_CY_withBit_14 : decode c_CY_withBit 14 = .ok (.iload_n 1, 1) := by decide +kernel
theorem d_CY_withBit_15 : decode c_CY_withBit 15 = .ok (.ishl, 1) := by decide +kernel
theorem d_CY_withBit_16 : decode c_CY_withBit 16 = .ok (.iconst (-1), 1) := by decide +kernel
theorem d_CY_withBit_17 : decode c_CY_withBit 17 = .ok (.ixor, 1) := by decide +kernel
theorem d_CY_withBit_18 : decode c_CY_withBit 18 = .ok (.iand, 1) := by decide +kernel
theorem d_CY_withBit_19 : decode c_CY_withBit 19 = .ok (.ireturn, 1) := by decide +kernel
theorem d_CY_renewParts_0 : decode c_CY_renewParts 0 = .ok (.aload_n 0, 1) := by decide +kernel
theorem d_CY_renewParts_1 : decode c_CY_renewParts 1 = .ok (.getfield 30, 3) := by decide +kernel
theorem d_CY_renewParts_4 : decode c_CY_renewParts 4 = .ok (.getfield 195, 3) := by decide +kernel
theorem d_CY_renewParts_7 : decode c_CY_renewParts 7 = .ok (.iconst 0, 1) := by decide +kernel
theorem d_CY_renewParts_8 : decode c_CY_renewParts 8 = .ok (.invokestatic 198, 3) := by decide +kernel
theorem d_CY_renewParts_11 : decode c_CY_renewParts 11 = .ok (.iconst 0, 1) := by decide +kernel
theorem d_CY_renewParts_12 : decode c_CY_renewParts 12 = .ok (.istore_n 1, 1) := by decide +kernel
theorem d_CY_renewParts_13 : decode c_CY_renewParts 13 = .ok (.iload_n 1, 1) := by decide +kernel
theorem d_CY_renewParts_14 : decode c_CY_renewParts 14 = .ok (.aload_n 0, 1) := by decide +kernel
theorem d_CY_renewParts_15 : decode c_CY_renewParts 15 = .ok (.getfield 39, 3) := by decide +kernel
theorem d_CY_renewParts_18 : decode c_CY_renewParts 18 = .ok (.getfield 112, 3) := by decide +kernel
theorem d_CY_renewParts_21 : decode c_CY_renewParts 21 = .ok (.if_icmp .ge 69, 3) := by decide +kernel
theorem d_CY_renewParts_24 : decode c_CY_renewParts 24 = .ok (.aload_n 0, 1) := by decide +kernel
theorem d_CY_renewParts_25 : decode c_CY_renewParts 25 = .ok (.getfield 39, 3) := by decide +kernel
theorem d_CY_renewParts_28 : decode c_CY_renewParts 28 = .ok (.getfield 204, 3) := by decide +kernel
theorem d_CY_renewParts_31 : decode c_CY_renewParts 31 = .ok (.iload_n 1, 1) := by decide +kernel
theorem d_CY_renewParts_32 : decode c_CY_renewParts 32 = .ok (.iaload, 1) := by decide +kernel
theorem d_CY_renewParts_33 : decode c_CY_renewParts 33 = .ok (.istore_n 2, 1) := by decide +kernel
theorem d_CY_renewParts_34 : decode c_CY_renewParts 34 = .ok (.iload_n 2, 1) := by decide +kernel
theorem d_CY_renewParts_35 : decode c_CY_renewParts 35 = .ok (.iconst (-1), 1) := by decide +kernel
theorem d_CY_renewParts_36 : decode c_CY_renewParts 36 = .ok (.if_icmp .eq 48, 3) := by decide +kernel
theorem d_CY_renewParts_39 : decode c_CY_renewParts 39 = .ok (.aload_n 0, 1) := by decide +kernel
theorem d_CY_renewParts_40 : decode c_CY_renewParts 40 = .ok (.getfield 39, 3) := by decide +kernel
theorem d_CY_renewParts_43 : decode c_CY_renewParts 43 = .ok (.getfield 139, 3) := by decide +kernel
theorem d_CY_renewParts_46 : decode c_CY_renewParts 46 = .ok (.iload_n 1, 1) := by decide +kernel
theorem d_CY_renewParts_47 : decode c_CY_renewParts 47 = .ok (.invokestatic 123, 3) := by decide +kernel
theorem d_CY_renewParts_50 : decode c_CY_renewParts 50 = .ok (.ifCond .eq 34, 3) := by decide +kernel
theorem d_CY_renewParts_53 : decode c_CY_renewParts 53 = .ok (.aload_n 0, 1) := by decide +kernel
theorem d_CY_renewParts_54 : decode c_CY_renewParts 54 = .ok (.getfield 30, 3) := by decide +kernel
theorem d_CY_renewParts_57 : decode c_CY_renewParts 57 = .ok (.getfield 195, 3) := by decide +kernel
theorem d_CY_renewParts_60 : decode c_CY_renewParts 60 = .ok (.iload_n 2, 1) := by decide +kernel
theorem d_CY_renewParts_61 : decode c_CY_renewParts 61 = .ok (.aload_n 0, 1) := by decide +kernel
theorem d_CY_renewParts_62 : decode c_CY_renewParts 62 = .ok (.getfield 30, 3) := by decide +kernel
theorem d_CY_renewParts_65 : decode c_CY_renewParts 65 = .ok (.getfield 195, 3) := by decide +kernel
theorem d_CY_renewParts_68 : decode c_CY_renewParts 68 = .ok (.iload_n 2, 1) := by decide +kernel
theorem d_CY_renewParts_69 : decode c_CY_renewParts 69 = .ok (.iaload, 1) := by decide +kernel
theorem d_CY_renewParts_70 : decode c_CY_renewParts 70 = .ok (.aload_n 0, 1) := by decide +kernel
theorem d_CY_renewParts_71 : decode c_CY_renewParts 71 = .ok (.getfield 39, 3) := by decide +kernel
theorem d_CY_renewParts_74 : decode c_CY_renewParts 74 = .ok (.getfield 207, 3) := by decide +kernel
theorem d_CY_renewParts_77 : decode c_CY_renewParts 77 = .ok (.iload_n 1, 1) := by decide +kernel
theorem d_CY_renewParts_78 : decode c_CY_renewParts 78 = .ok (.iaload, 1) := by decide +kernel
theorem d_CY_renewParts_79 : decode c_CY_renewParts 79 = .ok (.iconst 1, 1) := by decide +kernel
theorem d_CY_renewParts_80 : decode c_CY_renewParts 80 = .ok (.invokestatic 126, 3) := by decide +kernel
theorem d_CY_renewParts_83 : decode c_CY_renewParts 83 = .ok (.iastore, 1) := by decide +kernel
theorem d_CY_renewParts_84 : decode c_CY_renewParts 84 = .ok (.iinc 1 1, 3) := by decide +kernel
theorem d_CY_renewParts_87 : decode c_CY_renewParts 87 = .ok (.goto (-74), 3) := by decide +kernel
theorem d_CY_renewParts_90 : decode c_CY_renewParts 90 = .ok (.return_, 1) := by decide +kernel
theorem d_CY_reckonReserves_0 : decode c_CY_reckonReserves 0 = .ok (.aload_n 0, 1) := by decide +kernel
theorem d_CY_reckonReserves_1 : decode c_CY_reckonReserves 1 = .ok (.getfield 39, 3) := by decide +kernel
theorem d_CY_reckonReserves_4 : decode c_CY_reckonReserves 4 = .ok (.aload_n 0, 1) := by decide +kernel
theorem d_CY_reckonReserves_5 : decode c_CY_reckonReserves 5 = .ok (.getfield 39, 3) := by decide +kernel
theorem d_CY_reckonReserves_8 : decode c_CY_reckonReserves 8 = .ok (.getfield 139, 3) := by decide +kernel
theorem d_CY_reckonReserves_11 : decode c_CY_reckonReserves 11 = .ok (.invokevirtual 145, 3) := by decide +kernel
theorem d_CY_reckonReserves_14 : decode c_CY_reckonReserves 14 = .ok (.iconst 0, 1) := by decide +kernel
theorem d_CY_reckonReserves_15 : decode c_CY_reckonReserves 15 = .ok (.istore_n 1, 1) := by decide +kernel
theorem d_CY_reckonReserves_16 : decode c_CY_reckonReserves 16 = .ok (.iload_n 1, 1) := by decide +kernel
theorem d_CY_reckonReserves_17 : decode c_CY_reckonReserves 17 = .ok (.aload_n 0, 1) := by decide +kernel
theorem d_CY_reckonReserves_18 : decode c_CY_reckonReserves 18 = .ok (.getfield 21, 3) := by decide +kernel
theorem d_CY_reckonReserves_21 : decode c_CY_reckonReserves 21 = .ok (.getfield 170, 3) := by decide +kernel
theorem d_CY_reckonReserves_24 : decode c_CY_reckonReserves 24 = .ok (.if_icmp .ge 30, 3) := by decide +kernel
theorem d_CY_reckonReserves_27 : decode c_CY_reckonReserves 27 = .ok (.aload_n 0, 1) := by decide +kernel
theorem d_CY_reckonReserves_28 : decode c_CY_reckonReserves 28 = .ok (.getfield 43, 3) := by decide +kernel
theorem d_CY_reckonReserves_31 : decode c_CY_reckonReserves 31 = .ok (.iload_n 1, 1) := by decide +kernel
theorem d_CY_reckonReserves_32 : decode c_CY_reckonReserves 32 = .ok (.aload_n 0, 1) := by decide +kernel
theorem d_CY_reckonReserves_33 : decode c_CY_reckonReserves 33 = .ok (.getfield 164, 3) := by decide +kernel
theorem d_CY_reckonReserves_36 : decode c_CY_reckonReserves 36 = .ok (.aload_n 0, 1) := by decide +kernel
theorem d_CY_reckonReserves_37 : decode c_CY_reckonReserves 37 = .ok (.getfield 39, 3) := by decide +kernel
theorem d_CY_reckonReserves_40 : decode c_CY_reckonReserves 40 = .ok (.getfield 148, 3) := by decide +kernel
theorem d_CY_reckonReserves_43 : decode c_CY_reckonReserves 43 = .ok (.iload_n 1, 1) := by decide +kernel
theorem d_CY_reckonReserves_44 : decode c_CY_reckonReserves 44 = .ok (.iaload, 1) := by decide +kernel
theorem d_CY_reckonReserves_45 : decode c_CY_reckonReserves 45 = .ok (.isub, 1) := by decide +kernel
theorem d_CY_reckonReserves_46 : decode c_CY_reckonReserves 46 = .ok (.i2l, 1) := by decide +kernel
theorem d_CY_reckonReserves_47 : decode c_CY_reckonReserves 47 = .ok (.lastore, 1) := by decide +kernel
theorem d_CY_reckonReserves_48 : decode c_CY_reckonReserves 48 = .ok (.iinc 1 1, 3) := by decide +kernel
theorem d_CY_reckonReserves_51 : decode c_CY_reckonReserves 51 = .ok (.goto (-35), 3) := by decide +kernel
theorem d_CY_reckonReserves_54 : decode c_CY_reckonReserves 54 = .ok (.iconst 0, 1) := by decide +kernel
theorem d_CY_reckonReserves_55 : decode c_CY_reckonReserves 55 = .ok (.istore_n 1, 1) := by decide +kernel
theorem d_CY_reckonReserves_56 : decode c_CY_reckonReserves 56 = .ok (.iload_n 1, 1) := by decide +kernel
theorem d_CY_reckonReserves_57 : decode c_CY_reckonReserves 57 = .ok (.aload_n 0, 1) := by decide +kernel
theorem d_CY_reckonReserves_58 : decode c_CY_reckonReserves 58 = .ok (.getfield 30, 3) := by decide +kernel
theorem d_CY_reckonReserves_61 : decode c_CY_reckonReserves 61 = .ok (.getfield 67, 3) := by decide +kernel
theorem d_CY_reckonReserves_64 : decode c_CY_reckonReserves 64 = .ok (.if_icmp .ge 14, 3) := by decide +kernel
theorem d_CY_reckonReserves_67 : decode c_CY_reckonReserves 67 = .ok (.aload_n 0, 1) := by decide +kernel
theorem d_CY_reckonReserves_68 : decode c_CY_reckonReserves 68 = .ok (.iload_n 1, 1) := by decide +kernel
theorem d_CY_reckonReserves_69 : decode c_CY_reckonReserves 69 = .ok (.invokevirtual 210, 3) := by decide +kernel
theorem d_CY_reckonReserves_72 : decode c_CY_reckonReserves 72 = .ok (.iinc 1 1, 3) := by decide +kernel
theorem d_CY_reckonReserves_75 : decode c_CY_reckonReserves 75 = .ok (.goto (-19), 3) := by decide +kernel
theorem d_CY_reckonReserves_78 : decode c_CY_reckonReserves 78 = .ok (.aload_n 0, 1) := by decide +kernel
theorem d_CY_reckonReserves_79 : decode c_CY_reckonReserves 79 = .ok (.getfield 161, 3) := by decide +kernel
theorem d_CY_reckonReserves_82 : decode c_CY_reckonReserves 82 = .ok (.i2l, 1) := by decide +kernel
theorem d_CY_reckonReserves_83 : decode c_CY_reckonReserves 83 = .ok (.lstore_n 1, 1) := by decide +kernel
theorem d_CY_reckonReserves_84 : decode c_CY_reckonReserves 84 = .ok (.iconst 0, 1) := by decide +kernel
theorem d_CY_reckonReserves_85 : decode c_CY_reckonReserves 85 = .ok (.istore_n 3, 1) := by decide +kernel
theorem d_CY_reckonReserves_86 : decode c_CY_reckonReserves 86 = .ok (.iload_n 3, 1) := by decide +kernel
theorem d_CY_reckonReserves_87 : decode c_CY_reckonReserves 87 = .ok (.aload_n 0, 1) := by decide +kernel
theorem d_CY_reckonReserves_88 : decode c_CY_reckonReserves 88 = .ok (.getfield 21, 3) := by decide +kernel
theorem d_CY_reckonReserves_91 : decode c_CY_reckonReserves 91 = .ok (.getfield 170, 3) := by decide +kernel
theorem d_CY_reckonReserves_94 : decode c_CY_reckonReserves 94 = .ok (.if_icmp .ge 25, 3) := by decide +kernel
theorem d_CY_reckonReserves_97 : decode c_CY_reckonReserves 97 = .ok (.lload_n 1, 1) := by decide +kernel
theorem d_CY_reckonReserves_98 : decode c_CY_reckonReserves 98 = .ok (.aload_n 0, 1) := by decide +kernel
theorem d_CY_reckonReserves_99 : decode c_CY_reckonReserves 99 = .ok (.getfield 43, 3) := by decide +kernel
theorem d_CY_reckonReserves_102 : decode c_CY_reckonReserves 102 = .ok (.iload_n 3, 1) := by decide +kernel
theorem d_CY_reckonReserves_103 : decode c_CY_reckonReserves 103 = .ok (.laload, 1) := by decide +kernel
theorem d_CY_reckonReserves_104 : decode c_CY_reckonReserves 104 = .ok (.ladd, 1) := by decide +kernel
theorem d_CY_reckonReserves_105 : decode c_CY_reckonReserves 105 = .ok (.lstore_n 1, 1) := by decide +kernel
theorem d_CY_reckonReserves_106 : decode c_CY_reckonReserves 106 = .ok (.aload_n 0, 1) := by decide +kernel
theorem d_CY_reckonReserves_107 : decode c_CY_reckonReserves 107 = .ok (.getfield 43, 3) := by decide +kernel
theorem d_CY_reckonReserves_110 : decode c_CY_reckonReserves 110 = .ok (.iload_n 3, 1) := by decide +kernel
theorem d_CY_reckonReserves_111 : decode c_CY_reckonReserves 111 = .ok (.lload_n 1, 1) := by decide +kernel
theorem d_CY_reckonReserves_112 : decode c_CY_reckonReserves 112 = .ok (.lastore, 1) := by decide +kernel
theorem d_CY_reckonReserves_113 : decode c_CY_reckonReserves 113 = .ok (.iinc 3 1, 3) := by decide +kernel
theorem d_CY_reckonReserves_116 : decode c_CY_reckonReserves 116 = .ok (.goto (-30), 3) := by decide +kernel
theorem d_CY_reckonReserves_119 : decode c_CY_reckonReserves 119 = .ok (.return_, 1) := by decide +kernel
theorem d_CY_takeCareFromReserves_0 : decode c_CY_takeCareFromReserves 0 = .ok (.iconst 0, 1) := by decide +kernel
theorem d_CY_takeCareFromReserves_1 : decode c_CY_takeCareFromReserves 1 = .ok (.istore_n 2, 1) := by decide +kernel
theorem d_CY_takeCareFromReserves_2 : decode c_CY_takeCareFromReserves 2 = .ok (.iload_n 2, 1) := by decide +kernel
theorem d_CY_takeCareFromReserves_3 : decode c_CY_takeCareFromReserves 3 = .ok (.aload_n 0, 1) := by decide +kernel
theorem d_CY_takeCareFromReserves_4 : decode c_CY_takeCareFromReserves 4 = .ok (.getfield 21, 3) := by decide +kernel
theorem d_CY_takeCareFromReserves_7 : decode c_CY_takeCareFromReserves 7 = .ok (.getfield 170, 3) := by decide +kernel
theorem d_CY_takeCareFromReserves_10 : decode c_CY_takeCareFromReserves 10 = .ok (.if_icmp .ge 44, 3) := by decide +kernel
theorem d_CY_takeCareFromReserves_13 : decode c_CY_takeCareFromReserves 13 = .ok (.aload_n 0, 1) := by decide +kernel
theorem d_CY_takeCareFromReserves_14 : decode c_CY_takeCareFromReserves 14 = .ok (.getfield 30, 3) := by decide +kernel
theorem d_CY_takeCareFromReserves_17 : decode c_CY_takeCareFromReserves 17 = .ok (.iload_n 1, 1) := by decide +kernel
theorem d_CY_takeCareFromReserves_18 : decode c_CY_takeCareFromReserves 18 = .ok (.iload_n 2, 1) := by decide +kernel
theorem d_CY_takeCareFromReserves_19 : decode c_CY_takeCareFromReserves 19 = .ok (.invokevirtual 213, 3) := by decide +kernel
theorem d_CY_takeCareFromReserves_22 : decode c_CY_takeCareFromReserves 22 = .ok (.aload_n 0, 1) := by decide +kernel
theorem d_CY_takeCareFromReserves_23 : decode c_CY_takeCareFromReserves 23 = .ok (.getfield 43, 3) := by decide +kernel
theorem d_CY_takeCareFromReserves_26 : decode c_CY_takeCareFromReserves 26 = .ok (.iload_n 2, 1) := by decide +kernel
theorem d_CY_takeCareFromReserves_27 : decode c_CY_takeCareFromReserves 27 = .ok (.dup2, 1) := by decide +kernel
theorem d_CY_takeCareFromReserves_28 : decode c_CY_takeCareFromReserves 28 = .ok (.laload, 1) := by decide +kernel
theorem d_CY_takeCareFromReserves_29 : decode c_CY_takeCareFromReserves 29 = .ok (.aload_n 0, 1) := by decide +kernel
theorem d_CY_takeCareFromReserves_30 : decode c_CY_takeCareFromReserves 30 = .ok (.getfield 21, 3) := by decide +kernel
theorem d_CY_takeCareFromReserves_33 : decode c_CY_takeCareFromReserves 33 = .ok (.iload_n 2, 1) := by decide +kernel
theorem d_CY_takeCareFromReserves_34 : decode c_CY_takeCareFromReserves 34 = .ok (.aload_n 0, 1) := by decide +kernel
theorem d_CY_takeCareFromReserves_35 : decode c_CY_takeCareFromReserves 35 = .ok (.getfield 30, 3) := by decide +kernel
theorem d_CY_takeCareFromReserves_38 : decode c_CY_takeCareFromReserves 38 = .ok (.iload_n 1, 1) := by decide +kernel
theorem d_CY_takeCareFromReserves_39 : decode c_CY_takeCareFromReserves 39 = .ok (.invokevirtual 101, 3) := by decide +kernel
theorem d_CY_takeCareFromReserves_42 : decode c_CY_takeCareFromReserves 42 = .ok (.invokevirtual 105, 3) := by decide +kernel
theorem d_CY_takeCareFromReserves_45 : decode c_CY_takeCareFromReserves 45 = .ok (.i2l, 1) := by decide +kernel
theorem d_CY_takeCareFromReserves_46 : decode c_CY_takeCareFromReserves 46 = .ok (.lsub, 1) := by decide +kernel
theorem d_CY_takeCareFromReserves_47 : decode c_CY_takeCareFromReserves 47 = .ok (.lastore, 1) := by decide +kernel
theorem d_CY_takeCareFromReserves_48 : decode c_CY_takeCareFromReserves 48 = .ok (.iinc 2 1, 3) := by decide +kernel
theorem d_CY_takeCareFromReserves_51 : decode c_CY_takeCareFromReserves 51 = .ok (.goto (-49), 3) := by decide +kernel
theorem d_CY_takeCareFromReserves_54 : decode c_CY_takeCareFromReserves 54 = .ok (.return_, 1) := by decide +kernel
theorem d_Lo_isOne_0 : decode c_Lo_isOne 0 = .ok (.iload_n 0, 1) := by decide +kernel
theorem d_Lo_isOne_1 : decode c_Lo_isOne 1 = .ok (.iconst 1, 1) := by decide +kernel
theorem d_Lo_isOne_2 : decode c_Lo_isOne 2 = .ok (.ldc 9, 2) := by decide +kernel
theorem d_Lo_isOne_4 : decode c_Lo_isOne 4 = .ok (.invokestatic 10, 3) := by decide +kernel
theorem d_Lo_isOne_7 : decode c_Lo_isOne 7 = .ok (.ifCond .eq 28, 3) := by decide +kernel
theorem d_Lo_isOne_10 : decode c_Lo_isOne 10 = .ok (.iload_n 1, 1) := by decide +kernel
theorem d_Lo_isOne_11 : decode c_Lo_isOne 11 = .ok (.iconst 0, 1) := by decide +kernel
theorem d_Lo_isOne_12 : decode c_Lo_isOne 12 = .ok (.sipush 2000, 3) := by decide +kernel
theorem d_Lo_isOne_15 : decode c_Lo_isOne 15 = .ok (.invokestatic 10, 3) := by decide +kernel
theorem d_Lo_isOne_18 : decode c_Lo_isOne 18 = .ok (.ifCond .eq 17, 3) := by decide +kernel
theorem d_Lo_isOne_21 : decode c_Lo_isOne 21 = .ok (.iload_n 2, 1) := by decide +kernel
theorem d_Lo_isOne_22 : decode c_Lo_isOne 22 = .ok (.iconst 1, 1) := by decide +kernel
theorem d_Lo_isOne_23 : decode c_Lo_isOne 23 = .ok (.bipush 30, 2) := by decide +kernel
theorem d_Lo_isOne_25 : decode c_Lo_isOne 25 = .ok (.invokestatic 10, 3) := by decide +kernel
theorem d_Lo_isOne_28 : decode c_Lo_isOne 28 = .ok (.ifCond .eq 7, 3) := by decide +kernel
theorem d_Lo_isOne_31 : decode c_Lo_isOne 31 = .ok (.iconst 1, 1) := by decide +kernel
theorem d_Lo_isOne_32 : decode c_Lo_isOne 32 = .ok (.goto 4, 3) := by decide +kernel
theorem d_Lo_isOne_35 : decode c_Lo_isOne 35 = .ok (.iconst 0, 1) := by decide +kernel
theorem d_Lo_isOne_36 : decode c_Lo_isOne 36 = .ok (.ireturn, 1) := by decide +kernel
theorem d_Lo_restBehind_0 : decode c_Lo_restBehind 0 = .ok (.iload_n 1, 1) := by decide +kernel
theorem d_Lo_restBehind_1 : decode c_Lo_restBehind 1 = .ok (.i2l, 1) := by decide +kernel
theorem d_Lo_restBehind_2 : decode c_Lo_restBehind 2 = .ok (.lstore 5, 2) := by decide +kernel
theorem d_Lo_restBehind_4 : decode c_Lo_restBehind 4 = .ok (.iconst 0, 1) := by decide +kernel
theorem d_Lo_restBehind_5 : decode c_Lo_restBehind 5 = .ok (.istore 7, 2) := by decide +kernel
theorem d_Lo_restBehind_7 : decode c_Lo_restBehind 7 = .ok (.iload 7, 2) := by decide +kernel
theorem d_Lo_restBehind_9 : decode c_Lo_restBehind 9 = .ok (.iload_n 0, 1) := by decide +kernel
theorem d_Lo_restBehind_10 : decode c_Lo_restBehind 10 = .ok (.if_icmp .ge 39, 3) := by decide +kernel
theorem d_Lo_restBehind_13 : decode c_Lo_restBehind 13 = .ok (.lload 5, 2) := by decide +kernel
theorem d_Lo_restBehind_15 : decode c_Lo_restBehind 15 = .ok (.iload_n 2, 1) := by decide +kernel
theorem d_Lo_restBehind_16 : decode c_Lo_restBehind 16 = .ok (.i2l, 1) := by decide +kernel
theorem d_Lo_restBehind_17 : decode c_Lo_restBehind 17 = .ok (.lmul, 1) := by decide +kernel
theorem d_Lo_restBehind_18 : decode c_Lo_restBehind 18 = .ok (.ldc2_w 16, 3) := by decide +kernel
theorem d_Lo_restBehind_21 : decode c_Lo_restBehind 21 = .ok (.ladd, 1) := by decide +kernel
theorem d_Lo_restBehind_22 : decode c_Lo_restBehind 22 = .ok (.lconst 1, 1) := by decide +kernel
theorem d_Lo_restBehind_23 : decode c_Lo_restBehind 23 = .ok (.lsub, 1) := by decide +kernel
theorem d_Lo_restBehind_24 : decode c_Lo_restBehind 24 = .ok (.ldc2_w 16, 3) := by decide +kernel
theorem d_Lo_restBehind_27 : decode c_Lo_restBehind 27 = .ok (.ldiv, 1) := by decide +kernel
theorem d_Lo_restBehind_28 : decode c_Lo_restBehind 28 = .ok (.lstore 8, 2) := by decide +kernel
theorem d_Lo_restBehind_30 : decode c_Lo_restBehind 30 = .ok (.lload 5, 2) := by decide +kernel
theorem d_Lo_restBehind_32 : decode c_Lo_restBehind 32 = .ok (.lload 8, 2) := by decide +kernel
theorem d_Lo_restBehind_34 : decode c_Lo_restBehind 34 = .ok (.ladd, 1) := by decide +kernel
theorem d_Lo_restBehind_35 : decode c_Lo_restBehind 35 = .ok (.lload_n 3, 1) := by decide +kernel
theorem d_Lo_restBehind_36 : decode c_Lo_restBehind 36 = .ok (.lsub, 1) := by decide +kernel
theorem d_Lo_restBehind_37 : decode c_Lo_restBehind 37 = .ok (.lconst 0, 1) := by decide +kernel
theorem d_Lo_restBehind_38 : decode c_Lo_restBehind 38 = .ok (.invokestatic 18, 3) := by decide +kernel
theorem d_Lo_restBehind_41 : decode c_Lo_restBehind 41 = .ok (.lstore 5, 2) := by decide +kernel
theorem d_Lo_restBehind_43 : decode c_Lo_restBehind 43 = .ok (.iinc 7 1, 3) := by decide +kernel
theorem d_Lo_restBehind_46 : decode c_Lo_restBehind 46 = .ok (.goto (-39), 3) := by decide +kernel
theorem d_Lo_restBehind_49 : decode c_Lo_restBehind 49 = .ok (.lload 5, 2) := by decide +kernel
theorem d_Lo_restBehind_51 : decode c_Lo_restBehind 51 = .ok (.lreturn, 1) := by decide +kernel
theorem d_Lo_leastPayment_0 : decode c_Lo_leastPayment 0 = .ok (.lconst 0, 1) := by decide +kernel
theorem d_Lo_leastPayment_1 : decode c_Lo_leastPayment 1 = .ok (.lstore_n 3, 1) := by decide +kernel
theorem d_Lo_leastPayment_2 : decode c_Lo_leastPayment 2 = .ok (.bipush 30, 2) := by decide +kernel
theorem d_Lo_leastPayment_4 : decode c_Lo_leastPayment 4 = .ok (.istore 5, 2) := by decide +kernel
theorem d_Lo_leastPayment_6 : decode c_Lo_leastPayment 6 = .ok (.iload 5, 2) := by decide +kernel
theorem d_Lo_leastPayment_8 : decode c_Lo_leastPayment 8 = .ok (.ifCond .lt 33, 3) := by decide +kernel
theorem d_Lo_leastPayment_11 : decode c_Lo_leastPayment 11 = .ok (.lload_n 3, 1) := by decide +kernel
theorem d_Lo_leastPayment_12 : decode c_Lo_leastPayment 12 = .ok (.lconst 1, 1) := by decide +kernel
theorem d_Lo_leastPayment_13 : decode c_Lo_leastPayment 13 = .ok (.iload 5, 2) := by decide +kernel
theorem d_Lo_leastPayment_15 : decode c_Lo_leastPayment 15 = .ok (.lshl, 1) := by decide +kernel
theorem d_Lo_leastPayment_16 : decode c_Lo_leastPayment 16 = .ok (.ladd, 1) := by decide +kernel
theorem d_Lo_leastPayment_17 : decode c_Lo_leastPayment 17 = .ok (.lstore 6, 2) := by decide +kernel
theorem d_Lo_leastPayment_19 : decode c_Lo_leastPayment 19 = .ok (.iload_n 2, 1) := by decide +kernel
theorem d_Lo_leastPayment_20 : decode c_Lo_leastPayment 20 = .ok (.iload_n 0, 1) := by decide +kernel
theorem d_Lo_leastPayment_21 : decode c_Lo_leastPayment 21 = .ok (.iload_n 1, 1) := by decide +kernel
theorem d_Lo_leastPayment_22 : decode c_Lo_leastPayment 22 = .ok (.lload 6, 2) := by decide +kernel
theorem d_Lo_leastPayment_24 : decode c_Lo_leastPayment 24 = .ok (.invokestatic 24, 3) := by decide +kernel
theorem d_Lo_leastPayment_27 : decode c_Lo_leastPayment 27 = .ok (.lconst 0, 1) := by decide +kernel
theorem d_Lo_leastPayment_28 : decode c_Lo_leastPayment 28 = .ok (.lcmp, 1) := by decide +kernel
theorem d_Lo_leastPayment_29 : decode c_Lo_leastPayment 29 = .ok (.ifCond .le 6, 3) := by decide +kernel
theorem d_Lo_leastPayment_32 : decode c_Lo_leastPayment 32 = .ok (.lload 6, 2) := by decide +kernel
theorem d_Lo_leastPayment_34 : decode c_Lo_leastPayment 34 = .ok (.lstore_n 3, 1) := by decide +kernel
theorem d_Lo_leastPayment_35 : decode c_Lo_leastPayment 35 = .ok (.iinc 5 (-1), 3) := by decide +kernel
theorem d_Lo_leastPayment_38 : decode c_Lo_leastPayment 38 = .ok (.goto (-32), 3) := by decide +kernel
theorem d_Lo_leastPayment_41 : decode c_Lo_leastPayment 41 = .ok (.lload_n 3, 1) := by decide +kernel
theorem d_Lo_leastPayment_42 : decode c_Lo_leastPayment 42 = .ok (.lconst 1, 1) := by decide +kernel
theorem d_Lo_leastPayment_43 : decode c_Lo_leastPayment 43 = .ok (.ladd, 1) := by decide +kernel
theorem d_Lo_leastPayment_44 : decode c_Lo_leastPayment 44 = .ok (.l2i, 1) := by decide +kernel
theorem d_Lo_leastPayment_45 : decode c_Lo_leastPayment 45 = .ok (.ireturn, 1) := by decide +kernel
theorem d_Pa_init_0 : decode c_Pa_init 0 = .ok (.aload_n 0, 1) := by decide +kernel
theorem d_Pa_init_1 : decode c_Pa_init 1 = .ok (.invokespecial 1, 3) := by decide +kernel
theorem d_Pa_init_4 : decode c_Pa_init 4 = .ok (.aload_n 0, 1) := by decide +kernel
theorem d_Pa_init_5 : decode c_Pa_init 5 = .ok (.bipush 12, 2) := by decide +kernel
theorem d_Pa_init_7 : decode c_Pa_init 7 = .ok (.newarray .int, 2) := by decide +kernel
theorem d_Pa_init_9 : decode c_Pa_init 9 = .ok (.putfield 9, 3) := by decide +kernel
theorem d_Pa_init_12 : decode c_Pa_init 12 = .ok (.aload_n 0, 1) := by decide +kernel
theorem d_Pa_init_13 : decode c_Pa_init 13 = .ok (.bipush 12, 2) := by decide +kernel
theorem d_Pa_init_15 : decode c_Pa_init 15 = .ok (.newarray .int, 2) := by decide +kernel
theorem d_Pa_init_17 : decode c_Pa_init 17 = .ok (.putfield 13, 3) := by decide +kernel
theorem d_Pa_init_20 : decode c_Pa_init 20 = .ok (.aload_n 0, 1) := by decide +kernel
theorem d_Pa_init_21 : decode c_Pa_init 21 = .ok (.bipush 12, 2) := by decide +kernel
theorem d_Pa_init_23 : decode c_Pa_init 23 = .ok (.bipush 16, 2) := by decide +kernel
theorem d_Pa_init_25 : decode c_Pa_init 25 = .ok (.multianewarray 16 2, 4) := by decide +kernel
theorem d_Pa_init_29 : decode c_Pa_init 29 = .ok (.putfield 18, 3) := by decide +kernel
theorem d_Pa_init_32 : decode c_Pa_init 32 = .ok (.aload_n 0, 1) := by decide +kernel
theorem d_Pa_init_33 : decode c_Pa_init 33 = .ok (.bipush 12, 2) := by decide +kernel
theorem d_Pa_init_35 : decode c_Pa_init 35 = .ok (.iconst 4, 1) := by decide +kernel
theorem d_Pa_init_36 : decode c_Pa_init 36 = .ok (.multianewarray 16 2, 4) := by decide +kernel
theorem d_Pa_init_40 : decode c_Pa_init 40 = .ok (.putfield 21, 3) := by decide +kernel
theorem d_Pa_init_43 : decode c_Pa_init 43 = .ok (.aload_n 0, 1) := by decide +kernel
theorem d_Pa_init_44 : decode c_Pa_init 44 = .ok (.bipush 12, 2) := by decide +kernel
theorem d_Pa_init_46 : decode c_Pa_init 46 = .ok (.newarray .int, 2) := by decide +kernel
theorem d_Pa_init_48 : decode c_Pa_init 48 = .ok (.putfield 24, 3) := by decide +kernel
theorem d_Pa_init_51 : decode c_Pa_init 51 = .ok (.aload_n 0, 1) := by decide +kernel
theorem d_Pa_init_52 : decode c_Pa_init 52 = .ok (.iconst 4, 1) := by decide +kernel
theorem d_Pa_init_53 : decode c_Pa_init 53 = .ok (.newarray .long, 2) := by decide +kernel
theorem d_Pa_init_55 : decode c_Pa_init 55 = .ok (.putfield 27, 3) := by decide +kernel
theorem d_Pa_init_58 : decode c_Pa_init 58 = .ok (.aload_n 0, 1) := by decide +kernel
theorem d_Pa_init_59 : decode c_Pa_init 59 = .ok (.iconst 4, 1) := by decide +kernel
theorem d_Pa_init_60 : decode c_Pa_init 60 = .ok (.newarray .long, 2) := by decide +kernel
theorem d_Pa_init_62 : decode c_Pa_init 62 = .ok (.putfield 31, 3) := by decide +kernel
theorem d_Pa_init_65 : decode c_Pa_init 65 = .ok (.return_, 1) := by decide +kernel
theorem d_Pa_has_0 : decode c_Pa_has 0 = .ok (.iload_n 1, 1) := by decide +kernel
theorem d_Pa_has_1 : decode c_Pa_has 1 = .ok (.ifCond .lt 15, 3) := by decide +kernel
theorem d_Pa_has_4 : decode c_Pa_has 4 = .ok (.iload_n 1, 1) := by decide +kernel
theorem d_Pa_has_5 : decode c_Pa_has 5 = .ok (.aload_n 0, 1) := by decide +kernel
theorem d_Pa_has_6 : decode c_Pa_has 6 = .ok (.getfield 34, 3) := by decide +kernel
theorem d_Pa_has_9 : decode c_Pa_has 9 = .ok (.if_icmp .ge 7, 3) := by decide +kernel
theorem d_Pa_has_12 : decode c_Pa_has 12 = .ok (.iconst 1, 1) := by decide +kernel
theorem d_Pa_has_13 : decode c_Pa_has 13 = .ok (.goto 4, 3) := by decide +kernel
theorem d_Pa_has_16 : decode c_Pa_has 16 = .ok (.iconst 0, 1) := by decide +kernel
theorem d_Pa_has_17 : decode c_Pa_has 17 = .ok (.ireturn, 1) := by decide +kernel
theorem d_Pa_hasState_0 : decode c_Pa_hasState 0 = .ok (.aload_n 0, 1) := by decide +kernel
theorem d_Pa_hasState_1 : decode c_Pa_hasState 1 = .ok (.iload_n 1, 1) := by decide +kernel
theorem d_Pa_hasState_2 : decode c_Pa_hasState 2 = .ok (.invokevirtual 38, 3) := by decide +kernel
theorem d_Pa_hasState_5 : decode c_Pa_hasState 5 = .ok (.ifCond .eq 21, 3) := by decide +kernel
theorem d_Pa_hasState_8 : decode c_Pa_hasState 8 = .ok (.iload_n 2, 1) := by decide +kernel
theorem d_Pa_hasState_9 : decode c_Pa_hasState 9 = .ok (.ifCond .lt 17, 3) := by decide +kernel
theorem d_Pa_hasState_12 : decode c_Pa_hasState 12 = .ok (.iload_n 2, 1) := by decide +kernel
theorem d_Pa_hasState_13 : decode c_Pa_hasState 13 = .ok (.aload_n 0, 1) := by decide +kernel
theorem d_Pa_hasState_14 : decode c_Pa_hasState 14 = .ok (.getfield 9, 3) := by decide +kernel
theorem d_Pa_hasState_17 : decode c_Pa_hasState 17 = .ok (.iload_n 1, 1) := by decide +kernel
theorem d_Pa_hasState_18 : decode c_Pa_hasState 18 = .ok (.iaload, 1) := by decide +kernel
theorem d_Pa_hasState_19 : decode c_Pa_hasState 19 = .ok (.if_icmp .ge 7, 3) := by decide +kernel
theorem d_Pa_hasState_22 : decode c_Pa_hasState 22 = .ok (.iconst 1, 1) := by decide +kernel
theorem d_Pa_hasState_23 : decode c_Pa_hasState 23 = .ok (.goto 4, 3) := by decide +kernel
theorem d_Pa_hasState_26 : decode c_Pa_hasState 26 = .ok (.iconst 0, 1) := by decide +kernel
theorem d_Pa_hasState_27 : decode c_Pa_hasState 27 = .ok (.ireturn, 1) := by decide +kernel
theorem d_Pa_add_0 : decode c_Pa_add 0 = .ok (.aload_n 0, 1) := by decide +kernel
theorem d_Pa_add_1 : decode c_Pa_add 1 = .ok (.getfield 34, 3) := by decide +kernel
theorem d_Pa_add_4 : decode c_Pa_add 4 = .ok (.istore_n 3, 1) := by decide +kernel
theorem d_Pa_add_5 : decode c_Pa_add 5 = .ok (.aload_n 0, 1) := by decide +kernel
theorem d_Pa_add_6 : decode c_Pa_add 6 = .ok (.dup, 1) := by decide +kernel
theorem d_Pa_add_7 : decode c_Pa_add 7 = .ok (.getfield 34, 3) := by decide +kernel
theorem d_Pa_add_10 : decode c_Pa_add 10 = .ok (.iconst 1, 1) := by decide +kernel
theorem d_Pa_add_11 : decode c_Pa_add 11 = .ok (.iadd, 1) := by decide +kernel
theorem d_Pa_add_12 : decode c_Pa_add 12 = .ok (.putfield 34, 3) := by decide +kernel
theorem d_Pa_add_15 : decode c_Pa_add 15 = .ok (.aload_n 0, 1) := by decide +kernel
theorem d_Pa_add_16 : decode c_Pa_add 16 = .ok (.getfield 9, 3) := by decide +kernel
theorem d_Pa_add_19 : decode c_Pa_add 19 = .ok (.iload_n 3, 1) := by decide +kernel
theorem d_Pa_add_20 : decode c_Pa_add 20 = .ok (.iload_n 1, 1) := by decide +kernel
theorem d_Pa_add_21 : decode c_Pa_add 21 = .ok (.iastore, 1) := by decide +kernel
theorem d_Pa_add_22 : decode c_Pa_add 22 = .ok (.aload_n 0, 1) := by decide +kernel
theorem d_Pa_add_23 : decode c_Pa_add 23 = .ok (.getfield 13, 3) := by decide +kernel
theorem d_Pa_add_26 : decode c_Pa_add 26 = .ok (.iload_n 3, 1) := by decide +kernel
theorem d_Pa_add_27 : decode c_Pa_add 27 = .ok (.iload_n 2, 1) := by decide +kernel
theorem d_Pa_add_28 : decode c_Pa_add 28 = .ok (.iastore, 1) := by decide +kernel
theorem d_Pa_add_29 : decode c_Pa_add 29 = .ok (.iconst 0, 1) := by decide +kernel
theorem d_Pa_add_30 : decode c_Pa_add 30 = .ok (.istore 4, 2) := by decide +kernel
theorem d_Pa_add_32 : decode c_Pa_add 32 = .ok (.iload 4, 2) := by decide +kernel
theorem d_Pa_add_34 : decode c_Pa_add 34 = .ok (.iload_n 1, 1) := by decide +kernel
theorem d_Pa_add_35 : decode c_Pa_add 35 = .ok (.if_icmp .ge 20, 3) := by decide +kernel
theorem d_Pa_add_38 : decode c_Pa_add 38 = .ok (.aload_n 0, 1) := by decide +kernel
theorem d_Pa_add_39 : decode c_Pa_add 39 = .ok (.iload_n 3, 1) := by decide +kernel
theorem d_Pa_add_40 : decode c_Pa_add 40 = .ok (.iload 4, 2) := by decide +kernel
theorem d_Pa_add_42 : decode c_Pa_add 42 = .ok (.iload 4, 2) := by decide +kernel
theorem d_Pa_add_44 : decode c_Pa_add 44 = .ok (.bipush 16, 2) := by decide +kernel
theorem d_Pa_add_46 : decode c_Pa_add 46 = .ok (.invokevirtual 42, 3) := by decide +kernel
theorem d_Pa_add_49 : decode c_Pa_add 49 = .ok (.iinc 4 1, 3) := by decide +kernel
theorem d_Pa_add_52 : decode c_Pa_add 52 = .ok (.goto (-20), 3) := by decide +kernel
theorem d_Pa_add_55 : decode c_Pa_add 55 = .ok (.iload_n 3, 1) := by decide +kernel
theorem d_Pa_add_56 : decode c_Pa_add 56 = .ok (.ireturn, 1) := by decide +kernel
theorem d_Pa_going_0 : decode c_Pa_going 0 = .ok (.aload_n 0, 1) := by decide +kernel
theorem d_Pa_going_1 : decode c_Pa_going 1 = .ok (.getfield 18, 3) := by decide +kernel
theorem d_Pa_going_4 : decode c_Pa_going 4 = .ok (.iload_n 1, 1) := by decide +kernel
theorem d_Pa_going_5 : decode c_Pa_going 5 = .ok (.aaload, 1) := by decide +kernel
theorem d_Pa_going_6 : decode c_Pa_going 6 = .ok (.iload_n 2, 1) := by decide +kernel
theorem d_Pa_going_7 : decode c_Pa_going 7 = .ok (.iconst 4, 1) := by decide +kernel
theorem d_Pa_going_8 : decode c_Pa_going 8 = .ok (.imul, 1) := by decide +kernel
theorem d_Pa_going_9 : decode c_Pa_going 9 = .ok (.iload_n 3, 1) := by decide +kernel
theorem d_Pa_going_10 : decode c_Pa_going 10 = .ok (.iadd, 1) := by decide +kernel
theorem d_Pa_going_11 : decode c_Pa_going 11 = .ok (.iaload, 1) := by decide +kernel
theorem d_Pa_going_12 : decode c_Pa_going 12 = .ok (.ireturn, 1) := by decide +kernel
theorem d_Pa_setGoing_0 : decode c_Pa_setGoing 0 = .ok (.aload_n 0, 1) := by decide +kernel
theorem d_Pa_setGoing_1 : decode c_Pa_setGoing 1 = .ok (.getfield 18, 3) := by decide +kernel
theorem d_Pa_setGoing_4 : decode c_Pa_setGoing 4 = .ok (.iload_n 1, 1) := by decide +kernel
theorem d_Pa_setGoing_5 : decode c_Pa_setGoing 5 = .ok (.aaload, 1) := by decide +kernel
theorem d_Pa_setGoing_6 : decode c_Pa_setGoing 6 = .ok (.iload_n 2, 1) := by decide +kernel
theorem d_Pa_setGoing_7 : decode c_Pa_setGoing 7 = .ok (.iconst 4, 1) := by decide +kernel
theorem d_Pa_setGoing_8 : decode c_Pa_setGoing 8 = .ok (.imul, 1) := by decide +kernel
theorem d_Pa_setGoing_9 : decode c_Pa_setGoing 9 = .ok (.iload_n 3, 1) := by decide +kernel
theorem d_Pa_setGoing_10 : decode c_Pa_setGoing 10 = .ok (.iadd, 1) := by decide +kernel
theorem d_Pa_setGoing_11 : decode c_Pa_setGoing 11 = .ok (.iload 4, 2) := by decide +kernel
theorem d_Pa_setGoing_13 : decode c_Pa_setGoing 13 = .ok (.iastore, 1) := by decide +kernel
theorem d_Pa_setGoing_14 : decode c_Pa_setGoing 14 = .ok (.return_, 1) := by decide +kernel
theorem d_Pa_goTo_0 : decode c_Pa_goTo 0 = .ok (.iconst 0, 1) := by decide +kernel
theorem d_Pa_goTo_1 : decode c_Pa_goTo 1 = .ok (.istore_n 3, 1) := by decide +kernel
theorem d_Pa_goTo_2 : decode c_Pa_goTo 2 = .ok (.iload_n 3, 1) := by decide +kernel
theorem d_Pa_goTo_3 : decode c_Pa_goTo 3 = .ok (.iload_n 2, 1) := by decide +kernel
theorem d_Pa_goTo_4 : decode c_Pa_goTo 4 = .ok (.if_icmp .gt 15, 3) := by decide +kernel
theorem d_Pa_goTo_7 : decode c_Pa_goTo 7 = .ok (.aload_n 0, 1) := by decide +kernel
theorem d_Pa_goTo_8 : decode c_Pa_goTo 8 = .ok (.iload_n 1, 1) := by decide +kernel
theorem d_Pa_goTo_9 : decode c_Pa_goTo 9 = .ok (.iload_n 3, 1) := by decide +kernel
theorem d_Pa_goTo_10 : decode c_Pa_goTo 10 = .ok (.invokevirtual 46, 3) := by decide +kernel
theorem d_Pa_goTo_13 : decode c_Pa_goTo 13 = .ok (.iinc 3 1, 3) := by decide +kernel
theorem d_Pa_goTo_16 : decode c_Pa_goTo 16 = .ok (.goto (-14), 3) := by decide +kernel
theorem d_Pa_goTo_19 : decode c_Pa_goTo 19 = .ok (.return_, 1) := by decide +kernel
theorem d_Pa_enter_0 : decode c_Pa_enter 0 = .ok (.iload_n 2, 1) := by decide +kernel
theorem d_Pa_enter_1 : decode c_Pa_enter 1 = .ok (.ifCond .eq 16, 3) := by decide +kernel
theorem d_Pa_enter_4 : decode c_Pa_enter 4 = .ok (.aload_n 0, 1) := by decide +kernel
theorem d_Pa_enter_5 : decode c_Pa_enter 5 = .ok (.getfield 24, 3) := by decide +kernel
theorem d_Pa_enter_8 : decode c_Pa_enter 8 = .ok (.iload_n 1, 1) := by decide +kernel
theorem d_Pa_enter_9 : decode c_Pa_enter 9 = .ok (.iaload, 1) := by decide +kernel
theorem d_Pa_enter_10 : decode c_Pa_enter 10 = .ok (.iload_n 2, 1) := by decide +kernel
theorem d_Pa_enter_11 : decode c_Pa_enter 11 = .ok (.invokestatic 50, 3) := by decide +kernel
theorem d_Pa_enter_14 : decode c_Pa_enter 14 = .ok (.ifCond .eq 11, 3) := by decide +kernel
theorem d_Pa_enter_17 : decode c_Pa_enter 17 = .ok (.aload_n 0, 1) := by decide +kernel
theorem d_Pa_enter_18 : decode c_Pa_enter 18 = .ok (.iload_n 1, 1) := by decide +kernel
theorem d_Pa_enter_19 : decode c_Pa_enter 19 = .ok (.invokevirtual 56, 3) := by decide +kernel
theorem d_Pa_enter_22 : decode c_Pa_enter 22 = .ok (.goto 8, 3) := by decide +kernel
theorem d_Pa_enter_25 : decode c_Pa_enter 25 = .ok (.aload_n 0, 1) := by decide +kernel
theorem d_Pa_enter_26 : decode c_Pa_enter 26 = .ok (.iload_n 1, 1) := by decide +kernel
theorem d_Pa_enter_27 : decode c_Pa_enter 27 = .ok (.invokevirtual 60, 3) := by decide +kernel
theorem d_Pa_enter_30 : decode c_Pa_enter 30 = .ok (.return_, 1) := by decide +kernel
theorem d_Pa_begin_0 : decode c_Pa_begin 0 = .ok (.aload_n 0, 1) := by decide +kernel
theorem d_Pa_begin_1 : decode c_Pa_begin 1 = .ok (.getfield 27, 3) := by decide +kernel
theorem d_Pa_begin_4 : decode c_Pa_begin 4 = .ok (.lconst 0, 1) := by decide +kernel
theorem d_Pa_begin_5 : decode c_Pa_begin 5 = .ok (.invokestatic 63, 3) := by decide +kernel
theorem d_Pa_begin_8 : decode c_Pa_begin 8 = .ok (.aload_n 0, 1) := by decide +kernel
theorem d_Pa_begin_9 : decode c_Pa_begin 9 = .ok (.getfield 27, 3) := by decide +kernel
theorem d_Pa_begin_12 : decode c_Pa_begin 12 = .ok (.aload_n 0, 1) := by decide +kernel
theorem d_Pa_begin_13 : decode c_Pa_begin 13 = .ok (.getfield 13, 3) := by decide +kernel
theorem d_Pa_begin_16 : decode c_Pa_begin 16 = .ok (.iload_n 1, 1) := by decide +kernel
theorem d_Pa_begin_17 : decode c_Pa_begin 17 = .ok (.iaload, 1) := by decide +kernel
theorem d_Pa_begin_18 : decode c_Pa_begin 18 = .ok (.lconst 1, 1) := by decide +kernel
theorem d_Pa_begin_19 : decode c_Pa_begin 19 = .ok (.lastore, 1) := by decide +kernel
theorem d_Pa_begin_20 : decode c_Pa_begin 20 = .ok (.aload_n 0, 1) := by decide +kernel
theorem d_Pa_begin_21 : decode c_Pa_begin 21 = .ok (.iconst 0, 1) := by decide +kernel
theorem d_Pa_begin_22 : decode c_Pa_begin 22 = .ok (.putfield 69, 3) := by decide +kernel
theorem d_Pa_begin_25 : decode c_Pa_begin 25 = .ok (.return_, 1) := by decide +kernel
theorem d_Pa_wear_0 : decode c_Pa_wear 0 = .ok (.iconst 0, 1) := by decide +kernel
theorem d_Pa_wear_1 : decode c_Pa_wear 1 = .ok (.istore_n 2, 1) := by decide +kernel
theorem d_Pa_wear_2 : decode c_Pa_wear 2 = .ok (.iload_n 2, 1) := by decide +kernel
theorem d_Pa_wear_3 : decode c_Pa_wear 3 = .ok (.aload_n 0, 1) := by decide +kernel
theorem d_Pa_wear_4 : decode c_Pa_wear 4 = .ok (.getfield 9, 3) := by decide +kernel
theorem d_Pa_wear_7 : decode c_Pa_wear 7 = .ok (.iload_n 1, 1) := by decide +kernel
theorem d_Pa_wear_8 : decode c_Pa_wear 8 = .ok (.iaload, 1) := by decide +kernel
theorem d_Pa_wear_9 : decode c_Pa_wear 9 = .ok (.if_icmp .ge 58, 3) := by decide +kernel
theorem d_Pa_wear_12 : decode c_Pa_wear 12 = .ok (.lconst 0, 1) := by decide +kernel
theorem d_Pa_wear_13 : decode c_Pa_wear 13 = .ok (.lstore_n 3, 1) := by decide +kernel
theorem d_Pa_wear_14 : decode c_Pa_wear 14 = .ok (.iconst 0, 1) := by decide +kernel
theorem d_Pa_wear_15 : decode c_Pa_wear 15 = .ok (.istore 5, 2) := by decide +kernel
theorem d_Pa_wear_17 : decode c_Pa_wear 17 = .ok (.iload 5, 2) := by decide +kernel
theorem d_Pa_wear_19 : decode c_Pa_wear 19 = .ok (.aload_n 0, 1) := by decide +kernel
theorem d_Pa_wear_20 : decode c_Pa_wear 20 = .ok (.getfield 9, 3) := by decide +kernel
theorem d_Pa_wear_23 : decode c_Pa_wear 23 = .ok (.iload_n 1, 1) := by decide +kernel
theorem d_Pa_wear_24 : decode c_Pa_wear 24 = .ok (.iaload, 1) := by decide +kernel
theorem d_Pa_wear_25 : decode c_Pa_wear 25 = .ok (.if_icmp .ge 29, 3) := by decide +kernel
theorem d_Pa_wear_28 : decode c_Pa_wear 28 = .ok (.lload_n 3, 1) := by decide +kernel
theorem d_Pa_wear_29 : decode c_Pa_wear 29 = .ok (.aload_n 0, 1) := by decide +kernel
theorem d_Pa_wear_30 : decode c_Pa_wear 30 = .ok (.getfield 27, 3) := by decide +kernel
theorem d_Pa_wear_33 : decode c_Pa_wear 33 = .ok (.iload 5, 2) := by decide +kernel
theorem d_Pa_wear_35 : decode c_Pa_wear 35 = .ok (.laload, 1) := by decide +kernel
theorem d_Pa_wear_36 : decode c_Pa_wear 36 = .ok (.aload_n 0, 1) := by decide +kernel
theorem d_Pa_wear_37 : decode c_Pa_wear 37 = .ok (.iload_n 1, 1) := by decide +kernel
theorem d_Pa_wear_38 : decode c_Pa_wear 38 = .ok (.iload 5, 2) := by decide +kernel
theorem d_Pa_wear_40 : decode c_Pa_wear 40 = .ok (.iload_n 2, 1) := by decide +kernel
theorem d_Pa_wear_41 : decode c_Pa_wear 41 = .ok (.invokevirtual 72, 3) := by decide +kernel
theorem d_Pa_wear_44 : decode c_Pa_wear 44 = .ok (.i2l, 1) := by decide +kernel
theorem d_Pa_wear_45 : decode c_Pa_wear 45 = .ok (.lmul, 1) := by decide +kernel
theorem d_Pa_wear_46 : decode c_Pa_wear 46 = .ok (.ladd, 1) := by decide +kernel
theorem d_Pa_wear_47 : decode c_Pa_wear 47 = .ok (.lstore_n 3, 1) := by decide +kernel
theorem d_Pa_wear_48 : decode c_Pa_wear 48 = .ok (.iinc 5 1, 3) := by decide +kernel
theorem d_Pa_wear_51 : decode c_Pa_wear 51 = .ok (.goto (-34), 3) := by decide +kernel
theorem d_Pa_wear_54 : decode c_Pa_wear 54 = .ok (.aload_n 0, 1) := by decide +kernel
theorem d_Pa_wear_55 : decode c_Pa_wear 55 = .ok (.getfield 31, 3) := by decide +kernel
theorem d_Pa_wear_58 : decode c_Pa_wear 58 = .ok (.iload_n 2, 1) := by decide +kernel
theorem d_Pa_wear_59 : decode c_Pa_wear 59 = .ok (.lload_n 3, 1) := by decide +kernel
theorem d_Pa_wear_60 : decode c_Pa_wear 60 = .ok (.lastore, 1) := by decide +kernel
theorem d_Pa_wear_61 : decode c_Pa_wear 61 = .ok (.iinc 2 1, 3) := by decide +kernel
theorem d_Pa_wear_64 : decode c_Pa_wear 64 = .ok (.goto (-62), 3) := by decide +kernel
theorem d_Pa_wear_67 : decode c_Pa_wear 67 = .ok (.aload_n 0, 1) := by decide +kernel
theorem d_Pa_wear_68 : decode c_Pa_wear 68 = .ok (.getfield 31, 3) := by decide +kernel
theorem d_Pa_wear_71 : decode c_Pa_wear 71 = .ok (.iconst 0, 1) := by decide +kernel
theorem d_Pa_wear_72 : decode c_Pa_wear 72 = .ok (.aload_n 0, 1) := by decide +kernel
theorem d_Pa_wear_73 : decode c_Pa_wear 73 = .ok (.getfield 27, 3) := by decide +kernel
theorem d_Pa_wear_76 : decode c_Pa_wear 76 = .ok (.iconst 0, 1) := by decide +kernel
theorem d_Pa_wear_77 : decode c_Pa_wear 77 = .ok (.aload_n 0, 1) := by decide +kernel
theorem d_Pa_wear_78 : decode c_Pa_wear 78 = .ok (.getfield 9, 3) := by decide +kernel
theorem d_Pa_wear_81 : decode c_Pa_wear 81 = .ok (.iload_n 1, 1) := by decide +kernel
theorem d_Pa_wear_82 : decode c_Pa_wear 82 = .ok (.iaload, 1) := by decide +kernel
theorem d_Pa_wear_83 : decode c_Pa_wear 83 = .ok (.invokestatic 76, 3) := by decide +kernel
theorem d_Pa_wear_86 : decode c_Pa_wear 86 = .ok (.aload_n 0, 1) := by decide +kernel
theorem d_Pa_wear_87 : decode c_Pa_wear 87 = .ok (.dup, 1) := by decide +kernel
theorem d_Pa_wear_88 : decode c_Pa_wear 88 = .ok (.getfield 69, 3) := by decide +kernel
theorem d_Pa_wear_91 : decode c_Pa_wear 91 = .ok (.iconst 1, 1) := by decide +kernel
theorem d_Pa_wear_92 : decode c_Pa_wear 92 = .ok (.iadd, 1) := by decide +kernel
theorem d_Pa_wear_93 : decode c_Pa_wear 93 = .ok (.putfield 69, 3) := by decide +kernel
theorem d_Pa_wear_96 : decode c_Pa_wear 96 = .ok (.return_, 1) := by decide +kernel
theorem d_Pa_careTaken_0 : decode c_Pa_careTaken 0 = .ok (.lconst 0, 1) := by decide +kernel
theorem d_Pa_careTaken_1 : decode c_Pa_careTaken 1 = .ok (.lstore_n 2, 1) := by decide +kernel
theorem d_Pa_careTaken_2 : decode c_Pa_careTaken 2 = .ok (.iconst 0, 1) := by decide +kernel
theorem d_Pa_careTaken_3 : decode c_Pa_careTaken 3 = .ok (.istore 4, 2) := by decide +kernel
theorem d_Pa_careTaken_5 : decode c_Pa_careTaken 5 = .ok (.iload 4, 2) := by decide +kernel
theorem d_Pa_careTaken_7 : decode c_Pa_careTaken 7 = .ok (.aload_n 0, 1) := by decide +kernel
theorem d_Pa_careTaken_8 : decode c_Pa_careTaken 8 = .ok (.getfield 9, 3) := by decide +kernel
theorem d_Pa_careTaken_11 : decode c_Pa_careTaken 11 = .ok (.iload_n 1, 1) := by decide +kernel
theorem d_Pa_careTaken_12 : decode c_Pa_careTaken 12 = .ok (.iaload, 1) := by decide +kernel
theorem d_Pa_careTaken_13 : decode c_Pa_careTaken 13 = .ok (.if_icmp .ge 30, 3) := by decide +kernel
theorem d_Pa_careTaken_16 : decode c_Pa_careTaken 16 = .ok (.lload_n 2, 1) := by decide +kernel
theorem d_Pa_careTaken_17 : decode c_Pa_careTaken 17 = .ok (.aload_n 0, 1) := by decide +kernel
theorem d_Pa_careTaken_18 : decode c_Pa_careTaken 18 = .ok (.getfield 27, 3) := by decide +kernel
theorem d_Pa_careTaken_21 : decode c_Pa_careTaken 21 = .ok (.iload 4, 2) := by decide +kernel
theorem d_Pa_careTaken_23 : decode c_Pa_careTaken 23 = .ok (.laload, 1) := by decide +kernel
theorem d_Pa_careTaken_24 : decode c_Pa_careTaken 24 = .ok (.aload_n 0, 1) := by decide +kernel
theorem d_Pa_careTaken_25 : decode c_Pa_careTaken 25 = .ok (.getfield 21, 3) := by decide +kernel
theorem d_Pa_careTaken_28 : decode c_Pa_careTaken 28 = .ok (.iload_n 1, 1) := by decide +kernel
theorem d_Pa_careTaken_29 : decode c_Pa_careTaken 29 = .ok (.aaload, 1) := by decide +kernel
theorem d_Pa_careTaken_30 : decode c_Pa_careTaken 30 = .ok (.iload 4, 2) := by decide +kernel
theorem d_Pa_careTaken_32 : decode c_Pa_careTaken 32 = .ok (.iaload, 1) := by decide +kernel
theorem d_Pa_careTaken_33 : decode c_Pa_careTaken 33 = .ok (.i2l, 1) := by decide +kernel
theorem d_Pa_careTaken_34 : decode c_Pa_careTaken 34 = .ok (.lmul, 1) := by decide +kernel
theorem d_Pa_careTaken_35 : decode c_Pa_careTaken 35 = .ok (.ladd, 1) := by decide +kernel
theorem d_Pa_careTaken_36 : decode c_Pa_careTaken 36 = .ok (.lstore_n 2, 1) := by decide +kernel
theorem d_Pa_careTaken_37 : decode c_Pa_careTaken 37 = .ok (.iinc 4 1, 3) := by decide +kernel
theorem d_Pa_careTaken_40 : decode c_Pa_careTaken 40 = .ok (.goto (-35), 3) := by decide +kernel
theorem d_Pa_careTaken_43 : decode c_Pa_careTaken 43 = .ok (.lload_n 2, 1) := by decide +kernel
theorem d_Pa_careTaken_44 : decode c_Pa_careTaken 44 = .ok (.aload_n 0, 1) := by decide +kernel
theorem d_Pa_careTaken_45 : decode c_Pa_careTaken 45 = .ok (.getfield 69, 3) := by decide +kernel
theorem d_Pa_careTaken_48 : decode c_Pa_careTaken 48 = .ok (.iconst 4, 1) := by decide +kernel
theorem d_Pa_careTaken_49 : decode c_Pa_careTaken 49 = .ok (.imul, 1) := by decide +kernel
theorem d_Pa_careTaken_50 : decode c_Pa_careTaken 50 = .ok (.lshr, 1) := by decide +kernel
theorem d_Pa_careTaken_51 : decode c_Pa_careTaken 51 = .ok (.l2i, 1) := by decide +kernel
theorem d_Pa_careTaken_52 : decode c_Pa_careTaken 52 = .ok (.ireturn, 1) := by decide +kernel
theorem d_Pa_greatestState_0 : decode c_Pa_greatestState 0 = .ok (.iconst 0, 1) := by decide +kernel
theorem d_Pa_greatestState_1 : decode c_Pa_greatestState 1 = .ok (.istore_n 2, 1) := by decide +kernel
theorem d_Pa_greatestState_2 : decode c_Pa_greatestState 2 = .ok (.iconst 1, 1) := by decide +kernel
theorem d_Pa_greatestState_3 : decode c_Pa_greatestState 3 = .ok (.istore_n 3, 1) := by decide +kernel
theorem d_Pa_greatestState_4 : decode c_Pa_greatestState 4 = .ok (.iload_n 3, 1) := by decide +kernel
theorem d_Pa_greatestState_5 : decode c_Pa_greatestState 5 = .ok (.aload_n 0, 1) := by decide +kernel
theorem d_Pa_greatestState_6 : decode c_Pa_greatestState 6 = .ok (.getfield 9, 3) := by decide +kernel
theorem d_Pa_greatestState_9 : decode c_Pa_greatestState 9 = .ok (.iload_n 1, 1) := by decide +kernel
theorem d_Pa_greatestState_10 : decode c_Pa_greatestState 10 = .ok (.iaload, 1) := by decide +kernel
theorem d_Pa_greatestState_11 : decode c_Pa_greatestState 11 = .ok (.if_icmp .ge 27, 3) := by decide +kernel
theorem d_Pa_greatestState_14 : decode c_Pa_greatestState 14 = .ok (.aload_n 0, 1) := by decide +kernel
theorem d_Pa_greatestState_15 : decode c_Pa_greatestState 15 = .ok (.getfield 27, 3) := by decide +kernel
theorem d_Pa_greatestState_18 : decode c_Pa_greatestState 18 = .ok (.iload_n 3, 1) := by decide +kernel
theorem d_Pa_greatestState_19 : decode c_Pa_greatestState 19 = .ok (.laload, 1) := by decide +kernel
theorem d_Pa_greatestState_20 : decode c_Pa_greatestState 20 = .ok (.aload_n 0, 1) := by decide +kernel
theorem d_Pa_greatestState_21 : decode c_Pa_greatestState 21 = .ok (.getfield 27, 3) := by decide +kernel
theorem d_Pa_greatestState_24 : decode c_Pa_greatestState 24 = .ok (.iload_n 2, 1) := by decide +kernel
theorem d_Pa_greatestState_25 : decode c_Pa_greatestState 25 = .ok (.laload, 1) := by decide +kernel
theorem d_Pa_greatestState_26 : decode c_Pa_greatestState 26 = .ok (.lcmp, 1) := by decide +kernel
theorem d_Pa_greatestState_27 : decode c_Pa_greatestState 27 = .ok (.ifCond .lt 5, 3) := by decide +kernel
theorem d_Pa_greatestState_30 : decode c_Pa_greatestState 30 = .ok (.iload_n 3, 1) := by decide +kernel
theorem d_Pa_greatestState_31 : decode c_Pa_greatestState 31 = .ok (.istore_n 2, 1) := by decide +kernel
theorem d_Pa_greatestState_32 : decode c_Pa_greatestState 32 = .ok (.iinc 3 1, 3) := by decide +kernel
theorem d_Pa_greatestState_35 : decode c_Pa_greatestState 35 = .ok (.goto (-31), 3) := by decide +kernel
theorem d_Pa_greatestState_38 : decode c_Pa_greatestState 38 = .ok (.iload_n 2, 1) := by decide +kernel
theorem d_Pa_greatestState_39 : decode c_Pa_greatestState 39 = .ok (.ireturn, 1) := by decide +kernel
theorem d_Wo_init_0 : decode c_Wo_init 0 = .ok (.aload_n 0, 1) := by decide +kernel
theorem d_Wo_init_1 : decode c_Wo_init 1 = .ok (.invokespecial 3, 3) := by decide +kernel
theorem d_Wo_init_4 : decode c_Wo_init 4 = .ok (.aload_n 0, 1) := by decide +kernel
theorem d_Wo_init_5 : decode c_Wo_init 5 = .ok (.bipush 10, 2) := by decide +kernel
theorem d_Wo_init_7 : decode c_Wo_init 7 = .ok (.newarray .int, 2) := by decide +kernel
theorem d_Wo_init_9 : decode c_Wo_init 9 = .ok (.putfield 11, 3) := by decide +kernel
theorem d_Wo_init_12 : decode c_Wo_init 12 = .ok (.aload_n 0, 1) := by decide +kernel
theorem d_Wo_init_13 : decode c_Wo_init 13 = .ok (.bipush 10, 2) := by decide +kernel
theorem d_Wo_init_15 : decode c_Wo_init 15 = .ok (.newarray .int, 2) := by decide +kernel
theorem d_Wo_init_17 : decode c_Wo_init 17 = .ok (.putfield 15, 3) := by decide +kernel
theorem d_Wo_init_20 : decode c_Wo_init 20 = .ok (.aload_n 0, 1) := by decide +kernel
theorem d_Wo_init_21 : decode c_Wo_init 21 = .ok (.bipush 10, 2) := by decide +kernel
theorem d_Wo_init_23 : decode c_Wo_init 23 = .ok (.newarray .int, 2) := by decide +kernel
theorem d_Wo_init_25 : decode c_Wo_init 25 = .ok (.putfield 18, 3) := by decide +kernel
theorem d_Wo_init_28 : decode c_Wo_init 28 = .ok (.aload_n 0, 1) := by decide +kernel
theorem d_Wo_init_29 : decode c_Wo_init 29 = .ok (.bipush 10, 2) := by decide +kernel
theorem d_Wo_init_31 : decode c_Wo_init 31 = .ok (.newarray .int, 2) := by decide +kernel
theorem d_Wo_init_33 : decode c_Wo_init 33 = .ok (.putfield 21, 3) := by decide +kernel
theorem d_Wo_init_36 : decode c_Wo_init 36 = .ok (.aload_n 0, 1) := by decide +kernel
theorem d_Wo_init_37 : decode c_Wo_init 37 = .ok (.bipush 10, 2) := by decide +kernel
theorem d_Wo_init_39 : decode c_Wo_init 39 = .ok (.newarray .int, 2) := by decide +kernel
theorem d_Wo_init_41 : decode c_Wo_init 41 = .ok (.putfield 24, 3) := by decide +kernel
theorem d_Wo_init_44 : decode c_Wo_init 44 = .ok (.aload_n 0, 1) := by decide +kernel
theorem d_Wo_init_45 : decode c_Wo_init 45 = .ok (.bipush 10, 2) := by decide +kernel
theorem d_Wo_init_47 : decode c_Wo_init 47 = .ok (.newarray .int, 2) := by decide +kernel
theorem d_Wo_init_49 : decode c_Wo_init 49 = .ok (.putfield 27, 3) := by decide +kernel
theorem d_Wo_init_52 : decode c_Wo_init 52 = .ok (.aload_n 0, 1) := by decide +kernel
theorem d_Wo_init_53 : decode c_Wo_init 53 = .ok (.bipush 10, 2) := by decide +kernel
theorem d_Wo_init_55 : decode c_Wo_init 55 = .ok (.bipush 10, 2) := by decide +kernel
theorem d_Wo_init_57 : decode c_Wo_init 57 = .ok (.multianewarray 30 2, 4) := by decide +kernel
theorem d_Wo_init_61 : decode c_Wo_init 61 = .ok (.putfield 32, 3) := by decide +kernel
theorem d_Wo_init_64 : decode c_Wo_init 64 = .ok (.aload_n 0, 1) := by decide +kernel
theorem d_Wo_init_65 : decode c_Wo_init 65 = .ok (.bipush 12, 2) := by decide +kernel
theorem d_Wo_init_67 : decode c_Wo_init 67 = .ok (.newarray .int, 2) := by decide +kernel
theorem d_Wo_init_69 : decode c_Wo_init 69 = .ok (.putfield 37, 3) := by decide +kernel
theorem d_Wo_init_72 : decode c_Wo_init 72 = .ok (.aload_n 0, 1) := by decide +kernel
theorem d_Wo_init_73 : decode c_Wo_init 73 = .ok (.aload_n 1, 1) := by decide +kernel
theorem d_Wo_init_74 : decode c_Wo_init 74 = .ok (.putfield 40, 3) := by decide +kernel
theorem d_Wo_init_77 : decode c_Wo_init 77 = .ok (.return_, 1) := by decide +kernel
theorem d_Wo_has_0 : decode c_Wo_has 0 = .ok (.iload_n 1, 1) := by decide +kernel
theorem d_Wo_has_1 : decode c_Wo_has 1 = .ok (.ifCond .lt 15, 3) := by decide +kernel
theorem d_Wo_has_4 : decode c_Wo_has 4 = .ok (.iload_n 1, 1) := by decide +kernel
theorem d_Wo_has_5 : decode c_Wo_has 5 = .ok (.aload_n 0, 1) := by decide +kernel
theorem d_Wo_has_6 : decode c_Wo_has 6 = .ok (.getfield 44, 3) := by decide +kernel
theorem d_Wo_has_9 : decode c_Wo_has 9 = .ok (.if_icmp .ge 7, 3) := by decide +kernel
theorem d_Wo_has_12 : decode c_Wo_has 12 = .ok (.iconst 1, 1) := by decide +kernel
theorem d_Wo_has_13 : decode c_Wo_has 13 = .ok (.goto 4, 3) := by decide +kernel
theorem d_Wo_has_16 : decode c_Wo_has 16 = .ok (.iconst 0, 1) := by decide +kernel
theorem d_Wo_has_17 : decode c_Wo_has 17 = .ok (.ireturn, 1) := by decide +kernel
theorem d_Wo_all_0 : decode c_Wo_all 0 = .ok (.iconst 1, 1) := by decide +kernel
theorem d_Wo_all_1 : decode c_Wo_all 1 = .ok (.aload_n 0, 1) := by decide +kernel
theorem d_Wo_all_2 : decode c_Wo_all 2 = .ok (.getfield 44, 3) := by decide +kernel
theorem d_Wo_all_5 : decode c_Wo_all 5 = .ok (.ishl, 1) := by decide +kernel
theorem d_Wo_all_6 : decode c_Wo_all 6 = .ok (.iconst 1, 1) := by decide +kernel
theorem d_Wo_all_7 : decode c_Wo_all 7 = .ok (.isub, 1) := by decide +kernel
theorem d_Wo_all_8 : decode c_Wo_all 8 = .ok (.ireturn, 1) := by decide +kernel
theorem d_Wo_add_0 : decode c_Wo_add 0 = .ok (.aload_n 0, 1) := by decide +kernel
theorem d_Wo_add_1 : decode c_Wo_add 1 = .ok (.getfield 44, 3) := by decide +kernel
theorem d_Wo_add_4 : decode c_Wo_add 4 = .ok (.istore 5, 2) := by decide +kernel
theorem d_Wo_add_6 : decode c_Wo_add 6 = .ok (.aload_n 0, 1) := by decide +kernel
theorem d_Wo_add_7 : decode c_Wo_add 7 = .ok (.dup, 1) := by decide +kernel
theorem d_Wo_add_8 : decode c_Wo_add 8 = .ok (.getfield 44, 3) := by decide +kernel
theorem d_Wo_add_11 : decode c_Wo_add 11 = .ok (.iconst 1, 1) := by decide +kernel
theorem d_Wo_add_12 : decode c_Wo_add 12 = .ok (.iadd, 1) := by decide +kernel
theorem d_Wo_add_13 : decode c_Wo_add 13 = .ok (.putfield 44, 3) := by decide +kernel
theorem d_Wo_add_16 : decode c_Wo_add 16 = .ok (.aload_n 0, 1) := by decide +kernel
theorem d_Wo_add_17 : decode c_Wo_add 17 = .ok (.getfield 11, 3) := by decide +kernel
theorem d_Wo_add_20 : decode c_Wo_add 20 = .ok (.iload 5, 2) := by decide +kernel
theorem d_Wo_add_22 : decode c_Wo_add 22 = .ok (.iload_n 1, 1) := by decide +kernel
theorem d_Wo_add_23 : decode c_Wo_add 23 = .ok (.iastore, 1) := by decide +kernel
theorem d_Wo_add_24 : decode c_Wo_add 24 = .ok (.aload_n 0, 1) := by decide +kernel
theorem d_Wo_add_25 : decode c_Wo_add 25 = .ok (.getfield 15, 3) := by decide +kernel
theorem d_Wo_add_28 : decode c_Wo_add 28 = .ok (.iload 5, 2) := by decide +kernel
theorem d_Wo_add_30 : decode c_Wo_add 30 = .ok (.iload_n 2, 1) := by decide +kernel
theorem d_Wo_add_31 : decode c_Wo_add 31 = .ok (.iastore, 1) := by decide +kernel
theorem d_Wo_add_32 : decode c_Wo_add 32 = .ok (.aload_n 0, 1) := by decide +kernel
theorem d_Wo_add_33 : decode c_Wo_add 33 = .ok (.getfield 18, 3) := by decide +kernel
theorem d_Wo_add_36 : decode c_Wo_add 36 = .ok (.iload 5, 2) := by decide +kernel
theorem d_Wo_add_38 : decode c_Wo_add 38 = .ok (.iload_n 3, 1) := by decide +kernel
theorem d_Wo_add_39 : decode c_Wo_add 39 = .ok (.iastore, 1) := by decide +kernel
theorem d_Wo_add_40 : decode c_Wo_add 40 = .ok (.aload_n 0, 1) := by decide +kernel
theorem d_Wo_add_41 : decode c_Wo_add 41 = .ok (.getfield 21, 3) := by decide +kernel
theorem d_Wo_add_44 : decode c_Wo_add 44 = .ok (.iload 5, 2) := by decide +kernel
theorem d_Wo_add_46 : decode c_Wo_add 46 = .ok (.iload 4, 2) := by decide +kernel
theorem d_Wo_add_48 : decode c_Wo_add 48 = .ok (.iastore, 1) := by decide +kernel
theorem d_Wo_add_49 : decode c_Wo_add 49 = .ok (.aload_n 0, 1) := by decide +kernel
theorem d_Wo_add_50 : decode c_Wo_add 50 = .ok (.getfield 24, 3) := by decide +kernel
theorem d_Wo_add_53 : decode c_Wo_add 53 = .ok (.iload 5, 2) := by decide +kernel
theorem d_Wo_add_55 : decode c_Wo_add 55 = .ok (.iconst (-1), 1) := by decide +kernel
theorem d_Wo_add_56 : decode c_Wo_add 56 = .ok (.iastore, 1) := by decide +kernel
theorem d_Wo_add_57 : decode c_Wo_add 57 = .ok (.iload 5, 2) := by decide +kernel
theorem d_Wo_add_59 : decode c_Wo_add 59 = .ok (.ireturn, 1) := by decide +kernel
theorem d_Wo_worthOf_0 : decode c_Wo_worthOf 0 = .ok (.iconst 0, 1) := by decide +kernel
theorem d_Wo_worthOf_1 : decode c_Wo_worthOf 1 = .ok (.istore_n 2, 1) := by decide +kernel
theorem d_Wo_worthOf_2 : decode c_Wo_worthOf 2 = .ok (.iconst 0, 1) := by decide +kernel
theorem d_Wo_worthOf_3 : decode c_Wo_worthOf 3 = .ok (.istore_n 3, 1) := by decide +kernel
theorem d_Wo_worthOf_4 : decode c_Wo_worthOf 4 = .ok (.iload_n 3, 1) := by decide +kernel
theorem d_Wo_worthOf_5 : decode c_Wo_worthOf 5 = .ok (.aload_n 0, 1) := by decide +kernel
theorem d_Wo_worthOf_6 : decode c_Wo_worthOf 6 = .ok (.getfield 44, 3) := by decide +kernel
theorem d_Wo_worthOf_9 : decode c_Wo_worthOf 9 = .ok (.if_icmp .ge 26, 3) := by decide +kernel
theorem d_Wo_worthOf_12 : decode c_Wo_worthOf 12 = .ok (.iload_n 1, 1) := by decide +kernel
theorem d_Wo_worthOf_13 : decode c_Wo_worthOf 13 = .ok (.iload_n 3, 1) := by decide +kernel
theorem d_Wo_worthOf_14 : decode c_Wo_worthOf 14 = .ok (.invokestatic 48, 3) := by decide +kernel
theorem d_Wo_worthOf_17 : decode c_Wo_worthOf 17 = .ok (.ifCond .eq 12, 3) := by decide +kernel
theorem d_Wo_worthOf_20 : decode c_Wo_worthOf 20 = .ok (.iload_n 2, 1) := by decide +kernel
theorem d_Wo_worthOf_21 : decode c_Wo_worthOf 21 = .ok (.aload_n 0, 1) := by decide +kernel
theorem d_Wo_worthOf_22 : decode c_Wo_worthOf 22 = .ok (.getfield 18, 3) := by decide +kernel
theorem d_Wo_worthOf_25 : decode c_Wo_worthOf 25 = .ok (.iload_n 3, 1) := by decide +kernel
theorem d_Wo_worthOf_26 : decode c_Wo_worthOf 26 = .ok (.iaload, 1) := by decide +kernel
theorem d_Wo_worthOf_27 : decode c_Wo_worthOf 27 = .ok (.iadd, 1) := by decide +kernel
theorem d_Wo_worthOf_28 : decode c_Wo_worthOf 28 = .ok (.istore_n 2, 1) := by decide +kernel
theorem d_Wo_worthOf_29 : decode c_Wo_worthOf 29 = .ok (.iinc 3 1, 3) := by decide +kernel
theorem d_Wo_worthOf_32 : decode c_Wo_worthOf 32 = .ok (.goto (-28), 3) := by decide +kernel
theorem d_Wo_worthOf_35 : decode c_Wo_worthOf 35 = .ok (.iload_n 2, 1) := by decide +kernel
theorem d_Wo_worthOf_36 : decode c_Wo_worthOf 36 = .ok (.ireturn, 1) := by decide +kernel
theorem d_Wo_agree_0 : decode c_Wo_agree 0 = .ok (.iconst 0, 1) := by decide +kernel
theorem d_Wo_agree_1 : decode c_Wo_agree 1 = .ok (.istore_n 2, 1) := by decide +kernel
theorem d_Wo_agree_2 : decode c_Wo_agree 2 = .ok (.iload_n 2, 1) := by decide +kernel
theorem d_Wo_agree_3 : decode c_Wo_agree 3 = .ok (.aload_n 0, 1) := by decide +kernel
theorem d_Wo_agree_4 : decode c_Wo_agree 4 = .ok (.getfield 44, 3) := by decide +kernel
theorem d_Wo_agree_7 : decode c_Wo_agree 7 = .ok (.if_icmp .ge 39, 3) := by decide +kernel
theorem d_Wo_agree_10 : decode c_Wo_agree 10 = .ok (.iload_n 1, 1) := by decide +kernel
theorem d_Wo_agree_11 : decode c_Wo_agree 11 = .ok (.iload_n 2, 1) := by decide +kernel
theorem d_Wo_agree_12 : decode c_Wo_agree 12 = .ok (.invokestatic 48, 3) := by decide +kernel
theorem d_Wo_agree_15 : decode c_Wo_agree 15 = .ok (.ifCond .eq 25, 3) := by decide +kernel
theorem d_Wo_agree_18 : decode c_Wo_agree 18 = .ok (.aload_n 0, 1) := by decide +kernel
theorem d_Wo_agree_19 : decode c_Wo_agree 19 = .ok (.getfield 27, 3) := by decide +kernel
theorem d_Wo_agree_22 : decode c_Wo_agree 22 = .ok (.iload_n 2, 1) := by decide +kernel
theorem d_Wo_agree_23 : decode c_Wo_agree 23 = .ok (.iaload, 1) := by decide +kernel
theorem d_Wo_agree_24 : decode c_Wo_agree 24 = .ok (.iload_n 1, 1) := by decide +kernel
theorem d_Wo_agree_25 : decode c_Wo_agree 25 = .ok (.iand, 1) := by decide +kernel
theorem d_Wo_agree_26 : decode c_Wo_agree 26 = .ok (.ifCond .ne 12, 3) := by decide +kernel
theorem d_Wo_agree_29 : decode c_Wo_agree 29 = .ok (.aload_n 0, 1) := by decide +kernel
theorem d_Wo_agree_30 : decode c_Wo_agree 30 = .ok (.iload_n 2, 1) := by decide +kernel
theorem d_Wo_agree_31 : decode c_Wo_agree 31 = .ok (.iload_n 1, 1) := by decide +kernel
theorem d_Wo_agree_32 : decode c_Wo_agree 32 = .ok (.invokevirtual 52, 3) := by decide +kernel
theorem d_Wo_agree_35 : decode c_Wo_agree 35 = .ok (.ifCond .eq 5, 3) := by decide +kernel
theorem d_Wo_agree_38 : decode c_Wo_agree 38 = .ok (.iconst 0, 1) := by decide +kernel
theorem d_Wo_agree_39 : decode c_Wo_agree 39 = .ok (.ireturn, 1) := by decide +kernel
theorem d_Wo_agree_40 : decode c_Wo_agree 40 = .ok (.iinc 2 1, 3) := by decide +kernel
theorem d_Wo_agree_43 : decode c_Wo_agree 43 = .ok (.goto (-41), 3) := by decide +kernel
theorem d_Wo_agree_46 : decode c_Wo_agree 46 = .ok (.iconst 1, 1) := by decide +kernel
theorem d_Wo_agree_47 : decode c_Wo_agree 47 = .ok (.ireturn, 1) := by decide +kernel
theorem d_Wo_lacksNeeded_0 : decode c_Wo_lacksNeeded 0 = .ok (.aload_n 0, 1) := by decide +kernel
theorem d_Wo_lacksNeeded_1 : decode c_Wo_lacksNeeded 1 = .ok (.getfield 24, 3) := by decide +kernel
theorem d_Wo_lacksNeeded_4 : decode c_Wo_lacksNeeded 4 = .ok (.iload_n 1, 1) := by decide +kernel
theorem d_Wo_lacksNeeded_5 : decode c_Wo_lacksNeeded 5 = .ok (.iaload, 1) := by decide +kernel
theorem d_Wo_lacksNeeded_6 : decode c_Wo_lacksNeeded 6 = .ok (.istore_n 3, 1) := by decide +kernel
theorem d_Wo_lacksNeeded_7 : decode c_Wo_lacksNeeded 7 = .ok (.iload_n 3, 1) := by decide +kernel
theorem d_Wo_lacksNeeded_8 : decode c_Wo_lacksNeeded 8 = .ok (.iconst (-1), 1) := by decide +kernel
theorem d_Wo_lacksNeeded_9 : decode c_Wo_lacksNeeded 9 = .ok (.if_icmp .eq 30, 3) := by decide +kernel
theorem d_Wo_lacksNeeded_12 : decode c_Wo_lacksNeeded 12 = .ok (.iload_n 2, 1) := by decide +kernel
theorem d_Wo_lacksNeeded_13 : decode c_Wo_lacksNeeded 13 = .ok (.iload_n 3, 1) := by decide +kernel
theorem d_Wo_lacksNeeded_14 : decode c_Wo_lacksNeeded 14 = .ok (.invokestatic 48, 3) := by decide +kernel
theorem d_Wo_lacksNeeded_17 : decode c_Wo_lacksNeeded 17 = .ok (.ifCond .eq 18, 3) := by decide +kernel
theorem d_Wo_lacksNeeded_20 : decode c_Wo_lacksNeeded 20 = .ok (.aload_n 0, 1) := by decide +kernel
theorem d_Wo_lacksNeeded_21 : decode c_Wo_lacksNeeded 21 = .ok (.getfield 11, 3) := by decide +kernel
theorem d_Wo_lacksNeeded_24 : decode c_Wo_lacksNeeded 24 = .ok (.iload_n 1, 1) := by decide +kernel
theorem d_Wo_lacksNeeded_25 : decode c_Wo_lacksNeeded 25 = .ok (.iaload, 1) := by decide +kernel
theorem d_Wo_lacksNeeded_26 : decode c_Wo_lacksNeeded 26 = .ok (.aload_n 0, 1) := by decide +kernel
theorem d_Wo_lacksNeeded_27 : decode c_Wo_lacksNeeded 27 = .ok (.getfield 11, 3) := by decide +kernel
theorem d_Wo_lacksNeeded_30 : decode c_Wo_lacksNeeded 30 = .ok (.iload_n 3, 1) := by decide +kernel
theorem d_Wo_lacksNeeded_31 : decode c_Wo_lacksNeeded 31 = .ok (.iaload, 1) := by decide +kernel
theorem d_Wo_lacksNeeded_32 : decode c_Wo_lacksNeeded 32 = .ok (.if_icmp .ge 7, 3) := by decide +kernel
theorem d_Wo_lacksNeeded_35 : decode c_Wo_lacksNeeded 35 = .ok (.iconst 1, 1) := by decide +kernel
theorem d_Wo_lacksNeeded_36 : decode c_Wo_lacksNeeded 36 = .ok (.goto 4, 3) := by decide +kernel
theorem d_Wo_lacksNeeded_39 : decode c_Wo_lacksNeeded 39 = .ok (.iconst 0, 1) := by decide +kernel
theorem d_Wo_lacksNeeded_40 : decode c_Wo_lacksNeeded 40 = .ok (.ireturn, 1) := by decide +kernel
theorem d_Wo_spend_0 : decode c_Wo_spend 0 = .ok (.aload_n 0, 1) := by decide +kernel
theorem d_Wo_spend_1 : decode c_Wo_spend 1 = .ok (.getfield 37, 3) := by decide +kernel
theorem d_Wo_spend_4 : decode c_Wo_spend 4 = .ok (.iconst 0, 1) := by decide +kernel
theorem d_Wo_spend_5 : decode c_Wo_spend 5 = .ok (.invokestatic 55, 3) := by decide +kernel
theorem d_Wo_spend_8 : decode c_Wo_spend 8 = .ok (.iconst 0, 1) := by decide +kernel
theorem d_Wo_spend_9 : decode c_Wo_spend 9 = .ok (.istore_n 2, 1) := by decide +kernel
theorem d_Wo_spend_10 : decode c_Wo_spend 10 = .ok (.iload_n 2, 1) := by decide +kernel
theorem d_Wo_spend_11 : decode c_Wo_spend 11 = .ok (.aload_n 0, 1) := by decide +kernel
theorem d_Wo_spend_12 : decode c_Wo_spend 12 = .ok (.getfield 44, 3) := by decide +kernel
theorem d_Wo_spend_15 : decode c_Wo_spend 15 = .ok (.if_icmp .ge 54, 3) := by decide +kernel
theorem d_Wo_spend_18 : decode c_Wo_spend 18 = .ok (.iload_n 1, 1) := by decide +kernel
theorem d_Wo_spend_19 : decode c_Wo_spend 19 = .ok (.iload_n 2, 1) := by decide +kernel
theorem d_Wo_spend_20 : decode c_Wo_spend 20 = .ok (.invokestatic 48, 3) := by decide +kernel
theorem d_Wo_spend_23 : decode c_Wo_spend 23 = .ok (.ifCond .eq 40, 3) := by decide +kernel
theorem d_Wo_spend_26 : decode c_Wo_spend 26 = .ok (.aload_n 0, 1) := by decide +kernel
theorem d_Wo_spend_27 : decode c_Wo_spend 27 = .ok (.getfield 11, 3) := by decide +kernel
theorem d_Wo_spend_30 : decode c_Wo_spend 30 = .ok (.iload_n 2, 1) := by decide +kernel
theorem d_Wo_spend_31 : decode c_Wo_spend 31 = .ok (.iaload, 1) := by decide +kernel
theorem d_Wo_spend_32 : decode c_Wo_spend 32 = .ok (.istore_n 3, 1) := by decide +kernel
theorem d_Wo_spend_33 : decode c_Wo_spend 33 = .ok (.aload_n 0, 1) := by decide +kernel
theorem d_Wo_spend_34 : decode c_Wo_spend 34 = .ok (.getfield 37, 3) := by decide +kernel
theorem d_Wo_spend_37 : decode c_Wo_spend 37 = .ok (.iload_n 3, 1) := by decide +kernel
theorem d_Wo_spend_38 : decode c_Wo_spend 38 = .ok (.dup2, 1) := by decide +kernel
theorem d_Wo_spend_39 : decode c_Wo_spend 39 = .ok (.iaload, 1) := by decide +kernel
theorem d_Wo_spend_40 : decode c_Wo_spend 40 = .ok (.aload_n 0, 1) := by decide +kernel
theorem d_Wo_spend_41 : decode c_Wo_spend 41 = .ok (.getfield 40, 3) := by decide +kernel
theorem d_Wo_spend_44 : decode c_Wo_spend 44 = .ok (.iload_n 3, 1) := by decide +kernel
theorem d_Wo_spend_45 : decode c_Wo_spend 45 = .ok (.aload_n 0, 1) := by decide +kernel
theorem d_Wo_spend_46 : decode c_Wo_spend 46 = .ok (.getfield 15, 3) := by decide +kernel
theorem d_Wo_spend_49 : decode c_Wo_spend 49 = .ok (.iload_n 2, 1) := by decide +kernel
theorem d_Wo_spend_50 : decode c_Wo_spend 50 = .ok (.iaload, 1) := by decide +kernel
theorem d_Wo_spend_51 : decode c_Wo_spend 51 = .ok (.invokevirtual 61, 3) := by decide +kernel
theorem d_Wo_spend_54 : decode c_Wo_spend 54 = .ok (.aload_n 0, 1) := by decide +kernel
theorem d_Wo_spend_55 : decode c_Wo_spend 55 = .ok (.iload_n 2, 1) := by decide +kernel
theorem d_Wo_spend_56 : decode c_Wo_spend 56 = .ok (.iload_n 1, 1) := by decide +kernel
theorem d_Wo_spend_57 : decode c_Wo_spend 57 = .ok (.invokevirtual 65, 3) := by decide +kernel
theorem d_Wo_spend_60 : decode c_Wo_spend 60 = .ok (.isub, 1) := by decide +kernel
theorem d_Wo_spend_61 : decode c_Wo_spend 61 = .ok (.iadd, 1) := by decide +kernel
theorem d_Wo_spend_62 : decode c_Wo_spend 62 = .ok (.iastore, 1) := by decide +kernel
theorem d_Wo_spend_63 : decode c_Wo_spend 63 = .ok (.iinc 2 1, 3) := by decide +kernel
theorem d_Wo_spend_66 : decode c_Wo_spend 66 = .ok (.goto (-56), 3) := by decide +kernel
theorem d_Wo_spend_69 : decode c_Wo_spend 69 = .ok (.iconst 0, 1) := by decide +kernel
theorem d_Wo_spend_70 : decode c_Wo_spend 70 = .ok (.istore_n 2, 1) := by decide +kernel
theorem d_Wo_spend_71 : decode c_Wo_spend 71 = .ok (.iload_n 2, 1) := by decide +kernel
theorem d_Wo_spend_72 : decode c_Wo_spend 72 = .ok (.aload_n 0, 1) := by decide +kernel
theorem d_Wo_spend_73 : decode c_Wo_spend 73 = .ok (.getfield 40, 3) := by decide +kernel
theorem d_Wo_spend_76 : decode c_Wo_spend 76 = .ok (.getfield 68, 3) := by decide +kernel
theorem d_Wo_spend_79 : decode c_Wo_spend 79 = .ok (.if_icmp .ge 25, 3) := by decide +kernel
theorem d_Wo_spend_82 : decode c_Wo_spend 82 = .ok (.aload_n 0, 1) := by decide +kernel
theorem d_Wo_spend_83 : decode c_Wo_spend 83 = .ok (.getfield 37, 3) := by decide +kernel
theorem d_Wo_spend_86 : decode c_Wo_spend 86 = .ok (.iload_n 2, 1) := by decide +kernel
theorem d_Wo_spend_87 : decode c_Wo_spend 87 = .ok (.aload_n 0, 1) := by decide +kernel
theorem d_Wo_spend_88 : decode c_Wo_spend 88 = .ok (.getfield 37, 3) := by decide +kernel
theorem d_Wo_spend_91 : decode c_Wo_spend 91 = .ok (.iload_n 2, 1) := by decide +kernel
theorem d_Wo_spend_92 : decode c_Wo_spend 92 = .ok (.iaload, 1) := by decide +kernel
theorem d_Wo_spend_93 : decode c_Wo_spend 93 = .ok (.iconst 0, 1) := by decide +kernel
theorem d_Wo_spend_94 : decode c_Wo_spend 94 = .ok (.invokestatic 69, 3) := by decide +kernel
theorem d_Wo_spend_97 : decode c_Wo_spend 97 = .ok (.iastore, 1) := by decide +kernel
theorem d_Wo_spend_98 : decode c_Wo_spend 98 = .ok (.iinc 2 1, 3) := by decide +kernel
theorem d_Wo_spend_101 : decode c_Wo_spend 101 = .ok (.goto (-30), 3) := by decide +kernel
theorem d_Wo_spend_104 : decode c_Wo_spend 104 = .ok (.return_, 1) := by decide +kernel
theorem d_Wo_savedWithEarlier_0 : decode c_Wo_savedWithEarlier 0 = .ok (.iconst 0, 1) := by decide +kernel
theorem d_Wo_savedWithEarlier_1 : decode c_Wo_savedWithEarlier 1 = .ok (.istore_n 3, 1) := by decide +kernel
theorem d_Wo_savedWithEarlier_2 : decode c_Wo_savedWithEarlier 2 = .ok (.iconst 0, 1) := by decide +kernel
theorem d_Wo_savedWithEarlier_3 : decode c_Wo_savedWithEarlier 3 = .ok (.istore 4, 2) := by decide +kernel
theorem d_Wo_savedWithEarlier_5 : decode c_Wo_savedWithEarlier 5 = .ok (.iload 4, 2) := by decide +kernel
theorem d_Wo_savedWithEarlier_7 : decode c_Wo_savedWithEarlier 7 = .ok (.iload_n 1, 1) := by decide +kernel
theorem d_Wo_savedWithEarlier_8 : decode c_Wo_savedWithEarlier 8 = .ok (.if_icmp .ge 46, 3) := by decide +kernel
theorem d_Wo_savedWithEarlier_11 : decode c_Wo_savedWithEarlier 11 = .ok (.iload_n 2, 1) := by decide +kernel
theorem d_Wo_savedWithEarlier_12 : decode c_Wo_savedWithEarlier 12 = .ok (.iload 4, 2) := by decide +kernel
theorem d_Wo_savedWithEarlier_14 : decode c_Wo_savedWithEarlier 14 = .ok (.invokestatic 48, 3) := by decide +kernel
theorem d_Wo_savedWithEarlier_17 : decode c_Wo_savedWithEarlier 17 = .ok (.ifCond .eq 31, 3) := by decide +kernel
theorem d_Wo_savedWithEarlier_20 : decode c_Wo_savedWithEarlier 20 = .ok (.aload_n 0, 1) := by decide +kernel
theorem d_Wo_savedWithEarlier_21 : decode c_Wo_savedWithEarlier 21 = .ok (.getfield 11, 3) := by decide +kernel
theorem d_Wo_savedWithEarlier_24 : decode c_Wo_savedWithEarlier 24 = .ok (.iload 4, 2) := by decide +kernel
theorem d_Wo_savedWithEarlier_26 : decode c_Wo_savedWithEarlier 26 = .ok (.iaload, 1) := by decide +kernel
theorem d_Wo_savedWithEarlier_27 : decode c_Wo_savedWithEarlier 27 = .ok (.aload_n 0, 1) := by decide +kernel
theorem d_Wo_savedWithEarlier_28 : decode c_Wo_savedWithEarlier 28 = .ok (.getfield 11, 3) := by decide +kernel
theorem d_Wo_savedWithEarlier_31 : decode c_Wo_savedWithEarlier 31 = .ok (.iload_n 1, 1) := by decide +kernel
theorem d_Wo_savedWithEarlier_32 : decode c_Wo_savedWithEarlier 32 = .ok (.iaload, 1) := by decide +kernel
theorem d_Wo_savedWithEarlier_33 : decode c_Wo_savedWithEarlier 33 = .ok (.if_icmp .ne 15, 3) := by decide +kernel
theorem d_Wo_savedWithEarlier_36 : decode c_Wo_savedWithEarlier 36 = .ok (.iload_n 3, 1) := by decide +kernel
theorem d_Wo_savedWithEarlier_37 : decode c_Wo_savedWithEarlier 37 = .ok (.aload_n 0, 1) := by decide +kernel
theorem d_Wo_savedWithEarlier_38 : decode c_Wo_savedWithEarlier 38 = .ok (.getfield 32, 3) := by decide +kernel
theorem d_Wo_savedWithEarlier_41 : decode c_Wo_savedWithEarlier 41 = .ok (.iload_n 1, 1) := by decide +kernel
theorem d_Wo_savedWithEarlier_42 : decode c_Wo_savedWithEarlier 42 = .ok (.aaload, 1) := by decide +kernel
theorem d_Wo_savedWithEarlier_43 : decode c_Wo_savedWithEarlier 43 = .ok (.iload 4, 2) := by decide +kernel
theorem d_Wo_savedWithEarlier_45 : decode c_Wo_savedWithEarlier 45 = .ok (.iaload, 1) := by decide +kernel
theorem d_Wo_savedWithEarlier_46 : decode c_Wo_savedWithEarlier 46 = .ok (.iadd, 1) := by decide +kernel
theorem d_Wo_savedWithEarlier_47 : decode c_Wo_savedWithEarlier 47 = .ok (.istore_n 3, 1) := by decide +kernel
theorem d_Wo_savedWithEarlier_48 : decode c_Wo_savedWithEarlier 48 = .ok (.iinc 4 1, 3) := by decide +kernel
theorem d_Wo_savedWithEarlier_51 : decode c_Wo_savedWithEarlier 51 = .ok (.goto (-46), 3) := by decide +kernel
theorem d_Wo_savedWithEarlier_54 : decode c_Wo_savedWithEarlier 54 = .ok (.iload_n 3, 1) := by decide +kernel
theorem d_Wo_savedWithEarlier_55 : decode c_Wo_savedWithEarlier 55 = .ok (.ireturn, 1) := by decide +kernel
theorem d_Wo_spentOverBudgets_0 : decode c_Wo_spentOverBudgets 0 = .ok (.iconst 0, 1) := by decide +kernel
theorem d_Wo_spentOverBudgets_1 : decode c_Wo_spentOverBudgets 1 = .ok (.istore_n 1, 1) := by decide +kernel
theorem d_Wo_spentOverBudgets_2 : decode c_Wo_spentOverBudgets 2 = .ok (.iconst 0, 1) := by decide +kernel
theorem d_Wo_spentOverBudgets_3 : decode c_Wo_spentOverBudgets 3 = .ok (.istore_n 2, 1) := by decide +kernel
theorem d_Wo_spentOverBudgets_4 : decode c_Wo_spentOverBudgets 4 = .ok (.iload_n 2, 1) := by decide +kernel
theorem d_Wo_spentOverBudgets_5 : decode c_Wo_spentOverBudgets 5 = .ok (.aload_n 0, 1) := by decide +kernel
theorem d_Wo_spentOverBudgets_6 : decode c_Wo_spentOverBudgets 6 = .ok (.getfield 40, 3) := by decide +kernel
theorem d_Wo_spentOverBudgets_9 : decode c_Wo_spentOverBudgets 9 = .ok (.getfield 68, 3) := by decide +kernel
theorem d_Wo_spentOverBudgets_12 : decode c_Wo_spentOverBudgets 12 = .ok (.if_icmp .ge 32, 3) := by decide +kernel
theorem d_Wo_spentOverBudgets_15 : decode c_Wo_spentOverBudgets 15 = .ok (.iload_n 1, 1) := by decide +kernel
theorem d_Wo_spentOverBudgets_16 : decode c_Wo_spentOverBudgets 16 = .ok (.aload_n 0, 1) := by decide +kernel
theorem d_Wo_spentOverBudgets_17 : decode c_Wo_spentOverBudgets 17 = .ok (.getfield 37, 3) := by decide +kernel
theorem d_Wo_spentOverBudgets_20 : decode c_Wo_spentOverBudgets 20 = .ok (.iload_n 2, 1) := by decide +kernel
theorem d_Wo_spentOverBudgets_21 : decode c_Wo_spentOverBudgets 21 = .ok (.iaload, 1) := by decide +kernel
theorem d_Wo_spentOverBudgets_22 : decode c_Wo_spentOverBudgets 22 = .ok (.aload_n 0, 1) := by decide +kernel
theorem d_Wo_spentOverBudgets_23 : decode c_Wo_spentOverBudgets 23 = .ok (.getfield 40, 3) := by decide +kernel
theorem d_Wo_spentOverBudgets_26 : decode c_Wo_spentOverBudgets 26 = .ok (.getfield 74, 3) := by decide +kernel
theorem d_Wo_spentOverBudgets_29 : decode c_Wo_spentOverBudgets 29 = .ok (.iload_n 2, 1) := by decide +kernel
theorem d_Wo_spentOverBudgets_30 : decode c_Wo_spentOverBudgets 30 = .ok (.iaload, 1) := by decide +kernel
theorem d_Wo_spentOverBudgets_31 : decode c_Wo_spentOverBudgets 31 = .ok (.isub, 1) := by decide +kernel
theorem d_Wo_spentOverBudgets_32 : decode c_Wo_spentOverBudgets 32 = .ok (.iconst 0, 1) := by decide +kernel
theorem d_Wo_spentOverBudgets_33 : decode c_Wo_spentOverBudgets 33 = .ok (.invokestatic 69, 3) := by decide +kernel
theorem d_Wo_spentOverBudgets_36 : decode c_Wo_spentOverBudgets 36 = .ok (.iadd, 1) := by decide +kernel
theorem d_Wo_spentOverBudgets_37 : decode c_Wo_spentOverBudgets 37 = .ok (.istore_n 1, 1) := by decide +kernel
theorem d_Wo_spentOverBudgets_38 : decode c_Wo_spentOverBudgets 38 = .ok (.iinc 2 1, 3) := by decide +kernel
theorem d_Wo_spentOverBudgets_41 : decode c_Wo_spentOverBudgets 41 = .ok (.goto (-37), 3) := by decide +kernel
theorem d_Wo_spentOverBudgets_44 : decode c_Wo_spentOverBudgets 44 = .ok (.iload_n 1, 1) := by decide +kernel
theorem d_Wo_spentOverBudgets_45 : decode c_Wo_spentOverBudgets 45 = .ok (.ireturn, 1) := by decide +kernel
theorem d_Wo_spentInAll_0 : decode c_Wo_spentInAll 0 = .ok (.iconst 0, 1) := by decide +kernel
theorem d_Wo_spentInAll_1 : decode c_Wo_spentInAll 1 = .ok (.istore_n 1, 1) := by decide +kernel
theorem d_Wo_spentInAll_2 : decode c_Wo_spentInAll 2 = .ok (.iconst 0, 1) := by decide +kernel
theorem d_Wo_spentInAll_3 : decode c_Wo_spentInAll 3 = .ok (.istore_n 2, 1) := by decide +kernel
theorem d_Wo_spentInAll_4 : decode c_Wo_spentInAll 4 = .ok (.iload_n 2, 1) := by decide +kernel
theorem d_Wo_spentInAll_5 : decode c_Wo_spentInAll 5 = .ok (.aload_n 0, 1) := by decide +kernel
theorem d_Wo_spentInAll_6 : decode c_Wo_spentInAll 6 = .ok (.getfield 40, 3) := by decide +kernel
theorem d_Wo_spentInAll_9 : decode c_Wo_spentInAll 9 = .ok (.getfield 68, 3) := by decide +kernel
theorem d_Wo_spentInAll_12 : decode c_Wo_spentInAll 12 = .ok (.if_icmp .ge 18, 3) := by decide +kernel
theorem d_Wo_spentInAll_15 : decode c_Wo_spentInAll 15 = .ok (.iload_n 1, 1) := by decide +kernel
theorem d_Wo_spentInAll_16 : decode c_Wo_spentInAll 16 = .ok (.aload_n 0, 1) := by decide +kernel
theorem d_Wo_spentInAll_17 : decode c_Wo_spentInAll 17 = .ok (.getfield 37, 3) := by decide +kernel
theorem d_Wo_spentInAll_20 : decode c_Wo_spentInAll 20 = .ok (.iload_n 2, 1) := by decide +kernel
theorem d_Wo_spentInAll_21 : decode c_Wo_spentInAll 21 = .ok (.iaload, 1) := by decide +kernel
theorem d_Wo_spentInAll_22 : decode c_Wo_spentInAll 22 = .ok (.iadd, 1) := by decide +kernel
theorem d_Wo_spentInAll_23 : decode c_Wo_spentInAll 23 = .ok (.istore_n 1, 1) := by decide +kernel
theorem d_Wo_spentInAll_24 : decode c_Wo_spentInAll 24 = .ok (.iinc 2 1, 3) := by decide +kernel
theorem d_Wo_spentInAll_27 : decode c_Wo_spentInAll 27 = .ok (.goto (-23), 3) := by decide +kernel
theorem d_Wo_spentInAll_30 : decode c_Wo_spentInAll 30 = .ok (.iload_n 1, 1) := by decide +kernel
theorem d_Wo_spentInAll_31 : decode c_Wo_spentInAll 31 = .ok (.ireturn, 1) := by decide +kernel
theorem d_Wo_makeChoice_0 : decode c_Wo_makeChoice 0 = .ok (.iconst 0, 1) := by decide +kernel
theorem d_Wo_makeChoice_1 : decode c_Wo_makeChoice 1 = .ok (.istore_n 1, 1) := by decide +kernel
theorem d_Wo_makeChoice_2 : decode c_Wo_makeChoice 2 = .ok (.iconst 0, 1) := by decide +kernel
theorem d_Wo_makeChoice_3 : decode c_Wo_makeChoice 3 = .ok (.istore_n 2, 1) := by decide +kernel
theorem d_Wo_makeChoice_4 : decode c_Wo_makeChoice 4 = .ok (.iconst 0, 1) := by decide +kernel
theorem d_Wo_makeChoice_5 : decode c_Wo_makeChoice 5 = .ok (.istore_n 3, 1) := by decide +kernel
theorem d_Wo_makeChoice_6 : decode c_Wo_makeChoice 6 = .ok (.aload_n 0, 1) := by decide +kernel
theorem d_Wo_makeChoice_7 : decode c_Wo_makeChoice 7 = .ok (.invokevirtual 77, 3) := by decide +kernel
theorem d_Wo_makeChoice_10 : decode c_Wo_makeChoice 10 = .ok (.istore 4, 2) := by decide +kernel
theorem d_Wo_makeChoice_12 : decode c_Wo_makeChoice 12 = .ok (.iconst 1, 1) := by decide +kernel
theorem d_Wo_makeChoice_13 : decode c_Wo_makeChoice 13 = .ok (.istore 5, 2) := by decide +kernel
theorem d_Wo_makeChoice_15 : decode c_Wo_makeChoice 15 = .ok (.iload 5, 2) := by decide +kernel
theorem d_Wo_makeChoice_17 : decode c_Wo_makeChoice 17 = .ok (.iload 4, 2) := by decide +kernel
theorem d_Wo_makeChoice_19 : decode c_Wo_makeChoice 19 = .ok (.if_icmp .gt 87, 3) := by decide +kernel
theorem d_Wo_makeChoice_22 : decode c_Wo_makeChoice 22 = .ok (.aload_n 0, 1) := by decide +kernel
theorem d_Wo_makeChoice_23 : decode c_Wo_makeChoice 23 = .ok (.iload 5, 2) := by decide +kernel
theorem d_Wo_makeChoice_25 : decode c_Wo_makeChoice 25 = .ok (.invokevirtual 81, 3) := by decide +kernel
theorem d_Wo_makeChoice_28 : decode c_Wo_makeChoice 28 = .ok (.istore 6, 2) := by decide +kernel
theorem d_Wo_makeChoice_30 : decode c_Wo_makeChoice 30 = .ok (.iload 6, 2) := by decide +kernel
theorem d_Wo_makeChoice_32 : decode c_Wo_makeChoice 32 = .ok (.iload_n 2, 1) := by decide +kernel
theorem d_Wo_makeChoice_33 : decode c_Wo_makeChoice 33 = .ok (.if_icmp .lt 67, 3) := by decide +kernel
theorem d_Wo_makeChoice_36 : decode c_Wo_makeChoice 36 = .ok (.aload_n 0, 1) := by decide +kernel
theorem d_Wo_makeChoice_37 : decode c_Wo_makeChoice 37 = .ok (.iload 5, 2) := by decide +kernel
theorem d_Wo_makeChoice_39 : decode c_Wo_makeChoice 39 = .ok (.invokevirtual 85, 3) := by decide +kernel
theorem d_Wo_makeChoice_42 : decode c_Wo_makeChoice 42 = .ok (.ifCond .ne 6, 3) := by decide +kernel
theorem d_Wo_makeChoice_45 : decode c_Wo_makeChoice 45 = .ok (.goto 55, 3) := by decide +kernel
theorem d_Wo_makeChoice_48 : decode c_Wo_makeChoice 48 = .ok (.aload_n 0, 1) := by decide +kernel
theorem d_Wo_makeChoice_49 : decode c_Wo_makeChoice 49 = .ok (.iload 5, 2) := by decide +kernel
theorem d_Wo_makeChoice_51 : decode c_Wo_makeChoice 51 = .ok (.invokevirtual 89, 3) := by decide +kernel
theorem d_Wo_makeChoice_54 : decode c_Wo_makeChoice 54 = .ok (.aload_n 0, 1) := by decide +kernel
theorem d_Wo_makeChoice_55 : decode c_Wo_makeChoice 55 = .ok (.invokevirtual 93, 3) := by decide +kernel
theorem d_Wo_makeChoice_58 : decode c_Wo_makeChoice 58 = .ok (.istore 7, 2) := by decide +kernel
theorem d_Wo_makeChoice_60 : decode c_Wo_makeChoice 60 = .ok (.iload 6, 2) := by decide +kernel
theorem d_Wo_makeChoice_62 : decode c_Wo_makeChoice 62 = .ok (.iload_n 2, 1) := by decide +kernel
theorem d_Wo_makeChoice_63 : decode c_Wo_makeChoice 63 = .ok (.if_icmp .gt 9, 3) := by decide +kernel
theorem d_Wo_makeChoice_66 : decode c_Wo_makeChoice 66 = .ok (.iload 7, 2) := by decide +kernel
theorem d_Wo_makeChoice_68 : decode c_Wo_makeChoice 68 = .ok (.iload_n 3, 1) := by decide +kernel
theorem d_Wo_makeChoice_69 : decode c_Wo_makeChoice 69 = .ok (.if_icmp .ge 7, 3) := by decide +kernel
theorem d_Wo_makeChoice_72 : decode c_Wo_makeChoice 72 = .ok (.iconst 1, 1) := by decide +kernel
theorem d_Wo_makeChoice_73 : decode c_Wo_makeChoice 73 = .ok (.goto 4, 3) := by decide +kernel
theorem d_Wo_makeChoice_76 : decode c_Wo_makeChoice 76 = .ok (.iconst 0, 1) := by decide +kernel
theorem d_Wo_makeChoice_77 : decode c_Wo_makeChoice 77 = .ok (.istore 8, 2) := by decide +kernel
theorem d_Wo_makeChoice_79 : decode c_Wo_makeChoice 79 = .ok (.iload 8, 2) := by decide +kernel
theorem d_Wo_makeChoice_81 : decode c_Wo_makeChoice 81 = .ok (.ifCond .eq 19, 3) := by decide +kernel
theorem d_Wo_makeChoice_84 : decode c_Wo_makeChoice 84 = .ok (.aload_n 0, 1) := by decide +kernel
theorem d_Wo_makeChoice_85 : decode c_Wo_makeChoice 85 = .ok (.invokevirtual 96, 3) := by decide +kernel
theorem d_Wo_makeChoice_88 : decode c_Wo_makeChoice 88 = .ok (.ifCond .ne 12, 3) := by decide +kernel
theorem d_Wo_makeChoice_91 : decode c_Wo_makeChoice 91 = .ok (.iload 5, 2) := by decide +kernel
theorem d_Wo_makeChoice_93 : decode c_Wo_makeChoice 93 = .ok (.istore_n 1, 1) := by decide +kernel
theorem d_Wo_makeChoice_94 : decode c_Wo_makeChoice 94 = .ok (.iload 6, 2) := by decide +kernel
theorem d_Wo_makeChoice_96 : decode c_Wo_makeChoice 96 = .ok (.istore_n 2, 1) := by decide +kernel
theorem d_Wo_makeChoice_97 : decode c_Wo_makeChoice 97 = .ok (.iload 7, 2) := by decide +kernel
theorem d_Wo_makeChoice_99 : decode c_Wo_makeChoice 99 = .ok (.istore_n 3, 1) := by decide +kernel
theorem d_Wo_makeChoice_100 : decode c_Wo_makeChoice 100 = .ok (.iinc 5 1, 3) := by decide +kernel
theorem d_Wo_makeChoice_103 : decode c_Wo_makeChoice 103 = .ok (.goto (-88), 3) := by decide +kernel
theorem d_Wo_makeChoice_106 : decode c_Wo_makeChoice 106 = .ok (.aload_n 0, 1) := by decide +kernel
theorem d_Wo_makeChoice_107 : decode c_Wo_makeChoice 107 = .ok (.iload_n 1, 1) := by decide +kernel
theorem d_Wo_makeChoice_108 : decode c_Wo_makeChoice 108 = .ok (.putfield 99, 3) := by decide +kernel
theorem d_Wo_makeChoice_111 : decode c_Wo_makeChoice 111 = .ok (.return_, 1) := by decide +kernel
theorem d_Ye_init_0 : decode c_Ye_init 0 = .ok (.aload_n 0, 1) := by decide +kernel
theorem d_Ye_init_1 : decode c_Ye_init 1 = .ok (.invokespecial 1, 3) := by decide +kernel
theorem d_Ye_init_4 : decode c_Ye_init 4 = .ok (.aload_n 0, 1) := by decide +kernel
theorem d_Ye_init_5 : decode c_Ye_init 5 = .ok (.bipush 12, 2) := by decide +kernel
theorem d_Ye_init_7 : decode c_Ye_init 7 = .ok (.newarray .int, 2) := by decide +kernel
theorem d_Ye_init_9 : decode c_Ye_init 9 = .ok (.putfield 9, 3) := by decide +kernel
theorem d_Ye_init_12 : decode c_Ye_init 12 = .ok (.aload_n 0, 1) := by decide +kernel
theorem d_Ye_init_13 : decode c_Ye_init 13 = .ok (.bipush 12, 2) := by decide +kernel
theorem d_Ye_init_15 : decode c_Ye_init 15 = .ok (.newarray .int, 2) := by decide +kernel
theorem d_Ye_init_17 : decode c_Ye_init 17 = .ok (.putfield 13, 3) := by decide +kernel
theorem d_Ye_init_20 : decode c_Ye_init 20 = .ok (.aload_n 0, 1) := by decide +kernel
theorem d_Ye_init_21 : decode c_Ye_init 21 = .ok (.iload_n 1, 1) := by decide +kernel
theorem d_Ye_init_22 : decode c_Ye_init 22 = .ok (.putfield 16, 3) := by decide +kernel
theorem d_Ye_init_25 : decode c_Ye_init 25 = .ok (.aload_n 0, 1) := by decide +kernel
theorem d_Ye_init_26 : decode c_Ye_init 26 = .ok (.getfield 9, 3) := by decide +kernel
theorem d_Ye_init_29 : decode c_Ye_init 29 = .ok (.sipush 1000, 3) := by decide +kernel
theorem d_Ye_init_32 : decode c_Ye_init 32 = .ok (.invokestatic 20, 3) := by decide +kernel
theorem d_Ye_init_35 : decode c_Ye_init 35 = .ok (.return_, 1) := by decide +kernel
theorem d_Ye_has_0 : decode c_Ye_has 0 = .ok (.iload_n 1, 1) := by decide +kernel
theorem d_Ye_has_1 : decode c_Ye_has 1 = .ok (.ifCond .lt 15, 3) := by decide +kernel
theorem d_Ye_has_4 : decode c_Ye_has 4 = .ok (.iload_n 1, 1) := by decide +kernel
theorem d_Ye_has_5 : decode c_Ye_has 5 = .ok (.aload_n 0, 1) := by decide +kernel
theorem d_Ye_has_6 : decode c_Ye_has 6 = .ok (.getfield 16, 3) := by decide +kernel
theorem d_Ye_has_9 : decode c_Ye_has 9 = .ok (.if_icmp .ge 7, 3) := by decide +kernel
theorem d_Ye_has_12 : decode c_Ye_has 12 = .ok (.iconst 1, 1) := by decide +kernel
theorem d_Ye_has_13 : decode c_Ye_has 13 = .ok (.goto 4, 3) := by decide +kernel
theorem d_Ye_has_16 : decode c_Ye_has 16 = .ok (.iconst 0, 1) := by decide +kernel
theorem d_Ye_has_17 : decode c_Ye_has 17 = .ok (.ireturn, 1) := by decide +kernel
theorem d_Ye_costIn_0 : decode c_Ye_costIn 0 = .ok (.iload_n 2, 1) := by decide +kernel
theorem d_Ye_costIn_1 : decode c_Ye_costIn 1 = .ok (.i2l, 1) := by decide +kernel
theorem d_Ye_costIn_2 : decode c_Ye_costIn 2 = .ok (.aload_n 0, 1) := by decide +kernel
theorem d_Ye_costIn_3 : decode c_Ye_costIn 3 = .ok (.getfield 9, 3) := by decide +kernel
theorem d_Ye_costIn_6 : decode c_Ye_costIn 6 = .ok (.iload_n 1, 1) := by decide +kernel
theorem d_Ye_costIn_7 : decode c_Ye_costIn 7 = .ok (.iaload, 1) := by decide +kernel
theorem d_Ye_costIn_8 : decode c_Ye_costIn 8 = .ok (.i2l, 1) := by decide +kernel
theorem d_Ye_costIn_9 : decode c_Ye_costIn 9 = .ok (.lmul, 1) := by decide +kernel
theorem d_Ye_costIn_10 : decode c_Ye_costIn 10 = .ok (.ldc2_w 26, 3) := by decide +kernel
theorem d_Ye_costIn_13 : decode c_Ye_costIn 13 = .ok (.ldiv, 1) := by decide +kernel
theorem d_Ye_costIn_14 : decode c_Ye_costIn 14 = .ok (.l2i, 1) := by decide +kernel
theorem d_Ye_costIn_15 : decode c_Ye_costIn 15 = .ok (.ireturn, 1) := by decide +kernel
theorem d_Ma_maxI_0 : decode c_Ma_maxI 0 = .ok (.iload_n 0, 1) := by decide +kernel
theorem d_Ma_maxI_1 : decode c_Ma_maxI 1 = .ok (.iload_n 1, 1) := by decide +kernel
theorem d_Ma_maxI_2 : decode c_Ma_maxI 2 = .ok (.if_icmp .lt 7, 3) := by decide +kernel
theorem d_Ma_maxI_5 : decode c_Ma_maxI 5 = .ok (.iload_n 0, 1) := by decide +kernel
theorem d_Ma_maxI_6 : decode c_Ma_maxI 6 = .ok (.goto 4, 3) := by decide +kernel
theorem d_Ma_maxI_9 : decode c_Ma_maxI 9 = .ok (.iload_n 1, 1) := by decide +kernel
theorem d_Ma_maxI_10 : decode c_Ma_maxI 10 = .ok (.ireturn, 1) := by decide +kernel
theorem d_Ma_maxJ_0 : decode c_Ma_maxJ 0 = .ok (.lload_n 0, 1) := by decide +kernel
theorem d_Ma_maxJ_1 : decode c_Ma_maxJ 1 = .ok (.lload_n 2, 1) := by decide +kernel
theorem d_Ma_maxJ_2 : decode c_Ma_maxJ 2 = .ok (.lcmp, 1) := by decide +kernel
theorem d_Ma_maxJ_3 : decode c_Ma_maxJ 3 = .ok (.ifCond .lt 7, 3) := by decide +kernel
theorem d_Ma_maxJ_6 : decode c_Ma_maxJ 6 = .ok (.lload_n 0, 1) := by decide +kernel
theorem d_Ma_maxJ_7 : decode c_Ma_maxJ 7 = .ok (.goto 4, 3) := by decide +kernel
theorem d_Ma_maxJ_10 : decode c_Ma_maxJ 10 = .ok (.lload_n 2, 1) := by decide +kernel
theorem d_Ma_maxJ_11 : decode c_Ma_maxJ 11 = .ok (.lreturn, 1) := by decide +kernel
theorem d_Ma_minI_0 : decode c_Ma_minI 0 = .ok (.iload_n 0, 1) := by decide +kernel
theorem d_Ma_minI_1 : decode c_Ma_minI 1 = .ok (.iload_n 1, 1) := by decide +kernel
theorem d_Ma_minI_2 : decode c_Ma_minI 2 = .ok (.if_icmp .gt 7, 3) := by decide +kernel
theorem d_Ma_minI_5 : decode c_Ma_minI 5 = .ok (.iload_n 0, 1) := by decide +kernel
theorem d_Ma_minI_6 : decode c_Ma_minI 6 = .ok (.goto 4, 3) := by decide +kernel
theorem d_Ma_minI_9 : decode c_Ma_minI 9 = .ok (.iload_n 1, 1) := by decide +kernel
theorem d_Ma_minI_10 : decode c_Ma_minI 10 = .ok (.ireturn, 1) := by decide +kernel
theorem d_Ar_fillI_0 : decode c_Ar_fillI 0 = .ok (.iconst 0, 1) := by decide +kernel
theorem d_Ar_fillI_1 : decode c_Ar_fillI 1 = .ok (.istore_n 2, 1) := by decide +kernel
theorem d_Ar_fillI_2 : decode c_Ar_fillI 2 = .ok (.aload_n 0, 1) := by decide +kernel
theorem d_Ar_fillI_3 : decode c_Ar_fillI 3 = .ok (.arraylength, 1) := by decide +kernel
theorem d_Ar_fillI_4 : decode c_Ar_fillI 4 = .ok (.istore_n 3, 1) := by decide +kernel
theorem d_Ar_fillI_5 : decode c_Ar_fillI 5 = .ok (.iload_n 2, 1) := by decide +kernel
theorem d_Ar_fillI_6 : decode c_Ar_fillI 6 = .ok (.iload_n 3, 1) := by decide +kernel
theorem d_Ar_fillI_7 : decode c_Ar_fillI 7 = .ok (.if_icmp .ge 13, 3) := by decide +kernel
theorem d_Ar_fillI_10 : decode c_Ar_fillI 10 = .ok (.aload_n 0, 1) := by decide +kernel
theorem d_Ar_fillI_11 : decode c_Ar_fillI 11 = .ok (.iload_n 2, 1) := by decide +kernel
theorem d_Ar_fillI_12 : decode c_Ar_fillI 12 = .ok (.iload_n 1, 1) := by decide +kernel
theorem d_Ar_fillI_13 : decode c_Ar_fillI 13 = .ok (.iastore, 1) := by decide +kernel
theorem d_Ar_fillI_14 : decode c_Ar_fillI 14 = .ok (.iinc 2 1, 3) := by decide +kernel
theorem d_Ar_fillI_17 : decode c_Ar_fillI 17 = .ok (.goto (-12), 3) := by decide +kernel
theorem d_Ar_fillI_20 : decode c_Ar_fillI 20 = .ok (.return_, 1) := by decide +kernel
theorem d_Ar_fillJ_0 : decode c_Ar_fillJ 0 = .ok (.iconst 0, 1) := by decide +kernel
theorem d_Ar_fillJ_1 : decode c_Ar_fillJ 1 = .ok (.istore_n 3, 1) := by decide +kernel
theorem d_Ar_fillJ_2 : decode c_Ar_fillJ 2 = .ok (.aload_n 0, 1) := by decide +kernel
theorem d_Ar_fillJ_3 : decode c_Ar_fillJ 3 = .ok (.arraylength, 1) := by decide +kernel
theorem d_Ar_fillJ_4 : decode c_Ar_fillJ 4 = .ok (.istore 4, 2) := by decide +kernel
theorem d_Ar_fillJ_6 : decode c_Ar_fillJ 6 = .ok (.iload_n 3, 1) := by decide +kernel
theorem d_Ar_fillJ_7 : decode c_Ar_fillJ 7 = .ok (.iload 4, 2) := by decide +kernel
theorem d_Ar_fillJ_9 : decode c_Ar_fillJ 9 = .ok (.if_icmp .ge 13, 3) := by decide +kernel
theorem d_Ar_fillJ_12 : decode c_Ar_fillJ 12 = .ok (.aload_n 0, 1) := by decide +kernel
theorem d_Ar_fillJ_13 : decode c_Ar_fillJ 13 = .ok (.iload_n 3, 1) := by decide +kernel
theorem d_Ar_fillJ_14 : decode c_Ar_fillJ 14 = .ok (.lload_n 1, 1) := by decide +kernel
theorem d_Ar_fillJ_15 : decode c_Ar_fillJ 15 = .ok (.lastore, 1) := by decide +kernel
theorem d_Ar_fillJ_16 : decode c_Ar_fillJ 16 = .ok (.iinc 3 1, 3) := by decide +kernel
theorem d_Ar_fillJ_19 : decode c_Ar_fillJ 19 = .ok (.goto (-13), 3) := by decide +kernel
theorem d_Ar_fillJ_22 : decode c_Ar_fillJ 22 = .ok (.return_, 1) := by decide +kernel
