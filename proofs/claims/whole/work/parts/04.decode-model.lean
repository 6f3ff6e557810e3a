/-! what each instruction decodes to, printed by wip/tools/names.py -/
theorem d_Mo_init_0 : decode c_Mo_init 0 = .ok (.aload_n 0, 1) := by decide +kernel
theorem d_Mo_init_1 : decode c_Mo_init 1 = .ok (.invokespecial 1, 3) := by decide +kernel
theorem d_Mo_init_4 : decode c_Mo_init 4 = .ok (.aload_n 0, 1) := by decide +kernel
theorem d_Mo_init_5 : decode c_Mo_init 5 = .ok (.bipush 12, 2) := by decide +kernel
theorem d_Mo_init_7 : decode c_Mo_init 7 = .ok (.newarray .int, 2) := by decide +kernel
theorem d_Mo_init_9 : decode c_Mo_init 9 = .ok (.putfield 7, 3) := by decide +kernel
theorem d_Mo_init_12 : decode c_Mo_init 12 = .ok (.aload_n 0, 1) := by decide +kernel
theorem d_Mo_init_13 : decode c_Mo_init 13 = .ok (.bipush 12, 2) := by decide +kernel
theorem d_Mo_init_15 : decode c_Mo_init 15 = .ok (.newarray .int, 2) := by decide +kernel
theorem d_Mo_init_17 : decode c_Mo_init 17 = .ok (.putfield 13, 3) := by decide +kernel
theorem d_Mo_init_20 : decode c_Mo_init 20 = .ok (.aload_n 0, 1) := by decide +kernel
theorem d_Mo_init_21 : decode c_Mo_init 21 = .ok (.bipush 12, 2) := by decide +kernel
theorem d_Mo_init_23 : decode c_Mo_init 23 = .ok (.newarray .int, 2) := by decide +kernel
theorem d_Mo_init_25 : decode c_Mo_init 25 = .ok (.putfield 16, 3) := by decide +kernel
theorem d_Mo_init_28 : decode c_Mo_init 28 = .ok (.aload_n 0, 1) := by decide +kernel
theorem d_Mo_init_29 : decode c_Mo_init 29 = .ok (.bipush 12, 2) := by decide +kernel
theorem d_Mo_init_31 : decode c_Mo_init 31 = .ok (.newarray .int, 2) := by decide +kernel
theorem d_Mo_init_33 : decode c_Mo_init 33 = .ok (.putfield 19, 3) := by decide +kernel
theorem d_Mo_init_36 : decode c_Mo_init 36 = .ok (.aload_n 0, 1) := by decide +kernel
theorem d_Mo_init_37 : decode c_Mo_init 37 = .ok (.sipush 192, 3) := by decide +kernel
theorem d_Mo_init_40 : decode c_Mo_init 40 = .ok (.newarray .int, 2) := by decide +kernel
theorem d_Mo_init_42 : decode c_Mo_init 42 = .ok (.putfield 22, 3) := by decide +kernel
theorem d_Mo_init_45 : decode c_Mo_init 45 = .ok (.aload_n 0, 1) := by decide +kernel
theorem d_Mo_init_46 : decode c_Mo_init 46 = .ok (.bipush 48, 2) := by decide +kernel
theorem d_Mo_init_48 : decode c_Mo_init 48 = .ok (.newarray .int, 2) := by decide +kernel
theorem d_Mo_init_50 : decode c_Mo_init 50 = .ok (.putfield 25, 3) := by decide +kernel
theorem d_Mo_init_53 : decode c_Mo_init 53 = .ok (.aload_n 0, 1) := by decide +kernel
theorem d_Mo_init_54 : decode c_Mo_init 54 = .ok (.bipush 10, 2) := by decide +kernel
theorem d_Mo_init_56 : decode c_Mo_init 56 = .ok (.newarray .int, 2) := by decide +kernel
theorem d_Mo_init_58 : decode c_Mo_init 58 = .ok (.putfield 28, 3) := by decide +kernel
theorem d_Mo_init_61 : decode c_Mo_init 61 = .ok (.aload_n 0, 1) := by decide +kernel
theorem d_Mo_init_62 : decode c_Mo_init 62 = .ok (.bipush 10, 2) := by decide +kernel
theorem d_Mo_init_64 : decode c_Mo_init 64 = .ok (.newarray .int, 2) := by decide +kernel
theorem d_Mo_init_66 : decode c_Mo_init 66 = .ok (.putfield 31, 3) := by decide +kernel
theorem d_Mo_init_69 : decode c_Mo_init 69 = .ok (.aload_n 0, 1) := by decide +kernel
theorem d_Mo_init_70 : decode c_Mo_init 70 = .ok (.bipush 10, 2) := by decide +kernel
theorem d_Mo_init_72 : decode c_Mo_init 72 = .ok (.newarray .int, 2) := by decide +kernel
theorem d_Mo_init_74 : decode c_Mo_init 74 = .ok (.putfield 34, 3) := by decide +kernel
theorem d_Mo_init_77 : decode c_Mo_init 77 = .ok (.aload_n 0, 1) := by decide +kernel
theorem d_Mo_init_78 : decode c_Mo_init 78 = .ok (.bipush 10, 2) := by decide +kernel
theorem d_Mo_init_80 : decode c_Mo_init 80 = .ok (.newarray .int, 2) := by decide +kernel
theorem d_Mo_init_82 : decode c_Mo_init 82 = .ok (.putfield 37, 3) := by decide +kernel
theorem d_Mo_init_85 : decode c_Mo_init 85 = .ok (.aload_n 0, 1) := by decide +kernel
theorem d_Mo_init_86 : decode c_Mo_init 86 = .ok (.bipush 10, 2) := by decide +kernel
theorem d_Mo_init_88 : decode c_Mo_init 88 = .ok (.newarray .int, 2) := by decide +kernel
theorem d_Mo_init_90 : decode c_Mo_init 90 = .ok (.putfield 40, 3) := by decide +kernel
theorem d_Mo_init_93 : decode c_Mo_init 93 = .ok (.aload_n 0, 1) := by decide +kernel
theorem d_Mo_init_94 : decode c_Mo_init 94 = .ok (.bipush 100, 2) := by decide +kernel
theorem d_Mo_init_96 : decode c_Mo_init 96 = .ok (.newarray .int, 2) := by decide +kernel
theorem d_Mo_init_98 : decode c_Mo_init 98 = .ok (.putfield 43, 3) := by decide +kernel
theorem d_Mo_init_101 : decode c_Mo_init 101 = .ok (.aload_n 0, 1) := by decide +kernel
theorem d_Mo_init_102 : decode c_Mo_init 102 = .ok (.bipush 100, 2) := by decide +kernel
theorem d_Mo_init_104 : decode c_Mo_init 104 = .ok (.newarray .boolean, 2) := by decide +kernel
theorem d_Mo_init_106 : decode c_Mo_init 106 = .ok (.putfield 46, 3) := by decide +kernel
theorem d_Mo_init_109 : decode c_Mo_init 109 = .ok (.aload_n 0, 1) := by decide +kernel
theorem d_Mo_init_110 : decode c_Mo_init 110 = .ok (.iconst 4, 1) := by decide +kernel
theorem d_Mo_init_111 : decode c_Mo_init 111 = .ok (.newarray .long, 2) := by decide +kernel
theorem d_Mo_init_113 : decode c_Mo_init 113 = .ok (.putfield 50, 3) := by decide +kernel
theorem d_Mo_init_116 : decode c_Mo_init 116 = .ok (.aload_n 0, 1) := by decide +kernel
theorem d_Mo_init_117 : decode c_Mo_init 117 = .ok (.iconst 4, 1) := by decide +kernel
theorem d_Mo_init_118 : decode c_Mo_init 118 = .ok (.newarray .long, 2) := by decide +kernel
theorem d_Mo_init_120 : decode c_Mo_init 120 = .ok (.putfield 54, 3) := by decide +kernel
theorem d_Mo_init_123 : decode c_Mo_init 123 = .ok (.aload_n 0, 1) := by decide +kernel
theorem d_Mo_init_124 : decode c_Mo_init 124 = .ok (.iload_n 1, 1) := by decide +kernel
theorem d_Mo_init_125 : decode c_Mo_init 125 = .ok (.iconst 1, 1) := by decide +kernel
theorem d_Mo_init_126 : decode c_Mo_init 126 = .ok (.if_icmp .ge 7, 3) := by decide +kernel
theorem d_Mo_init_129 : decode c_Mo_init 129 = .ok (.iconst 1, 1) := by decide +kernel
theorem d_Mo_init_130 : decode c_Mo_init 130 = .ok (.goto 15, 3) := by decide +kernel
theorem d_Mo_init_133 : decode c_Mo_init 133 = .ok (.iload_n 1, 1) := by decide +kernel
theorem d_Mo_init_134 : decode c_Mo_init 134 = .ok (.bipush 12, 2) := by decide +kernel
theorem d_Mo_init_136 : decode c_Mo_init 136 = .ok (.if_icmp .le 8, 3) := by decide +kernel
theorem d_Mo_init_139 : decode c_Mo_init 139 = .ok (.bipush 12, 2) := by decide +kernel
theorem d_Mo_init_141 : decode c_Mo_init 141 = .ok (.goto 4, 3) := by decide +kernel
theorem d_Mo_init_144 : decode c_Mo_init 144 = .ok (.iload_n 1, 1) := by decide +kernel
theorem d_Mo_init_145 : decode c_Mo_init 145 = .ok (.putfield 57, 3) := by decide +kernel
theorem d_Mo_init_148 : decode c_Mo_init 148 = .ok (.iconst 0, 1) := by decide +kernel
theorem d_Mo_init_149 : decode c_Mo_init 149 = .ok (.istore_n 2, 1) := by decide +kernel
theorem d_Mo_init_150 : decode c_Mo_init 150 = .ok (.iload_n 2, 1) := by decide +kernel
theorem d_Mo_init_151 : decode c_Mo_init 151 = .ok (.bipush 12, 2) := by decide +kernel
theorem d_Mo_init_153 : decode c_Mo_init 153 = .ok (.if_icmp .ge 18, 3) := by decide +kernel
theorem d_Mo_init_156 : decode c_Mo_init 156 = .ok (.aload_n 0, 1) := by decide +kernel
theorem d_Mo_init_157 : decode c_Mo_init 157 = .ok (.getfield 7, 3) := by decide +kernel
theorem d_Mo_init_160 : decode c_Mo_init 160 = .ok (.iload_n 2, 1) := by decide +kernel
theorem d_Mo_init_161 : decode c_Mo_init 161 = .ok (.sipush 1000, 3) := by decide +kernel
theorem d_Mo_init_164 : decode c_Mo_init 164 = .ok (.iastore, 1) := by decide +kernel
theorem d_Mo_init_165 : decode c_Mo_init 165 = .ok (.iinc 2 1, 3) := by decide +kernel
theorem d_Mo_init_168 : decode c_Mo_init 168 = .ok (.goto (-18), 3) := by decide +kernel
theorem d_Mo_init_171 : decode c_Mo_init 171 = .ok (.return_, 1) := by decide +kernel
theorem d_Mo_thrown_0 : decode c_Mo_thrown 0 = .ok (.aload_n 0, 1) := by decide +kernel
theorem d_Mo_thrown_1 : decode c_Mo_thrown 1 = .ok (.getfield 61, 3) := by decide +kernel
theorem d_Mo_thrown_4 : decode c_Mo_thrown 4 = .ok (.ireturn, 1) := by decide +kernel
theorem d_Mo_refuses_0 : decode c_Mo_refuses 0 = .ok (.aload_n 0, 1) := by decide +kernel
theorem d_Mo_refuses_1 : decode c_Mo_refuses 1 = .ok (.iload_n 1, 1) := by decide +kernel
theorem d_Mo_refuses_2 : decode c_Mo_refuses 2 = .ok (.putfield 61, 3) := by decide +kernel
theorem d_Mo_refuses_5 : decode c_Mo_refuses 5 = .ok (.iload_n 1, 1) := by decide +kernel
theorem d_Mo_refuses_6 : decode c_Mo_refuses 6 = .ok (.ifCond .le 7, 3) := by decide +kernel
theorem d_Mo_refuses_9 : decode c_Mo_refuses 9 = .ok (.iconst 1, 1) := by decide +kernel
theorem d_Mo_refuses_10 : decode c_Mo_refuses 10 = .ok (.goto 4, 3) := by decide +kernel
theorem d_Mo_refuses_13 : decode c_Mo_refuses 13 = .ok (.iconst 0, 1) := by decide +kernel
theorem d_Mo_refuses_14 : decode c_Mo_refuses 14 = .ok (.ireturn, 1) := by decide +kernel
theorem d_Mo_within_0 : decode c_Mo_within 0 = .ok (.lload_n 0, 1) := by decide +kernel
theorem d_Mo_within_1 : decode c_Mo_within 1 = .ok (.lload_n 2, 1) := by decide +kernel
theorem d_Mo_within_2 : decode c_Mo_within 2 = .ok (.lcmp, 1) := by decide +kernel
theorem d_Mo_within_3 : decode c_Mo_within 3 = .ok (.ifCond .lt 14, 3) := by decide +kernel
theorem d_Mo_within_6 : decode c_Mo_within 6 = .ok (.lload_n 0, 1) := by decide +kernel
theorem d_Mo_within_7 : decode c_Mo_within 7 = .ok (.lload 4, 2) := by decide +kernel
theorem d_Mo_within_9 : decode c_Mo_within 9 = .ok (.lcmp, 1) := by decide +kernel
theorem d_Mo_within_10 : decode c_Mo_within 10 = .ok (.ifCond .gt 7, 3) := by decide +kernel
theorem d_Mo_within_13 : decode c_Mo_within 13 = .ok (.iconst 1, 1) := by decide +kernel
theorem d_Mo_within_14 : decode c_Mo_within 14 = .ok (.goto 4, 3) := by decide +kernel
theorem d_Mo_within_17 : decode c_Mo_within 17 = .ok (.iconst 0, 1) := by decide +kernel
theorem d_Mo_within_18 : decode c_Mo_within 18 = .ok (.ireturn, 1) := by decide +kernel
theorem d_Mo_isYear_0 : decode c_Mo_isYear 0 = .ok (.iload_n 1, 1) := by decide +kernel
theorem d_Mo_isYear_1 : decode c_Mo_isYear 1 = .ok (.i2l, 1) := by decide +kernel
theorem d_Mo_isYear_2 : decode c_Mo_isYear 2 = .ok (.lconst 0, 1) := by decide +kernel
theorem d_Mo_isYear_3 : decode c_Mo_isYear 3 = .ok (.aload_n 0, 1) := by decide +kernel
theorem d_Mo_isYear_4 : decode c_Mo_isYear 4 = .ok (.getfield 57, 3) := by decide +kernel
theorem d_Mo_isYear_7 : decode c_Mo_isYear 7 = .ok (.i2l, 1) := by decide +kernel
theorem d_Mo_isYear_8 : decode c_Mo_isYear 8 = .ok (.lconst 1, 1) := by decide +kernel
theorem d_Mo_isYear_9 : decode c_Mo_isYear 9 = .ok (.lsub, 1) := by decide +kernel
theorem d_Mo_isYear_10 : decode c_Mo_isYear 10 = .ok (.invokestatic 64, 3) := by decide +kernel
theorem d_Mo_isYear_13 : decode c_Mo_isYear 13 = .ok (.ireturn, 1) := by decide +kernel
theorem d_Mo_isPart_0 : decode c_Mo_isPart 0 = .ok (.iload_n 1, 1) := by decide +kernel
theorem d_Mo_isPart_1 : decode c_Mo_isPart 1 = .ok (.i2l, 1) := by decide +kernel
theorem d_Mo_isPart_2 : decode c_Mo_isPart 2 = .ok (.lconst 0, 1) := by decide +kernel
theorem d_Mo_isPart_3 : decode c_Mo_isPart 3 = .ok (.aload_n 0, 1) := by decide +kernel
theorem d_Mo_isPart_4 : decode c_Mo_isPart 4 = .ok (.getfield 68, 3) := by decide +kernel
theorem d_Mo_isPart_7 : decode c_Mo_isPart 7 = .ok (.i2l, 1) := by decide +kernel
theorem d_Mo_isPart_8 : decode c_Mo_isPart 8 = .ok (.lconst 1, 1) := by decide +kernel
theorem d_Mo_isPart_9 : decode c_Mo_isPart 9 = .ok (.lsub, 1) := by decide +kernel
theorem d_Mo_isPart_10 : decode c_Mo_isPart 10 = .ok (.invokestatic 64, 3) := by decide +kernel
theorem d_Mo_isPart_13 : decode c_Mo_isPart 13 = .ok (.ireturn, 1) := by decide +kernel
theorem d_Mo_isState_0 : decode c_Mo_isState 0 = .ok (.aload_n 0, 1) := by decide +kernel
theorem d_Mo_isState_1 : decode c_Mo_isState 1 = .ok (.iload_n 1, 1) := by decide +kernel
theorem d_Mo_isState_2 : decode c_Mo_isState 2 = .ok (.invokevirtual 71, 3) := by decide +kernel
theorem d_Mo_isState_5 : decode c_Mo_isState 5 = .ok (.ifCond .eq 25, 3) := by decide +kernel
theorem d_Mo_isState_8 : decode c_Mo_isState 8 = .ok (.iload_n 2, 1) := by decide +kernel
theorem d_Mo_isState_9 : decode c_Mo_isState 9 = .ok (.i2l, 1) := by decide +kernel
theorem d_Mo_isState_10 : decode c_Mo_isState 10 = .ok (.lconst 0, 1) := by decide +kernel
theorem d_Mo_isState_11 : decode c_Mo_isState 11 = .ok (.aload_n 0, 1) := by decide +kernel
theorem d_Mo_isState_12 : decode c_Mo_isState 12 = .ok (.getfield 16, 3) := by decide +kernel
theorem d_Mo_isState_15 : decode c_Mo_isState 15 = .ok (.iload_n 1, 1) := by decide +kernel
theorem d_Mo_isState_16 : decode c_Mo_isState 16 = .ok (.iaload, 1) := by decide +kernel
theorem d_Mo_isState_17 : decode c_Mo_isState 17 = .ok (.i2l, 1) := by decide +kernel
theorem d_Mo_isState_18 : decode c_Mo_isState 18 = .ok (.lconst 1, 1) := by decide +kernel
theorem d_Mo_isState_19 : decode c_Mo_isState 19 = .ok (.lsub, 1) := by decide +kernel
theorem d_Mo_isState_20 : decode c_Mo_isState 20 = .ok (.invokestatic 64, 3) := by decide +kernel
theorem d_Mo_isState_23 : decode c_Mo_isState 23 = .ok (.ifCond .eq 7, 3) := by decide +kernel
theorem d_Mo_isState_26 : decode c_Mo_isState 26 = .ok (.iconst 1, 1) := by decide +kernel
theorem d_Mo_isState_27 : decode c_Mo_isState 27 = .ok (.goto 4, 3) := by decide +kernel
theorem d_Mo_isState_30 : decode c_Mo_isState 30 = .ok (.iconst 0, 1) := by decide +kernel
theorem d_Mo_isState_31 : decode c_Mo_isState 31 = .ok (.ireturn, 1) := by decide +kernel
theorem d_Mo_isWork_0 : decode c_Mo_isWork 0 = .ok (.iload_n 1, 1) := by decide +kernel
theorem d_Mo_isWork_1 : decode c_Mo_isWork 1 = .ok (.i2l, 1) := by decide +kernel
theorem d_Mo_isWork_2 : decode c_Mo_isWork 2 = .ok (.lconst 0, 1) := by decide +kernel
theorem d_Mo_isWork_3 : decode c_Mo_isWork 3 = .ok (.aload_n 0, 1) := by decide +kernel
theorem d_Mo_isWork_4 : decode c_Mo_isWork 4 = .ok (.getfield 75, 3) := by decide +kernel
theorem d_Mo_isWork_7 : decode c_Mo_isWork 7 = .ok (.i2l, 1) := by decide +kernel
theorem d_Mo_isWork_8 : decode c_Mo_isWork 8 = .ok (.lconst 1, 1) := by decide +kernel
theorem d_Mo_isWork_9 : decode c_Mo_isWork 9 = .ok (.lsub, 1) := by decide +kernel
theorem d_Mo_isWork_10 : decode c_Mo_isWork 10 = .ok (.invokestatic 64, 3) := by decide +kernel
theorem d_Mo_isWork_13 : decode c_Mo_isWork 13 = .ok (.ireturn, 1) := by decide +kernel
theorem d_Mo_index_0 : decode c_Mo_index 0 = .ok (.aload_n 0, 1) := by decide +kernel
theorem d_Mo_index_1 : decode c_Mo_index 1 = .ok (.aload_n 0, 1) := by decide +kernel
theorem d_Mo_index_2 : decode c_Mo_index 2 = .ok (.iload_n 1, 1) := by decide +kernel
theorem d_Mo_index_3 : decode c_Mo_index 3 = .ok (.invokevirtual 78, 3) := by decide +kernel
theorem d_Mo_index_6 : decode c_Mo_index 6 = .ok (.ifCond .eq 21, 3) := by decide +kernel
theorem d_Mo_index_9 : decode c_Mo_index 9 = .ok (.iload_n 2, 1) := by decide +kernel
theorem d_Mo_index_10 : decode c_Mo_index 10 = .ok (.i2l, 1) := by decide +kernel
theorem d_Mo_index_11 : decode c_Mo_index 11 = .ok (.ldc2_w 81, 3) := by decide +kernel
theorem d_Mo_index_14 : decode c_Mo_index 14 = .ok (.ldc2_w 83, 3) := by decide +kernel
theorem d_Mo_index_17 : decode c_Mo_index 17 = .ok (.invokestatic 64, 3) := by decide +kernel
theorem d_Mo_index_20 : decode c_Mo_index 20 = .ok (.ifCond .eq 7, 3) := by decide +kernel
theorem d_Mo_index_23 : decode c_Mo_index 23 = .ok (.iconst 0, 1) := by decide +kernel
theorem d_Mo_index_24 : decode c_Mo_index 24 = .ok (.goto 4, 3) := by decide +kernel
theorem d_Mo_index_27 : decode c_Mo_index 27 = .ok (.iconst 1, 1) := by decide +kernel
theorem d_Mo_index_28 : decode c_Mo_index 28 = .ok (.invokevirtual 85, 3) := by decide +kernel
theorem d_Mo_index_31 : decode c_Mo_index 31 = .ok (.ifCond .eq 5, 3) := by decide +kernel
theorem d_Mo_index_34 : decode c_Mo_index 34 = .ok (.iconst 0, 1) := by decide +kernel
theorem d_Mo_index_35 : decode c_Mo_index 35 = .ok (.ireturn, 1) := by decide +kernel
theorem d_Mo_index_36 : decode c_Mo_index 36 = .ok (.aload_n 0, 1) := by decide +kernel
theorem d_Mo_index_37 : decode c_Mo_index 37 = .ok (.getfield 7, 3) := by decide +kernel
theorem d_Mo_index_40 : decode c_Mo_index 40 = .ok (.iload_n 1, 1) := by decide +kernel
theorem d_Mo_index_41 : decode c_Mo_index 41 = .ok (.iaload, 1) := by decide +kernel
theorem d_Mo_index_42 : decode c_Mo_index 42 = .ok (.istore_n 3, 1) := by decide +kernel
theorem d_Mo_index_43 : decode c_Mo_index 43 = .ok (.aload_n 0, 1) := by decide +kernel
theorem d_Mo_index_44 : decode c_Mo_index 44 = .ok (.getfield 7, 3) := by decide +kernel
theorem d_Mo_index_47 : decode c_Mo_index 47 = .ok (.iload_n 1, 1) := by decide +kernel
theorem d_Mo_index_48 : decode c_Mo_index 48 = .ok (.iload_n 2, 1) := by decide +kernel
theorem d_Mo_index_49 : decode c_Mo_index 49 = .ok (.iastore, 1) := by decide +kernel
theorem d_Mo_index_50 : decode c_Mo_index 50 = .ok (.iload_n 3, 1) := by decide +kernel
theorem d_Mo_index_51 : decode c_Mo_index 51 = .ok (.ireturn, 1) := by decide +kernel
theorem d_Mo_budget_0 : decode c_Mo_budget 0 = .ok (.aload_n 0, 1) := by decide +kernel
theorem d_Mo_budget_1 : decode c_Mo_budget 1 = .ok (.aload_n 0, 1) := by decide +kernel
theorem d_Mo_budget_2 : decode c_Mo_budget 2 = .ok (.iload_n 1, 1) := by decide +kernel
theorem d_Mo_budget_3 : decode c_Mo_budget 3 = .ok (.invokevirtual 78, 3) := by decide +kernel
theorem d_Mo_budget_6 : decode c_Mo_budget 6 = .ok (.ifCond .eq 19, 3) := by decide +kernel
theorem d_Mo_budget_9 : decode c_Mo_budget 9 = .ok (.iload_n 2, 1) := by decide +kernel
theorem d_Mo_budget_10 : decode c_Mo_budget 10 = .ok (.i2l, 1) := by decide +kernel
theorem d_Mo_budget_11 : decode c_Mo_budget 11 = .ok (.lconst 0, 1) := by decide +kernel
theorem d_Mo_budget_12 : decode c_Mo_budget 12 = .ok (.ldc2_w 88, 3) := by decide +kernel
theorem d_Mo_budget_15 : decode c_Mo_budget 15 = .ok (.invokestatic 64, 3) := by decide +kernel
theorem d_Mo_budget_18 : decode c_Mo_budget 18 = .ok (.ifCond .eq 7, 3) := by decide +kernel
theorem d_Mo_budget_21 : decode c_Mo_budget 21 = .ok (.iconst 0, 1) := by decide +kernel
theorem d_Mo_budget_22 : decode c_Mo_budget 22 = .ok (.goto 4, 3) := by decide +kernel
theorem d_Mo_budget_25 : decode c_Mo_budget 25 = .ok (.iconst 1, 1) := by decide +kernel
theorem d_Mo_budget_26 : decode c_Mo_budget 26 = .ok (.invokevirtual 85, 3) := by decide +kernel
theorem d_Mo_budget_29 : decode c_Mo_budget 29 = .ok (.ifCond .eq 5, 3) := by decide +kernel
theorem d_Mo_budget_32 : decode c_Mo_budget 32 = .ok (.iconst 0, 1) := by decide +kernel
theorem d_Mo_budget_33 : decode c_Mo_budget 33 = .ok (.ireturn, 1) := by decide +kernel
theorem d_Mo_budget_34 : decode c_Mo_budget 34 = .ok (.aload_n 0, 1) := by decide +kernel
theorem d_Mo_budget_35 : decode c_Mo_budget 35 = .ok (.getfield 13, 3) := by decide +kernel
theorem d_Mo_budget_38 : decode c_Mo_budget 38 = .ok (.iload_n 1, 1) := by decide +kernel
theorem d_Mo_budget_39 : decode c_Mo_budget 39 = .ok (.iaload, 1) := by decide +kernel
theorem d_Mo_budget_40 : decode c_Mo_budget 40 = .ok (.istore_n 3, 1) := by decide +kernel
theorem d_Mo_budget_41 : decode c_Mo_budget 41 = .ok (.aload_n 0, 1) := by decide +kernel
theorem d_Mo_budget_42 : decode c_Mo_budget 42 = .ok (.getfield 13, 3) := by decide +kernel
theorem d_Mo_budget_45 : decode c_Mo_budget 45 = .ok (.iload_n 1, 1) := by decide +kernel
theorem d_Mo_budget_46 : decode c_Mo_budget 46 = .ok (.iload_n 2, 1) := by decide +kernel
theorem d_Mo_budget_47 : decode c_Mo_budget 47 = .ok (.iastore, 1) := by decide +kernel
theorem d_Mo_budget_48 : decode c_Mo_budget 48 = .ok (.iload_n 3, 1) := by decide +kernel
theorem d_Mo_budget_49 : decode c_Mo_budget 49 = .ok (.ireturn, 1) := by decide +kernel
theorem d_Mo_part_0 : decode c_Mo_part 0 = .ok (.iload_n 1, 1) := by decide +kernel
theorem d_Mo_part_1 : decode c_Mo_part 1 = .ok (.i2l, 1) := by decide +kernel
theorem d_Mo_part_2 : decode c_Mo_part 2 = .ok (.ldc2_w 90, 3) := by decide +kernel
theorem d_Mo_part_5 : decode c_Mo_part 5 = .ok (.ldc2_w 92, 3) := by decide +kernel
theorem d_Mo_part_8 : decode c_Mo_part 8 = .ok (.invokestatic 64, 3) := by decide +kernel
theorem d_Mo_part_11 : decode c_Mo_part 11 = .ok (.ifCond .eq 20, 3) := by decide +kernel
theorem d_Mo_part_14 : decode c_Mo_part 14 = .ok (.iload_n 2, 1) := by decide +kernel
theorem d_Mo_part_15 : decode c_Mo_part 15 = .ok (.i2l, 1) := by decide +kernel
theorem d_Mo_part_16 : decode c_Mo_part 16 = .ok (.lconst 0, 1) := by decide +kernel
theorem d_Mo_part_17 : decode c_Mo_part 17 = .ok (.iload_n 1, 1) := by decide +kernel
theorem d_Mo_part_18 : decode c_Mo_part 18 = .ok (.i2l, 1) := by decide +kernel
theorem d_Mo_part_19 : decode c_Mo_part 19 = .ok (.lconst 1, 1) := by decide +kernel
theorem d_Mo_part_20 : decode c_Mo_part 20 = .ok (.lsub, 1) := by decide +kernel
theorem d_Mo_part_21 : decode c_Mo_part 21 = .ok (.invokestatic 64, 3) := by decide +kernel
theorem d_Mo_part_24 : decode c_Mo_part 24 = .ok (.ifCond .eq 7, 3) := by decide +kernel
theorem d_Mo_part_27 : decode c_Mo_part 27 = .ok (.iconst 1, 1) := by decide +kernel
theorem d_Mo_part_28 : decode c_Mo_part 28 = .ok (.goto 4, 3) := by decide +kernel
theorem d_Mo_part_31 : decode c_Mo_part 31 = .ok (.iconst 0, 1) := by decide +kernel
theorem d_Mo_part_32 : decode c_Mo_part 32 = .ok (.istore_n 3, 1) := by decide +kernel
theorem d_Mo_part_33 : decode c_Mo_part 33 = .ok (.aload_n 0, 1) := by decide +kernel
theorem d_Mo_part_34 : decode c_Mo_part 34 = .ok (.iload_n 3, 1) := by decide +kernel
theorem d_Mo_part_35 : decode c_Mo_part 35 = .ok (.ifCond .ne 7, 3) := by decide +kernel
theorem d_Mo_part_38 : decode c_Mo_part 38 = .ok (.iconst 1, 1) := by decide +kernel
theorem d_Mo_part_39 : decode c_Mo_part 39 = .ok (.goto 17, 3) := by decide +kernel
theorem d_Mo_part_42 : decode c_Mo_part 42 = .ok (.aload_n 0, 1) := by decide +kernel
theorem d_Mo_part_43 : decode c_Mo_part 43 = .ok (.getfield 68, 3) := by decide +kernel
theorem d_Mo_part_46 : decode c_Mo_part 46 = .ok (.bipush 12, 2) := by decide +kernel
theorem d_Mo_part_48 : decode c_Mo_part 48 = .ok (.if_icmp .ne 7, 3) := by decide +kernel
theorem d_Mo_part_51 : decode c_Mo_part 51 = .ok (.iconst 2, 1) := by decide +kernel
theorem d_Mo_part_52 : decode c_Mo_part 52 = .ok (.goto 4, 3) := by decide +kernel
theorem d_Mo_part_55 : decode c_Mo_part 55 = .ok (.iconst 0, 1) := by decide +kernel
theorem d_Mo_part_56 : decode c_Mo_part 56 = .ok (.invokevirtual 85, 3) := by decide +kernel
theorem d_Mo_part_59 : decode c_Mo_part 59 = .ok (.ifCond .eq 5, 3) := by decide +kernel
theorem d_Mo_part_62 : decode c_Mo_part 62 = .ok (.iconst 0, 1) := by decide +kernel
theorem d_Mo_part_63 : decode c_Mo_part 63 = .ok (.ireturn, 1) := by decide +kernel
theorem d_Mo_part_64 : decode c_Mo_part 64 = .ok (.aload_n 0, 1) := by decide +kernel
theorem d_Mo_part_65 : decode c_Mo_part 65 = .ok (.getfield 16, 3) := by decide +kernel
theorem d_Mo_part_68 : decode c_Mo_part 68 = .ok (.aload_n 0, 1) := by decide +kernel
theorem d_Mo_part_69 : decode c_Mo_part 69 = .ok (.getfield 68, 3) := by decide +kernel
theorem d_Mo_part_72 : decode c_Mo_part 72 = .ok (.iload_n 1, 1) := by decide +kernel
theorem d_Mo_part_73 : decode c_Mo_part 73 = .ok (.iastore, 1) := by decide +kernel
theorem d_Mo_part_74 : decode c_Mo_part 74 = .ok (.aload_n 0, 1) := by decide +kernel
theorem d_Mo_part_75 : decode c_Mo_part 75 = .ok (.getfield 19, 3) := by decide +kernel
theorem d_Mo_part_78 : decode c_Mo_part 78 = .ok (.aload_n 0, 1) := by decide +kernel
theorem d_Mo_part_79 : decode c_Mo_part 79 = .ok (.getfield 68, 3) := by decide +kernel
theorem d_Mo_part_82 : decode c_Mo_part 82 = .ok (.iload_n 2, 1) := by decide +kernel
theorem d_Mo_part_83 : decode c_Mo_part 83 = .ok (.iastore, 1) := by decide +kernel
theorem d_Mo_part_84 : decode c_Mo_part 84 = .ok (.aload_n 0, 1) := by decide +kernel
theorem d_Mo_part_85 : decode c_Mo_part 85 = .ok (.dup, 1) := by decide +kernel
theorem d_Mo_part_86 : decode c_Mo_part 86 = .ok (.getfield 68, 3) := by decide +kernel
theorem d_Mo_part_89 : decode c_Mo_part 89 = .ok (.iconst 1, 1) := by decide +kernel
theorem d_Mo_part_90 : decode c_Mo_part 90 = .ok (.iadd, 1) := by decide +kernel
theorem d_Mo_part_91 : decode c_Mo_part 91 = .ok (.putfield 68, 3) := by decide +kernel
theorem d_Mo_part_94 : decode c_Mo_part 94 = .ok (.aload_n 0, 1) := by decide +kernel
theorem d_Mo_part_95 : decode c_Mo_part 95 = .ok (.getfield 68, 3) := by decide +kernel
theorem d_Mo_part_98 : decode c_Mo_part 98 = .ok (.iconst 1, 1) := by decide +kernel
theorem d_Mo_part_99 : decode c_Mo_part 99 = .ok (.isub, 1) := by decide +kernel
theorem d_Mo_part_100 : decode c_Mo_part 100 = .ok (.ireturn, 1) := by decide +kernel
theorem d_Mo_leaving_0 : decode c_Mo_leaving 0 = .ok (.iconst 0, 1) := by decide +kernel
theorem d_Mo_leaving_1 : decode c_Mo_leaving 1 = .ok (.istore_n 3, 1) := by decide +kernel
theorem d_Mo_leaving_2 : decode c_Mo_leaving 2 = .ok (.iconst 0, 1) := by decide +kernel
theorem d_Mo_leaving_3 : decode c_Mo_leaving 3 = .ok (.istore 4, 2) := by decide +kernel
theorem d_Mo_leaving_5 : decode c_Mo_leaving 5 = .ok (.iload 4, 2) := by decide +kernel
theorem d_Mo_leaving_7 : decode c_Mo_leaving 7 = .ok (.iconst 4, 1) := by decide +kernel
theorem d_Mo_leaving_8 : decode c_Mo_leaving 8 = .ok (.if_icmp .ge 28, 3) := by decide +kernel
theorem d_Mo_leaving_11 : decode c_Mo_leaving 11 = .ok (.iload_n 3, 1) := by decide +kernel
theorem d_Mo_leaving_12 : decode c_Mo_leaving 12 = .ok (.aload_n 0, 1) := by decide +kernel
theorem d_Mo_leaving_13 : decode c_Mo_leaving 13 = .ok (.getfield 22, 3) := by decide +kernel
theorem d_Mo_leaving_16 : decode c_Mo_leaving 16 = .ok (.bipush 16, 2) := by decide +kernel
theorem d_Mo_leaving_18 : decode c_Mo_leaving 18 = .ok (.iload_n 1, 1) := by decide +kernel
theorem d_Mo_leaving_19 : decode c_Mo_leaving 19 = .ok (.imul, 1) := by decide +kernel
theorem d_Mo_leaving_20 : decode c_Mo_leaving 20 = .ok (.iconst 4, 1) := by decide +kernel
theorem d_Mo_leaving_21 : decode c_Mo_leaving 21 = .ok (.iload_n 2, 1) := by decide +kernel
theorem d_Mo_leaving_22 : decode c_Mo_leaving 22 = .ok (.imul, 1) := by decide +kernel
theorem d_Mo_leaving_23 : decode c_Mo_leaving 23 = .ok (.iadd, 1) := by decide +kernel
theorem d_Mo_leaving_24 : decode c_Mo_leaving 24 = .ok (.iload 4, 2) := by decide +kernel
theorem d_Mo_leaving_26 : decode c_Mo_leaving 26 = .ok (.iadd, 1) := by decide +kernel
theorem d_Mo_leaving_27 : decode c_Mo_leaving 27 = .ok (.iaload, 1) := by decide +kernel
theorem d_Mo_leaving_28 : decode c_Mo_leaving 28 = .ok (.iadd, 1) := by decide +kernel
theorem d_Mo_leaving_29 : decode c_Mo_leaving 29 = .ok (.istore_n 3, 1) := by decide +kernel
theorem d_Mo_leaving_30 : decode c_Mo_leaving 30 = .ok (.iinc 4 1, 3) := by decide +kernel
theorem d_Mo_leaving_33 : decode c_Mo_leaving 33 = .ok (.goto (-28), 3) := by decide +kernel
theorem d_Mo_leaving_36 : decode c_Mo_leaving 36 = .ok (.iload_n 3, 1) := by decide +kernel
theorem d_Mo_leaving_37 : decode c_Mo_leaving 37 = .ok (.ireturn, 1) := by decide +kernel
theorem d_Mo_moves_0 : decode c_Mo_moves 0 = .ok (.aload_n 0, 1) := by decide +kernel
theorem d_Mo_moves_1 : decode c_Mo_moves 1 = .ok (.iload_n 1, 1) := by decide +kernel
theorem d_Mo_moves_2 : decode c_Mo_moves 2 = .ok (.iload_n 2, 1) := by decide +kernel
theorem d_Mo_moves_3 : decode c_Mo_moves 3 = .ok (.invokevirtual 94, 3) := by decide +kernel
theorem d_Mo_moves_6 : decode c_Mo_moves 6 = .ok (.ifCond .eq 34, 3) := by decide +kernel
theorem d_Mo_moves_9 : decode c_Mo_moves 9 = .ok (.aload_n 0, 1) := by decide +kernel
theorem d_Mo_moves_10 : decode c_Mo_moves 10 = .ok (.iload_n 1, 1) := by decide +kernel
theorem d_Mo_moves_11 : decode c_Mo_moves 11 = .ok (.iload_n 3, 1) := by decide +kernel
theorem d_Mo_moves_12 : decode c_Mo_moves 12 = .ok (.invokevirtual 94, 3) := by decide +kernel
theorem d_Mo_moves_15 : decode c_Mo_moves 15 = .ok (.ifCond .eq 25, 3) := by decide +kernel
theorem d_Mo_moves_18 : decode c_Mo_moves 18 = .ok (.iload_n 2, 1) := by decide +kernel
theorem d_Mo_moves_19 : decode c_Mo_moves 19 = .ok (.iload_n 3, 1) := by decide +kernel
theorem d_Mo_moves_20 : decode c_Mo_moves 20 = .ok (.if_icmp .eq 20, 3) := by decide +kernel
theorem d_Mo_moves_23 : decode c_Mo_moves 23 = .ok (.iload 4, 2) := by decide +kernel
theorem d_Mo_moves_25 : decode c_Mo_moves 25 = .ok (.i2l, 1) := by decide +kernel
theorem d_Mo_moves_26 : decode c_Mo_moves 26 = .ok (.lconst 0, 1) := by decide +kernel
theorem d_Mo_moves_27 : decode c_Mo_moves 27 = .ok (.ldc2_w 98, 3) := by decide +kernel
theorem d_Mo_moves_30 : decode c_Mo_moves 30 = .ok (.invokestatic 64, 3) := by decide +kernel
theorem d_Mo_moves_33 : decode c_Mo_moves 33 = .ok (.ifCond .eq 7, 3) := by decide +kernel
theorem d_Mo_moves_36 : decode c_Mo_moves 36 = .ok (.iconst 1, 1) := by decide +kernel
theorem d_Mo_moves_37 : decode c_Mo_moves 37 = .ok (.goto 4, 3) := by decide +kernel
theorem d_Mo_moves_40 : decode c_Mo_moves 40 = .ok (.iconst 0, 1) := by decide +kernel
theorem d_Mo_moves_41 : decode c_Mo_moves 41 = .ok (.istore 5, 2) := by decide +kernel
theorem d_Mo_moves_43 : decode c_Mo_moves 43 = .ok (.iload 5, 2) := by decide +kernel
theorem d_Mo_moves_45 : decode c_Mo_moves 45 = .ok (.ifCond .eq 21, 3) := by decide +kernel
theorem d_Mo_moves_48 : decode c_Mo_moves 48 = .ok (.aload_n 0, 1) := by decide +kernel
theorem d_Mo_moves_49 : decode c_Mo_moves 49 = .ok (.getfield 22, 3) := by decide +kernel
theorem d_Mo_moves_52 : decode c_Mo_moves 52 = .ok (.bipush 16, 2) := by decide +kernel
theorem d_Mo_moves_54 : decode c_Mo_moves 54 = .ok (.iload_n 1, 1) := by decide +kernel
theorem d_Mo_moves_55 : decode c_Mo_moves 55 = .ok (.imul, 1) := by decide +kernel
theorem d_Mo_moves_56 : decode c_Mo_moves 56 = .ok (.iconst 4, 1) := by decide +kernel
theorem d_Mo_moves_57 : decode c_Mo_moves 57 = .ok (.iload_n 2, 1) := by decide +kernel
theorem d_Mo_moves_58 : decode c_Mo_moves 58 = .ok (.imul, 1) := by decide +kernel
theorem d_Mo_moves_59 : decode c_Mo_moves 59 = .ok (.iadd, 1) := by decide +kernel
theorem d_Mo_moves_60 : decode c_Mo_moves 60 = .ok (.iload_n 3, 1) := by decide +kernel
theorem d_Mo_moves_61 : decode c_Mo_moves 61 = .ok (.iadd, 1) := by decide +kernel
theorem d_Mo_moves_62 : decode c_Mo_moves 62 = .ok (.iaload, 1) := by decide +kernel
theorem d_Mo_moves_63 : decode c_Mo_moves 63 = .ok (.goto 4, 3) := by decide +kernel
theorem d_Mo_moves_66 : decode c_Mo_moves 66 = .ok (.iconst 0, 1) := by decide +kernel
theorem d_Mo_moves_67 : decode c_Mo_moves 67 = .ok (.istore 6, 2) := by decide +kernel
theorem d_Mo_moves_69 : decode c_Mo_moves 69 = .ok (.aload_n 0, 1) := by decide +kernel
theorem d_Mo_moves_70 : decode c_Mo_moves 70 = .ok (.iload 5, 2) := by decide +kernel
theorem d_Mo_moves_72 : decode c_Mo_moves 72 = .ok (.ifCond .eq 20, 3) := by decide +kernel
theorem d_Mo_moves_75 : decode c_Mo_moves 75 = .ok (.aload_n 0, 1) := by decide +kernel
theorem d_Mo_moves_76 : decode c_Mo_moves 76 = .ok (.iload_n 1, 1) := by decide +kernel
theorem d_Mo_moves_77 : decode c_Mo_moves 77 = .ok (.iload_n 2, 1) := by decide +kernel
theorem d_Mo_moves_78 : decode c_Mo_moves 78 = .ok (.invokevirtual 100, 3) := by decide +kernel
theorem d_Mo_moves_81 : decode c_Mo_moves 81 = .ok (.iload 6, 2) := by decide +kernel
theorem d_Mo_moves_83 : decode c_Mo_moves 83 = .ok (.isub, 1) := by decide +kernel
theorem d_Mo_moves_84 : decode c_Mo_moves 84 = .ok (.iload 4, 2) := by decide +kernel
theorem d_Mo_moves_86 : decode c_Mo_moves 86 = .ok (.iadd, 1) := by decide +kernel
theorem d_Mo_moves_87 : decode c_Mo_moves 87 = .ok (.bipush 16, 2) := by decide +kernel
theorem d_Mo_moves_89 : decode c_Mo_moves 89 = .ok (.if_icmp .le 7, 3) := by decide +kernel
theorem d_Mo_moves_92 : decode c_Mo_moves 92 = .ok (.iconst 1, 1) := by decide +kernel
theorem d_Mo_moves_93 : decode c_Mo_moves 93 = .ok (.goto 4, 3) := by decide +kernel
theorem d_Mo_moves_96 : decode c_Mo_moves 96 = .ok (.iconst 0, 1) := by decide +kernel
theorem d_Mo_moves_97 : decode c_Mo_moves 97 = .ok (.invokevirtual 85, 3) := by decide +kernel
theorem d_Mo_moves_100 : decode c_Mo_moves 100 = .ok (.ifCond .eq 5, 3) := by decide +kernel
theorem d_Mo_moves_103 : decode c_Mo_moves 103 = .ok (.iconst 0, 1) := by decide +kernel
theorem d_Mo_moves_104 : decode c_Mo_moves 104 = .ok (.ireturn, 1) := by decide +kernel
theorem d_Mo_moves_105 : decode c_Mo_moves 105 = .ok (.aload_n 0, 1) := by decide +kernel
theorem d_Mo_moves_106 : decode c_Mo_moves 106 = .ok (.getfield 22, 3) := by decide +kernel
theorem d_Mo_moves_109 : decode c_Mo_moves 109 = .ok (.bipush 16, 2) := by decide +kernel
theorem d_Mo_moves_111 : decode c_Mo_moves 111 = .ok (.iload_n 1, 1) := by decide +kernel
theorem d_Mo_moves_112 : decode c_Mo_moves 112 = .ok (.imul, 1) := by decide +kernel
theorem d_Mo_moves_113 : decode c_Mo_moves 113 = .ok (.iconst 4, 1) := by decide +kernel
theorem d_Mo_moves_114 : decode c_Mo_moves 114 = .ok (.iload_n 2, 1) := by decide +kernel
theorem d_Mo_moves_115 : decode c_Mo_moves 115 = .ok (.imul, 1) := by decide +kernel
theorem d_Mo_moves_116 : decode c_Mo_moves 116 = .ok (.iadd, 1) := by decide +kernel
theorem d_Mo_moves_117 : decode c_Mo_moves 117 = .ok (.iload_n 3, 1) := by decide +kernel
theorem d_Mo_moves_118 : decode c_Mo_moves 118 = .ok (.iadd, 1) := by decide +kernel
theorem d_Mo_moves_119 : decode c_Mo_moves 119 = .ok (.iload 4, 2) := by decide +kernel
theorem d_Mo_moves_121 : decode c_Mo_moves 121 = .ok (.iastore, 1) := by decide +kernel
theorem d_Mo_moves_122 : decode c_Mo_moves 122 = .ok (.iload 6, 2) := by decide +kernel
theorem d_Mo_moves_124 : decode c_Mo_moves 124 = .ok (.ireturn, 1) := by decide +kernel
theorem d_Mo_care_0 : decode c_Mo_care 0 = .ok (.aload_n 0, 1) := by decide +kernel
theorem d_Mo_care_1 : decode c_Mo_care 1 = .ok (.aload_n 0, 1) := by decide +kernel
theorem d_Mo_care_2 : decode c_Mo_care 2 = .ok (.iload_n 1, 1) := by decide +kernel
theorem d_Mo_care_3 : decode c_Mo_care 3 = .ok (.iload_n 2, 1) := by decide +kernel
theorem d_Mo_care_4 : decode c_Mo_care 4 = .ok (.invokevirtual 94, 3) := by decide +kernel
theorem d_Mo_care_7 : decode c_Mo_care 7 = .ok (.ifCond .eq 19, 3) := by decide +kernel
theorem d_Mo_care_10 : decode c_Mo_care 10 = .ok (.iload_n 3, 1) := by decide +kernel
theorem d_Mo_care_11 : decode c_Mo_care 11 = .ok (.i2l, 1) := by decide +kernel
theorem d_Mo_care_12 : decode c_Mo_care 12 = .ok (.lconst 0, 1) := by decide +kernel
theorem d_Mo_care_13 : decode c_Mo_care 13 = .ok (.ldc2_w 104, 3) := by decide +kernel
theorem d_Mo_care_16 : decode c_Mo_care 16 = .ok (.invokestatic 64, 3) := by decide +kernel
theorem d_Mo_care_19 : decode c_Mo_care 19 = .ok (.ifCond .eq 7, 3) := by decide +kernel
theorem d_Mo_care_22 : decode c_Mo_care 22 = .ok (.iconst 0, 1) := by decide +kernel
theorem d_Mo_care_23 : decode c_Mo_care 23 = .ok (.goto 4, 3) := by decide +kernel
theorem d_Mo_care_26 : decode c_Mo_care 26 = .ok (.iconst 1, 1) := by decide +kernel
theorem d_Mo_care_27 : decode c_Mo_care 27 = .ok (.invokevirtual 85, 3) := by decide +kernel
theorem d_Mo_care_30 : decode c_Mo_care 30 = .ok (.ifCond .eq 5, 3) := by decide +kernel
theorem d_Mo_care_33 : decode c_Mo_care 33 = .ok (.iconst 0, 1) := by decide +kernel
theorem d_Mo_care_34 : decode c_Mo_care 34 = .ok (.ireturn, 1) := by decide +kernel
theorem d_Mo_care_35 : decode c_Mo_care 35 = .ok (.aload_n 0, 1) := by decide +kernel
theorem d_Mo_care_36 : decode c_Mo_care 36 = .ok (.getfield 25, 3) := by decide +kernel
theorem d_Mo_care_39 : decode c_Mo_care 39 = .ok (.iconst 4, 1) := by decide +kernel
theorem d_Mo_care_40 : decode c_Mo_care 40 = .ok (.iload_n 1, 1) := by decide +kernel
theorem d_Mo_care_41 : decode c_Mo_care 41 = .ok (.imul, 1) := by decide +kernel
theorem d_Mo_care_42 : decode c_Mo_care 42 = .ok (.iload_n 2, 1) := by decide +kernel
theorem d_Mo_care_43 : decode c_Mo_care 43 = .ok (.iadd, 1) := by decide +kernel
theorem d_Mo_care_44 : decode c_Mo_care 44 = .ok (.iaload, 1) := by decide +kernel
theorem d_Mo_care_45 : decode c_Mo_care 45 = .ok (.istore 4, 2) := by decide +kernel
theorem d_Mo_care_47 : decode c_Mo_care 47 = .ok (.aload_n 0, 1) := by decide +kernel
theorem d_Mo_care_48 : decode c_Mo_care 48 = .ok (.getfield 25, 3) := by decide +kernel
theorem d_Mo_care_51 : decode c_Mo_care 51 = .ok (.iconst 4, 1) := by decide +kernel
theorem d_Mo_care_52 : decode c_Mo_care 52 = .ok (.iload_n 1, 1) := by decide +kernel
theorem d_Mo_care_53 : decode c_Mo_care 53 = .ok (.imul, 1) := by decide +kernel
theorem d_Mo_care_54 : decode c_Mo_care 54 = .ok (.iload_n 2, 1) := by decide +kernel
theorem d_Mo_care_55 : decode c_Mo_care 55 = .ok (.iadd, 1) := by decide +kernel
theorem d_Mo_care_56 : decode c_Mo_care 56 = .ok (.iload_n 3, 1) := by decide +kernel
theorem d_Mo_care_57 : decode c_Mo_care 57 = .ok (.iastore, 1) := by decide +kernel
theorem d_Mo_care_58 : decode c_Mo_care 58 = .ok (.iload 4, 2) := by decide +kernel
theorem d_Mo_care_60 : decode c_Mo_care 60 = .ok (.ireturn, 1) := by decide +kernel
theorem d_Mo_begins_0 : decode c_Mo_begins 0 = .ok (.iconst 0, 1) := by decide +kernel
theorem d_Mo_begins_1 : decode c_Mo_begins 1 = .ok (.istore_n 3, 1) := by decide +kernel
theorem d_Mo_begins_2 : decode c_Mo_begins 2 = .ok (.iconst 0, 1) := by decide +kernel
theorem d_Mo_begins_3 : decode c_Mo_begins 3 = .ok (.istore 4, 2) := by decide +kernel
theorem d_Mo_begins_5 : decode c_Mo_begins 5 = .ok (.iload 4, 2) := by decide +kernel
theorem d_Mo_begins_7 : decode c_Mo_begins 7 = .ok (.aload_n 0, 1) := by decide +kernel
theorem d_Mo_begins_8 : decode c_Mo_begins 8 = .ok (.getfield 75, 3) := by decide +kernel
theorem d_Mo_begins_11 : decode c_Mo_begins 11 = .ok (.if_icmp .ge 79, 3) := by decide +kernel
theorem d_Mo_begins_14 : decode c_Mo_begins 14 = .ok (.aload_n 0, 1) := by decide +kernel
theorem d_Mo_begins_15 : decode c_Mo_begins 15 = .ok (.getfield 106, 3) := by decide +kernel
theorem d_Mo_begins_18 : decode c_Mo_begins 18 = .ok (.iload 4, 2) := by decide +kernel
theorem d_Mo_begins_20 : decode c_Mo_begins 20 = .ok (.ishr, 1) := by decide +kernel
theorem d_Mo_begins_21 : decode c_Mo_begins 21 = .ok (.iconst 1, 1) := by decide +kernel
theorem d_Mo_begins_22 : decode c_Mo_begins 22 = .ok (.iand, 1) := by decide +kernel
theorem d_Mo_begins_23 : decode c_Mo_begins 23 = .ok (.iconst 1, 1) := by decide +kernel
theorem d_Mo_begins_24 : decode c_Mo_begins 24 = .ok (.if_icmp .ne 29, 3) := by decide +kernel
theorem d_Mo_begins_27 : decode c_Mo_begins 27 = .ok (.aload_n 0, 1) := by decide +kernel
theorem d_Mo_begins_28 : decode c_Mo_begins 28 = .ok (.getfield 37, 3) := by decide +kernel
theorem d_Mo_begins_31 : decode c_Mo_begins 31 = .ok (.iload 4, 2) := by decide +kernel
theorem d_Mo_begins_33 : decode c_Mo_begins 33 = .ok (.iaload, 1) := by decide +kernel
theorem d_Mo_begins_34 : decode c_Mo_begins 34 = .ok (.iload_n 1, 1) := by decide +kernel
theorem d_Mo_begins_35 : decode c_Mo_begins 35 = .ok (.if_icmp .ne 18, 3) := by decide +kernel
theorem d_Mo_begins_38 : decode c_Mo_begins 38 = .ok (.aload_n 0, 1) := by decide +kernel
theorem d_Mo_begins_39 : decode c_Mo_begins 39 = .ok (.getfield 28, 3) := by decide +kernel
theorem d_Mo_begins_42 : decode c_Mo_begins 42 = .ok (.iload 4, 2) := by decide +kernel
theorem d_Mo_begins_44 : decode c_Mo_begins 44 = .ok (.iaload, 1) := by decide +kernel
theorem d_Mo_begins_45 : decode c_Mo_begins 45 = .ok (.iload_n 2, 1) := by decide +kernel
theorem d_Mo_begins_46 : decode c_Mo_begins 46 = .ok (.if_icmp .gt 7, 3) := by decide +kernel
theorem d_Mo_begins_49 : decode c_Mo_begins 49 = .ok (.iconst 1, 1) := by decide +kernel
theorem d_Mo_begins_50 : decode c_Mo_begins 50 = .ok (.goto 4, 3) := by decide +kernel
theorem d_Mo_begins_53 : decode c_Mo_begins 53 = .ok (.iconst 0, 1) := by decide +kernel
theorem d_Mo_begins_54 : decode c_Mo_begins 54 = .ok (.istore 5, 2) := by decide +kernel
theorem d_Mo_begins_56 : decode c_Mo_begins 56 = .ok (.iload 5, 2) := by decide +kernel
theorem d_Mo_begins_58 : decode c_Mo_begins 58 = .ok (.ifCond .eq 24, 3) := by decide +kernel
theorem d_Mo_begins_61 : decode c_Mo_begins 61 = .ok (.aload_n 0, 1) := by decide +kernel
theorem d_Mo_begins_62 : decode c_Mo_begins 62 = .ok (.getfield 28, 3) := by decide +kernel
theorem d_Mo_begins_65 : decode c_Mo_begins 65 = .ok (.iload 4, 2) := by decide +kernel
theorem d_Mo_begins_67 : decode c_Mo_begins 67 = .ok (.iaload, 1) := by decide +kernel
theorem d_Mo_begins_68 : decode c_Mo_begins 68 = .ok (.iload_n 3, 1) := by decide +kernel
theorem d_Mo_begins_69 : decode c_Mo_begins 69 = .ok (.if_icmp .le 13, 3) := by decide +kernel
theorem d_Mo_begins_72 : decode c_Mo_begins 72 = .ok (.aload_n 0, 1) := by decide +kernel
theorem d_Mo_begins_73 : decode c_Mo_begins 73 = .ok (.getfield 28, 3) := by decide +kernel
theorem d_Mo_begins_76 : decode c_Mo_begins 76 = .ok (.iload 4, 2) := by decide +kernel
theorem d_Mo_begins_78 : decode c_Mo_begins 78 = .ok (.iaload, 1) := by decide +kernel
theorem d_Mo_begins_79 : decode c_Mo_begins 79 = .ok (.goto 4, 3) := by decide +kernel
theorem d_Mo_begins_82 : decode c_Mo_begins 82 = .ok (.iload_n 3, 1) := by decide +kernel
theorem d_Mo_begins_83 : decode c_Mo_begins 83 = .ok (.istore_n 3, 1) := by decide +kernel
theorem d_Mo_begins_84 : decode c_Mo_begins 84 = .ok (.iinc 4 1, 3) := by decide +kernel
theorem d_Mo_begins_87 : decode c_Mo_begins 87 = .ok (.goto (-82), 3) := by decide +kernel
theorem d_Mo_begins_90 : decode c_Mo_begins 90 = .ok (.iload_n 3, 1) := by decide +kernel
theorem d_Mo_begins_91 : decode c_Mo_begins 91 = .ok (.ireturn, 1) := by decide +kernel
theorem d_Mo_learn_0 : decode c_Mo_learn 0 = .ok (.iconst 0, 1) := by decide +kernel
theorem d_Mo_learn_1 : decode c_Mo_learn 1 = .ok (.istore_n 3, 1) := by decide +kernel
theorem d_Mo_learn_2 : decode c_Mo_learn 2 = .ok (.iload_n 3, 1) := by decide +kernel
theorem d_Mo_learn_3 : decode c_Mo_learn 3 = .ok (.iconst 4, 1) := by decide +kernel
theorem d_Mo_learn_4 : decode c_Mo_learn 4 = .ok (.if_icmp .ge 30, 3) := by decide +kernel
theorem d_Mo_learn_7 : decode c_Mo_learn 7 = .ok (.aload_n 0, 1) := by decide +kernel
theorem d_Mo_learn_8 : decode c_Mo_learn 8 = .ok (.getfield 50, 3) := by decide +kernel
theorem d_Mo_learn_11 : decode c_Mo_learn 11 = .ok (.iload_n 3, 1) := by decide +kernel
theorem d_Mo_learn_12 : decode c_Mo_learn 12 = .ok (.iload_n 3, 1) := by decide +kernel
theorem d_Mo_learn_13 : decode c_Mo_learn 13 = .ok (.aload_n 0, 1) := by decide +kernel
theorem d_Mo_learn_14 : decode c_Mo_learn 14 = .ok (.getfield 19, 3) := by decide +kernel
theorem d_Mo_learn_17 : decode c_Mo_learn 17 = .ok (.iload_n 1, 1) := by decide +kernel
theorem d_Mo_learn_18 : decode c_Mo_learn 18 = .ok (.iaload, 1) := by decide +kernel
theorem d_Mo_learn_19 : decode c_Mo_learn 19 = .ok (.if_icmp .ne 7, 3) := by decide +kernel
theorem d_Mo_learn_22 : decode c_Mo_learn 22 = .ok (.lconst 1, 1) := by decide +kernel
theorem d_Mo_learn_23 : decode c_Mo_learn 23 = .ok (.goto 4, 3) := by decide +kernel
theorem d_Mo_learn_26 : decode c_Mo_learn 26 = .ok (.lconst 0, 1) := by decide +kernel
theorem d_Mo_learn_27 : decode c_Mo_learn 27 = .ok (.lastore, 1) := by decide +kernel
theorem d_Mo_learn_28 : decode c_Mo_learn 28 = .ok (.iinc 3 1, 3) := by decide +kernel
theorem d_Mo_learn_31 : decode c_Mo_learn 31 = .ok (.goto (-29), 3) := by decide +kernel
theorem d_Mo_learn_34 : decode c_Mo_learn 34 = .ok (.lconst 1, 1) := by decide +kernel
theorem d_Mo_learn_35 : decode c_Mo_learn 35 = .ok (.lstore_n 3, 1) := by decide +kernel
theorem d_Mo_learn_36 : decode c_Mo_learn 36 = .ok (.aload_n 0, 1) := by decide +kernel
theorem d_Mo_learn_37 : decode c_Mo_learn 37 = .ok (.iload_n 1, 1) := by decide +kernel
theorem d_Mo_learn_38 : decode c_Mo_learn 38 = .ok (.iload_n 2, 1) := by decide +kernel
theorem d_Mo_learn_39 : decode c_Mo_learn 39 = .ok (.invokevirtual 109, 3) := by decide +kernel
theorem d_Mo_learn_42 : decode c_Mo_learn 42 = .ok (.istore 5, 2) := by decide +kernel
theorem d_Mo_learn_44 : decode c_Mo_learn 44 = .ok (.iload 5, 2) := by decide +kernel
theorem d_Mo_learn_46 : decode c_Mo_learn 46 = .ok (.iload_n 2, 1) := by decide +kernel
theorem d_Mo_learn_47 : decode c_Mo_learn 47 = .ok (.if_icmp .ge 136, 3) := by decide +kernel
theorem d_Mo_learn_50 : decode c_Mo_learn 50 = .ok (.iconst 0, 1) := by decide +kernel
theorem d_Mo_learn_51 : decode c_Mo_learn 51 = .ok (.istore 6, 2) := by decide +kernel
theorem d_Mo_learn_53 : decode c_Mo_learn 53 = .ok (.iload 6, 2) := by decide +kernel
theorem d_Mo_learn_55 : decode c_Mo_learn 55 = .ok (.iconst 4, 1) := by decide +kernel
theorem d_Mo_learn_56 : decode c_Mo_learn 56 = .ok (.if_icmp .ge 86, 3) := by decide +kernel
theorem d_Mo_learn_59 : decode c_Mo_learn 59 = .ok (.aload_n 0, 1) := by decide +kernel
theorem d_Mo_learn_60 : decode c_Mo_learn 60 = .ok (.getfield 54, 3) := by decide +kernel
theorem d_Mo_learn_63 : decode c_Mo_learn 63 = .ok (.iload 6, 2) := by decide +kernel
theorem d_Mo_learn_65 : decode c_Mo_learn 65 = .ok (.aload_n 0, 1) := by decide +kernel
theorem d_Mo_learn_66 : decode c_Mo_learn 66 = .ok (.getfield 50, 3) := by decide +kernel
theorem d_Mo_learn_69 : decode c_Mo_learn 69 = .ok (.iload 6, 2) := by decide +kernel
theorem d_Mo_learn_71 : decode c_Mo_learn 71 = .ok (.laload, 1) := by decide +kernel
theorem d_Mo_learn_72 : decode c_Mo_learn 72 = .ok (.bipush 16, 2) := by decide +kernel
theorem d_Mo_learn_74 : decode c_Mo_learn 74 = .ok (.aload_n 0, 1) := by decide +kernel
theorem d_Mo_learn_75 : decode c_Mo_learn 75 = .ok (.iload_n 1, 1) := by decide +kernel
theorem d_Mo_learn_76 : decode c_Mo_learn 76 = .ok (.iload 6, 2) := by decide +kernel
theorem d_Mo_learn_78 : decode c_Mo_learn 78 = .ok (.invokevirtual 100, 3) := by decide +kernel
theorem d_Mo_learn_81 : decode c_Mo_learn 81 = .ok (.isub, 1) := by decide +kernel
theorem d_Mo_learn_82 : decode c_Mo_learn 82 = .ok (.i2l, 1) := by decide +kernel
theorem d_Mo_learn_83 : decode c_Mo_learn 83 = .ok (.lmul, 1) := by decide +kernel
theorem d_Mo_learn_84 : decode c_Mo_learn 84 = .ok (.lastore, 1) := by decide +kernel
theorem d_Mo_learn_85 : decode c_Mo_learn 85 = .ok (.iconst 0, 1) := by decide +kernel
theorem d_Mo_learn_86 : decode c_Mo_learn 86 = .ok (.istore 7, 2) := by decide +kernel
theorem d_Mo_learn_88 : decode c_Mo_learn 88 = .ok (.iload 7, 2) := by decide +kernel
theorem d_Mo_learn_90 : decode c_Mo_learn 90 = .ok (.iconst 4, 1) := by decide +kernel
theorem d_Mo_learn_91 : decode c_Mo_learn 91 = .ok (.if_icmp .ge 45, 3) := by decide +kernel
theorem d_Mo_learn_94 : decode c_Mo_learn 94 = .ok (.aload_n 0, 1) := by decide +kernel
theorem d_Mo_learn_95 : decode c_Mo_learn 95 = .ok (.getfield 54, 3) := by decide +kernel
theorem d_Mo_learn_98 : decode c_Mo_learn 98 = .ok (.iload 6, 2) := by decide +kernel
theorem d_Mo_learn_100 : decode c_Mo_learn 100 = .ok (.dup2, 1) := by decide +kernel
theorem d_Mo_learn_101 : decode c_Mo_learn 101 = .ok (.laload, 1) := by decide +kernel
theorem d_Mo_learn_102 : decode c_Mo_learn 102 = .ok (.aload_n 0, 1) := by decide +kernel
theorem d_Mo_learn_103 : decode c_Mo_learn 103 = .ok (.getfield 50, 3) := by decide +kernel
theorem d_Mo_learn_106 : decode c_Mo_learn 106 = .ok (.iload 7, 2) := by decide +kernel
theorem d_Mo_learn_108 : decode c_Mo_learn 108 = .ok (.laload, 1) := by decide +kernel
theorem d_Mo_learn_109 : decode c_Mo_learn 109 = .ok (.aload_n 0, 1) := by decide +kernel
theorem d_Mo_learn_110 : decode c_Mo_learn 110 = .ok (.getfield 22, 3) := by decide +kernel
theorem d_Mo_learn_113 : decode c_Mo_learn 113 = .ok (.bipush 16, 2) := by decide +kernel
theorem d_Mo_learn_115 : decode c_Mo_learn 115 = .ok (.iload_n 1, 1) := by decide +kernel
theorem d_Mo_learn_116 : decode c_Mo_learn 116 = .ok (.imul, 1) := by decide +kernel
theorem d_Mo_learn_117 : decode c_Mo_learn 117 = .ok (.iconst 4, 1) := by decide +kernel
theorem d_Mo_learn_118 : decode c_Mo_learn 118 = .ok (.iload 7, 2) := by decide +kernel
theorem d_Mo_learn_120 : decode c_Mo_learn 120 = .ok (.imul, 1) := by decide +kernel
theorem d_Mo_learn_121 : decode c_Mo_learn 121 = .ok (.iadd, 1) := by decide +kernel
theorem d_Mo_learn_122 : decode c_Mo_learn 122 = .ok (.iload 6, 2) := by decide +kernel
theorem d_Mo_learn_124 : decode c_Mo_learn 124 = .ok (.iadd, 1) := by decide +kernel
theorem d_Mo_learn_125 : decode c_Mo_learn 125 = .ok (.iaload, 1) := by decide +kernel
theorem d_Mo_learn_126 : decode c_Mo_learn 126 = .ok (.i2l, 1) := by decide +kernel
theorem d_Mo_learn_127 : decode c_Mo_learn 127 = .ok (.lmul, 1) := by decide +kernel
theorem d_Mo_learn_128 : decode c_Mo_learn 128 = .ok (.ladd, 1) := by decide +kernel
theorem d_Mo_learn_129 : decode c_Mo_learn 129 = .ok (.lastore, 1) := by decide +kernel
theorem d_Mo_learn_130 : decode c_Mo_learn 130 = .ok (.iinc 7 1, 3) := by decide +kernel
theorem d_Mo_learn_133 : decode c_Mo_learn 133 = .ok (.goto (-45), 3) := by decide +kernel
theorem d_Mo_learn_136 : decode c_Mo_learn 136 = .ok (.iinc 6 1, 3) := by decide +kernel
theorem d_Mo_learn_139 : decode c_Mo_learn 139 = .ok (.goto (-86), 3) := by decide +kernel
theorem d_Mo_learn_142 : decode c_Mo_learn 142 = .ok (.iconst 0, 1) := by decide +kernel
theorem d_Mo_learn_143 : decode c_Mo_learn 143 = .ok (.istore 6, 2) := by decide +kernel
theorem d_Mo_learn_145 : decode c_Mo_learn 145 = .ok (.iload 6, 2) := by decide +kernel
theorem d_Mo_learn_147 : decode c_Mo_learn 147 = .ok (.iconst 4, 1) := by decide +kernel
theorem d_Mo_learn_148 : decode c_Mo_learn 148 = .ok (.if_icmp .ge 23, 3) := by decide +kernel
theorem d_Mo_learn_151 : decode c_Mo_learn 151 = .ok (.aload_n 0, 1) := by decide +kernel
theorem d_Mo_learn_152 : decode c_Mo_learn 152 = .ok (.getfield 50, 3) := by decide +kernel
theorem d_Mo_learn_155 : decode c_Mo_learn 155 = .ok (.iload 6, 2) := by decide +kernel
theorem d_Mo_learn_157 : decode c_Mo_learn 157 = .ok (.aload_n 0, 1) := by decide +kernel
theorem d_Mo_learn_158 : decode c_Mo_learn 158 = .ok (.getfield 54, 3) := by decide +kernel
theorem d_Mo_learn_161 : decode c_Mo_learn 161 = .ok (.iload 6, 2) := by decide +kernel
theorem d_Mo_learn_163 : decode c_Mo_learn 163 = .ok (.laload, 1) := by decide +kernel
theorem d_Mo_learn_164 : decode c_Mo_learn 164 = .ok (.lastore, 1) := by decide +kernel
theorem d_Mo_learn_165 : decode c_Mo_learn 165 = .ok (.iinc 6 1, 3) := by decide +kernel
theorem d_Mo_learn_168 : decode c_Mo_learn 168 = .ok (.goto (-23), 3) := by decide +kernel
theorem d_Mo_learn_171 : decode c_Mo_learn 171 = .ok (.ldc2_w 98, 3) := by decide +kernel
theorem d_Mo_learn_174 : decode c_Mo_learn 174 = .ok (.lload_n 3, 1) := by decide +kernel
theorem d_Mo_learn_175 : decode c_Mo_learn 175 = .ok (.lmul, 1) := by decide +kernel
theorem d_Mo_learn_176 : decode c_Mo_learn 176 = .ok (.lstore_n 3, 1) := by decide +kernel
theorem d_Mo_learn_177 : decode c_Mo_learn 177 = .ok (.iinc 5 1, 3) := by decide +kernel
theorem d_Mo_learn_180 : decode c_Mo_learn 180 = .ok (.goto (-136), 3) := by decide +kernel
theorem d_Mo_learn_183 : decode c_Mo_learn 183 = .ok (.lload_n 3, 1) := by decide +kernel
theorem d_Mo_learn_184 : decode c_Mo_learn 184 = .ok (.lreturn, 1) := by decide +kernel
theorem d_Mo_share_0 : decode c_Mo_share 0 = .ok (.aload_n 0, 1) := by decide +kernel
theorem d_Mo_share_1 : decode c_Mo_share 1 = .ok (.aload_n 0, 1) := by decide +kernel
theorem d_Mo_share_2 : decode c_Mo_share 2 = .ok (.iload_n 1, 1) := by decide +kernel
theorem d_Mo_share_3 : decode c_Mo_share 3 = .ok (.iload_n 2, 1) := by decide +kernel
theorem d_Mo_share_4 : decode c_Mo_share 4 = .ok (.invokevirtual 94, 3) := by decide +kernel
theorem d_Mo_share_7 : decode c_Mo_share 7 = .ok (.ifCond .eq 15, 3) := by decide +kernel
theorem d_Mo_share_10 : decode c_Mo_share 10 = .ok (.aload_n 0, 1) := by decide +kernel
theorem d_Mo_share_11 : decode c_Mo_share 11 = .ok (.iload_n 3, 1) := by decide +kernel
theorem d_Mo_share_12 : decode c_Mo_share 12 = .ok (.invokevirtual 78, 3) := by decide +kernel
theorem d_Mo_share_15 : decode c_Mo_share 15 = .ok (.ifCond .eq 7, 3) := by decide +kernel
theorem d_Mo_share_18 : decode c_Mo_share 18 = .ok (.iconst 0, 1) := by decide +kernel
theorem d_Mo_share_19 : decode c_Mo_share 19 = .ok (.goto 4, 3) := by decide +kernel
theorem d_Mo_share_22 : decode c_Mo_share 22 = .ok (.iconst 1, 1) := by decide +kernel
theorem d_Mo_share_23 : decode c_Mo_share 23 = .ok (.invokevirtual 85, 3) := by decide +kernel
theorem d_Mo_share_26 : decode c_Mo_share 26 = .ok (.ifCond .eq 5, 3) := by decide +kernel
theorem d_Mo_share_29 : decode c_Mo_share 29 = .ok (.lconst 0, 1) := by decide +kernel
theorem d_Mo_share_30 : decode c_Mo_share 30 = .ok (.lreturn, 1) := by decide +kernel
theorem d_Mo_share_31 : decode c_Mo_share 31 = .ok (.aload_n 0, 1) := by decide +kernel
theorem d_Mo_share_32 : decode c_Mo_share 32 = .ok (.iload_n 1, 1) := by decide +kernel
theorem d_Mo_share_33 : decode c_Mo_share 33 = .ok (.iload_n 3, 1) := by decide +kernel
theorem d_Mo_share_34 : decode c_Mo_share 34 = .ok (.invokevirtual 112, 3) := by decide +kernel
theorem d_Mo_share_37 : decode c_Mo_share 37 = .ok (.lstore 4, 2) := by decide +kernel
theorem d_Mo_share_39 : decode c_Mo_share 39 = .ok (.aload_n 0, 1) := by decide +kernel
theorem d_Mo_share_40 : decode c_Mo_share 40 = .ok (.getfield 50, 3) := by decide +kernel
theorem d_Mo_share_43 : decode c_Mo_share 43 = .ok (.iload_n 2, 1) := by decide +kernel
theorem d_Mo_share_44 : decode c_Mo_share 44 = .ok (.laload, 1) := by decide +kernel
theorem d_Mo_share_45 : decode c_Mo_share 45 = .ok (.lreturn, 1) := by decide +kernel
theorem d_Mo_careOf_0 : decode c_Mo_careOf 0 = .ok (.aload_n 0, 1) := by decide +kernel
theorem d_Mo_careOf_1 : decode c_Mo_careOf 1 = .ok (.iload_n 1, 1) := by decide +kernel
theorem d_Mo_careOf_2 : decode c_Mo_careOf 2 = .ok (.iload_n 2, 1) := by decide +kernel
theorem d_Mo_careOf_3 : decode c_Mo_careOf 3 = .ok (.invokevirtual 112, 3) := by decide +kernel
theorem d_Mo_careOf_6 : decode c_Mo_careOf 6 = .ok (.lstore_n 3, 1) := by decide +kernel
theorem d_Mo_careOf_7 : decode c_Mo_careOf 7 = .ok (.lconst 0, 1) := by decide +kernel
theorem d_Mo_careOf_8 : decode c_Mo_careOf 8 = .ok (.lstore 5, 2) := by decide +kernel
theorem d_Mo_careOf_10 : decode c_Mo_careOf 10 = .ok (.iconst 0, 1) := by decide +kernel
theorem d_Mo_careOf_11 : decode c_Mo_careOf 11 = .ok (.istore 7, 2) := by decide +kernel
theorem d_Mo_careOf_13 : decode c_Mo_careOf 13 = .ok (.iload 7, 2) := by decide +kernel
theorem d_Mo_careOf_15 : decode c_Mo_careOf 15 = .ok (.iconst 4, 1) := by decide +kernel
theorem d_Mo_careOf_16 : decode c_Mo_careOf 16 = .ok (.if_icmp .ge 34, 3) := by decide +kernel
theorem d_Mo_careOf_19 : decode c_Mo_careOf 19 = .ok (.lload 5, 2) := by decide +kernel
theorem d_Mo_careOf_21 : decode c_Mo_careOf 21 = .ok (.aload_n 0, 1) := by decide +kernel
theorem d_Mo_careOf_22 : decode c_Mo_careOf 22 = .ok (.getfield 50, 3) := by decide +kernel
theorem d_Mo_careOf_25 : decode c_Mo_careOf 25 = .ok (.iload 7, 2) := by decide +kernel
theorem d_Mo_careOf_27 : decode c_Mo_careOf 27 = .ok (.laload, 1) := by decide +kernel
theorem d_Mo_careOf_28 : decode c_Mo_careOf 28 = .ok (.aload_n 0, 1) := by decide +kernel
theorem d_Mo_careOf_29 : decode c_Mo_careOf 29 = .ok (.getfield 25, 3) := by decide +kernel
theorem d_Mo_careOf_32 : decode c_Mo_careOf 32 = .ok (.iconst 4, 1) := by decide +kernel
theorem d_Mo_careOf_33 : decode c_Mo_careOf 33 = .ok (.iload_n 1, 1) := by decide +kernel
theorem d_Mo_careOf_34 : decode c_Mo_careOf 34 = .ok (.imul, 1) := by decide +kernel
theorem d_Mo_careOf_35 : decode c_Mo_careOf 35 = .ok (.iload 7, 2) := by decide +kernel
theorem d_Mo_careOf_37 : decode c_Mo_careOf 37 = .ok (.iadd, 1) := by decide +kernel
theorem d_Mo_careOf_38 : decode c_Mo_careOf 38 = .ok (.iaload, 1) := by decide +kernel
theorem d_Mo_careOf_39 : decode c_Mo_careOf 39 = .ok (.i2l, 1) := by decide +kernel
theorem d_Mo_careOf_40 : decode c_Mo_careOf 40 = .ok (.lmul, 1) := by decide +kernel
theorem d_Mo_careOf_41 : decode c_Mo_careOf 41 = .ok (.ladd, 1) := by decide +kernel
theorem d_Mo_careOf_42 : decode c_Mo_careOf 42 = .ok (.lstore 5, 2) := by decide +kernel
theorem d_Mo_careOf_44 : decode c_Mo_careOf 44 = .ok (.iinc 7 1, 3) := by decide +kernel
theorem d_Mo_careOf_47 : decode c_Mo_careOf 47 = .ok (.goto (-34), 3) := by decide +kernel
theorem d_Mo_careOf_50 : decode c_Mo_careOf 50 = .ok (.lload 5, 2) := by decide +kernel
theorem d_Mo_careOf_52 : decode c_Mo_careOf 52 = .ok (.lload_n 3, 1) := by decide +kernel
theorem d_Mo_careOf_53 : decode c_Mo_careOf 53 = .ok (.ldiv, 1) := by decide +kernel
theorem d_Mo_careOf_54 : decode c_Mo_careOf 54 = .ok (.aload_n 0, 1) := by decide +kernel
theorem d_Mo_careOf_55 : decode c_Mo_careOf 55 = .ok (.getfield 7, 3) := by decide +kernel
theorem d_Mo_careOf_58 : decode c_Mo_careOf 58 = .ok (.iload_n 2, 1) := by decide +kernel
theorem d_Mo_careOf_59 : decode c_Mo_careOf 59 = .ok (.iaload, 1) := by decide +kernel
theorem d_Mo_careOf_60 : decode c_Mo_careOf 60 = .ok (.i2l, 1) := by decide +kernel
theorem d_Mo_careOf_61 : decode c_Mo_careOf 61 = .ok (.lmul, 1) := by decide +kernel
theorem d_Mo_careOf_62 : decode c_Mo_careOf 62 = .ok (.ldc2_w 104, 3) := by decide +kernel
theorem d_Mo_careOf_65 : decode c_Mo_careOf 65 = .ok (.ldiv, 1) := by decide +kernel
theorem d_Mo_careOf_66 : decode c_Mo_careOf 66 = .ok (.lreturn, 1) := by decide +kernel
theorem d_Mo_cares_0 : decode c_Mo_cares 0 = .ok (.aload_n 0, 1) := by decide +kernel
theorem d_Mo_cares_1 : decode c_Mo_cares 1 = .ok (.aload_n 0, 1) := by decide +kernel
theorem d_Mo_cares_2 : decode c_Mo_cares 2 = .ok (.iload_n 1, 1) := by decide +kernel
theorem d_Mo_cares_3 : decode c_Mo_cares 3 = .ok (.invokevirtual 71, 3) := by decide +kernel
theorem d_Mo_cares_6 : decode c_Mo_cares 6 = .ok (.ifCond .eq 15, 3) := by decide +kernel
theorem d_Mo_cares_9 : decode c_Mo_cares 9 = .ok (.aload_n 0, 1) := by decide +kernel
theorem d_Mo_cares_10 : decode c_Mo_cares 10 = .ok (.iload_n 2, 1) := by decide +kernel
theorem d_Mo_cares_11 : decode c_Mo_cares 11 = .ok (.invokevirtual 78, 3) := by decide +kernel
theorem d_Mo_cares_14 : decode c_Mo_cares 14 = .ok (.ifCond .eq 7, 3) := by decide +kernel
theorem d_Mo_cares_17 : decode c_Mo_cares 17 = .ok (.iconst 0, 1) := by decide +kernel
theorem d_Mo_cares_18 : decode c_Mo_cares 18 = .ok (.goto 4, 3) := by decide +kernel
theorem d_Mo_cares_21 : decode c_Mo_cares 21 = .ok (.iconst 1, 1) := by decide +kernel
theorem d_Mo_cares_22 : decode c_Mo_cares 22 = .ok (.invokevirtual 85, 3) := by decide +kernel
theorem d_Mo_cares_25 : decode c_Mo_cares 25 = .ok (.ifCond .eq 7, 3) := by decide +kernel
theorem d_Mo_cares_28 : decode c_Mo_cares 28 = .ok (.iconst 0, 1) := by decide +kernel
theorem d_Mo_cares_29 : decode c_Mo_cares 29 = .ok (.goto 10, 3) := by decide +kernel
theorem d_Mo_cares_32 : decode c_Mo_cares 32 = .ok (.aload_n 0, 1) := by decide +kernel
theorem d_Mo_cares_33 : decode c_Mo_cares 33 = .ok (.iload_n 1, 1) := by decide +kernel
theorem d_Mo_cares_34 : decode c_Mo_cares 34 = .ok (.iload_n 2, 1) := by decide +kernel
theorem d_Mo_cares_35 : decode c_Mo_cares 35 = .ok (.invokevirtual 116, 3) := by decide +kernel
theorem d_Mo_cares_38 : decode c_Mo_cares 38 = .ok (.l2i, 1) := by decide +kernel
theorem d_Mo_cares_39 : decode c_Mo_cares 39 = .ok (.ireturn, 1) := by decide +kernel
theorem d_Mo_most_0 : decode c_Mo_most 0 = .ok (.aload_n 0, 1) := by decide +kernel
theorem d_Mo_most_1 : decode c_Mo_most 1 = .ok (.aload_n 0, 1) := by decide +kernel
theorem d_Mo_most_2 : decode c_Mo_most 2 = .ok (.iload_n 1, 1) := by decide +kernel
theorem d_Mo_most_3 : decode c_Mo_most 3 = .ok (.invokevirtual 71, 3) := by decide +kernel
theorem d_Mo_most_6 : decode c_Mo_most 6 = .ok (.ifCond .eq 15, 3) := by decide +kernel
theorem d_Mo_most_9 : decode c_Mo_most 9 = .ok (.aload_n 0, 1) := by decide +kernel
theorem d_Mo_most_10 : decode c_Mo_most 10 = .ok (.iload_n 2, 1) := by decide +kernel
theorem d_Mo_most_11 : decode c_Mo_most 11 = .ok (.invokevirtual 78, 3) := by decide +kernel
theorem d_Mo_most_14 : decode c_Mo_most 14 = .ok (.ifCond .eq 7, 3) := by decide +kernel
theorem d_Mo_most_17 : decode c_Mo_most 17 = .ok (.iconst 0, 1) := by decide +kernel
theorem d_Mo_most_18 : decode c_Mo_most 18 = .ok (.goto 4, 3) := by decide +kernel
theorem d_Mo_most_21 : decode c_Mo_most 21 = .ok (.iconst 1, 1) := by decide +kernel
theorem d_Mo_most_22 : decode c_Mo_most 22 = .ok (.invokevirtual 85, 3) := by decide +kernel
theorem d_Mo_most_25 : decode c_Mo_most 25 = .ok (.ifCond .eq 5, 3) := by decide +kernel
theorem d_Mo_most_28 : decode c_Mo_most 28 = .ok (.iconst 0, 1) := by decide +kernel
theorem d_Mo_most_29 : decode c_Mo_most 29 = .ok (.ireturn, 1) := by decide +kernel
theorem d_Mo_most_30 : decode c_Mo_most 30 = .ok (.aload_n 0, 1) := by decide +kernel
theorem d_Mo_most_31 : decode c_Mo_most 31 = .ok (.iload_n 1, 1) := by decide +kernel
theorem d_Mo_most_32 : decode c_Mo_most 32 = .ok (.iload_n 2, 1) := by decide +kernel
theorem d_Mo_most_33 : decode c_Mo_most 33 = .ok (.invokevirtual 112, 3) := by decide +kernel
theorem d_Mo_most_36 : decode c_Mo_most 36 = .ok (.lstore_n 3, 1) := by decide +kernel
theorem d_Mo_most_37 : decode c_Mo_most 37 = .ok (.iconst 0, 1) := by decide +kernel
theorem d_Mo_most_38 : decode c_Mo_most 38 = .ok (.istore 5, 2) := by decide +kernel
theorem d_Mo_most_40 : decode c_Mo_most 40 = .ok (.iconst 1, 1) := by decide +kernel
theorem d_Mo_most_41 : decode c_Mo_most 41 = .ok (.istore 6, 2) := by decide +kernel
theorem d_Mo_most_43 : decode c_Mo_most 43 = .ok (.iload 6, 2) := by decide +kernel
theorem d_Mo_most_45 : decode c_Mo_most 45 = .ok (.aload_n 0, 1) := by decide +kernel
theorem d_Mo_most_46 : decode c_Mo_most 46 = .ok (.getfield 16, 3) := by decide +kernel
theorem d_Mo_most_49 : decode c_Mo_most 49 = .ok (.iload_n 1, 1) := by decide +kernel
theorem d_Mo_most_50 : decode c_Mo_most 50 = .ok (.iaload, 1) := by decide +kernel
theorem d_Mo_most_51 : decode c_Mo_most 51 = .ok (.if_icmp .ge 36, 3) := by decide +kernel
theorem d_Mo_most_54 : decode c_Mo_most 54 = .ok (.aload_n 0, 1) := by decide +kernel
theorem d_Mo_most_55 : decode c_Mo_most 55 = .ok (.getfield 50, 3) := by decide +kernel
theorem d_Mo_most_58 : decode c_Mo_most 58 = .ok (.iload 6, 2) := by decide +kernel
theorem d_Mo_most_60 : decode c_Mo_most 60 = .ok (.laload, 1) := by decide +kernel
theorem d_Mo_most_61 : decode c_Mo_most 61 = .ok (.aload_n 0, 1) := by decide +kernel
theorem d_Mo_most_62 : decode c_Mo_most 62 = .ok (.getfield 50, 3) := by decide +kernel
theorem d_Mo_most_65 : decode c_Mo_most 65 = .ok (.iload 5, 2) := by decide +kernel
theorem d_Mo_most_67 : decode c_Mo_most 67 = .ok (.laload, 1) := by decide +kernel
theorem d_Mo_most_68 : decode c_Mo_most 68 = .ok (.lcmp, 1) := by decide +kernel
theorem d_Mo_most_69 : decode c_Mo_most 69 = .ok (.ifCond .lt 8, 3) := by decide +kernel
theorem d_Mo_most_72 : decode c_Mo_most 72 = .ok (.iload 6, 2) := by decide +kernel
theorem d_Mo_most_74 : decode c_Mo_most 74 = .ok (.goto 5, 3) := by decide +kernel
theorem d_Mo_most_77 : decode c_Mo_most 77 = .ok (.iload 5, 2) := by decide +kernel
theorem d_Mo_most_79 : decode c_Mo_most 79 = .ok (.istore 5, 2) := by decide +kernel
theorem d_Mo_most_81 : decode c_Mo_most 81 = .ok (.iinc 6 1, 3) := by decide +kernel
theorem d_Mo_most_84 : decode c_Mo_most 84 = .ok (.goto (-41), 3) := by decide +kernel
theorem d_Mo_most_87 : decode c_Mo_most 87 = .ok (.iload 5, 2) := by decide +kernel
theorem d_Mo_most_89 : decode c_Mo_most 89 = .ok (.ireturn, 1) := by decide +kernel
theorem d_Mo_work_0 : decode c_Mo_work 0 = .ok (.aload_n 0, 1) := by decide +kernel
theorem d_Mo_work_1 : decode c_Mo_work 1 = .ok (.iload_n 1, 1) := by decide +kernel
theorem d_Mo_work_2 : decode c_Mo_work 2 = .ok (.invokevirtual 78, 3) := by decide +kernel
theorem d_Mo_work_5 : decode c_Mo_work 5 = .ok (.ifCond .eq 46, 3) := by decide +kernel
theorem d_Mo_work_8 : decode c_Mo_work 8 = .ok (.iload_n 2, 1) := by decide +kernel
theorem d_Mo_work_9 : decode c_Mo_work 9 = .ok (.i2l, 1) := by decide +kernel
theorem d_Mo_work_10 : decode c_Mo_work 10 = .ok (.lconst 1, 1) := by decide +kernel
theorem d_Mo_work_11 : decode c_Mo_work 11 = .ok (.ldc2_w 119, 3) := by decide +kernel
theorem d_Mo_work_14 : decode c_Mo_work 14 = .ok (.invokestatic 64, 3) := by decide +kernel
theorem d_Mo_work_17 : decode c_Mo_work 17 = .ok (.ifCond .eq 34, 3) := by decide +kernel
theorem d_Mo_work_20 : decode c_Mo_work 20 = .ok (.iload_n 3, 1) := by decide +kernel
theorem d_Mo_work_21 : decode c_Mo_work 21 = .ok (.i2l, 1) := by decide +kernel
theorem d_Mo_work_22 : decode c_Mo_work 22 = .ok (.lconst 0, 1) := by decide +kernel
theorem d_Mo_work_23 : decode c_Mo_work 23 = .ok (.ldc2_w 119, 3) := by decide +kernel
theorem d_Mo_work_26 : decode c_Mo_work 26 = .ok (.invokestatic 64, 3) := by decide +kernel
theorem d_Mo_work_29 : decode c_Mo_work 29 = .ok (.ifCond .eq 22, 3) := by decide +kernel
theorem d_Mo_work_32 : decode c_Mo_work 32 = .ok (.iload 4, 2) := by decide +kernel
theorem d_Mo_work_34 : decode c_Mo_work 34 = .ok (.iconst (-1), 1) := by decide +kernel
theorem d_Mo_work_35 : decode c_Mo_work 35 = .ok (.if_icmp .eq 12, 3) := by decide +kernel
theorem d_Mo_work_38 : decode c_Mo_work 38 = .ok (.aload_n 0, 1) := by decide +kernel
theorem d_Mo_work_39 : decode c_Mo_work 39 = .ok (.iload 4, 2) := by decide +kernel
theorem d_Mo_work_41 : decode c_Mo_work 41 = .ok (.invokevirtual 71, 3) := by decide +kernel
theorem d_Mo_work_44 : decode c_Mo_work 44 = .ok (.ifCond .eq 7, 3) := by decide +kernel
theorem d_Mo_work_47 : decode c_Mo_work 47 = .ok (.iconst 1, 1) := by decide +kernel
theorem d_Mo_work_48 : decode c_Mo_work 48 = .ok (.goto 4, 3) := by decide +kernel
theorem d_Mo_work_51 : decode c_Mo_work 51 = .ok (.iconst 0, 1) := by decide +kernel
theorem d_Mo_work_52 : decode c_Mo_work 52 = .ok (.istore 5, 2) := by decide +kernel
theorem d_Mo_work_54 : decode c_Mo_work 54 = .ok (.aload_n 0, 1) := by decide +kernel
theorem d_Mo_work_55 : decode c_Mo_work 55 = .ok (.iload 5, 2) := by decide +kernel
theorem d_Mo_work_57 : decode c_Mo_work 57 = .ok (.ifCond .ne 7, 3) := by decide +kernel
theorem d_Mo_work_60 : decode c_Mo_work 60 = .ok (.iconst 1, 1) := by decide +kernel
theorem d_Mo_work_61 : decode c_Mo_work 61 = .ok (.goto 17, 3) := by decide +kernel
theorem d_Mo_work_64 : decode c_Mo_work 64 = .ok (.aload_n 0, 1) := by decide +kernel
theorem d_Mo_work_65 : decode c_Mo_work 65 = .ok (.getfield 75, 3) := by decide +kernel
theorem d_Mo_work_68 : decode c_Mo_work 68 = .ok (.bipush 10, 2) := by decide +kernel
theorem d_Mo_work_70 : decode c_Mo_work 70 = .ok (.if_icmp .ne 7, 3) := by decide +kernel
theorem d_Mo_work_73 : decode c_Mo_work 73 = .ok (.iconst 2, 1) := by decide +kernel
theorem d_Mo_work_74 : decode c_Mo_work 74 = .ok (.goto 4, 3) := by decide +kernel
theorem d_Mo_work_77 : decode c_Mo_work 77 = .ok (.iconst 0, 1) := by decide +kernel
theorem d_Mo_work_78 : decode c_Mo_work 78 = .ok (.invokevirtual 85, 3) := by decide +kernel
theorem d_Mo_work_81 : decode c_Mo_work 81 = .ok (.ifCond .eq 5, 3) := by decide +kernel
theorem d_Mo_work_84 : decode c_Mo_work 84 = .ok (.iconst 0, 1) := by decide +kernel
theorem d_Mo_work_85 : decode c_Mo_work 85 = .ok (.ireturn, 1) := by decide +kernel
theorem d_Mo_work_86 : decode c_Mo_work 86 = .ok (.aload_n 0, 1) := by decide +kernel
theorem d_Mo_work_87 : decode c_Mo_work 87 = .ok (.getfield 28, 3) := by decide +kernel
theorem d_Mo_work_90 : decode c_Mo_work 90 = .ok (.aload_n 0, 1) := by decide +kernel
theorem d_Mo_work_91 : decode c_Mo_work 91 = .ok (.getfield 75, 3) := by decide +kernel
theorem d_Mo_work_94 : decode c_Mo_work 94 = .ok (.iload_n 1, 1) := by decide +kernel
theorem d_Mo_work_95 : decode c_Mo_work 95 = .ok (.iastore, 1) := by decide +kernel
theorem d_Mo_work_96 : decode c_Mo_work 96 = .ok (.aload_n 0, 1) := by decide +kernel
theorem d_Mo_work_97 : decode c_Mo_work 97 = .ok (.getfield 31, 3) := by decide +kernel
theorem d_Mo_work_100 : decode c_Mo_work 100 = .ok (.aload_n 0, 1) := by decide +kernel
theorem d_Mo_work_101 : decode c_Mo_work 101 = .ok (.getfield 75, 3) := by decide +kernel
theorem d_Mo_work_104 : decode c_Mo_work 104 = .ok (.iload_n 2, 1) := by decide +kernel
theorem d_Mo_work_105 : decode c_Mo_work 105 = .ok (.iastore, 1) := by decide +kernel
theorem d_Mo_work_106 : decode c_Mo_work 106 = .ok (.aload_n 0, 1) := by decide +kernel
theorem d_Mo_work_107 : decode c_Mo_work 107 = .ok (.getfield 34, 3) := by decide +kernel
theorem d_Mo_work_110 : decode c_Mo_work 110 = .ok (.aload_n 0, 1) := by decide +kernel
theorem d_Mo_work_111 : decode c_Mo_work 111 = .ok (.getfield 75, 3) := by decide +kernel
theorem d_Mo_work_114 : decode c_Mo_work 114 = .ok (.iload_n 3, 1) := by decide +kernel
theorem d_Mo_work_115 : decode c_Mo_work 115 = .ok (.iastore, 1) := by decide +kernel
theorem d_Mo_work_116 : decode c_Mo_work 116 = .ok (.aload_n 0, 1) := by decide +kernel
theorem d_Mo_work_117 : decode c_Mo_work 117 = .ok (.getfield 37, 3) := by decide +kernel
theorem d_Mo_work_120 : decode c_Mo_work 120 = .ok (.aload_n 0, 1) := by decide +kernel
theorem d_Mo_work_121 : decode c_Mo_work 121 = .ok (.getfield 75, 3) := by decide +kernel
theorem d_Mo_work_124 : decode c_Mo_work 124 = .ok (.iload 4, 2) := by decide +kernel
theorem d_Mo_work_126 : decode c_Mo_work 126 = .ok (.iastore, 1) := by decide +kernel
theorem d_Mo_work_127 : decode c_Mo_work 127 = .ok (.aload_n 0, 1) := by decide +kernel
theorem d_Mo_work_128 : decode c_Mo_work 128 = .ok (.getfield 40, 3) := by decide +kernel
theorem d_Mo_work_131 : decode c_Mo_work 131 = .ok (.aload_n 0, 1) := by decide +kernel
theorem d_Mo_work_132 : decode c_Mo_work 132 = .ok (.getfield 75, 3) := by decide +kernel
theorem d_Mo_work_135 : decode c_Mo_work 135 = .ok (.iconst (-1), 1) := by decide +kernel
theorem d_Mo_work_136 : decode c_Mo_work 136 = .ok (.iastore, 1) := by decide +kernel
theorem d_Mo_work_137 : decode c_Mo_work 137 = .ok (.aload_n 0, 1) := by decide +kernel
theorem d_Mo_work_138 : decode c_Mo_work 138 = .ok (.dup, 1) := by decide +kernel
theorem d_Mo_work_139 : decode c_Mo_work 139 = .ok (.getfield 75, 3) := by decide +kernel
theorem d_Mo_work_142 : decode c_Mo_work 142 = .ok (.iconst 1, 1) := by decide +kernel
theorem d_Mo_work_143 : decode c_Mo_work 143 = .ok (.iadd, 1) := by decide +kernel
theorem d_Mo_work_144 : decode c_Mo_work 144 = .ok (.putfield 75, 3) := by decide +kernel
theorem d_Mo_work_147 : decode c_Mo_work 147 = .ok (.aload_n 0, 1) := by decide +kernel
theorem d_Mo_work_148 : decode c_Mo_work 148 = .ok (.getfield 75, 3) := by decide +kernel
theorem d_Mo_work_151 : decode c_Mo_work 151 = .ok (.iconst 1, 1) := by decide +kernel
theorem d_Mo_work_152 : decode c_Mo_work 152 = .ok (.isub, 1) := by decide +kernel
theorem d_Mo_work_153 : decode c_Mo_work 153 = .ok (.ireturn, 1) := by decide +kernel
theorem d_Mo_areTwo_0 : decode c_Mo_areTwo 0 = .ok (.aload_n 0, 1) := by decide +kernel
theorem d_Mo_areTwo_1 : decode c_Mo_areTwo 1 = .ok (.iload_n 1, 1) := by decide +kernel
theorem d_Mo_areTwo_2 : decode c_Mo_areTwo 2 = .ok (.invokevirtual 121, 3) := by decide +kernel
theorem d_Mo_areTwo_5 : decode c_Mo_areTwo 5 = .ok (.ifCond .eq 20, 3) := by decide +kernel
theorem d_Mo_areTwo_8 : decode c_Mo_areTwo 8 = .ok (.aload_n 0, 1) := by decide +kernel
theorem d_Mo_areTwo_9 : decode c_Mo_areTwo 9 = .ok (.iload_n 2, 1) := by decide +kernel
theorem d_Mo_areTwo_10 : decode c_Mo_areTwo 10 = .ok (.invokevirtual 121, 3) := by decide +kernel
theorem d_Mo_areTwo_13 : decode c_Mo_areTwo 13 = .ok (.ifCond .eq 12, 3) := by decide +kernel
theorem d_Mo_areTwo_16 : decode c_Mo_areTwo 16 = .ok (.iload_n 1, 1) := by decide +kernel
theorem d_Mo_areTwo_17 : decode c_Mo_areTwo 17 = .ok (.iload_n 2, 1) := by decide +kernel
theorem d_Mo_areTwo_18 : decode c_Mo_areTwo 18 = .ok (.if_icmp .eq 7, 3) := by decide +kernel
theorem d_Mo_areTwo_21 : decode c_Mo_areTwo 21 = .ok (.iconst 1, 1) := by decide +kernel
theorem d_Mo_areTwo_22 : decode c_Mo_areTwo 22 = .ok (.goto 4, 3) := by decide +kernel
theorem d_Mo_areTwo_25 : decode c_Mo_areTwo 25 = .ok (.iconst 0, 1) := by decide +kernel
theorem d_Mo_areTwo_26 : decode c_Mo_areTwo 26 = .ok (.ireturn, 1) := by decide +kernel
theorem d_Mo_join_0 : decode c_Mo_join 0 = .ok (.aload_n 0, 1) := by decide +kernel
theorem d_Mo_join_1 : decode c_Mo_join 1 = .ok (.aload_n 0, 1) := by decide +kernel
theorem d_Mo_join_2 : decode c_Mo_join 2 = .ok (.iload_n 1, 1) := by decide +kernel
theorem d_Mo_join_3 : decode c_Mo_join 3 = .ok (.iload_n 2, 1) := by decide +kernel
theorem d_Mo_join_4 : decode c_Mo_join 4 = .ok (.invokevirtual 124, 3) := by decide +kernel
theorem d_Mo_join_7 : decode c_Mo_join 7 = .ok (.ifCond .eq 19, 3) := by decide +kernel
theorem d_Mo_join_10 : decode c_Mo_join 10 = .ok (.iload_n 3, 1) := by decide +kernel
theorem d_Mo_join_11 : decode c_Mo_join 11 = .ok (.i2l, 1) := by decide +kernel
theorem d_Mo_join_12 : decode c_Mo_join 12 = .ok (.lconst 0, 1) := by decide +kernel
theorem d_Mo_join_13 : decode c_Mo_join 13 = .ok (.ldc2_w 119, 3) := by decide +kernel
theorem d_Mo_join_16 : decode c_Mo_join 16 = .ok (.invokestatic 64, 3) := by decide +kernel
theorem d_Mo_join_19 : decode c_Mo_join 19 = .ok (.ifCond .eq 7, 3) := by decide +kernel
theorem d_Mo_join_22 : decode c_Mo_join 22 = .ok (.iconst 0, 1) := by decide +kernel
theorem d_Mo_join_23 : decode c_Mo_join 23 = .ok (.goto 4, 3) := by decide +kernel
theorem d_Mo_join_26 : decode c_Mo_join 26 = .ok (.iconst 1, 1) := by decide +kernel
theorem d_Mo_join_27 : decode c_Mo_join 27 = .ok (.invokevirtual 85, 3) := by decide +kernel
theorem d_Mo_join_30 : decode c_Mo_join 30 = .ok (.ifCond .eq 5, 3) := by decide +kernel
theorem d_Mo_join_33 : decode c_Mo_join 33 = .ok (.iconst 0, 1) := by decide +kernel
theorem d_Mo_join_34 : decode c_Mo_join 34 = .ok (.ireturn, 1) := by decide +kernel
theorem d_Mo_join_35 : decode c_Mo_join 35 = .ok (.aload_n 0, 1) := by decide +kernel
theorem d_Mo_join_36 : decode c_Mo_join 36 = .ok (.getfield 43, 3) := by decide +kernel
theorem d_Mo_join_39 : decode c_Mo_join 39 = .ok (.bipush 10, 2) := by decide +kernel
theorem d_Mo_join_41 : decode c_Mo_join 41 = .ok (.iload_n 1, 1) := by decide +kernel
theorem d_Mo_join_42 : decode c_Mo_join 42 = .ok (.imul, 1) := by decide +kernel
theorem d_Mo_join_43 : decode c_Mo_join 43 = .ok (.iload_n 2, 1) := by decide +kernel
theorem d_Mo_join_44 : decode c_Mo_join 44 = .ok (.iadd, 1) := by decide +kernel
theorem d_Mo_join_45 : decode c_Mo_join 45 = .ok (.iaload, 1) := by decide +kernel
theorem d_Mo_join_46 : decode c_Mo_join 46 = .ok (.istore 4, 2) := by decide +kernel
theorem d_Mo_join_48 : decode c_Mo_join 48 = .ok (.aload_n 0, 1) := by decide +kernel
theorem d_Mo_join_49 : decode c_Mo_join 49 = .ok (.getfield 43, 3) := by decide +kernel
theorem d_Mo_join_52 : decode c_Mo_join 52 = .ok (.bipush 10, 2) := by decide +kernel
theorem d_Mo_join_54 : decode c_Mo_join 54 = .ok (.iload_n 1, 1) := by decide +kernel
theorem d_Mo_join_55 : decode c_Mo_join 55 = .ok (.imul, 1) := by decide +kernel
theorem d_Mo_join_56 : decode c_Mo_join 56 = .ok (.iload_n 2, 1) := by decide +kernel
theorem d_Mo_join_57 : decode c_Mo_join 57 = .ok (.iadd, 1) := by decide +kernel
theorem d_Mo_join_58 : decode c_Mo_join 58 = .ok (.iload_n 3, 1) := by decide +kernel
theorem d_Mo_join_59 : decode c_Mo_join 59 = .ok (.iastore, 1) := by decide +kernel
theorem d_Mo_join_60 : decode c_Mo_join 60 = .ok (.aload_n 0, 1) := by decide +kernel
theorem d_Mo_join_61 : decode c_Mo_join 61 = .ok (.getfield 43, 3) := by decide +kernel
theorem d_Mo_join_64 : decode c_Mo_join 64 = .ok (.bipush 10, 2) := by decide +kernel
theorem d_Mo_join_66 : decode c_Mo_join 66 = .ok (.iload_n 2, 1) := by decide +kernel
theorem d_Mo_join_67 : decode c_Mo_join 67 = .ok (.imul, 1) := by decide +kernel
theorem d_Mo_join_68 : decode c_Mo_join 68 = .ok (.iload_n 1, 1) := by decide +kernel
theorem d_Mo_join_69 : decode c_Mo_join 69 = .ok (.iadd, 1) := by decide +kernel
theorem d_Mo_join_70 : decode c_Mo_join 70 = .ok (.iload_n 3, 1) := by decide +kernel
theorem d_Mo_join_71 : decode c_Mo_join 71 = .ok (.iastore, 1) := by decide +kernel
theorem d_Mo_join_72 : decode c_Mo_join 72 = .ok (.iload 4, 2) := by decide +kernel
theorem d_Mo_join_74 : decode c_Mo_join 74 = .ok (.ireturn, 1) := by decide +kernel
theorem d_Mo_clash_0 : decode c_Mo_clash 0 = .ok (.aload_n 0, 1) := by decide +kernel
theorem d_Mo_clash_1 : decode c_Mo_clash 1 = .ok (.aload_n 0, 1) := by decide +kernel
theorem d_Mo_clash_2 : decode c_Mo_clash 2 = .ok (.iload_n 1, 1) := by decide +kernel
theorem d_Mo_clash_3 : decode c_Mo_clash 3 = .ok (.iload_n 2, 1) := by decide +kernel
theorem d_Mo_clash_4 : decode c_Mo_clash 4 = .ok (.invokevirtual 124, 3) := by decide +kernel
theorem d_Mo_clash_7 : decode c_Mo_clash 7 = .ok (.ifCond .eq 7, 3) := by decide +kernel
theorem d_Mo_clash_10 : decode c_Mo_clash 10 = .ok (.iconst 0, 1) := by decide +kernel
theorem d_Mo_clash_11 : decode c_Mo_clash 11 = .ok (.goto 4, 3) := by decide +kernel
theorem d_Mo_clash_14 : decode c_Mo_clash 14 = .ok (.iconst 1, 1) := by decide +kernel
theorem d_Mo_clash_15 : decode c_Mo_clash 15 = .ok (.invokevirtual 85, 3) := by decide +kernel
theorem d_Mo_clash_18 : decode c_Mo_clash 18 = .ok (.ifCond .eq 5, 3) := by decide +kernel
theorem d_Mo_clash_21 : decode c_Mo_clash 21 = .ok (.iconst 0, 1) := by decide +kernel
theorem d_Mo_clash_22 : decode c_Mo_clash 22 = .ok (.ireturn, 1) := by decide +kernel
theorem d_Mo_clash_23 : decode c_Mo_clash 23 = .ok (.aload_n 0, 1) := by decide +kernel
theorem d_Mo_clash_24 : decode c_Mo_clash 24 = .ok (.getfield 46, 3) := by decide +kernel
theorem d_Mo_clash_27 : decode c_Mo_clash 27 = .ok (.bipush 10, 2) := by decide +kernel
theorem d_Mo_clash_29 : decode c_Mo_clash 29 = .ok (.iload_n 1, 1) := by decide +kernel
theorem d_Mo_clash_30 : decode c_Mo_clash 30 = .ok (.imul, 1) := by decide +kernel
theorem d_Mo_clash_31 : decode c_Mo_clash 31 = .ok (.iload_n 2, 1) := by decide +kernel
theorem d_Mo_clash_32 : decode c_Mo_clash 32 = .ok (.iadd, 1) := by decide +kernel
theorem d_Mo_clash_33 : decode c_Mo_clash 33 = .ok (.baload, 1) := by decide +kernel
theorem d_Mo_clash_34 : decode c_Mo_clash 34 = .ok (.istore 4, 2) := by decide +kernel
theorem d_Mo_clash_36 : decode c_Mo_clash 36 = .ok (.aload_n 0, 1) := by decide +kernel
theorem d_Mo_clash_37 : decode c_Mo_clash 37 = .ok (.getfield 46, 3) := by decide +kernel
theorem d_Mo_clash_40 : decode c_Mo_clash 40 = .ok (.bipush 10, 2) := by decide +kernel
theorem d_Mo_clash_42 : decode c_Mo_clash 42 = .ok (.iload_n 1, 1) := by decide +kernel
theorem d_Mo_clash_43 : decode c_Mo_clash 43 = .ok (.imul, 1) := by decide +kernel
theorem d_Mo_clash_44 : decode c_Mo_clash 44 = .ok (.iload_n 2, 1) := by decide +kernel
theorem d_Mo_clash_45 : decode c_Mo_clash 45 = .ok (.iadd, 1) := by decide +kernel
theorem d_Mo_clash_46 : decode c_Mo_clash 46 = .ok (.iload_n 3, 1) := by decide +kernel
theorem d_Mo_clash_47 : decode c_Mo_clash 47 = .ok (.bastore, 1) := by decide +kernel
theorem d_Mo_clash_48 : decode c_Mo_clash 48 = .ok (.aload_n 0, 1) := by decide +kernel
theorem d_Mo_clash_49 : decode c_Mo_clash 49 = .ok (.getfield 46, 3) := by decide +kernel
theorem d_Mo_clash_52 : decode c_Mo_clash 52 = .ok (.bipush 10, 2) := by decide +kernel
theorem d_Mo_clash_54 : decode c_Mo_clash 54 = .ok (.iload_n 2, 1) := by decide +kernel
theorem d_Mo_clash_55 : decode c_Mo_clash 55 = .ok (.imul, 1) := by decide +kernel
theorem d_Mo_clash_56 : decode c_Mo_clash 56 = .ok (.iload_n 1, 1) := by decide +kernel
theorem d_Mo_clash_57 : decode c_Mo_clash 57 = .ok (.iadd, 1) := by decide +kernel
theorem d_Mo_clash_58 : decode c_Mo_clash 58 = .ok (.iload_n 3, 1) := by decide +kernel
theorem d_Mo_clash_59 : decode c_Mo_clash 59 = .ok (.bastore, 1) := by decide +kernel
theorem d_Mo_clash_60 : decode c_Mo_clash 60 = .ok (.iload 4, 2) := by decide +kernel
theorem d_Mo_clash_62 : decode c_Mo_clash 62 = .ok (.ireturn, 1) := by decide +kernel
theorem d_Mo_needs_0 : decode c_Mo_needs 0 = .ok (.aload_n 0, 1) := by decide +kernel
theorem d_Mo_needs_1 : decode c_Mo_needs 1 = .ok (.aload_n 0, 1) := by decide +kernel
theorem d_Mo_needs_2 : decode c_Mo_needs 2 = .ok (.iload_n 1, 1) := by decide +kernel
theorem d_Mo_needs_3 : decode c_Mo_needs 3 = .ok (.invokevirtual 121, 3) := by decide +kernel
theorem d_Mo_needs_6 : decode c_Mo_needs 6 = .ok (.ifCond .eq 21, 3) := by decide +kernel
theorem d_Mo_needs_9 : decode c_Mo_needs 9 = .ok (.iload_n 2, 1) := by decide +kernel
theorem d_Mo_needs_10 : decode c_Mo_needs 10 = .ok (.iconst (-1), 1) := by decide +kernel
theorem d_Mo_needs_11 : decode c_Mo_needs 11 = .ok (.if_icmp .eq 12, 3) := by decide +kernel
theorem d_Mo_needs_14 : decode c_Mo_needs 14 = .ok (.aload_n 0, 1) := by decide +kernel
theorem d_Mo_needs_15 : decode c_Mo_needs 15 = .ok (.iload_n 1, 1) := by decide +kernel
theorem d_Mo_needs_16 : decode c_Mo_needs 16 = .ok (.iload_n 2, 1) := by decide +kernel
theorem d_Mo_needs_17 : decode c_Mo_needs 17 = .ok (.invokevirtual 124, 3) := by decide +kernel
theorem d_Mo_needs_20 : decode c_Mo_needs 20 = .ok (.ifCond .eq 7, 3) := by decide +kernel
theorem d_Mo_needs_23 : decode c_Mo_needs 23 = .ok (.iconst 0, 1) := by decide +kernel
theorem d_Mo_needs_24 : decode c_Mo_needs 24 = .ok (.goto 4, 3) := by decide +kernel
theorem d_Mo_needs_27 : decode c_Mo_needs 27 = .ok (.iconst 1, 1) := by decide +kernel
theorem d_Mo_needs_28 : decode c_Mo_needs 28 = .ok (.invokevirtual 85, 3) := by decide +kernel
theorem d_Mo_needs_31 : decode c_Mo_needs 31 = .ok (.ifCond .eq 5, 3) := by decide +kernel
theorem d_Mo_needs_34 : decode c_Mo_needs 34 = .ok (.iconst 0, 1) := by decide +kernel
theorem d_Mo_needs_35 : decode c_Mo_needs 35 = .ok (.ireturn, 1) := by decide +kernel
theorem d_Mo_needs_36 : decode c_Mo_needs 36 = .ok (.aload_n 0, 1) := by decide +kernel
theorem d_Mo_needs_37 : decode c_Mo_needs 37 = .ok (.getfield 40, 3) := by decide +kernel
theorem d_Mo_needs_40 : decode c_Mo_needs 40 = .ok (.iload_n 1, 1) := by decide +kernel
theorem d_Mo_needs_41 : decode c_Mo_needs 41 = .ok (.iaload, 1) := by decide +kernel
theorem d_Mo_needs_42 : decode c_Mo_needs 42 = .ok (.istore_n 3, 1) := by decide +kernel
theorem d_Mo_needs_43 : decode c_Mo_needs 43 = .ok (.aload_n 0, 1) := by decide +kernel
theorem d_Mo_needs_44 : decode c_Mo_needs 44 = .ok (.getfield 40, 3) := by decide +kernel
theorem d_Mo_needs_47 : decode c_Mo_needs 47 = .ok (.iload_n 1, 1) := by decide +kernel
theorem d_Mo_needs_48 : decode c_Mo_needs 48 = .ok (.iload_n 2, 1) := by decide +kernel
theorem d_Mo_needs_49 : decode c_Mo_needs 49 = .ok (.iastore, 1) := by decide +kernel
theorem d_Mo_needs_50 : decode c_Mo_needs 50 = .ok (.iload_n 3, 1) := by decide +kernel
theorem d_Mo_needs_51 : decode c_Mo_needs 51 = .ok (.ireturn, 1) := by decide +kernel
theorem d_Mo_has_0 : decode c_Mo_has 0 = .ok (.iload_n 0, 1) := by decide +kernel
theorem d_Mo_has_1 : decode c_Mo_has 1 = .ok (.iload_n 1, 1) := by decide +kernel
theorem d_Mo_has_2 : decode c_Mo_has 2 = .ok (.ishr, 1) := by decide +kernel
theorem d_Mo_has_3 : decode c_Mo_has 3 = .ok (.iconst 1, 1) := by decide +kernel
theorem d_Mo_has_4 : decode c_Mo_has 4 = .ok (.iand, 1) := by decide +kernel
theorem d_Mo_has_5 : decode c_Mo_has 5 = .ok (.iconst 1, 1) := by decide +kernel
theorem d_Mo_has_6 : decode c_Mo_has 6 = .ok (.if_icmp .ne 7, 3) := by decide +kernel
theorem d_Mo_has_9 : decode c_Mo_has 9 = .ok (.iconst 1, 1) := by decide +kernel
theorem d_Mo_has_10 : decode c_Mo_has 10 = .ok (.goto 4, 3) := by decide +kernel
theorem d_Mo_has_13 : decode c_Mo_has 13 = .ok (.iconst 0, 1) := by decide +kernel
theorem d_Mo_has_14 : decode c_Mo_has 14 = .ok (.ireturn, 1) := by decide +kernel
theorem d_Mo_goesTogether_0 : decode c_Mo_goesTogether 0 = .ok (.iconst 0, 1) := by decide +kernel
theorem d_Mo_goesTogether_1 : decode c_Mo_goesTogether 1 = .ok (.istore_n 2, 1) := by decide +kernel
theorem d_Mo_goesTogether_2 : decode c_Mo_goesTogether 2 = .ok (.iload_n 2, 1) := by decide +kernel
theorem d_Mo_goesTogether_3 : decode c_Mo_goesTogether 3 = .ok (.aload_n 0, 1) := by decide +kernel
theorem d_Mo_goesTogether_4 : decode c_Mo_goesTogether 4 = .ok (.getfield 75, 3) := by decide +kernel
theorem d_Mo_goesTogether_7 : decode c_Mo_goesTogether 7 = .ok (.if_icmp .ge 97, 3) := by decide +kernel
theorem d_Mo_goesTogether_10 : decode c_Mo_goesTogether 10 = .ok (.iload_n 1, 1) := by decide +kernel
theorem d_Mo_goesTogether_11 : decode c_Mo_goesTogether 11 = .ok (.iload_n 2, 1) := by decide +kernel
theorem d_Mo_goesTogether_12 : decode c_Mo_goesTogether 12 = .ok (.invokestatic 127, 3) := by decide +kernel
theorem d_Mo_goesTogether_15 : decode c_Mo_goesTogether 15 = .ok (.ifCond .ne 6, 3) := by decide +kernel
theorem d_Mo_goesTogether_18 : decode c_Mo_goesTogether 18 = .ok (.goto 80, 3) := by decide +kernel
theorem d_Mo_goesTogether_21 : decode c_Mo_goesTogether 21 = .ok (.aload_n 0, 1) := by decide +kernel
theorem d_Mo_goesTogether_22 : decode c_Mo_goesTogether 22 = .ok (.getfield 40, 3) := by decide +kernel
theorem d_Mo_goesTogether_25 : decode c_Mo_goesTogether 25 = .ok (.iload_n 2, 1) := by decide +kernel
theorem d_Mo_goesTogether_26 : decode c_Mo_goesTogether 26 = .ok (.iaload, 1) := by decide +kernel
theorem d_Mo_goesTogether_27 : decode c_Mo_goesTogether 27 = .ok (.istore_n 3, 1) := by decide +kernel
theorem d_Mo_goesTogether_28 : decode c_Mo_goesTogether 28 = .ok (.iload_n 3, 1) := by decide +kernel
theorem d_Mo_goesTogether_29 : decode c_Mo_goesTogether 29 = .ok (.ifCond .lt 28, 3) := by decide +kernel
theorem d_Mo_goesTogether_32 : decode c_Mo_goesTogether 32 = .ok (.iload_n 1, 1) := by decide +kernel
theorem d_Mo_goesTogether_33 : decode c_Mo_goesTogether 33 = .ok (.iload_n 3, 1) := by decide +kernel
theorem d_Mo_goesTogether_34 : decode c_Mo_goesTogether 34 = .ok (.invokestatic 127, 3) := by decide +kernel
theorem d_Mo_goesTogether_37 : decode c_Mo_goesTogether 37 = .ok (.ifCond .eq 18, 3) := by decide +kernel
theorem d_Mo_goesTogether_40 : decode c_Mo_goesTogether 40 = .ok (.aload_n 0, 1) := by decide +kernel
theorem d_Mo_goesTogether_41 : decode c_Mo_goesTogether 41 = .ok (.getfield 28, 3) := by decide +kernel
theorem d_Mo_goesTogether_44 : decode c_Mo_goesTogether 44 = .ok (.iload_n 2, 1) := by decide +kernel
theorem d_Mo_goesTogether_45 : decode c_Mo_goesTogether 45 = .ok (.iaload, 1) := by decide +kernel
theorem d_Mo_goesTogether_46 : decode c_Mo_goesTogether 46 = .ok (.aload_n 0, 1) := by decide +kernel
theorem d_Mo_goesTogether_47 : decode c_Mo_goesTogether 47 = .ok (.getfield 28, 3) := by decide +kernel
theorem d_Mo_goesTogether_50 : decode c_Mo_goesTogether 50 = .ok (.iload_n 3, 1) := by decide +kernel
theorem d_Mo_goesTogether_51 : decode c_Mo_goesTogether 51 = .ok (.iaload, 1) := by decide +kernel
theorem d_Mo_goesTogether_52 : decode c_Mo_goesTogether 52 = .ok (.if_icmp .ge 5, 3) := by decide +kernel
theorem d_Mo_goesTogether_55 : decode c_Mo_goesTogether 55 = .ok (.iconst 0, 1) := by decide +kernel
theorem d_Mo_goesTogether_56 : decode c_Mo_goesTogether 56 = .ok (.ireturn, 1) := by decide +kernel
theorem d_Mo_goesTogether_57 : decode c_Mo_goesTogether 57 = .ok (.iconst 0, 1) := by decide +kernel
theorem d_Mo_goesTogether_58 : decode c_Mo_goesTogether 58 = .ok (.istore 4, 2) := by decide +kernel
theorem d_Mo_goesTogether_60 : decode c_Mo_goesTogether 60 = .ok (.iload 4, 2) := by decide +kernel
theorem d_Mo_goesTogether_62 : decode c_Mo_goesTogether 62 = .ok (.iload_n 2, 1) := by decide +kernel
theorem d_Mo_goesTogether_63 : decode c_Mo_goesTogether 63 = .ok (.if_icmp .ge 35, 3) := by decide +kernel
theorem d_Mo_goesTogether_66 : decode c_Mo_goesTogether 66 = .ok (.iload_n 1, 1) := by decide +kernel
theorem d_Mo_goesTogether_67 : decode c_Mo_goesTogether 67 = .ok (.iload 4, 2) := by decide +kernel
theorem d_Mo_goesTogether_69 : decode c_Mo_goesTogether 69 = .ok (.invokestatic 127, 3) := by decide +kernel
theorem d_Mo_goesTogether_72 : decode c_Mo_goesTogether 72 = .ok (.ifCond .eq 20, 3) := by decide +kernel
theorem d_Mo_goesTogether_75 : decode c_Mo_goesTogether 75 = .ok (.aload_n 0, 1) := by decide +kernel
theorem d_Mo_goesTogether_76 : decode c_Mo_goesTogether 76 = .ok (.getfield 46, 3) := by decide +kernel
theorem d_Mo_goesTogether_79 : decode c_Mo_goesTogether 79 = .ok (.bipush 10, 2) := by decide +kernel
theorem d_Mo_goesTogether_81 : decode c_Mo_goesTogether 81 = .ok (.iload_n 2, 1) := by decide +kernel
theorem d_Mo_goesTogether_82 : decode c_Mo_goesTogether 82 = .ok (.imul, 1) := by decide +kernel
theorem d_Mo_goesTogether_83 : decode c_Mo_goesTogether 83 = .ok (.iload 4, 2) := by decide +kernel
theorem d_Mo_goesTogether_85 : decode c_Mo_goesTogether 85 = .ok (.iadd, 1) := by decide +kernel
theorem d_Mo_goesTogether_86 : decode c_Mo_goesTogether 86 = .ok (.baload, 1) := by decide +kernel
theorem d_Mo_goesTogether_87 : decode c_Mo_goesTogether 87 = .ok (.ifCond .eq 5, 3) := by decide +kernel
theorem d_Mo_goesTogether_90 : decode c_Mo_goesTogether 90 = .ok (.iconst 0, 1) := by decide +kernel
theorem d_Mo_goesTogether_91 : decode c_Mo_goesTogether 91 = .ok (.ireturn, 1) := by decide +kernel
theorem d_Mo_goesTogether_92 : decode c_Mo_goesTogether 92 = .ok (.iinc 4 1, 3) := by decide +kernel
theorem d_Mo_goesTogether_95 : decode c_Mo_goesTogether 95 = .ok (.goto (-35), 3) := by decide +kernel
theorem d_Mo_goesTogether_98 : decode c_Mo_goesTogether 98 = .ok (.iinc 2 1, 3) := by decide +kernel
theorem d_Mo_goesTogether_101 : decode c_Mo_goesTogether 101 = .ok (.goto (-99), 3) := by decide +kernel
theorem d_Mo_goesTogether_104 : decode c_Mo_goesTogether 104 = .ok (.iconst 1, 1) := by decide +kernel
theorem d_Mo_goesTogether_105 : decode c_Mo_goesTogether 105 = .ok (.ireturn, 1) := by decide +kernel
theorem d_Mo_costOf_0 : decode c_Mo_costOf 0 = .ok (.lconst 0, 1) := by decide +kernel
theorem d_Mo_costOf_1 : decode c_Mo_costOf 1 = .ok (.lstore_n 3, 1) := by decide +kernel
theorem d_Mo_costOf_2 : decode c_Mo_costOf 2 = .ok (.iconst 0, 1) := by decide +kernel
theorem d_Mo_costOf_3 : decode c_Mo_costOf 3 = .ok (.istore 5, 2) := by decide +kernel
theorem d_Mo_costOf_5 : decode c_Mo_costOf 5 = .ok (.iload 5, 2) := by decide +kernel
theorem d_Mo_costOf_7 : decode c_Mo_costOf 7 = .ok (.aload_n 0, 1) := by decide +kernel
theorem d_Mo_costOf_8 : decode c_Mo_costOf 8 = .ok (.getfield 75, 3) := by decide +kernel
theorem d_Mo_costOf_11 : decode c_Mo_costOf 11 = .ok (.if_icmp .ge 109, 3) := by decide +kernel
theorem d_Mo_costOf_14 : decode c_Mo_costOf 14 = .ok (.iload_n 1, 1) := by decide +kernel
theorem d_Mo_costOf_15 : decode c_Mo_costOf 15 = .ok (.iload 5, 2) := by decide +kernel
theorem d_Mo_costOf_17 : decode c_Mo_costOf 17 = .ok (.invokestatic 127, 3) := by decide +kernel
theorem d_Mo_costOf_20 : decode c_Mo_costOf 20 = .ok (.ifCond .eq 94, 3) := by decide +kernel
theorem d_Mo_costOf_23 : decode c_Mo_costOf 23 = .ok (.aload_n 0, 1) := by decide +kernel
theorem d_Mo_costOf_24 : decode c_Mo_costOf 24 = .ok (.getfield 28, 3) := by decide +kernel
theorem d_Mo_costOf_27 : decode c_Mo_costOf 27 = .ok (.iload 5, 2) := by decide +kernel
theorem d_Mo_costOf_29 : decode c_Mo_costOf 29 = .ok (.iaload, 1) := by decide +kernel
theorem d_Mo_costOf_30 : decode c_Mo_costOf 30 = .ok (.iload_n 2, 1) := by decide +kernel
theorem d_Mo_costOf_31 : decode c_Mo_costOf 31 = .ok (.if_icmp .ne 83, 3) := by decide +kernel
theorem d_Mo_costOf_34 : decode c_Mo_costOf 34 = .ok (.lload_n 3, 1) := by decide +kernel
theorem d_Mo_costOf_35 : decode c_Mo_costOf 35 = .ok (.aload_n 0, 1) := by decide +kernel
theorem d_Mo_costOf_36 : decode c_Mo_costOf 36 = .ok (.getfield 31, 3) := by decide +kernel
theorem d_Mo_costOf_39 : decode c_Mo_costOf 39 = .ok (.iload 5, 2) := by decide +kernel
theorem d_Mo_costOf_41 : decode c_Mo_costOf 41 = .ok (.iaload, 1) := by decide +kernel
theorem d_Mo_costOf_42 : decode c_Mo_costOf 42 = .ok (.i2l, 1) := by decide +kernel
theorem d_Mo_costOf_43 : decode c_Mo_costOf 43 = .ok (.aload_n 0, 1) := by decide +kernel
theorem d_Mo_costOf_44 : decode c_Mo_costOf 44 = .ok (.getfield 7, 3) := by decide +kernel
theorem d_Mo_costOf_47 : decode c_Mo_costOf 47 = .ok (.iload_n 2, 1) := by decide +kernel
theorem d_Mo_costOf_48 : decode c_Mo_costOf 48 = .ok (.iaload, 1) := by decide +kernel
theorem d_Mo_costOf_49 : decode c_Mo_costOf 49 = .ok (.i2l, 1) := by decide +kernel
theorem d_Mo_costOf_50 : decode c_Mo_costOf 50 = .ok (.lmul, 1) := by decide +kernel
theorem d_Mo_costOf_51 : decode c_Mo_costOf 51 = .ok (.ldc2_w 104, 3) := by decide +kernel
theorem d_Mo_costOf_54 : decode c_Mo_costOf 54 = .ok (.ldiv, 1) := by decide +kernel
theorem d_Mo_costOf_55 : decode c_Mo_costOf 55 = .ok (.ladd, 1) := by decide +kernel
theorem d_Mo_costOf_56 : decode c_Mo_costOf 56 = .ok (.lstore_n 3, 1) := by decide +kernel
theorem d_Mo_costOf_57 : decode c_Mo_costOf 57 = .ok (.iconst 0, 1) := by decide +kernel
theorem d_Mo_costOf_58 : decode c_Mo_costOf 58 = .ok (.istore 6, 2) := by decide +kernel
theorem d_Mo_costOf_60 : decode c_Mo_costOf 60 = .ok (.iload 6, 2) := by decide +kernel
theorem d_Mo_costOf_62 : decode c_Mo_costOf 62 = .ok (.iload 5, 2) := by decide +kernel
theorem d_Mo_costOf_64 : decode c_Mo_costOf 64 = .ok (.if_icmp .ge 50, 3) := by decide +kernel
theorem d_Mo_costOf_67 : decode c_Mo_costOf 67 = .ok (.lload_n 3, 1) := by decide +kernel
theorem d_Mo_costOf_68 : decode c_Mo_costOf 68 = .ok (.iload_n 1, 1) := by decide +kernel
theorem d_Mo_costOf_69 : decode c_Mo_costOf 69 = .ok (.iload 6, 2) := by decide +kernel
theorem d_Mo_costOf_71 : decode c_Mo_costOf 71 = .ok (.invokestatic 127, 3) := by decide +kernel
theorem d_Mo_costOf_74 : decode c_Mo_costOf 74 = .ok (.ifCond .eq 31, 3) := by decide +kernel
theorem d_Mo_costOf_77 : decode c_Mo_costOf 77 = .ok (.aload_n 0, 1) := by decide +kernel
theorem d_Mo_costOf_78 : decode c_Mo_costOf 78 = .ok (.getfield 28, 3) := by decide +kernel
theorem d_Mo_costOf_81 : decode c_Mo_costOf 81 = .ok (.iload 6, 2) := by decide +kernel
theorem d_Mo_costOf_83 : decode c_Mo_costOf 83 = .ok (.iaload, 1) := by decide +kernel
theorem d_Mo_costOf_84 : decode c_Mo_costOf 84 = .ok (.iload_n 2, 1) := by decide +kernel
theorem d_Mo_costOf_85 : decode c_Mo_costOf 85 = .ok (.if_icmp .ne 20, 3) := by decide +kernel
theorem d_Mo_costOf_88 : decode c_Mo_costOf 88 = .ok (.aload_n 0, 1) := by decide +kernel
theorem d_Mo_costOf_89 : decode c_Mo_costOf 89 = .ok (.getfield 43, 3) := by decide +kernel
theorem d_Mo_costOf_92 : decode c_Mo_costOf 92 = .ok (.bipush 10, 2) := by decide +kernel
theorem d_Mo_costOf_94 : decode c_Mo_costOf 94 = .ok (.iload 5, 2) := by decide +kernel
theorem d_Mo_costOf_96 : decode c_Mo_costOf 96 = .ok (.imul, 1) := by decide +kernel
theorem d_Mo_costOf_97 : decode c_Mo_costOf 97 = .ok (.iload 6, 2) := by decide +kernel
theorem d_Mo_costOf_99 : decode c_Mo_costOf 99 = .ok (.iadd, 1) := by decide +kernel
theorem d_Mo_costOf_100 : decode c_Mo_costOf 100 = .ok (.iaload, 1) := by decide +kernel
theorem d_Mo_costOf_101 : decode c_Mo_costOf 101 = .ok (.i2l, 1) := by decide +kernel
theorem d_Mo_costOf_102 : decode c_Mo_costOf 102 = .ok (.goto 4, 3) := by decide +kernel
theorem d_Mo_costOf_105 : decode c_Mo_costOf 105 = .ok (.lconst 0, 1) := by decide +kernel
theorem d_Mo_costOf_106 : decode c_Mo_costOf 106 = .ok (.lsub, 1) := by decide +kernel
theorem d_Mo_costOf_107 : decode c_Mo_costOf 107 = .ok (.lstore_n 3, 1) := by decide +kernel
theorem d_Mo_costOf_108 : decode c_Mo_costOf 108 = .ok (.iinc 6 1, 3) := by decide +kernel
theorem d_Mo_costOf_111 : decode c_Mo_costOf 111 = .ok (.goto (-51), 3) := by decide +kernel
theorem d_Mo_costOf_114 : decode c_Mo_costOf 114 = .ok (.iinc 5 1, 3) := by decide +kernel
theorem d_Mo_costOf_117 : decode c_Mo_costOf 117 = .ok (.goto (-112), 3) := by decide +kernel
theorem d_Mo_costOf_120 : decode c_Mo_costOf 120 = .ok (.lload_n 3, 1) := by decide +kernel
theorem d_Mo_costOf_121 : decode c_Mo_costOf 121 = .ok (.lconst 0, 1) := by decide +kernel
theorem d_Mo_costOf_122 : decode c_Mo_costOf 122 = .ok (.lcmp, 1) := by decide +kernel
theorem d_Mo_costOf_123 : decode c_Mo_costOf 123 = .ok (.ifCond .ge 7, 3) := by decide +kernel
theorem d_Mo_costOf_126 : decode c_Mo_costOf 126 = .ok (.lconst 0, 1) := by decide +kernel
theorem d_Mo_costOf_127 : decode c_Mo_costOf 127 = .ok (.goto 4, 3) := by decide +kernel
theorem d_Mo_costOf_130 : decode c_Mo_costOf 130 = .ok (.lload_n 3, 1) := by decide +kernel
theorem d_Mo_costOf_131 : decode c_Mo_costOf 131 = .ok (.lreturn, 1) := by decide +kernel
theorem d_Mo_lackOf_0 : decode c_Mo_lackOf 0 = .ok (.lconst 0, 1) := by decide +kernel
theorem d_Mo_lackOf_1 : decode c_Mo_lackOf 1 = .ok (.lstore_n 2, 1) := by decide +kernel
theorem d_Mo_lackOf_2 : decode c_Mo_lackOf 2 = .ok (.aload_n 0, 1) := by decide +kernel
theorem d_Mo_lackOf_3 : decode c_Mo_lackOf 3 = .ok (.lconst 0, 1) := by decide +kernel
theorem d_Mo_lackOf_4 : decode c_Mo_lackOf 4 = .ok (.putfield 130, 3) := by decide +kernel
theorem d_Mo_lackOf_7 : decode c_Mo_lackOf 7 = .ok (.iconst 0, 1) := by decide +kernel
theorem d_Mo_lackOf_8 : decode c_Mo_lackOf 8 = .ok (.istore 4, 2) := by decide +kernel
theorem d_Mo_lackOf_10 : decode c_Mo_lackOf 10 = .ok (.iload 4, 2) := by decide +kernel
theorem d_Mo_lackOf_12 : decode c_Mo_lackOf 12 = .ok (.aload_n 0, 1) := by decide +kernel
theorem d_Mo_lackOf_13 : decode c_Mo_lackOf 13 = .ok (.getfield 57, 3) := by decide +kernel
theorem d_Mo_lackOf_16 : decode c_Mo_lackOf 16 = .ok (.if_icmp .ge 61, 3) := by decide +kernel
theorem d_Mo_lackOf_19 : decode c_Mo_lackOf 19 = .ok (.aload_n 0, 1) := by decide +kernel
theorem d_Mo_lackOf_20 : decode c_Mo_lackOf 20 = .ok (.iload_n 1, 1) := by decide +kernel
theorem d_Mo_lackOf_21 : decode c_Mo_lackOf 21 = .ok (.iload 4, 2) := by decide +kernel
theorem d_Mo_lackOf_23 : decode c_Mo_lackOf 23 = .ok (.invokevirtual 134, 3) := by decide +kernel
theorem d_Mo_lackOf_26 : decode c_Mo_lackOf 26 = .ok (.lstore 5, 2) := by decide +kernel
theorem d_Mo_lackOf_28 : decode c_Mo_lackOf 28 = .ok (.aload_n 0, 1) := by decide +kernel
theorem d_Mo_lackOf_29 : decode c_Mo_lackOf 29 = .ok (.dup, 1) := by decide +kernel
theorem d_Mo_lackOf_30 : decode c_Mo_lackOf 30 = .ok (.getfield 130, 3) := by decide +kernel
theorem d_Mo_lackOf_33 : decode c_Mo_lackOf 33 = .ok (.lload 5, 2) := by decide +kernel
theorem d_Mo_lackOf_35 : decode c_Mo_lackOf 35 = .ok (.ladd, 1) := by decide +kernel
theorem d_Mo_lackOf_36 : decode c_Mo_lackOf 36 = .ok (.putfield 130, 3) := by decide +kernel
theorem d_Mo_lackOf_39 : decode c_Mo_lackOf 39 = .ok (.lload_n 2, 1) := by decide +kernel
theorem d_Mo_lackOf_40 : decode c_Mo_lackOf 40 = .ok (.lload 5, 2) := by decide +kernel
theorem d_Mo_lackOf_42 : decode c_Mo_lackOf 42 = .ok (.aload_n 0, 1) := by decide +kernel
theorem d_Mo_lackOf_43 : decode c_Mo_lackOf 43 = .ok (.getfield 13, 3) := by decide +kernel
theorem d_Mo_lackOf_46 : decode c_Mo_lackOf 46 = .ok (.iload 4, 2) := by decide +kernel
theorem d_Mo_lackOf_48 : decode c_Mo_lackOf 48 = .ok (.iaload, 1) := by decide +kernel
theorem d_Mo_lackOf_49 : decode c_Mo_lackOf 49 = .ok (.i2l, 1) := by decide +kernel
theorem d_Mo_lackOf_50 : decode c_Mo_lackOf 50 = .ok (.lcmp, 1) := by decide +kernel
theorem d_Mo_lackOf_51 : decode c_Mo_lackOf 51 = .ok (.ifCond .le 17, 3) := by decide +kernel
theorem d_Mo_lackOf_54 : decode c_Mo_lackOf 54 = .ok (.lload 5, 2) := by decide +kernel
theorem d_Mo_lackOf_56 : decode c_Mo_lackOf 56 = .ok (.aload_n 0, 1) := by decide +kernel
theorem d_Mo_lackOf_57 : decode c_Mo_lackOf 57 = .ok (.getfield 13, 3) := by decide +kernel
theorem d_Mo_lackOf_60 : decode c_Mo_lackOf 60 = .ok (.iload 4, 2) := by decide +kernel
theorem d_Mo_lackOf_62 : decode c_Mo_lackOf 62 = .ok (.iaload, 1) := by decide +kernel
theorem d_Mo_lackOf_63 : decode c_Mo_lackOf 63 = .ok (.i2l, 1) := by decide +kernel
theorem d_Mo_lackOf_64 : decode c_Mo_lackOf 64 = .ok (.lsub, 1) := by decide +kernel
theorem d_Mo_lackOf_65 : decode c_Mo_lackOf 65 = .ok (.goto 4, 3) := by decide +kernel
theorem d_Mo_lackOf_68 : decode c_Mo_lackOf 68 = .ok (.lconst 0, 1) := by decide +kernel
theorem d_Mo_lackOf_69 : decode c_Mo_lackOf 69 = .ok (.ladd, 1) := by decide +kernel
theorem d_Mo_lackOf_70 : decode c_Mo_lackOf 70 = .ok (.lstore_n 2, 1) := by decide +kernel
theorem d_Mo_lackOf_71 : decode c_Mo_lackOf 71 = .ok (.iinc 4 1, 3) := by decide +kernel
theorem d_Mo_lackOf_74 : decode c_Mo_lackOf 74 = .ok (.goto (-64), 3) := by decide +kernel
theorem d_Mo_lackOf_77 : decode c_Mo_lackOf 77 = .ok (.lload_n 2, 1) := by decide +kernel
theorem d_Mo_lackOf_78 : decode c_Mo_lackOf 78 = .ok (.lreturn, 1) := by decide +kernel
theorem d_Mo_choose_0 : decode c_Mo_choose 0 = .ok (.aload_n 0, 1) := by decide +kernel
theorem d_Mo_choose_1 : decode c_Mo_choose 1 = .ok (.iconst 0, 1) := by decide +kernel
theorem d_Mo_choose_2 : decode c_Mo_choose 2 = .ok (.putfield 61, 3) := by decide +kernel
theorem d_Mo_choose_5 : decode c_Mo_choose 5 = .ok (.iconst 0, 1) := by decide +kernel
theorem d_Mo_choose_6 : decode c_Mo_choose 6 = .ok (.istore_n 1, 1) := by decide +kernel
theorem d_Mo_choose_7 : decode c_Mo_choose 7 = .ok (.iconst 0, 1) := by decide +kernel
theorem d_Mo_choose_8 : decode c_Mo_choose 8 = .ok (.istore_n 2, 1) := by decide +kernel
theorem d_Mo_choose_9 : decode c_Mo_choose 9 = .ok (.lconst 0, 1) := by decide +kernel
theorem d_Mo_choose_10 : decode c_Mo_choose 10 = .ok (.lstore_n 3, 1) := by decide +kernel
theorem d_Mo_choose_11 : decode c_Mo_choose 11 = .ok (.iconst 1, 1) := by decide +kernel
theorem d_Mo_choose_12 : decode c_Mo_choose 12 = .ok (.istore 5, 2) := by decide +kernel
theorem d_Mo_choose_14 : decode c_Mo_choose 14 = .ok (.iload 5, 2) := by decide +kernel
theorem d_Mo_choose_16 : decode c_Mo_choose 16 = .ok (.iconst 1, 1) := by decide +kernel
theorem d_Mo_choose_17 : decode c_Mo_choose 17 = .ok (.aload_n 0, 1) := by decide +kernel
theorem d_Mo_choose_18 : decode c_Mo_choose 18 = .ok (.getfield 75, 3) := by decide +kernel
theorem d_Mo_choose_21 : decode c_Mo_choose 21 = .ok (.ishl, 1) := by decide +kernel
theorem d_Mo_choose_22 : decode c_Mo_choose 22 = .ok (.if_icmp .ge 108, 3) := by decide +kernel
theorem d_Mo_choose_25 : decode c_Mo_choose 25 = .ok (.iconst 0, 1) := by decide +kernel
theorem d_Mo_choose_26 : decode c_Mo_choose 26 = .ok (.istore 6, 2) := by decide +kernel
theorem d_Mo_choose_28 : decode c_Mo_choose 28 = .ok (.iconst 0, 1) := by decide +kernel
theorem d_Mo_choose_29 : decode c_Mo_choose 29 = .ok (.istore 7, 2) := by decide +kernel
theorem d_Mo_choose_31 : decode c_Mo_choose 31 = .ok (.iload 7, 2) := by decide +kernel
theorem d_Mo_choose_33 : decode c_Mo_choose 33 = .ok (.aload_n 0, 1) := by decide +kernel
theorem d_Mo_choose_34 : decode c_Mo_choose 34 = .ok (.getfield 75, 3) := by decide +kernel
theorem d_Mo_choose_37 : decode c_Mo_choose 37 = .ok (.if_icmp .ge 35, 3) := by decide +kernel
theorem d_Mo_choose_40 : decode c_Mo_choose 40 = .ok (.iload 6, 2) := by decide +kernel
theorem d_Mo_choose_42 : decode c_Mo_choose 42 = .ok (.iload 5, 2) := by decide +kernel
theorem d_Mo_choose_44 : decode c_Mo_choose 44 = .ok (.iload 7, 2) := by decide +kernel
theorem d_Mo_choose_46 : decode c_Mo_choose 46 = .ok (.invokestatic 127, 3) := by decide +kernel
theorem d_Mo_choose_49 : decode c_Mo_choose 49 = .ok (.ifCond .eq 13, 3) := by decide +kernel
theorem d_Mo_choose_52 : decode c_Mo_choose 52 = .ok (.aload_n 0, 1) := by decide +kernel
theorem d_Mo_choose_53 : decode c_Mo_choose 53 = .ok (.getfield 34, 3) := by decide +kernel
theorem d_Mo_choose_56 : decode c_Mo_choose 56 = .ok (.iload 7, 2) := by decide +kernel
theorem d_Mo_choose_58 : decode c_Mo_choose 58 = .ok (.iaload, 1) := by decide +kernel
theorem d_Mo_choose_59 : decode c_Mo_choose 59 = .ok (.goto 4, 3) := by decide +kernel
theorem d_Mo_choose_62 : decode c_Mo_choose 62 = .ok (.iconst 0, 1) := by decide +kernel
theorem d_Mo_choose_63 : decode c_Mo_choose 63 = .ok (.iadd, 1) := by decide +kernel
theorem d_Mo_choose_64 : decode c_Mo_choose 64 = .ok (.istore 6, 2) := by decide +kernel
theorem d_Mo_choose_66 : decode c_Mo_choose 66 = .ok (.iinc 7 1, 3) := by decide +kernel
theorem d_Mo_choose_69 : decode c_Mo_choose 69 = .ok (.goto (-38), 3) := by decide +kernel
theorem d_Mo_choose_72 : decode c_Mo_choose 72 = .ok (.iload 6, 2) := by decide +kernel
theorem d_Mo_choose_74 : decode c_Mo_choose 74 = .ok (.iload_n 2, 1) := by decide +kernel
theorem d_Mo_choose_75 : decode c_Mo_choose 75 = .ok (.if_icmp .lt 49, 3) := by decide +kernel
theorem d_Mo_choose_78 : decode c_Mo_choose 78 = .ok (.aload_n 0, 1) := by decide +kernel
theorem d_Mo_choose_79 : decode c_Mo_choose 79 = .ok (.iload 5, 2) := by decide +kernel
theorem d_Mo_choose_81 : decode c_Mo_choose 81 = .ok (.invokevirtual 137, 3) := by decide +kernel
theorem d_Mo_choose_84 : decode c_Mo_choose 84 = .ok (.ifCond .eq 40, 3) := by decide +kernel
theorem d_Mo_choose_87 : decode c_Mo_choose 87 = .ok (.aload_n 0, 1) := by decide +kernel
theorem d_Mo_choose_88 : decode c_Mo_choose 88 = .ok (.iload 5, 2) := by decide +kernel
theorem d_Mo_choose_90 : decode c_Mo_choose 90 = .ok (.invokevirtual 140, 3) := by decide +kernel
theorem d_Mo_choose_93 : decode c_Mo_choose 93 = .ok (.lconst 0, 1) := by decide +kernel
theorem d_Mo_choose_94 : decode c_Mo_choose 94 = .ok (.lcmp, 1) := by decide +kernel
theorem d_Mo_choose_95 : decode c_Mo_choose 95 = .ok (.ifCond .ne 29, 3) := by decide +kernel
theorem d_Mo_choose_98 : decode c_Mo_choose 98 = .ok (.iload 6, 2) := by decide +kernel
theorem d_Mo_choose_100 : decode c_Mo_choose 100 = .ok (.iload_n 2, 1) := by decide +kernel
theorem d_Mo_choose_101 : decode c_Mo_choose 101 = .ok (.if_icmp .gt 12, 3) := by decide +kernel
theorem d_Mo_choose_104 : decode c_Mo_choose 104 = .ok (.aload_n 0, 1) := by decide +kernel
theorem d_Mo_choose_105 : decode c_Mo_choose 105 = .ok (.getfield 130, 3) := by decide +kernel
theorem d_Mo_choose_108 : decode c_Mo_choose 108 = .ok (.lload_n 3, 1) := by decide +kernel
theorem d_Mo_choose_109 : decode c_Mo_choose 109 = .ok (.lcmp, 1) := by decide +kernel
theorem d_Mo_choose_110 : decode c_Mo_choose 110 = .ok (.ifCond .ge 14, 3) := by decide +kernel
theorem d_Mo_choose_113 : decode c_Mo_choose 113 = .ok (.iload 5, 2) := by decide +kernel
theorem d_Mo_choose_115 : decode c_Mo_choose 115 = .ok (.istore_n 1, 1) := by decide +kernel
theorem d_Mo_choose_116 : decode c_Mo_choose 116 = .ok (.iload 6, 2) := by decide +kernel
theorem d_Mo_choose_118 : decode c_Mo_choose 118 = .ok (.istore_n 2, 1) := by decide +kernel
theorem d_Mo_choose_119 : decode c_Mo_choose 119 = .ok (.aload_n 0, 1) := by decide +kernel
theorem d_Mo_choose_120 : decode c_Mo_choose 120 = .ok (.getfield 130, 3) := by decide +kernel
theorem d_Mo_choose_123 : decode c_Mo_choose 123 = .ok (.lstore_n 3, 1) := by decide +kernel
theorem d_Mo_choose_124 : decode c_Mo_choose 124 = .ok (.iinc 5 1, 3) := by decide +kernel
theorem d_Mo_choose_127 : decode c_Mo_choose 127 = .ok (.goto (-113), 3) := by decide +kernel
theorem d_Mo_choose_130 : decode c_Mo_choose 130 = .ok (.aload_n 0, 1) := by decide +kernel
theorem d_Mo_choose_131 : decode c_Mo_choose 131 = .ok (.iload_n 1, 1) := by decide +kernel
theorem d_Mo_choose_132 : decode c_Mo_choose 132 = .ok (.putfield 106, 3) := by decide +kernel
theorem d_Mo_choose_135 : decode c_Mo_choose 135 = .ok (.iload_n 2, 1) := by decide +kernel
theorem d_Mo_choose_136 : decode c_Mo_choose 136 = .ok (.ireturn, 1) := by decide +kernel
theorem d_Mo_chosen_0 : decode c_Mo_chosen 0 = .ok (.aload_n 0, 1) := by decide +kernel
theorem d_Mo_chosen_1 : decode c_Mo_chosen 1 = .ok (.aload_n 0, 1) := by decide +kernel
theorem d_Mo_chosen_2 : decode c_Mo_chosen 2 = .ok (.iload_n 1, 1) := by decide +kernel
theorem d_Mo_chosen_3 : decode c_Mo_chosen 3 = .ok (.invokevirtual 121, 3) := by decide +kernel
theorem d_Mo_chosen_6 : decode c_Mo_chosen 6 = .ok (.ifCond .eq 7, 3) := by decide +kernel
theorem d_Mo_chosen_9 : decode c_Mo_chosen 9 = .ok (.iconst 0, 1) := by decide +kernel
theorem d_Mo_chosen_10 : decode c_Mo_chosen 10 = .ok (.goto 4, 3) := by decide +kernel
theorem d_Mo_chosen_13 : decode c_Mo_chosen 13 = .ok (.iconst 1, 1) := by decide +kernel
theorem d_Mo_chosen_14 : decode c_Mo_chosen 14 = .ok (.invokevirtual 85, 3) := by decide +kernel
theorem d_Mo_chosen_17 : decode c_Mo_chosen 17 = .ok (.ifCond .ne 18, 3) := by decide +kernel
theorem d_Mo_chosen_20 : decode c_Mo_chosen 20 = .ok (.aload_n 0, 1) := by decide +kernel
theorem d_Mo_chosen_21 : decode c_Mo_chosen 21 = .ok (.getfield 106, 3) := by decide +kernel
theorem d_Mo_chosen_24 : decode c_Mo_chosen 24 = .ok (.iload_n 1, 1) := by decide +kernel
theorem d_Mo_chosen_25 : decode c_Mo_chosen 25 = .ok (.invokestatic 127, 3) := by decide +kernel
theorem d_Mo_chosen_28 : decode c_Mo_chosen 28 = .ok (.ifCond .eq 7, 3) := by decide +kernel
theorem d_Mo_chosen_31 : decode c_Mo_chosen 31 = .ok (.iconst 1, 1) := by decide +kernel
theorem d_Mo_chosen_32 : decode c_Mo_chosen 32 = .ok (.goto 4, 3) := by decide +kernel
theorem d_Mo_chosen_35 : decode c_Mo_chosen 35 = .ok (.iconst 0, 1) := by decide +kernel
theorem d_Mo_chosen_36 : decode c_Mo_chosen 36 = .ok (.ireturn, 1) := by decide +kernel
theorem d_Mo_costs_0 : decode c_Mo_costs 0 = .ok (.aload_n 0, 1) := by decide +kernel
theorem d_Mo_costs_1 : decode c_Mo_costs 1 = .ok (.aload_n 0, 1) := by decide +kernel
theorem d_Mo_costs_2 : decode c_Mo_costs 2 = .ok (.iload_n 1, 1) := by decide +kernel
theorem d_Mo_costs_3 : decode c_Mo_costs 3 = .ok (.invokevirtual 78, 3) := by decide +kernel
theorem d_Mo_costs_6 : decode c_Mo_costs 6 = .ok (.ifCond .eq 7, 3) := by decide +kernel
theorem d_Mo_costs_9 : decode c_Mo_costs 9 = .ok (.iconst 0, 1) := by decide +kernel
theorem d_Mo_costs_10 : decode c_Mo_costs 10 = .ok (.goto 4, 3) := by decide +kernel
theorem d_Mo_costs_13 : decode c_Mo_costs 13 = .ok (.iconst 1, 1) := by decide +kernel
theorem d_Mo_costs_14 : decode c_Mo_costs 14 = .ok (.invokevirtual 85, 3) := by decide +kernel
theorem d_Mo_costs_17 : decode c_Mo_costs 17 = .ok (.ifCond .eq 7, 3) := by decide +kernel
theorem d_Mo_costs_20 : decode c_Mo_costs 20 = .ok (.iconst 0, 1) := by decide +kernel
theorem d_Mo_costs_21 : decode c_Mo_costs 21 = .ok (.goto 13, 3) := by decide +kernel
theorem d_Mo_costs_24 : decode c_Mo_costs 24 = .ok (.aload_n 0, 1) := by decide +kernel
theorem d_Mo_costs_25 : decode c_Mo_costs 25 = .ok (.aload_n 0, 1) := by decide +kernel
theorem d_Mo_costs_26 : decode c_Mo_costs 26 = .ok (.getfield 106, 3) := by decide +kernel
theorem d_Mo_costs_29 : decode c_Mo_costs 29 = .ok (.iload_n 1, 1) := by decide +kernel
theorem d_Mo_costs_30 : decode c_Mo_costs 30 = .ok (.invokevirtual 134, 3) := by decide +kernel
theorem d_Mo_costs_33 : decode c_Mo_costs 33 = .ok (.l2i, 1) := by decide +kernel
theorem d_Mo_costs_34 : decode c_Mo_costs 34 = .ok (.ireturn, 1) := by decide +kernel
theorem d_Mo_lacks_0 : decode c_Mo_lacks 0 = .ok (.aload_n 0, 1) := by decide +kernel
theorem d_Mo_lacks_1 : decode c_Mo_lacks 1 = .ok (.iconst 0, 1) := by decide +kernel
theorem d_Mo_lacks_2 : decode c_Mo_lacks 2 = .ok (.putfield 61, 3) := by decide +kernel
theorem d_Mo_lacks_5 : decode c_Mo_lacks 5 = .ok (.iload_n 1, 1) := by decide +kernel
theorem d_Mo_lacks_6 : decode c_Mo_lacks 6 = .ok (.iconst 1, 1) := by decide +kernel
theorem d_Mo_lacks_7 : decode c_Mo_lacks 7 = .ok (.aload_n 0, 1) := by decide +kernel
theorem d_Mo_lacks_8 : decode c_Mo_lacks 8 = .ok (.getfield 75, 3) := by decide +kernel
theorem d_Mo_lacks_11 : decode c_Mo_lacks 11 = .ok (.ishl, 1) := by decide +kernel
theorem d_Mo_lacks_12 : decode c_Mo_lacks 12 = .ok (.iconst 1, 1) := by decide +kernel
theorem d_Mo_lacks_13 : decode c_Mo_lacks 13 = .ok (.isub, 1) := by decide +kernel
theorem d_Mo_lacks_14 : decode c_Mo_lacks 14 = .ok (.iand, 1) := by decide +kernel
theorem d_Mo_lacks_15 : decode c_Mo_lacks 15 = .ok (.istore_n 2, 1) := by decide +kernel
theorem d_Mo_lacks_16 : decode c_Mo_lacks 16 = .ok (.aload_n 0, 1) := by decide +kernel
theorem d_Mo_lacks_17 : decode c_Mo_lacks 17 = .ok (.iload_n 2, 1) := by decide +kernel
theorem d_Mo_lacks_18 : decode c_Mo_lacks 18 = .ok (.invokevirtual 137, 3) := by decide +kernel
theorem d_Mo_lacks_21 : decode c_Mo_lacks 21 = .ok (.ifCond .eq 12, 3) := by decide +kernel
theorem d_Mo_lacks_24 : decode c_Mo_lacks 24 = .ok (.aload_n 0, 1) := by decide +kernel
theorem d_Mo_lacks_25 : decode c_Mo_lacks 25 = .ok (.iload_n 2, 1) := by decide +kernel
theorem d_Mo_lacks_26 : decode c_Mo_lacks 26 = .ok (.invokevirtual 140, 3) := by decide +kernel
theorem d_Mo_lacks_29 : decode c_Mo_lacks 29 = .ok (.l2i, 1) := by decide +kernel
theorem d_Mo_lacks_30 : decode c_Mo_lacks 30 = .ok (.goto 4, 3) := by decide +kernel
theorem d_Mo_lacks_33 : decode c_Mo_lacks 33 = .ok (.iconst (-1), 1) := by decide +kernel
theorem d_Mo_lacks_34 : decode c_Mo_lacks 34 = .ok (.ireturn, 1) := by decide +kernel
theorem d_Mo_money_0 : decode c_Mo_money 0 = .ok (.aload_n 0, 1) := by decide +kernel
theorem d_Mo_money_1 : decode c_Mo_money 1 = .ok (.iload_n 1, 1) := by decide +kernel
theorem d_Mo_money_2 : decode c_Mo_money 2 = .ok (.i2l, 1) := by decide +kernel
theorem d_Mo_money_3 : decode c_Mo_money 3 = .ok (.lconst 0, 1) := by decide +kernel
theorem d_Mo_money_4 : decode c_Mo_money 4 = .ok (.ldc2_w 88, 3) := by decide +kernel
theorem d_Mo_money_7 : decode c_Mo_money 7 = .ok (.invokestatic 64, 3) := by decide +kernel
theorem d_Mo_money_10 : decode c_Mo_money 10 = .ok (.ifCond .eq 19, 3) := by decide +kernel
theorem d_Mo_money_13 : decode c_Mo_money 13 = .ok (.iload_n 2, 1) := by decide +kernel
theorem d_Mo_money_14 : decode c_Mo_money 14 = .ok (.i2l, 1) := by decide +kernel
theorem d_Mo_money_15 : decode c_Mo_money 15 = .ok (.lconst 0, 1) := by decide +kernel
theorem d_Mo_money_16 : decode c_Mo_money 16 = .ok (.ldc2_w 88, 3) := by decide +kernel
theorem d_Mo_money_19 : decode c_Mo_money 19 = .ok (.invokestatic 64, 3) := by decide +kernel
theorem d_Mo_money_22 : decode c_Mo_money 22 = .ok (.ifCond .eq 7, 3) := by decide +kernel
theorem d_Mo_money_25 : decode c_Mo_money 25 = .ok (.iconst 0, 1) := by decide +kernel
theorem d_Mo_money_26 : decode c_Mo_money 26 = .ok (.goto 4, 3) := by decide +kernel
theorem d_Mo_money_29 : decode c_Mo_money 29 = .ok (.iconst 1, 1) := by decide +kernel
theorem d_Mo_money_30 : decode c_Mo_money 30 = .ok (.invokevirtual 85, 3) := by decide +kernel
theorem d_Mo_money_33 : decode c_Mo_money 33 = .ok (.ifCond .ne 15, 3) := by decide +kernel
theorem d_Mo_money_36 : decode c_Mo_money 36 = .ok (.aload_n 0, 1) := by decide +kernel
theorem d_Mo_money_37 : decode c_Mo_money 37 = .ok (.iload_n 1, 1) := by decide +kernel
theorem d_Mo_money_38 : decode c_Mo_money 38 = .ok (.i2l, 1) := by decide +kernel
theorem d_Mo_money_39 : decode c_Mo_money 39 = .ok (.putfield 144, 3) := by decide +kernel
theorem d_Mo_money_42 : decode c_Mo_money 42 = .ok (.aload_n 0, 1) := by decide +kernel
theorem d_Mo_money_43 : decode c_Mo_money 43 = .ok (.iload_n 2, 1) := by decide +kernel
theorem d_Mo_money_44 : decode c_Mo_money 44 = .ok (.i2l, 1) := by decide +kernel
theorem d_Mo_money_45 : decode c_Mo_money 45 = .ok (.putfield 147, 3) := by decide +kernel
theorem d_Mo_money_48 : decode c_Mo_money 48 = .ok (.return_, 1) := by decide +kernel
theorem d_Mo_reserveOf_0 : decode c_Mo_reserveOf 0 = .ok (.aload_n 0, 1) := by decide +kernel
theorem d_Mo_reserveOf_1 : decode c_Mo_reserveOf 1 = .ok (.getfield 144, 3) := by decide +kernel
theorem d_Mo_reserveOf_4 : decode c_Mo_reserveOf 4 = .ok (.lstore_n 2, 1) := by decide +kernel
theorem d_Mo_reserveOf_5 : decode c_Mo_reserveOf 5 = .ok (.iconst 0, 1) := by decide +kernel
theorem d_Mo_reserveOf_6 : decode c_Mo_reserveOf 6 = .ok (.istore 4, 2) := by decide +kernel
theorem d_Mo_reserveOf_8 : decode c_Mo_reserveOf 8 = .ok (.iload 4, 2) := by decide +kernel
theorem d_Mo_reserveOf_10 : decode c_Mo_reserveOf 10 = .ok (.iload_n 1, 1) := by decide +kernel
theorem d_Mo_reserveOf_11 : decode c_Mo_reserveOf 11 = .ok (.if_icmp .gt 56, 3) := by decide +kernel
theorem d_Mo_reserveOf_14 : decode c_Mo_reserveOf 14 = .ok (.lload_n 2, 1) := by decide +kernel
theorem d_Mo_reserveOf_15 : decode c_Mo_reserveOf 15 = .ok (.aload_n 0, 1) := by decide +kernel
theorem d_Mo_reserveOf_16 : decode c_Mo_reserveOf 16 = .ok (.getfield 147, 3) := by decide +kernel
theorem d_Mo_reserveOf_19 : decode c_Mo_reserveOf 19 = .ok (.aload_n 0, 1) := by decide +kernel
theorem d_Mo_reserveOf_20 : decode c_Mo_reserveOf 20 = .ok (.aload_n 0, 1) := by decide +kernel
theorem d_Mo_reserveOf_21 : decode c_Mo_reserveOf 21 = .ok (.getfield 106, 3) := by decide +kernel
theorem d_Mo_reserveOf_24 : decode c_Mo_reserveOf 24 = .ok (.iload 4, 2) := by decide +kernel
theorem d_Mo_reserveOf_26 : decode c_Mo_reserveOf 26 = .ok (.invokevirtual 134, 3) := by decide +kernel
theorem d_Mo_reserveOf_29 : decode c_Mo_reserveOf 29 = .ok (.lsub, 1) := by decide +kernel
theorem d_Mo_reserveOf_30 : decode c_Mo_reserveOf 30 = .ok (.ladd, 1) := by decide +kernel
theorem d_Mo_reserveOf_31 : decode c_Mo_reserveOf 31 = .ok (.lstore_n 2, 1) := by decide +kernel
theorem d_Mo_reserveOf_32 : decode c_Mo_reserveOf 32 = .ok (.iconst 0, 1) := by decide +kernel
theorem d_Mo_reserveOf_33 : decode c_Mo_reserveOf 33 = .ok (.istore 5, 2) := by decide +kernel
theorem d_Mo_reserveOf_35 : decode c_Mo_reserveOf 35 = .ok (.iload 5, 2) := by decide +kernel
theorem d_Mo_reserveOf_37 : decode c_Mo_reserveOf 37 = .ok (.aload_n 0, 1) := by decide +kernel
theorem d_Mo_reserveOf_38 : decode c_Mo_reserveOf 38 = .ok (.getfield 68, 3) := by decide +kernel
theorem d_Mo_reserveOf_41 : decode c_Mo_reserveOf 41 = .ok (.if_icmp .ge 20, 3) := by decide +kernel
theorem d_Mo_reserveOf_44 : decode c_Mo_reserveOf 44 = .ok (.lload_n 2, 1) := by decide +kernel
theorem d_Mo_reserveOf_45 : decode c_Mo_reserveOf 45 = .ok (.aload_n 0, 1) := by decide +kernel
theorem d_Mo_reserveOf_46 : decode c_Mo_reserveOf 46 = .ok (.iload 5, 2) := by decide +kernel
theorem d_Mo_reserveOf_48 : decode c_Mo_reserveOf 48 = .ok (.iload 4, 2) := by decide +kernel
theorem d_Mo_reserveOf_50 : decode c_Mo_reserveOf 50 = .ok (.invokevirtual 116, 3) := by decide +kernel
theorem d_Mo_reserveOf_53 : decode c_Mo_reserveOf 53 = .ok (.lsub, 1) := by decide +kernel
theorem d_Mo_reserveOf_54 : decode c_Mo_reserveOf 54 = .ok (.lstore_n 2, 1) := by decide +kernel
theorem d_Mo_reserveOf_55 : decode c_Mo_reserveOf 55 = .ok (.iinc 5 1, 3) := by decide +kernel
theorem d_Mo_reserveOf_58 : decode c_Mo_reserveOf 58 = .ok (.goto (-23), 3) := by decide +kernel
theorem d_Mo_reserveOf_61 : decode c_Mo_reserveOf 61 = .ok (.iinc 4 1, 3) := by decide +kernel
theorem d_Mo_reserveOf_64 : decode c_Mo_reserveOf 64 = .ok (.goto (-56), 3) := by decide +kernel
theorem d_Mo_reserveOf_67 : decode c_Mo_reserveOf 67 = .ok (.lload_n 2, 1) := by decide +kernel
theorem d_Mo_reserveOf_68 : decode c_Mo_reserveOf 68 = .ok (.lreturn, 1) := by decide +kernel
theorem d_Mo_reserve_0 : decode c_Mo_reserve 0 = .ok (.aload_n 0, 1) := by decide +kernel
theorem d_Mo_reserve_1 : decode c_Mo_reserve 1 = .ok (.aload_n 0, 1) := by decide +kernel
theorem d_Mo_reserve_2 : decode c_Mo_reserve 2 = .ok (.iload_n 1, 1) := by decide +kernel
theorem d_Mo_reserve_3 : decode c_Mo_reserve 3 = .ok (.invokevirtual 78, 3) := by decide +kernel
theorem d_Mo_reserve_6 : decode c_Mo_reserve 6 = .ok (.ifCond .eq 7, 3) := by decide +kernel
theorem d_Mo_reserve_9 : decode c_Mo_reserve 9 = .ok (.iconst 0, 1) := by decide +kernel
theorem d_Mo_reserve_10 : decode c_Mo_reserve 10 = .ok (.goto 4, 3) := by decide +kernel
theorem d_Mo_reserve_13 : decode c_Mo_reserve 13 = .ok (.iconst 1, 1) := by decide +kernel
theorem d_Mo_reserve_14 : decode c_Mo_reserve 14 = .ok (.invokevirtual 85, 3) := by decide +kernel
theorem d_Mo_reserve_17 : decode c_Mo_reserve 17 = .ok (.ifCond .eq 7, 3) := by decide +kernel
theorem d_Mo_reserve_20 : decode c_Mo_reserve 20 = .ok (.lconst 0, 1) := by decide +kernel
theorem d_Mo_reserve_21 : decode c_Mo_reserve 21 = .ok (.goto 8, 3) := by decide +kernel
theorem d_Mo_reserve_24 : decode c_Mo_reserve 24 = .ok (.aload_n 0, 1) := by decide +kernel
theorem d_Mo_reserve_25 : decode c_Mo_reserve 25 = .ok (.iload_n 1, 1) := by decide +kernel
theorem d_Mo_reserve_26 : decode c_Mo_reserve 26 = .ok (.invokevirtual 150, 3) := by decide +kernel
theorem d_Mo_reserve_29 : decode c_Mo_reserve 29 = .ok (.lreturn, 1) := by decide +kernel
theorem d_Mo_shortIn_0 : decode c_Mo_shortIn 0 = .ok (.aload_n 0, 1) := by decide +kernel
theorem d_Mo_shortIn_1 : decode c_Mo_shortIn 1 = .ok (.iconst 0, 1) := by decide +kernel
theorem d_Mo_shortIn_2 : decode c_Mo_shortIn 2 = .ok (.putfield 61, 3) := by decide +kernel
theorem d_Mo_shortIn_5 : decode c_Mo_shortIn 5 = .ok (.iconst 0, 1) := by decide +kernel
theorem d_Mo_shortIn_6 : decode c_Mo_shortIn 6 = .ok (.istore_n 1, 1) := by decide +kernel
theorem d_Mo_shortIn_7 : decode c_Mo_shortIn 7 = .ok (.iload_n 1, 1) := by decide +kernel
theorem d_Mo_shortIn_8 : decode c_Mo_shortIn 8 = .ok (.aload_n 0, 1) := by decide +kernel
theorem d_Mo_shortIn_9 : decode c_Mo_shortIn 9 = .ok (.getfield 57, 3) := by decide +kernel
theorem d_Mo_shortIn_12 : decode c_Mo_shortIn 12 = .ok (.if_icmp .ge 21, 3) := by decide +kernel
theorem d_Mo_shortIn_15 : decode c_Mo_shortIn 15 = .ok (.aload_n 0, 1) := by decide +kernel
theorem d_Mo_shortIn_16 : decode c_Mo_shortIn 16 = .ok (.iload_n 1, 1) := by decide +kernel
theorem d_Mo_shortIn_17 : decode c_Mo_shortIn 17 = .ok (.invokevirtual 150, 3) := by decide +kernel
theorem d_Mo_shortIn_20 : decode c_Mo_shortIn 20 = .ok (.lconst 0, 1) := by decide +kernel
theorem d_Mo_shortIn_21 : decode c_Mo_shortIn 21 = .ok (.lcmp, 1) := by decide +kernel
theorem d_Mo_shortIn_22 : decode c_Mo_shortIn 22 = .ok (.ifCond .ge 5, 3) := by decide +kernel
theorem d_Mo_shortIn_25 : decode c_Mo_shortIn 25 = .ok (.iload_n 1, 1) := by decide +kernel
theorem d_Mo_shortIn_26 : decode c_Mo_shortIn 26 = .ok (.ireturn, 1) := by decide +kernel
theorem d_Mo_shortIn_27 : decode c_Mo_shortIn 27 = .ok (.iinc 1 1, 3) := by decide +kernel
theorem d_Mo_shortIn_30 : decode c_Mo_shortIn 30 = .ok (.goto (-23), 3) := by decide +kernel
theorem d_Mo_shortIn_33 : decode c_Mo_shortIn 33 = .ok (.iconst (-1), 1) := by decide +kernel
theorem d_Mo_shortIn_34 : decode c_Mo_shortIn 34 = .ok (.ireturn, 1) := by decide +kernel
theorem d_Mo_restOf_0 : decode c_Mo_restOf 0 = .ok (.lload_n 0, 1) := by decide +kernel
theorem d_Mo_restOf_1 : decode c_Mo_restOf 1 = .ok (.lstore 6, 2) := by decide +kernel
theorem d_Mo_restOf_3 : decode c_Mo_restOf 3 = .ok (.iconst 0, 1) := by decide +kernel
theorem d_Mo_restOf_4 : decode c_Mo_restOf 4 = .ok (.istore 8, 2) := by decide +kernel
theorem d_Mo_restOf_6 : decode c_Mo_restOf 6 = .ok (.iload 8, 2) := by decide +kernel
theorem d_Mo_restOf_8 : decode c_Mo_restOf 8 = .ok (.iload_n 3, 1) := by decide +kernel
theorem d_Mo_restOf_9 : decode c_Mo_restOf 9 = .ok (.if_icmp .ge 45, 3) := by decide +kernel
theorem d_Mo_restOf_12 : decode c_Mo_restOf 12 = .ok (.lload 6, 2) := by decide +kernel
theorem d_Mo_restOf_14 : decode c_Mo_restOf 14 = .ok (.lload 6, 2) := by decide +kernel
theorem d_Mo_restOf_16 : decode c_Mo_restOf 16 = .ok (.iload_n 2, 1) := by decide +kernel
theorem d_Mo_restOf_17 : decode c_Mo_restOf 17 = .ok (.i2l, 1) := by decide +kernel
theorem d_Mo_restOf_18 : decode c_Mo_restOf 18 = .ok (.lmul, 1) := by decide +kernel
theorem d_Mo_restOf_19 : decode c_Mo_restOf 19 = .ok (.ldc2_w 153, 3) := by decide +kernel
theorem d_Mo_restOf_22 : decode c_Mo_restOf 22 = .ok (.ladd, 1) := by decide +kernel
theorem d_Mo_restOf_23 : decode c_Mo_restOf 23 = .ok (.ldc2_w 155, 3) := by decide +kernel
theorem d_Mo_restOf_26 : decode c_Mo_restOf 26 = .ok (.ldiv, 1) := by decide +kernel
theorem d_Mo_restOf_27 : decode c_Mo_restOf 27 = .ok (.lload 4, 2) := by decide +kernel
theorem d_Mo_restOf_29 : decode c_Mo_restOf 29 = .ok (.lsub, 1) := by decide +kernel
theorem d_Mo_restOf_30 : decode c_Mo_restOf 30 = .ok (.ladd, 1) := by decide +kernel
theorem d_Mo_restOf_31 : decode c_Mo_restOf 31 = .ok (.lstore 6, 2) := by decide +kernel
theorem d_Mo_restOf_33 : decode c_Mo_restOf 33 = .ok (.lload 6, 2) := by decide +kernel
theorem d_Mo_restOf_35 : decode c_Mo_restOf 35 = .ok (.lconst 0, 1) := by decide +kernel
theorem d_Mo_restOf_36 : decode c_Mo_restOf 36 = .ok (.lcmp, 1) := by decide +kernel
theorem d_Mo_restOf_37 : decode c_Mo_restOf 37 = .ok (.ifCond .ge 7, 3) := by decide +kernel
theorem d_Mo_restOf_40 : decode c_Mo_restOf 40 = .ok (.lconst 0, 1) := by decide +kernel
theorem d_Mo_restOf_41 : decode c_Mo_restOf 41 = .ok (.goto 5, 3) := by decide +kernel
theorem d_Mo_restOf_44 : decode c_Mo_restOf 44 = .ok (.lload 6, 2) := by decide +kernel
theorem d_Mo_restOf_46 : decode c_Mo_restOf 46 = .ok (.lstore 6, 2) := by decide +kernel
theorem d_Mo_restOf_48 : decode c_Mo_restOf 48 = .ok (.iinc 8 1, 3) := by decide +kernel
theorem d_Mo_restOf_51 : decode c_Mo_restOf 51 = .ok (.goto (-45), 3) := by decide +kernel
theorem d_Mo_restOf_54 : decode c_Mo_restOf 54 = .ok (.lload 6, 2) := by decide +kernel
theorem d_Mo_restOf_56 : decode c_Mo_restOf 56 = .ok (.lreturn, 1) := by decide +kernel
theorem d_Mo_paymentOf_0 : decode c_Mo_paymentOf 0 = .ok (.lconst 0, 1) := by decide +kernel
theorem d_Mo_paymentOf_1 : decode c_Mo_paymentOf 1 = .ok (.lstore_n 3, 1) := by decide +kernel
theorem d_Mo_paymentOf_2 : decode c_Mo_paymentOf 2 = .ok (.ldc2_w 157, 3) := by decide +kernel
theorem d_Mo_paymentOf_5 : decode c_Mo_paymentOf 5 = .ok (.lstore 5, 2) := by decide +kernel
theorem d_Mo_paymentOf_7 : decode c_Mo_paymentOf 7 = .ok (.lload 5, 2) := by decide +kernel
theorem d_Mo_paymentOf_9 : decode c_Mo_paymentOf 9 = .ok (.lload_n 3, 1) := by decide +kernel
theorem d_Mo_paymentOf_10 : decode c_Mo_paymentOf 10 = .ok (.lsub, 1) := by decide +kernel
theorem d_Mo_paymentOf_11 : decode c_Mo_paymentOf 11 = .ok (.lconst 1, 1) := by decide +kernel
theorem d_Mo_paymentOf_12 : decode c_Mo_paymentOf 12 = .ok (.lcmp, 1) := by decide +kernel
theorem d_Mo_paymentOf_13 : decode c_Mo_paymentOf 13 = .ok (.ifCond .le 63, 3) := by decide +kernel
theorem d_Mo_paymentOf_16 : decode c_Mo_paymentOf 16 = .ok (.lload_n 3, 1) := by decide +kernel
theorem d_Mo_paymentOf_17 : decode c_Mo_paymentOf 17 = .ok (.lload 5, 2) := by decide +kernel
theorem d_Mo_paymentOf_19 : decode c_Mo_paymentOf 19 = .ok (.ladd, 1) := by decide +kernel
theorem d_Mo_paymentOf_20 : decode c_Mo_paymentOf 20 = .ok (.ldc2_w 90, 3) := by decide +kernel
theorem d_Mo_paymentOf_23 : decode c_Mo_paymentOf 23 = .ok (.ldiv, 1) := by decide +kernel
theorem d_Mo_paymentOf_24 : decode c_Mo_paymentOf 24 = .ok (.lstore 7, 2) := by decide +kernel
theorem d_Mo_paymentOf_26 : decode c_Mo_paymentOf 26 = .ok (.iload_n 0, 1) := by decide +kernel
theorem d_Mo_paymentOf_27 : decode c_Mo_paymentOf 27 = .ok (.i2l, 1) := by decide +kernel
theorem d_Mo_paymentOf_28 : decode c_Mo_paymentOf 28 = .ok (.iload_n 1, 1) := by decide +kernel
theorem d_Mo_paymentOf_29 : decode c_Mo_paymentOf 29 = .ok (.iload_n 2, 1) := by decide +kernel
theorem d_Mo_paymentOf_30 : decode c_Mo_paymentOf 30 = .ok (.lload 7, 2) := by decide +kernel
theorem d_Mo_paymentOf_32 : decode c_Mo_paymentOf 32 = .ok (.invokestatic 159, 3) := by decide +kernel
theorem d_Mo_paymentOf_35 : decode c_Mo_paymentOf 35 = .ok (.lconst 0, 1) := by decide +kernel
theorem d_Mo_paymentOf_36 : decode c_Mo_paymentOf 36 = .ok (.lcmp, 1) := by decide +kernel
theorem d_Mo_paymentOf_37 : decode c_Mo_paymentOf 37 = .ok (.ifCond .ne 7, 3) := by decide +kernel
theorem d_Mo_paymentOf_40 : decode c_Mo_paymentOf 40 = .ok (.iconst 1, 1) := by decide +kernel
theorem d_Mo_paymentOf_41 : decode c_Mo_paymentOf 41 = .ok (.goto 4, 3) := by decide +kernel
theorem d_Mo_paymentOf_44 : decode c_Mo_paymentOf 44 = .ok (.iconst 0, 1) := by decide +kernel
theorem d_Mo_paymentOf_45 : decode c_Mo_paymentOf 45 = .ok (.istore 9, 2) := by decide +kernel
theorem d_Mo_paymentOf_47 : decode c_Mo_paymentOf 47 = .ok (.iload 9, 2) := by decide +kernel
theorem d_Mo_paymentOf_49 : decode c_Mo_paymentOf 49 = .ok (.ifCond .eq 8, 3) := by decide +kernel
theorem d_Mo_paymentOf_52 : decode c_Mo_paymentOf 52 = .ok (.lload 7, 2) := by decide +kernel
theorem d_Mo_paymentOf_54 : decode c_Mo_paymentOf 54 = .ok (.goto 5, 3) := by decide +kernel
theorem d_Mo_paymentOf_57 : decode c_Mo_paymentOf 57 = .ok (.lload 5, 2) := by decide +kernel
theorem d_Mo_paymentOf_59 : decode c_Mo_paymentOf 59 = .ok (.lstore 5, 2) := by decide +kernel
theorem d_Mo_paymentOf_61 : decode c_Mo_paymentOf 61 = .ok (.iload 9, 2) := by decide +kernel
theorem d_Mo_paymentOf_63 : decode c_Mo_paymentOf 63 = .ok (.ifCond .eq 7, 3) := by decide +kernel
theorem d_Mo_paymentOf_66 : decode c_Mo_paymentOf 66 = .ok (.lload_n 3, 1) := by decide +kernel
theorem d_Mo_paymentOf_67 : decode c_Mo_paymentOf 67 = .ok (.goto 5, 3) := by decide +kernel
theorem d_Mo_paymentOf_70 : decode c_Mo_paymentOf 70 = .ok (.lload 7, 2) := by decide +kernel
theorem d_Mo_paymentOf_72 : decode c_Mo_paymentOf 72 = .ok (.lstore_n 3, 1) := by decide +kernel
theorem d_Mo_paymentOf_73 : decode c_Mo_paymentOf 73 = .ok (.goto (-66), 3) := by decide +kernel
theorem d_Mo_paymentOf_76 : decode c_Mo_paymentOf 76 = .ok (.lload 5, 2) := by decide +kernel
theorem d_Mo_paymentOf_78 : decode c_Mo_paymentOf 78 = .ok (.lreturn, 1) := by decide +kernel
theorem d_Mo_isLoan_0 : decode c_Mo_isLoan 0 = .ok (.iload_n 0, 1) := by decide +kernel
theorem d_Mo_isLoan_1 : decode c_Mo_isLoan 1 = .ok (.i2l, 1) := by decide +kernel
theorem d_Mo_isLoan_2 : decode c_Mo_isLoan 2 = .ok (.lconst 1, 1) := by decide +kernel
theorem d_Mo_isLoan_3 : decode c_Mo_isLoan 3 = .ok (.ldc2_w 88, 3) := by decide +kernel
theorem d_Mo_isLoan_6 : decode c_Mo_isLoan 6 = .ok (.invokestatic 64, 3) := by decide +kernel
theorem d_Mo_isLoan_9 : decode c_Mo_isLoan 9 = .ok (.ifCond .eq 31, 3) := by decide +kernel
theorem d_Mo_isLoan_12 : decode c_Mo_isLoan 12 = .ok (.iload_n 1, 1) := by decide +kernel
theorem d_Mo_isLoan_13 : decode c_Mo_isLoan 13 = .ok (.i2l, 1) := by decide +kernel
theorem d_Mo_isLoan_14 : decode c_Mo_isLoan 14 = .ok (.lconst 0, 1) := by decide +kernel
theorem d_Mo_isLoan_15 : decode c_Mo_isLoan 15 = .ok (.ldc2_w 83, 3) := by decide +kernel
theorem d_Mo_isLoan_18 : decode c_Mo_isLoan 18 = .ok (.invokestatic 64, 3) := by decide +kernel
theorem d_Mo_isLoan_21 : decode c_Mo_isLoan 21 = .ok (.ifCond .eq 19, 3) := by decide +kernel
theorem d_Mo_isLoan_24 : decode c_Mo_isLoan 24 = .ok (.iload_n 2, 1) := by decide +kernel
theorem d_Mo_isLoan_25 : decode c_Mo_isLoan 25 = .ok (.i2l, 1) := by decide +kernel
theorem d_Mo_isLoan_26 : decode c_Mo_isLoan 26 = .ok (.lconst 1, 1) := by decide +kernel
theorem d_Mo_isLoan_27 : decode c_Mo_isLoan 27 = .ok (.ldc2_w 163, 3) := by decide +kernel
theorem d_Mo_isLoan_30 : decode c_Mo_isLoan 30 = .ok (.invokestatic 64, 3) := by decide +kernel
theorem d_Mo_isLoan_33 : decode c_Mo_isLoan 33 = .ok (.ifCond .eq 7, 3) := by decide +kernel
theorem d_Mo_isLoan_36 : decode c_Mo_isLoan 36 = .ok (.iconst 1, 1) := by decide +kernel
theorem d_Mo_isLoan_37 : decode c_Mo_isLoan 37 = .ok (.goto 4, 3) := by decide +kernel
theorem d_Mo_isLoan_40 : decode c_Mo_isLoan 40 = .ok (.iconst 0, 1) := by decide +kernel
theorem d_Mo_isLoan_41 : decode c_Mo_isLoan 41 = .ok (.ireturn, 1) := by decide +kernel
theorem d_Mo_payment_0 : decode c_Mo_payment 0 = .ok (.aload_n 0, 1) := by decide +kernel
theorem d_Mo_payment_1 : decode c_Mo_payment 1 = .ok (.iload_n 1, 1) := by decide +kernel
theorem d_Mo_payment_2 : decode c_Mo_payment 2 = .ok (.iload_n 2, 1) := by decide +kernel
theorem d_Mo_payment_3 : decode c_Mo_payment 3 = .ok (.iload_n 3, 1) := by decide +kernel
theorem d_Mo_payment_4 : decode c_Mo_payment 4 = .ok (.invokestatic 165, 3) := by decide +kernel
theorem d_Mo_payment_7 : decode c_Mo_payment 7 = .ok (.ifCond .eq 7, 3) := by decide +kernel
theorem d_Mo_payment_10 : decode c_Mo_payment 10 = .ok (.iconst 0, 1) := by decide +kernel
theorem d_Mo_payment_11 : decode c_Mo_payment 11 = .ok (.goto 4, 3) := by decide +kernel
theorem d_Mo_payment_14 : decode c_Mo_payment 14 = .ok (.iconst 1, 1) := by decide +kernel
theorem d_Mo_payment_15 : decode c_Mo_payment 15 = .ok (.invokevirtual 85, 3) := by decide +kernel
theorem d_Mo_payment_18 : decode c_Mo_payment 18 = .ok (.ifCond .eq 7, 3) := by decide +kernel
theorem d_Mo_payment_21 : decode c_Mo_payment 21 = .ok (.iconst 0, 1) := by decide +kernel
theorem d_Mo_payment_22 : decode c_Mo_payment 22 = .ok (.goto 10, 3) := by decide +kernel
theorem d_Mo_payment_25 : decode c_Mo_payment 25 = .ok (.iload_n 1, 1) := by decide +kernel
theorem d_Mo_payment_26 : decode c_Mo_payment 26 = .ok (.iload_n 2, 1) := by decide +kernel
theorem d_Mo_payment_27 : decode c_Mo_payment 27 = .ok (.iload_n 3, 1) := by decide +kernel
theorem d_Mo_payment_28 : decode c_Mo_payment 28 = .ok (.invokestatic 169, 3) := by decide +kernel
theorem d_Mo_payment_31 : decode c_Mo_payment 31 = .ok (.l2i, 1) := by decide +kernel
theorem d_Mo_payment_32 : decode c_Mo_payment 32 = .ok (.ireturn, 1) := by decide +kernel
theorem d_Mo_rest_0 : decode c_Mo_rest 0 = .ok (.aload_n 0, 1) := by decide +kernel
theorem d_Mo_rest_1 : decode c_Mo_rest 1 = .ok (.iload_n 1, 1) := by decide +kernel
theorem d_Mo_rest_2 : decode c_Mo_rest 2 = .ok (.iload_n 2, 1) := by decide +kernel
theorem d_Mo_rest_3 : decode c_Mo_rest 3 = .ok (.iload_n 3, 1) := by decide +kernel
theorem d_Mo_rest_4 : decode c_Mo_rest 4 = .ok (.invokestatic 165, 3) := by decide +kernel
theorem d_Mo_rest_7 : decode c_Mo_rest 7 = .ok (.ifCond .eq 19, 3) := by decide +kernel
theorem d_Mo_rest_10 : decode c_Mo_rest 10 = .ok (.iload 4, 2) := by decide +kernel
theorem d_Mo_rest_12 : decode c_Mo_rest 12 = .ok (.i2l, 1) := by decide +kernel
theorem d_Mo_rest_13 : decode c_Mo_rest 13 = .ok (.lconst 0, 1) := by decide +kernel
theorem d_Mo_rest_14 : decode c_Mo_rest 14 = .ok (.iload_n 3, 1) := by decide +kernel
theorem d_Mo_rest_15 : decode c_Mo_rest 15 = .ok (.i2l, 1) := by decide +kernel
theorem d_Mo_rest_16 : decode c_Mo_rest 16 = .ok (.invokestatic 64, 3) := by decide +kernel
theorem d_Mo_rest_19 : decode c_Mo_rest 19 = .ok (.ifCond .eq 7, 3) := by decide +kernel
theorem d_Mo_rest_22 : decode c_Mo_rest 22 = .ok (.iconst 0, 1) := by decide +kernel
theorem d_Mo_rest_23 : decode c_Mo_rest 23 = .ok (.goto 4, 3) := by decide +kernel
theorem d_Mo_rest_26 : decode c_Mo_rest 26 = .ok (.iconst 1, 1) := by decide +kernel
theorem d_Mo_rest_27 : decode c_Mo_rest 27 = .ok (.invokevirtual 85, 3) := by decide +kernel
theorem d_Mo_rest_30 : decode c_Mo_rest 30 = .ok (.ifCond .eq 5, 3) := by decide +kernel
theorem d_Mo_rest_33 : decode c_Mo_rest 33 = .ok (.iconst 0, 1) := by decide +kernel
theorem d_Mo_rest_34 : decode c_Mo_rest 34 = .ok (.ireturn, 1) := by decide +kernel
theorem d_Mo_rest_35 : decode c_Mo_rest 35 = .ok (.iload_n 1, 1) := by decide +kernel
theorem d_Mo_rest_36 : decode c_Mo_rest 36 = .ok (.i2l, 1) := by decide +kernel
theorem d_Mo_rest_37 : decode c_Mo_rest 37 = .ok (.iload_n 2, 1) := by decide +kernel
theorem d_Mo_rest_38 : decode c_Mo_rest 38 = .ok (.iload 4, 2) := by decide +kernel
theorem d_Mo_rest_40 : decode c_Mo_rest 40 = .ok (.iload_n 1, 1) := by decide +kernel
theorem d_Mo_rest_41 : decode c_Mo_rest 41 = .ok (.iload_n 2, 1) := by decide +kernel
theorem d_Mo_rest_42 : decode c_Mo_rest 42 = .ok (.iload_n 3, 1) := by decide +kernel
theorem d_Mo_rest_43 : decode c_Mo_rest 43 = .ok (.invokestatic 169, 3) := by decide +kernel
theorem d_Mo_rest_46 : decode c_Mo_rest 46 = .ok (.invokestatic 159, 3) := by decide +kernel
theorem d_Mo_rest_49 : decode c_Mo_rest 49 = .ok (.l2i, 1) := by decide +kernel
theorem d_Mo_rest_50 : decode c_Mo_rest 50 = .ok (.ireturn, 1) := by decide +kernel
