/-! decode rows -/
theorem d_Rv_firstOperand_0 : decode b_Rv_firstOperand 0 = .ok (.aload_n 0, 1) := by decide +kernel
theorem d_Rv_firstOperand_1 : decode b_Rv_firstOperand 1 = .ok (.getfield 13, 3) := by decide +kernel
theorem d_Rv_firstOperand_4 : decode b_Rv_firstOperand 4 = .ok (.iload_n 1, 1) := by decide +kernel
theorem d_Rv_firstOperand_5 : decode b_Rv_firstOperand 5 = .ok (.bipush 15, 2) := by decide +kernel
theorem d_Rv_firstOperand_7 : decode b_Rv_firstOperand 7 = .ok (.iushr, 1) := by decide +kernel
theorem d_Rv_firstOperand_8 : decode b_Rv_firstOperand 8 = .ok (.bipush 31, 2) := by decide +kernel
theorem d_Rv_firstOperand_10 : decode b_Rv_firstOperand 10 = .ok (.iand, 1) := by decide +kernel
theorem d_Rv_firstOperand_11 : decode b_Rv_firstOperand 11 = .ok (.iaload, 1) := by decide +kernel
theorem d_Rv_firstOperand_12 : decode b_Rv_firstOperand 12 = .ok (.ireturn, 1) := by decide +kernel
theorem d_Rv_secondOperand_0 : decode b_Rv_secondOperand 0 = .ok (.aload_n 0, 1) := by decide +kernel
theorem d_Rv_secondOperand_1 : decode b_Rv_secondOperand 1 = .ok (.getfield 13, 3) := by decide +kernel
theorem d_Rv_secondOperand_4 : decode b_Rv_secondOperand 4 = .ok (.iload_n 1, 1) := by decide +kernel
theorem d_Rv_secondOperand_5 : decode b_Rv_secondOperand 5 = .ok (.bipush 20, 2) := by decide +kernel
theorem d_Rv_secondOperand_7 : decode b_Rv_secondOperand 7 = .ok (.iushr, 1) := by decide +kernel
theorem d_Rv_secondOperand_8 : decode b_Rv_secondOperand 8 = .ok (.bipush 31, 2) := by decide +kernel
theorem d_Rv_secondOperand_10 : decode b_Rv_secondOperand 10 = .ok (.iand, 1) := by decide +kernel
theorem d_Rv_secondOperand_11 : decode b_Rv_secondOperand 11 = .ok (.iaload, 1) := by decide +kernel
theorem d_Rv_secondOperand_12 : decode b_Rv_secondOperand 12 = .ok (.ireturn, 1) := by decide +kernel
theorem d_Rv_keep_0 : decode b_Rv_keep 0 = .ok (.iload_n 1, 1) := by decide +kernel
theorem d_Rv_keep_1 : decode b_Rv_keep 1 = .ok (.bipush 7, 2) := by decide +kernel
theorem d_Rv_keep_3 : decode b_Rv_keep 3 = .ok (.iushr, 1) := by decide +kernel
theorem d_Rv_keep_4 : decode b_Rv_keep 4 = .ok (.bipush 31, 2) := by decide +kernel
theorem d_Rv_keep_6 : decode b_Rv_keep 6 = .ok (.iand, 1) := by decide +kernel
theorem d_Rv_keep_7 : decode b_Rv_keep 7 = .ok (.istore_n 3, 1) := by decide +kernel
theorem d_Rv_keep_8 : decode b_Rv_keep 8 = .ok (.iload_n 3, 1) := by decide +kernel
theorem d_Rv_keep_9 : decode b_Rv_keep 9 = .ok (.ifCond .eq 10, 3) := by decide +kernel
theorem d_Rv_keep_12 : decode b_Rv_keep 12 = .ok (.aload_n 0, 1) := by decide +kernel
theorem d_Rv_keep_13 : decode b_Rv_keep 13 = .ok (.getfield 13, 3) := by decide +kernel
theorem d_Rv_keep_16 : decode b_Rv_keep 16 = .ok (.iload_n 3, 1) := by decide +kernel
theorem d_Rv_keep_17 : decode b_Rv_keep 17 = .ok (.iload_n 2, 1) := by decide +kernel
theorem d_Rv_keep_18 : decode b_Rv_keep 18 = .ok (.iastore, 1) := by decide +kernel
theorem d_Rv_keep_19 : decode b_Rv_keep 19 = .ok (.iconst 0, 1) := by decide +kernel
theorem d_Rv_keep_20 : decode b_Rv_keep 20 = .ok (.ireturn, 1) := by decide +kernel
theorem d_Rv_goTo_0 : decode b_Rv_goTo 0 = .ok (.iload_n 1, 1) := by decide +kernel
theorem d_Rv_goTo_1 : decode b_Rv_goTo 1 = .ok (.iconst 3, 1) := by decide +kernel
theorem d_Rv_goTo_2 : decode b_Rv_goTo 2 = .ok (.iand, 1) := by decide +kernel
theorem d_Rv_goTo_3 : decode b_Rv_goTo 3 = .ok (.ifCond .eq 5, 3) := by decide +kernel
theorem d_Rv_goTo_6 : decode b_Rv_goTo 6 = .ok (.iconst 3, 1) := by decide +kernel
theorem d_Rv_goTo_7 : decode b_Rv_goTo 7 = .ok (.ireturn, 1) := by decide +kernel
theorem d_Rv_goTo_8 : decode b_Rv_goTo 8 = .ok (.aload_n 0, 1) := by decide +kernel
theorem d_Rv_goTo_9 : decode b_Rv_goTo 9 = .ok (.iload_n 1, 1) := by decide +kernel
theorem d_Rv_goTo_10 : decode b_Rv_goTo 10 = .ok (.putfield 113, 3) := by decide +kernel
theorem d_Rv_goTo_13 : decode b_Rv_goTo 13 = .ok (.iconst 0, 1) := by decide +kernel
theorem d_Rv_goTo_14 : decode b_Rv_goTo 14 = .ok (.ireturn, 1) := by decide +kernel
theorem d_Rv_jump_0 : decode b_Rv_jump 0 = .ok (.aload_n 0, 1) := by decide +kernel
theorem d_Rv_jump_1 : decode b_Rv_jump 1 = .ok (.iload_n 2, 1) := by decide +kernel
theorem d_Rv_jump_2 : decode b_Rv_jump 2 = .ok (.invokevirtual 155, 3) := by decide +kernel
theorem d_Rv_jump_5 : decode b_Rv_jump 5 = .ok (.istore_n 3, 1) := by decide +kernel
theorem d_Rv_jump_6 : decode b_Rv_jump 6 = .ok (.iload_n 3, 1) := by decide +kernel
theorem d_Rv_jump_7 : decode b_Rv_jump 7 = .ok (.ifCond .ne 17, 3) := by decide +kernel
theorem d_Rv_jump_10 : decode b_Rv_jump 10 = .ok (.aload_n 0, 1) := by decide +kernel
theorem d_Rv_jump_11 : decode b_Rv_jump 11 = .ok (.iload_n 1, 1) := by decide +kernel
theorem d_Rv_jump_12 : decode b_Rv_jump 12 = .ok (.aload_n 0, 1) := by decide +kernel
theorem d_Rv_jump_13 : decode b_Rv_jump 13 = .ok (.getfield 65, 3) := by decide +kernel
theorem d_Rv_jump_16 : decode b_Rv_jump 16 = .ok (.iconst 4, 1) := by decide +kernel
theorem d_Rv_jump_17 : decode b_Rv_jump 17 = .ok (.iadd, 1) := by decide +kernel
theorem d_Rv_jump_18 : decode b_Rv_jump 18 = .ok (.invokevirtual 120, 3) := by decide +kernel
theorem d_Rv_jump_21 : decode b_Rv_jump 21 = .ok (.goto 4, 3) := by decide +kernel
theorem d_Rv_jump_24 : decode b_Rv_jump 24 = .ok (.iload_n 3, 1) := by decide +kernel
theorem d_Rv_jump_25 : decode b_Rv_jump 25 = .ok (.ireturn, 1) := by decide +kernel
theorem d_Rv_jumpByRegister_0 : decode b_Rv_jumpByRegister 0 = .ok (.iload_n 1, 1) := by decide +kernel
theorem d_Rv_jumpByRegister_1 : decode b_Rv_jumpByRegister 1 = .ok (.invokestatic 147, 3) := by decide +kernel
theorem d_Rv_jumpByRegister_4 : decode b_Rv_jumpByRegister 4 = .ok (.ifCond .eq 5, 3) := by decide +kernel
theorem d_Rv_jumpByRegister_7 : decode b_Rv_jumpByRegister 7 = .ok (.iconst 1, 1) := by decide +kernel
theorem d_Rv_jumpByRegister_8 : decode b_Rv_jumpByRegister 8 = .ok (.ireturn, 1) := by decide +kernel
theorem d_Rv_jumpByRegister_9 : decode b_Rv_jumpByRegister 9 = .ok (.aload_n 0, 1) := by decide +kernel
theorem d_Rv_jumpByRegister_10 : decode b_Rv_jumpByRegister 10 = .ok (.iload_n 1, 1) := by decide +kernel
theorem d_Rv_jumpByRegister_11 : decode b_Rv_jumpByRegister 11 = .ok (.aload_n 0, 1) := by decide +kernel
theorem d_Rv_jumpByRegister_12 : decode b_Rv_jumpByRegister 12 = .ok (.iload_n 1, 1) := by decide +kernel
theorem d_Rv_jumpByRegister_13 : decode b_Rv_jumpByRegister 13 = .ok (.invokevirtual 158, 3) := by decide +kernel
theorem d_Rv_jumpByRegister_16 : decode b_Rv_jumpByRegister 16 = .ok (.iload_n 1, 1) := by decide +kernel
theorem d_Rv_jumpByRegister_17 : decode b_Rv_jumpByRegister 17 = .ok (.bipush 20, 2) := by decide +kernel
theorem d_Rv_jumpByRegister_19 : decode b_Rv_jumpByRegister 19 = .ok (.ishr, 1) := by decide +kernel
theorem d_Rv_jumpByRegister_20 : decode b_Rv_jumpByRegister 20 = .ok (.iadd, 1) := by decide +kernel
theorem d_Rv_jumpByRegister_21 : decode b_Rv_jumpByRegister 21 = .ok (.bipush (-2), 2) := by decide +kernel
theorem d_Rv_jumpByRegister_23 : decode b_Rv_jumpByRegister 23 = .ok (.iand, 1) := by decide +kernel
theorem d_Rv_jumpByRegister_24 : decode b_Rv_jumpByRegister 24 = .ok (.invokevirtual 126, 3) := by decide +kernel
theorem d_Rv_jumpByRegister_27 : decode b_Rv_jumpByRegister 27 = .ok (.ireturn, 1) := by decide +kernel
theorem d_Rv_branch_0 : decode b_Rv_branch 0 = .ok (.aload_n 0, 1) := by decide +kernel
theorem d_Rv_branch_1 : decode b_Rv_branch 1 = .ok (.iload_n 1, 1) := by decide +kernel
theorem d_Rv_branch_2 : decode b_Rv_branch 2 = .ok (.invokevirtual 158, 3) := by decide +kernel
theorem d_Rv_branch_5 : decode b_Rv_branch 5 = .ok (.istore_n 2, 1) := by decide +kernel
theorem d_Rv_branch_6 : decode b_Rv_branch 6 = .ok (.aload_n 0, 1) := by decide +kernel
theorem d_Rv_branch_7 : decode b_Rv_branch 7 = .ok (.iload_n 1, 1) := by decide +kernel
theorem d_Rv_branch_8 : decode b_Rv_branch 8 = .ok (.invokevirtual 161, 3) := by decide +kernel
theorem d_Rv_branch_11 : decode b_Rv_branch 11 = .ok (.istore_n 3, 1) := by decide +kernel
theorem d_Rv_branch_12 : decode b_Rv_branch 12 = .ok (.iload_n 1, 1) := by decide +kernel
theorem d_Rv_branch_13 : decode b_Rv_branch 13 = .ok (.invokestatic 147, 3) := by decide +kernel
theorem d_Rv_branch_16 : decode b_Rv_branch 16 = .ok (.tableswitch 136 0 7 #[48, 63, 136, 136, 78, 93, 108, 118], 48) := by decide +kernel
theorem d_Rv_branch_64 : decode b_Rv_branch 64 = .ok (.iload_n 2, 1) := by decide +kernel
theorem d_Rv_branch_65 : decode b_Rv_branch 65 = .ok (.iload_n 3, 1) := by decide +kernel
theorem d_Rv_branch_66 : decode b_Rv_branch 66 = .ok (.if_icmp .ne 7, 3) := by decide +kernel
theorem d_Rv_branch_69 : decode b_Rv_branch 69 = .ok (.iconst 1, 1) := by decide +kernel
theorem d_Rv_branch_70 : decode b_Rv_branch 70 = .ok (.goto 4, 3) := by decide +kernel
theorem d_Rv_branch_73 : decode b_Rv_branch 73 = .ok (.iconst 0, 1) := by decide +kernel
theorem d_Rv_branch_74 : decode b_Rv_branch 74 = .ok (.istore 4, 2) := by decide +kernel
theorem d_Rv_branch_76 : decode b_Rv_branch 76 = .ok (.goto 78, 3) := by decide +kernel
theorem d_Rv_branch_79 : decode b_Rv_branch 79 = .ok (.iload_n 2, 1) := by decide +kernel
theorem d_Rv_branch_80 : decode b_Rv_branch 80 = .ok (.iload_n 3, 1) := by decide +kernel
theorem d_Rv_branch_81 : decode b_Rv_branch 81 = .ok (.if_icmp .eq 7, 3) := by decide +kernel
theorem d_Rv_branch_84 : decode b_Rv_branch 84 = .ok (.iconst 1, 1) := by decide +kernel
theorem d_Rv_branch_85 : decode b_Rv_branch 85 = .ok (.goto 4, 3) := by decide +kernel
theorem d_Rv_branch_88 : decode b_Rv_branch 88 = .ok (.iconst 0, 1) := by decide +kernel
theorem d_Rv_branch_89 : decode b_Rv_branch 89 = .ok (.istore 4, 2) := by decide +kernel
theorem d_Rv_branch_91 : decode b_Rv_branch 91 = .ok (.goto 63, 3) := by decide +kernel
theorem d_Rv_branch_94 : decode b_Rv_branch 94 = .ok (.iload_n 2, 1) := by decide +kernel
theorem d_Rv_branch_95 : decode b_Rv_branch 95 = .ok (.iload_n 3, 1) := by decide +kernel
theorem d_Rv_branch_96 : decode b_Rv_branch 96 = .ok (.if_icmp .ge 7, 3) := by decide +kernel
theorem d_Rv_branch_99 : decode b_Rv_branch 99 = .ok (.iconst 1, 1) := by decide +kernel
theorem d_Rv_branch_100 : decode b_Rv_branch 100 = .ok (.goto 4, 3) := by decide +kernel
theorem d_Rv_branch_103 : decode b_Rv_branch 103 = .ok (.iconst 0, 1) := by decide +kernel
theorem d_Rv_branch_104 : decode b_Rv_branch 104 = .ok (.istore 4, 2) := by decide +kernel
theorem d_Rv_branch_106 : decode b_Rv_branch 106 = .ok (.goto 48, 3) := by decide +kernel
theorem d_Rv_branch_109 : decode b_Rv_branch 109 = .ok (.iload_n 2, 1) := by decide +kernel
theorem d_Rv_branch_110 : decode b_Rv_branch 110 = .ok (.iload_n 3, 1) := by decide +kernel
theorem d_Rv_branch_111 : decode b_Rv_branch 111 = .ok (.if_icmp .lt 7, 3) := by decide +kernel
theorem d_Rv_branch_114 : decode b_Rv_branch 114 = .ok (.iconst 1, 1) := by decide +kernel
theorem d_Rv_branch_115 : decode b_Rv_branch 115 = .ok (.goto 4, 3) := by decide +kernel
theorem d_Rv_branch_118 : decode b_Rv_branch 118 = .ok (.iconst 0, 1) := by decide +kernel
theorem d_Rv_branch_119 : decode b_Rv_branch 119 = .ok (.istore 4, 2) := by decide +kernel
theorem d_Rv_branch_121 : decode b_Rv_branch 121 = .ok (.goto 33, 3) := by decide +kernel
theorem d_Rv_branch_124 : decode b_Rv_branch 124 = .ok (.iload_n 2, 1) := by decide +kernel
theorem d_Rv_branch_125 : decode b_Rv_branch 125 = .ok (.iload_n 3, 1) := by decide +kernel
theorem d_Rv_branch_126 : decode b_Rv_branch 126 = .ok (.invokestatic 164, 3) := by decide +kernel
theorem d_Rv_branch_129 : decode b_Rv_branch 129 = .ok (.istore 4, 2) := by decide +kernel
theorem d_Rv_branch_131 : decode b_Rv_branch 131 = .ok (.goto 23, 3) := by decide +kernel
theorem d_Rv_branch_134 : decode b_Rv_branch 134 = .ok (.iload_n 2, 1) := by decide +kernel
theorem d_Rv_branch_135 : decode b_Rv_branch 135 = .ok (.iload_n 3, 1) := by decide +kernel
theorem d_Rv_branch_136 : decode b_Rv_branch 136 = .ok (.invokestatic 164, 3) := by decide +kernel
theorem d_Rv_branch_139 : decode b_Rv_branch 139 = .ok (.ifCond .ne 7, 3) := by decide +kernel
theorem d_Rv_branch_142 : decode b_Rv_branch 142 = .ok (.iconst 1, 1) := by decide +kernel
theorem d_Rv_branch_143 : decode b_Rv_branch 143 = .ok (.goto 4, 3) := by decide +kernel
theorem d_Rv_branch_146 : decode b_Rv_branch 146 = .ok (.iconst 0, 1) := by decide +kernel
theorem d_Rv_branch_147 : decode b_Rv_branch 147 = .ok (.istore 4, 2) := by decide +kernel
theorem d_Rv_branch_149 : decode b_Rv_branch 149 = .ok (.goto 5, 3) := by decide +kernel
theorem d_Rv_branch_152 : decode b_Rv_branch 152 = .ok (.iconst 1, 1) := by decide +kernel
theorem d_Rv_branch_153 : decode b_Rv_branch 153 = .ok (.ireturn, 1) := by decide +kernel
theorem d_Rv_branch_154 : decode b_Rv_branch 154 = .ok (.iload 4, 2) := by decide +kernel
theorem d_Rv_branch_156 : decode b_Rv_branch 156 = .ok (.ifCond .eq 19, 3) := by decide +kernel
theorem d_Rv_branch_159 : decode b_Rv_branch 159 = .ok (.aload_n 0, 1) := by decide +kernel
theorem d_Rv_branch_160 : decode b_Rv_branch 160 = .ok (.aload_n 0, 1) := by decide +kernel
theorem d_Rv_branch_161 : decode b_Rv_branch 161 = .ok (.getfield 65, 3) := by decide +kernel
theorem d_Rv_branch_164 : decode b_Rv_branch 164 = .ok (.iload_n 1, 1) := by decide +kernel
theorem d_Rv_branch_165 : decode b_Rv_branch 165 = .ok (.invokestatic 167, 3) := by decide +kernel
theorem d_Rv_branch_168 : decode b_Rv_branch 168 = .ok (.iadd, 1) := by decide +kernel
theorem d_Rv_branch_169 : decode b_Rv_branch 169 = .ok (.invokevirtual 155, 3) := by decide +kernel
theorem d_Rv_branch_172 : decode b_Rv_branch 172 = .ok (.goto 4, 3) := by decide +kernel
theorem d_Rv_branch_175 : decode b_Rv_branch 175 = .ok (.iconst 0, 1) := by decide +kernel
theorem d_Rv_branch_176 : decode b_Rv_branch 176 = .ok (.ireturn, 1) := by decide +kernel
theorem d_Rv_operateWithConstant_0 : decode b_Rv_operateWithConstant 0 = .ok (.aload_n 0, 1) := by decide +kernel
theorem d_Rv_operateWithConstant_1 : decode b_Rv_operateWithConstant 1 = .ok (.iload_n 1, 1) := by decide +kernel
theorem d_Rv_operateWithConstant_2 : decode b_Rv_operateWithConstant 2 = .ok (.invokevirtual 158, 3) := by decide +kernel
theorem d_Rv_operateWithConstant_5 : decode b_Rv_operateWithConstant 5 = .ok (.istore_n 2, 1) := by decide +kernel
theorem d_Rv_operateWithConstant_6 : decode b_Rv_operateWithConstant 6 = .ok (.iload_n 1, 1) := by decide +kernel
theorem d_Rv_operateWithConstant_7 : decode b_Rv_operateWithConstant 7 = .ok (.bipush 20, 2) := by decide +kernel
theorem d_Rv_operateWithConstant_9 : decode b_Rv_operateWithConstant 9 = .ok (.ishr, 1) := by decide +kernel
theorem d_Rv_operateWithConstant_10 : decode b_Rv_operateWithConstant 10 = .ok (.istore_n 3, 1) := by decide +kernel
theorem d_Rv_operateWithConstant_11 : decode b_Rv_operateWithConstant 11 = .ok (.iload_n 1, 1) := by decide +kernel
theorem d_Rv_operateWithConstant_12 : decode b_Rv_operateWithConstant 12 = .ok (.invokestatic 147, 3) := by decide +kernel
theorem d_Rv_operateWithConstant_15 : decode b_Rv_operateWithConstant 15 = .ok (.lookupswitch 92 #[(1, 25), (5, 48)], 25) := by decide +kernel
theorem d_Rv_operateWithConstant_40 : decode b_Rv_operateWithConstant 40 = .ok (.iload_n 1, 1) := by decide +kernel
theorem d_Rv_operateWithConstant_41 : decode b_Rv_operateWithConstant 41 = .ok (.invokestatic 180, 3) := by decide +kernel
theorem d_Rv_operateWithConstant_44 : decode b_Rv_operateWithConstant 44 = .ok (.ifCond .ne 17, 3) := by decide +kernel
theorem d_Rv_operateWithConstant_47 : decode b_Rv_operateWithConstant 47 = .ok (.aload_n 0, 1) := by decide +kernel
theorem d_Rv_operateWithConstant_48 : decode b_Rv_operateWithConstant 48 = .ok (.iload_n 1, 1) := by decide +kernel
theorem d_Rv_operateWithConstant_49 : decode b_Rv_operateWithConstant 49 = .ok (.iload_n 2, 1) := by decide +kernel
theorem d_Rv_operateWithConstant_50 : decode b_Rv_operateWithConstant 50 = .ok (.iload_n 3, 1) := by decide +kernel
theorem d_Rv_operateWithConstant_51 : decode b_Rv_operateWithConstant 51 = .ok (.bipush 31, 2) := by decide +kernel
theorem d_Rv_operateWithConstant_53 : decode b_Rv_operateWithConstant 53 = .ok (.iand, 1) := by decide +kernel
theorem d_Rv_operateWithConstant_54 : decode b_Rv_operateWithConstant 54 = .ok (.ishl, 1) := by decide +kernel
theorem d_Rv_operateWithConstant_55 : decode b_Rv_operateWithConstant 55 = .ok (.invokevirtual 120, 3) := by decide +kernel
theorem d_Rv_operateWithConstant_58 : decode b_Rv_operateWithConstant 58 = .ok (.goto 4, 3) := by decide +kernel
theorem d_Rv_operateWithConstant_61 : decode b_Rv_operateWithConstant 61 = .ok (.iconst 1, 1) := by decide +kernel
theorem d_Rv_operateWithConstant_62 : decode b_Rv_operateWithConstant 62 = .ok (.ireturn, 1) := by decide +kernel
theorem d_Rv_operateWithConstant_63 : decode b_Rv_operateWithConstant 63 = .ok (.iload_n 1, 1) := by decide +kernel
theorem d_Rv_operateWithConstant_64 : decode b_Rv_operateWithConstant 64 = .ok (.invokestatic 180, 3) := by decide +kernel
theorem d_Rv_operateWithConstant_67 : decode b_Rv_operateWithConstant 67 = .ok (.bipush 32, 2) := by decide +kernel
theorem d_Rv_operateWithConstant_69 : decode b_Rv_operateWithConstant 69 = .ok (.if_icmp .ne 15, 3) := by decide +kernel
theorem d_Rv_operateWithConstant_72 : decode b_Rv_operateWithConstant 72 = .ok (.aload_n 0, 1) := by decide +kernel
theorem d_Rv_operateWithConstant_73 : decode b_Rv_operateWithConstant 73 = .ok (.iload_n 1, 1) := by decide +kernel
theorem d_Rv_operateWithConstant_74 : decode b_Rv_operateWithConstant 74 = .ok (.iload_n 2, 1) := by decide +kernel
theorem d_Rv_operateWithConstant_75 : decode b_Rv_operateWithConstant 75 = .ok (.iload_n 3, 1) := by decide +kernel
theorem d_Rv_operateWithConstant_76 : decode b_Rv_operateWithConstant 76 = .ok (.bipush 31, 2) := by decide +kernel
theorem d_Rv_operateWithConstant_78 : decode b_Rv_operateWithConstant 78 = .ok (.iand, 1) := by decide +kernel
theorem d_Rv_operateWithConstant_79 : decode b_Rv_operateWithConstant 79 = .ok (.ishr, 1) := by decide +kernel
theorem d_Rv_operateWithConstant_80 : decode b_Rv_operateWithConstant 80 = .ok (.invokevirtual 120, 3) := by decide +kernel
theorem d_Rv_operateWithConstant_83 : decode b_Rv_operateWithConstant 83 = .ok (.ireturn, 1) := by decide +kernel
theorem d_Rv_operateWithConstant_84 : decode b_Rv_operateWithConstant 84 = .ok (.iload_n 1, 1) := by decide +kernel
theorem d_Rv_operateWithConstant_85 : decode b_Rv_operateWithConstant 85 = .ok (.invokestatic 180, 3) := by decide +kernel
theorem d_Rv_operateWithConstant_88 : decode b_Rv_operateWithConstant 88 = .ok (.ifCond .ne 17, 3) := by decide +kernel
theorem d_Rv_operateWithConstant_91 : decode b_Rv_operateWithConstant 91 = .ok (.aload_n 0, 1) := by decide +kernel
theorem d_Rv_operateWithConstant_92 : decode b_Rv_operateWithConstant 92 = .ok (.iload_n 1, 1) := by decide +kernel
theorem d_Rv_operateWithConstant_93 : decode b_Rv_operateWithConstant 93 = .ok (.iload_n 2, 1) := by decide +kernel
theorem d_Rv_operateWithConstant_94 : decode b_Rv_operateWithConstant 94 = .ok (.iload_n 3, 1) := by decide +kernel
theorem d_Rv_operateWithConstant_95 : decode b_Rv_operateWithConstant 95 = .ok (.bipush 31, 2) := by decide +kernel
theorem d_Rv_operateWithConstant_97 : decode b_Rv_operateWithConstant 97 = .ok (.iand, 1) := by decide +kernel
theorem d_Rv_operateWithConstant_98 : decode b_Rv_operateWithConstant 98 = .ok (.iushr, 1) := by decide +kernel
theorem d_Rv_operateWithConstant_99 : decode b_Rv_operateWithConstant 99 = .ok (.invokevirtual 120, 3) := by decide +kernel
theorem d_Rv_operateWithConstant_102 : decode b_Rv_operateWithConstant 102 = .ok (.goto 4, 3) := by decide +kernel
theorem d_Rv_operateWithConstant_105 : decode b_Rv_operateWithConstant 105 = .ok (.iconst 1, 1) := by decide +kernel
theorem d_Rv_operateWithConstant_106 : decode b_Rv_operateWithConstant 106 = .ok (.ireturn, 1) := by decide +kernel
theorem d_Rv_operateWithConstant_107 : decode b_Rv_operateWithConstant 107 = .ok (.aload_n 0, 1) := by decide +kernel
theorem d_Rv_operateWithConstant_108 : decode b_Rv_operateWithConstant 108 = .ok (.iload_n 1, 1) := by decide +kernel
theorem d_Rv_operateWithConstant_109 : decode b_Rv_operateWithConstant 109 = .ok (.iload_n 1, 1) := by decide +kernel
theorem d_Rv_operateWithConstant_110 : decode b_Rv_operateWithConstant 110 = .ok (.invokestatic 147, 3) := by decide +kernel
theorem d_Rv_operateWithConstant_113 : decode b_Rv_operateWithConstant 113 = .ok (.iload_n 2, 1) := by decide +kernel
theorem d_Rv_operateWithConstant_114 : decode b_Rv_operateWithConstant 114 = .ok (.iload_n 3, 1) := by decide +kernel
theorem d_Rv_operateWithConstant_115 : decode b_Rv_operateWithConstant 115 = .ok (.invokestatic 183, 3) := by decide +kernel
theorem d_Rv_operateWithConstant_118 : decode b_Rv_operateWithConstant 118 = .ok (.invokevirtual 120, 3) := by decide +kernel
theorem d_Rv_operateWithConstant_121 : decode b_Rv_operateWithConstant 121 = .ok (.ireturn, 1) := by decide +kernel
theorem d_Rv_operate_0 : decode b_Rv_operate 0 = .ok (.aload_n 0, 1) := by decide +kernel
theorem d_Rv_operate_1 : decode b_Rv_operate 1 = .ok (.iload_n 1, 1) := by decide +kernel
theorem d_Rv_operate_2 : decode b_Rv_operate 2 = .ok (.invokevirtual 158, 3) := by decide +kernel
theorem d_Rv_operate_5 : decode b_Rv_operate 5 = .ok (.istore_n 2, 1) := by decide +kernel
theorem d_Rv_operate_6 : decode b_Rv_operate 6 = .ok (.aload_n 0, 1) := by decide +kernel
theorem d_Rv_operate_7 : decode b_Rv_operate 7 = .ok (.iload_n 1, 1) := by decide +kernel
theorem d_Rv_operate_8 : decode b_Rv_operate 8 = .ok (.invokevirtual 161, 3) := by decide +kernel
theorem d_Rv_operate_11 : decode b_Rv_operate 11 = .ok (.istore_n 3, 1) := by decide +kernel
theorem d_Rv_operate_12 : decode b_Rv_operate 12 = .ok (.iload_n 1, 1) := by decide +kernel
theorem d_Rv_operate_13 : decode b_Rv_operate 13 = .ok (.invokestatic 147, 3) := by decide +kernel
theorem d_Rv_operate_16 : decode b_Rv_operate 16 = .ok (.istore 4, 2) := by decide +kernel
theorem d_Rv_operate_18 : decode b_Rv_operate 18 = .ok (.iload_n 1, 1) := by decide +kernel
theorem d_Rv_operate_19 : decode b_Rv_operate 19 = .ok (.invokestatic 180, 3) := by decide +kernel
theorem d_Rv_operate_22 : decode b_Rv_operate 22 = .ok (.lookupswitch 112 #[(0, 34), (1, 47), (32, 76)], 34) := by decide +kernel
theorem d_Rv_operate_56 : decode b_Rv_operate 56 = .ok (.aload_n 0, 1) := by decide +kernel
theorem d_Rv_operate_57 : decode b_Rv_operate 57 = .ok (.iload_n 1, 1) := by decide +kernel
theorem d_Rv_operate_58 : decode b_Rv_operate 58 = .ok (.iload 4, 2) := by decide +kernel
theorem d_Rv_operate_60 : decode b_Rv_operate 60 = .ok (.iload_n 2, 1) := by decide +kernel
theorem d_Rv_operate_61 : decode b_Rv_operate 61 = .ok (.iload_n 3, 1) := by decide +kernel
theorem d_Rv_operate_62 : decode b_Rv_operate 62 = .ok (.invokestatic 183, 3) := by decide +kernel
theorem d_Rv_operate_65 : decode b_Rv_operate 65 = .ok (.invokevirtual 120, 3) := by decide +kernel
theorem d_Rv_operate_68 : decode b_Rv_operate 68 = .ok (.ireturn, 1) := by decide +kernel
theorem d_Rv_operate_69 : decode b_Rv_operate 69 = .ok (.aload_n 0, 1) := by decide +kernel
theorem d_Rv_operate_70 : decode b_Rv_operate 70 = .ok (.iload_n 1, 1) := by decide +kernel
theorem d_Rv_operate_71 : decode b_Rv_operate 71 = .ok (.iload 4, 2) := by decide +kernel
theorem d_Rv_operate_73 : decode b_Rv_operate 73 = .ok (.iconst 4, 1) := by decide +kernel
theorem d_Rv_operate_74 : decode b_Rv_operate 74 = .ok (.if_icmp .ge 13, 3) := by decide +kernel
theorem d_Rv_operate_77 : decode b_Rv_operate 77 = .ok (.iload 4, 2) := by decide +kernel
theorem d_Rv_operate_79 : decode b_Rv_operate 79 = .ok (.iload_n 2, 1) := by decide +kernel
theorem d_Rv_operate_80 : decode b_Rv_operate 80 = .ok (.iload_n 3, 1) := by decide +kernel
theorem d_Rv_operate_81 : decode b_Rv_operate 81 = .ok (.invokestatic 187, 3) := by decide +kernel
theorem d_Rv_operate_84 : decode b_Rv_operate 84 = .ok (.goto 10, 3) := by decide +kernel
theorem d_Rv_operate_87 : decode b_Rv_operate 87 = .ok (.iload 4, 2) := by decide +kernel
theorem d_Rv_operate_89 : decode b_Rv_operate 89 = .ok (.iload_n 2, 1) := by decide +kernel
theorem d_Rv_operate_90 : decode b_Rv_operate 90 = .ok (.iload_n 3, 1) := by decide +kernel
theorem d_Rv_operate_91 : decode b_Rv_operate 91 = .ok (.invokestatic 190, 3) := by decide +kernel
theorem d_Rv_operate_94 : decode b_Rv_operate 94 = .ok (.invokevirtual 120, 3) := by decide +kernel
theorem d_Rv_operate_97 : decode b_Rv_operate 97 = .ok (.ireturn, 1) := by decide +kernel
theorem d_Rv_operate_98 : decode b_Rv_operate 98 = .ok (.iload 4, 2) := by decide +kernel
theorem d_Rv_operate_100 : decode b_Rv_operate 100 = .ok (.ifCond .ne 12, 3) := by decide +kernel
theorem d_Rv_operate_103 : decode b_Rv_operate 103 = .ok (.aload_n 0, 1) := by decide +kernel
theorem d_Rv_operate_104 : decode b_Rv_operate 104 = .ok (.iload_n 1, 1) := by decide +kernel
theorem d_Rv_operate_105 : decode b_Rv_operate 105 = .ok (.iload_n 2, 1) := by decide +kernel
theorem d_Rv_operate_106 : decode b_Rv_operate 106 = .ok (.iload_n 3, 1) := by decide +kernel
theorem d_Rv_operate_107 : decode b_Rv_operate 107 = .ok (.isub, 1) := by decide +kernel
theorem d_Rv_operate_108 : decode b_Rv_operate 108 = .ok (.invokevirtual 120, 3) := by decide +kernel
theorem d_Rv_operate_111 : decode b_Rv_operate 111 = .ok (.ireturn, 1) := by decide +kernel
theorem d_Rv_operate_112 : decode b_Rv_operate 112 = .ok (.iload 4, 2) := by decide +kernel
theorem d_Rv_operate_114 : decode b_Rv_operate 114 = .ok (.iconst 5, 1) := by decide +kernel
theorem d_Rv_operate_115 : decode b_Rv_operate 115 = .ok (.if_icmp .ne 17, 3) := by decide +kernel
theorem d_Rv_operate_118 : decode b_Rv_operate 118 = .ok (.aload_n 0, 1) := by decide +kernel
theorem d_Rv_operate_119 : decode b_Rv_operate 119 = .ok (.iload_n 1, 1) := by decide +kernel
theorem d_Rv_operate_120 : decode b_Rv_operate 120 = .ok (.iload_n 2, 1) := by decide +kernel
theorem d_Rv_operate_121 : decode b_Rv_operate 121 = .ok (.iload_n 3, 1) := by decide +kernel
theorem d_Rv_operate_122 : decode b_Rv_operate 122 = .ok (.bipush 31, 2) := by decide +kernel
theorem d_Rv_operate_124 : decode b_Rv_operate 124 = .ok (.iand, 1) := by decide +kernel
theorem d_Rv_operate_125 : decode b_Rv_operate 125 = .ok (.ishr, 1) := by decide +kernel
theorem d_Rv_operate_126 : decode b_Rv_operate 126 = .ok (.invokevirtual 120, 3) := by decide +kernel
theorem d_Rv_operate_129 : decode b_Rv_operate 129 = .ok (.goto 4, 3) := by decide +kernel
theorem d_Rv_operate_132 : decode b_Rv_operate 132 = .ok (.iconst 1, 1) := by decide +kernel
theorem d_Rv_operate_133 : decode b_Rv_operate 133 = .ok (.ireturn, 1) := by decide +kernel
theorem d_Rv_operate_134 : decode b_Rv_operate 134 = .ok (.iconst 1, 1) := by decide +kernel
theorem d_Rv_operate_135 : decode b_Rv_operate 135 = .ok (.ireturn, 1) := by decide +kernel
theorem d_Rv_answerAddress_0 : decode b_Rv_answerAddress 0 = .ok (.iload_n 1, 1) := by decide +kernel
theorem d_Rv_answerAddress_1 : decode b_Rv_answerAddress 1 = .ok (.ifCond .ne 5, 3) := by decide +kernel
theorem d_Rv_answerAddress_4 : decode b_Rv_answerAddress 4 = .ok (.iconst 4, 1) := by decide +kernel
theorem d_Rv_answerAddress_5 : decode b_Rv_answerAddress 5 = .ok (.ireturn, 1) := by decide +kernel
theorem d_Rv_answerAddress_6 : decode b_Rv_answerAddress 6 = .ok (.aload_n 0, 1) := by decide +kernel
theorem d_Rv_answerAddress_7 : decode b_Rv_answerAddress 7 = .ok (.getfield 13, 3) := by decide +kernel
theorem d_Rv_answerAddress_10 : decode b_Rv_answerAddress 10 = .ok (.bipush 10, 2) := by decide +kernel
theorem d_Rv_answerAddress_12 : decode b_Rv_answerAddress 12 = .ok (.iload_n 1, 1) := by decide +kernel
theorem d_Rv_answerAddress_13 : decode b_Rv_answerAddress 13 = .ok (.iastore, 1) := by decide +kernel
theorem d_Rv_answerAddress_14 : decode b_Rv_answerAddress 14 = .ok (.iconst 0, 1) := by decide +kernel
theorem d_Rv_answerAddress_15 : decode b_Rv_answerAddress 15 = .ok (.ireturn, 1) := by decide +kernel
def sp_Rv_firstOperand (w : Int32) (rg : Nat → Int32) : Int32 := rg ((zushr w 15) &&& 31).toNatClampNeg
set_option maxHeartbeats 4000000 in
theorem c_Rv_firstOperand (l : Launch) (D : va_G) (cI cB cJ : ClassId) (sz : Nat) (w : Int32) (x : Nat) (wa : Nat) (wc : Int32) (ra : Nat) (ma : Nat) (ua : Nat) (oa : Nat) (ph : Int32) (dn : Int32) (nx : Int32) (fo : Int32) (rg : Nat → Int32) : zMet l y_Rv_firstOperand (zWs y_Rv_firstOperand b_Rv_firstOperand 2 (some .int)) { frames := 0, cells := 0, slots := 0, locals := 0 } (zPc D (zT cI cB cJ) sz [(x, .inr (0, [.ref wa, .int wc, .ref ra, .ref ma, .ref ua, .ref oa, .int ph, .int dn, .int nx, .int fo])), (ra, .inl (cI, 32, .inl (rg)))] [.ref x, .int w]) (zQi D (va_A [(x, .inr (0, [.ref wa, .int wc, .ref ra, .ref ma, .ref ua, .ref oa, .int ph, .int dn, .int nx, .int fo])), (ra, .inl (cI, 32, .inl (rg)))] sz) (fun r (_ : Unit) => r = (sp_Rv_firstOperand w rg)) (z0) (fun _ => [(x, .inr (0, [.ref wa, .int wc, .ref ra, .ref ma, .ref ua, .ref oa, .int ph, .int dn, .int nx, .int fo])), (ra, .inl (cI, 32, .inl (rg)))])) (va_A [(x, .inr (0, [.ref wa, .int wc, .ref ra, .ref ma, .ref ua, .ref oa, .int ph, .int dn, .int nx, .int fo])), (ra, .inl (cI, 32, .inl (rg)))] sz) := by
  refine zstart (Qc := fun A => zQi D A (fun r (_ : Unit) => r = (sp_Rv_firstOperand w rg)) (z0) (fun _ => [(x, .inr (0, [.ref wa, .int wc, .ref ra, .ref ma, .ref ua, .ref oa, .int ph, .int dn, .int nx, .int fo])), (ra, .inl (cI, 32, .inl (rg)))])) (by decide) (Nat.le_of_ble_eq_true rfl) ?_
  intro p e s m below meth c ls A hE hr hlocks hin hsz hK hP hD hS hA hAe hl
  have hx := hE.1
  have hb := hE.2.1
  have hown := hE.2.2.2.1
  have hw := hE.2.2.2.2
  have hl : lv_has ls 2 [(0, .ref x), (1, .int w)] := hl
  refine lv_aload_n hx hb d_Rv_firstOperand_0 rfl (lv_at hl 0 rfl) ?_
  refine zget hE hK hP 0 rfl fd_Rv_13 rfl d_Rv_firstOperand_1 ?_
  refine lv_iload_n hx hb d_Rv_firstOperand_4 rfl (lv_at hl 1 rfl) ?_
  refine lv_bipush (v := 15) hx hb d_Rv_firstOperand_5 (by decide) ?_
  refine lv_iushr (v := zushr w 15) hx hb d_Rv_firstOperand_7 rfl ?_
  refine lv_bipush (v := 31) hx hb d_Rv_firstOperand_8 (by decide) ?_
  refine lv_iand hx hb d_Rv_firstOperand_10 ?_
  refine va_iald hx hb hK hP 1 0 rfl rfl (pk_andIn _ 5 rfl (by decide)) d_Rv_firstOperand_11 ?_
  have hs : (sp_Rv_firstOperand w rg) = rg ((zushr w 15) &&& 31).toNatClampNeg := rfl
  have hP9 := hP.sub (ws' := [(x, .inr (0, [.ref wa, .int wc, .ref ra, .ref ma, .ref ua, .ref oa, .int ph, .int dn, .int nx, .int fo])), (ra, .inl (cI, 32, .inl (rg)))]) [0, 1] rfl
  have hD9 := hD.sub (ws' := [(x, .inr (0, [.ref wa, .int wc, .ref ra, .ref ma, .ref ua, .ref oa, .int ph, .int dn, .int nx, .int fo])), (ra, .inl (cI, 32, .inl (rg)))]) [0, 1] rfl rfl
  exact zreti hx hb hr rfl hlocks hS () (by rw [hs]) rfl (by exact hP9) (by exact hD9) d_Rv_firstOperand_12

def sp_Rv_secondOperand (w : Int32) (rg : Nat → Int32) : Int32 := rg ((zushr w 20) &&& 31).toNatClampNeg
set_option maxHeartbeats 4000000 in
theorem c_Rv_secondOperand (l : Launch) (D : va_G) (cI cB cJ : ClassId) (sz : Nat) (w : Int32) (x : Nat) (wa : Nat) (wc : Int32) (ra : Nat) (ma : Nat) (ua : Nat) (oa : Nat) (ph : Int32) (dn : Int32) (nx : Int32) (fo : Int32) (rg : Nat → Int32) : zMet l y_Rv_secondOperand (zWs y_Rv_secondOperand b_Rv_secondOperand 2 (some .int)) { frames := 0, cells := 0, slots := 0, locals := 0 } (zPc D (zT cI cB cJ) sz [(x, .inr (0, [.ref wa, .int wc, .ref ra, .ref ma, .ref ua, .ref oa, .int ph, .int dn, .int nx, .int fo])), (ra, .inl (cI, 32, .inl (rg)))] [.ref x, .int w]) (zQi D (va_A [(x, .inr (0, [.ref wa, .int wc, .ref ra, .ref ma, .ref ua, .ref oa, .int ph, .int dn, .int nx, .int fo])), (ra, .inl (cI, 32, .inl (rg)))] sz) (fun r (_ : Unit) => r = (sp_Rv_secondOperand w rg)) (z0) (fun _ => [(x, .inr (0, [.ref wa, .int wc, .ref ra, .ref ma, .ref ua, .ref oa, .int ph, .int dn, .int nx, .int fo])), (ra, .inl (cI, 32, .inl (rg)))])) (va_A [(x, .inr (0, [.ref wa, .int wc, .ref ra, .ref ma, .ref ua, .ref oa, .int ph, .int dn, .int nx, .int fo])), (ra, .inl (cI, 32, .inl (rg)))] sz) := by
  refine zstart (Qc := fun A => zQi D A (fun r (_ : Unit) => r = (sp_Rv_secondOperand w rg)) (z0) (fun _ => [(x, .inr (0, [.ref wa, .int wc, .ref ra, .ref ma, .ref ua, .ref oa, .int ph, .int dn, .int nx, .int fo])), (ra, .inl (cI, 32, .inl (rg)))])) (by decide) (Nat.le_of_ble_eq_true rfl) ?_
  intro p e s m below meth c ls A hE hr hlocks hin hsz hK hP hD hS hA hAe hl
  have hx := hE.1
  have hb := hE.2.1
  have hown := hE.2.2.2.1
  have hw := hE.2.2.2.2
  have hl : lv_has ls 2 [(0, .ref x), (1, .int w)] := hl
  refine lv_aload_n hx hb d_Rv_secondOperand_0 rfl (lv_at hl 0 rfl) ?_
  refine zget hE hK hP 0 rfl fd_Rv_13 rfl d_Rv_secondOperand_1 ?_
  refine lv_iload_n hx hb d_Rv_secondOperand_4 rfl (lv_at hl 1 rfl) ?_
  refine lv_bipush (v := 20) hx hb d_Rv_secondOperand_5 (by decide) ?_
  refine lv_iushr (v := zushr w 20) hx hb d_Rv_secondOperand_7 rfl ?_
  refine lv_bipush (v := 31) hx hb d_Rv_secondOperand_8 (by decide) ?_
  refine lv_iand hx hb d_Rv_secondOperand_10 ?_
  refine va_iald hx hb hK hP 1 0 rfl rfl (pk_andIn _ 5 rfl (by decide)) d_Rv_secondOperand_11 ?_
  have hs : (sp_Rv_secondOperand w rg) = rg ((zushr w 20) &&& 31).toNatClampNeg := rfl
  have hP9 := hP.sub (ws' := [(x, .inr (0, [.ref wa, .int wc, .ref ra, .ref ma, .ref ua, .ref oa, .int ph, .int dn, .int nx, .int fo])), (ra, .inl (cI, 32, .inl (rg)))]) [0, 1] rfl
  have hD9 := hD.sub (ws' := [(x, .inr (0, [.ref wa, .int wc, .ref ra, .ref ma, .ref ua, .ref oa, .int ph, .int dn, .int nx, .int fo])), (ra, .inl (cI, 32, .inl (rg)))]) [0, 1] rfl rfl
  exact zreti hx hb hr rfl hlocks hS () (by rw [hs]) rfl (by exact hP9) (by exact hD9) d_Rv_secondOperand_12

def sp_Rv_keep (w : Int32) (v : Int32) (rg : Nat → Int32) : Int32 × (Nat → Int32) := if ((zushr w 7) &&& 31) = 0 then (0, rg) else (0, upd rg ((zushr w 7) &&& 31).toNatClampNeg v)
set_option maxHeartbeats 4000000 in
theorem c_Rv_keep (l : Launch) (D : va_G) (cI cB cJ : ClassId) (sz : Nat) (w : Int32) (v : Int32) (x : Nat) (wa : Nat) (wc : Int32) (ra : Nat) (ma : Nat) (ua : Nat) (oa : Nat) (ph : Int32) (dn : Int32) (nx : Int32) (fo : Int32) (rg : Nat → Int32) : zMet l y_Rv_keep (zWs y_Rv_keep b_Rv_keep 4 (some .int)) { frames := 0, cells := 0, slots := 0, locals := 0 } (zPc D (zT cI cB cJ) sz [(x, .inr (0, [.ref wa, .int wc, .ref ra, .ref ma, .ref ua, .ref oa, .int ph, .int dn, .int nx, .int fo])), (ra, .inl (cI, 32, .inl (rg)))] [.ref x, .int w, .int v]) (zQi D (va_A [(x, .inr (0, [.ref wa, .int wc, .ref ra, .ref ma, .ref ua, .ref oa, .int ph, .int dn, .int nx, .int fo])), (ra, .inl (cI, 32, .inl (rg)))] sz) (fun r (_ : Unit) => r = (sp_Rv_keep w v rg).1) (z0) (fun _ => [(x, .inr (0, [.ref wa, .int wc, .ref ra, .ref ma, .ref ua, .ref oa, .int ph, .int dn, .int nx, .int fo])), (ra, .inl (cI, 32, .inl ((sp_Rv_keep w v rg).2)))])) (va_A [(x, .inr (0, [.ref wa, .int wc, .ref ra, .ref ma, .ref ua, .ref oa, .int ph, .int dn, .int nx, .int fo])), (ra, .inl (cI, 32, .inl (rg)))] sz) := by
  refine zstart (Qc := fun A => zQi D A (fun r (_ : Unit) => r = (sp_Rv_keep w v rg).1) (z0) (fun _ => [(x, .inr (0, [.ref wa, .int wc, .ref ra, .ref ma, .ref ua, .ref oa, .int ph, .int dn, .int nx, .int fo])), (ra, .inl (cI, 32, .inl ((sp_Rv_keep w v rg).2)))])) (by decide) (Nat.le_of_ble_eq_true rfl) ?_
  intro p e s m below meth c ls A hE hr hlocks hin hsz hK hP hD hS hA hAe hl
  have hx := hE.1
  have hb := hE.2.1
  have hown := hE.2.2.2.1
  have hw := hE.2.2.2.2
  have hl : lv_has ls 4 [(0, .ref x), (1, .int w), (2, .int v)] := hl
  refine lv_iload_n hx hb d_Rv_keep_0 rfl (lv_at hl 1 rfl) ?_
  refine lv_bipush (v := 7) hx hb d_Rv_keep_1 (by decide) ?_
  refine lv_iushr (v := zushr w 7) hx hb d_Rv_keep_3 rfl ?_
  refine lv_bipush (v := 31) hx hb d_Rv_keep_4 (by decide) ?_
  refine lv_iand hx hb d_Rv_keep_6 ?_
  refine lv_istore_n (lv' := [(3, .int ((zushr w 7) &&& 31)), (0, .ref x), (1, .int w), (2, .int v)]) hx hb d_Rv_keep_7 rfl hl (by decide) rfl (fun ls hl => ?_)
  refine lv_iload_n hx hb d_Rv_keep_8 rfl (lv_at hl 0 rfl) ?_
  refine lv_if_eq (tgt := 19) hx hb d_Rv_keep_9 (by decide) (fun h1 => ?_) (fun h1 => ?_)
  · refine lv_iconst (v := 0) hx hb d_Rv_keep_19 (by decide) ?_
    have hs : (sp_Rv_keep w v rg) = (0, rg) := by rw [sp_Rv_keep, if_pos h1]
    have hP9 := hP.sub (ws' := [(x, .inr (0, [.ref wa, .int wc, .ref ra, .ref ma, .ref ua, .ref oa, .int ph, .int dn, .int nx, .int fo])), (ra, .inl (cI, 32, .inl (rg)))]) [0, 1] rfl
    have hD9 := hD.sub (ws' := [(x, .inr (0, [.ref wa, .int wc, .ref ra, .ref ma, .ref ua, .ref oa, .int ph, .int dn, .int nx, .int fo])), (ra, .inl (cI, 32, .inl (rg)))]) [0, 1] rfl rfl
    exact zreti hx hb hr rfl hlocks hS () (by rw [hs]) rfl (by rw [hs]; exact hP9) (by rw [hs]; exact hD9) d_Rv_keep_20
  · refine lv_aload_n hx hb d_Rv_keep_12 rfl (lv_at hl 1 rfl) ?_
    refine zget hE hK hP 0 rfl fd_Rv_13 rfl d_Rv_keep_13 ?_
    refine lv_iload_n hx hb d_Rv_keep_16 rfl (lv_at hl 0 rfl) ?_
    refine lv_iload_n hx hb d_Rv_keep_17 rfl (lv_at hl 3 rfl) ?_
    refine va_iast hx hb hK hP hD hS 1 0 rfl rfl (pk_andIn _ 5 rfl (by decide)) d_Rv_keep_18 (fun H locs hP hD hS => ?_)
    have hP : va_P D zC [(x, .inr (0, [.ref wa, .int wc, .ref ra, .ref ma, .ref ua, .ref oa, .int ph, .int dn, .int nx, .int fo])), (ra, .inl (cI, 32, .inl (upd rg ((zushr w 7) &&& 31).toNatClampNeg v)))] H := hP
    have hD : va_D A [(x, .inr (0, [.ref wa, .int wc, .ref ra, .ref ma, .ref ua, .ref oa, .int ph, .int dn, .int nx, .int fo])), (ra, .inl (cI, 32, .inl (upd rg ((zushr w 7) &&& 31).toNatClampNeg v)))] := hD
    refine lv_iconst (v := 0) hx hb d_Rv_keep_19 (by decide) ?_
    have hs : (sp_Rv_keep w v rg) = (0, upd rg ((zushr w 7) &&& 31).toNatClampNeg v) := by rw [sp_Rv_keep, if_neg h1]
    have hP9 := hP.sub (ws' := [(x, .inr (0, [.ref wa, .int wc, .ref ra, .ref ma, .ref ua, .ref oa, .int ph, .int dn, .int nx, .int fo])), (ra, .inl (cI, 32, .inl (upd rg ((zushr w 7) &&& 31).toNatClampNeg v)))]) [0, 1] rfl
    have hD9 := hD.sub (ws' := [(x, .inr (0, [.ref wa, .int wc, .ref ra, .ref ma, .ref ua, .ref oa, .int ph, .int dn, .int nx, .int fo])), (ra, .inl (cI, 32, .inl (upd rg ((zushr w 7) &&& 31).toNatClampNeg v)))]) [0, 1] rfl rfl
    exact zreti hx hb hr rfl hlocks hS () (by rw [hs]) rfl (by rw [hs]; exact hP9) (by rw [hs]; exact hD9) d_Rv_keep_20

def sp_Rv_goTo (ad : Int32) (fo : Int32) : Int32 × Int32 := if (ad &&& 3) = 0 then (0, ad) else (3, fo)
set_option maxHeartbeats 4000000 in
theorem c_Rv_goTo (l : Launch) (D : va_G) (cI cB cJ : ClassId) (sz : Nat) (ad : Int32) (x : Nat) (wa : Nat) (wc : Int32) (ra : Nat) (ma : Nat) (ua : Nat) (oa : Nat) (ph : Int32) (dn : Int32) (nx : Int32) (fo : Int32) : zMet l y_Rv_goTo (zWs y_Rv_goTo b_Rv_goTo 2 (some .int)) { frames := 0, cells := 0, slots := 0, locals := 0 } (zPc D (zT cI cB cJ) sz [(x, .inr (0, [.ref wa, .int wc, .ref ra, .ref ma, .ref ua, .ref oa, .int ph, .int dn, .int nx, .int fo]))] [.ref x, .int ad]) (zQi D (va_A [(x, .inr (0, [.ref wa, .int wc, .ref ra, .ref ma, .ref ua, .ref oa, .int ph, .int dn, .int nx, .int fo]))] sz) (fun r (_ : Unit) => r = (sp_Rv_goTo ad fo).1) (z0) (fun _ => [(x, .inr (0, [.ref wa, .int wc, .ref ra, .ref ma, .ref ua, .ref oa, .int ph, .int dn, .int nx, .int ((sp_Rv_goTo ad fo).2)]))])) (va_A [(x, .inr (0, [.ref wa, .int wc, .ref ra, .ref ma, .ref ua, .ref oa, .int ph, .int dn, .int nx, .int fo]))] sz) := by
  refine zstart (Qc := fun A => zQi D A (fun r (_ : Unit) => r = (sp_Rv_goTo ad fo).1) (z0) (fun _ => [(x, .inr (0, [.ref wa, .int wc, .ref ra, .ref ma, .ref ua, .ref oa, .int ph, .int dn, .int nx, .int ((sp_Rv_goTo ad fo).2)]))])) (by decide) (Nat.le_of_ble_eq_true rfl) ?_
  intro p e s m below meth c ls A hE hr hlocks hin hsz hK hP hD hS hA hAe hl
  have hx := hE.1
  have hb := hE.2.1
  have hown := hE.2.2.2.1
  have hw := hE.2.2.2.2
  have hl : lv_has ls 2 [(0, .ref x), (1, .int ad)] := hl
  refine lv_iload_n hx hb d_Rv_goTo_0 rfl (lv_at hl 1 rfl) ?_
  refine lv_iconst (v := 3) hx hb d_Rv_goTo_1 (by decide) ?_
  refine lv_iand hx hb d_Rv_goTo_2 ?_
  refine lv_if_eq (tgt := 8) hx hb d_Rv_goTo_3 (by decide) (fun h1 => ?_) (fun h1 => ?_)
  · refine lv_aload_n hx hb d_Rv_goTo_8 rfl (lv_at hl 0 rfl) ?_
    refine lv_iload_n hx hb d_Rv_goTo_9 rfl (lv_at hl 1 rfl) ?_
    refine zput (v := .int ad) hE hK hP hD hS 0 rfl fd_Rv_113 ft_Rv_9 rfl rfl (Nat.le_of_ble_eq_true rfl) d_Rv_goTo_10 (fun H locs hP hD hS => ?_)
    have hP : va_P D zC [(x, .inr (0, [.ref wa, .int wc, .ref ra, .ref ma, .ref ua, .ref oa, .int ph, .int dn, .int nx, .int ad]))] H := hP
    have hD : va_D A [(x, .inr (0, [.ref wa, .int wc, .ref ra, .ref ma, .ref ua, .ref oa, .int ph, .int dn, .int nx, .int ad]))] := hD
    refine lv_iconst (v := 0) hx hb d_Rv_goTo_13 (by decide) ?_
    have hs : (sp_Rv_goTo ad fo) = (0, ad) := by rw [sp_Rv_goTo, if_pos h1]
    have hP9 := hP.sub (ws' := [(x, .inr (0, [.ref wa, .int wc, .ref ra, .ref ma, .ref ua, .ref oa, .int ph, .int dn, .int nx, .int ad]))]) [0] rfl
    have hD9 := hD.sub (ws' := [(x, .inr (0, [.ref wa, .int wc, .ref ra, .ref ma, .ref ua, .ref oa, .int ph, .int dn, .int nx, .int ad]))]) [0] rfl rfl
    exact zreti hx hb hr rfl hlocks hS () (by rw [hs]) rfl (by rw [hs]; exact hP9) (by rw [hs]; exact hD9) d_Rv_goTo_14
  · refine lv_iconst (v := 3) hx hb d_Rv_goTo_6 (by decide) ?_
    have hs : (sp_Rv_goTo ad fo) = (3, fo) := by rw [sp_Rv_goTo, if_neg h1]
    have hP9 := hP.sub (ws' := [(x, .inr (0, [.ref wa, .int wc, .ref ra, .ref ma, .ref ua, .ref oa, .int ph, .int dn, .int nx, .int fo]))]) [0] rfl
    have hD9 := hD.sub (ws' := [(x, .inr (0, [.ref wa, .int wc, .ref ra, .ref ma, .ref ua, .ref oa, .int ph, .int dn, .int nx, .int fo]))]) [0] rfl rfl
    exact zreti hx hb hr rfl hlocks hS () (by rw [hs]) rfl (by rw [hs]; exact hP9) (by rw [hs]; exact hD9) d_Rv_goTo_7

def sp_Rv_jump (w : Int32) (ad : Int32) (nx : Int32) (fo : Int32) (rg : Nat → Int32) : Int32 × Int32 × (Nat → Int32) := if ((sp_Rv_goTo ad fo).1) = 0 then ((sp_Rv_keep w (nx + 4) rg).1, (sp_Rv_goTo ad fo).2, (sp_Rv_keep w (nx + 4) rg).2) else ((sp_Rv_goTo ad fo).1, (sp_Rv_goTo ad fo).2, rg)
set_option maxHeartbeats 4000000 in
theorem c_Rv_jump (l : Launch) (D : va_G) (cI cB cJ : ClassId) (sz : Nat) (w : Int32) (ad : Int32) (x : Nat) (wa : Nat) (wc : Int32) (ra : Nat) (ma : Nat) (ua : Nat) (oa : Nat) (ph : Int32) (dn : Int32) (nx : Int32) (fo : Int32) (rg : Nat → Int32) : zMet l y_Rv_jump (zWs y_Rv_jump b_Rv_jump 4 (some .int)) { frames := 1, cells := 0, slots := 0, locals := 23 } (zPc D (zT cI cB cJ) sz [(x, .inr (0, [.ref wa, .int wc, .ref ra, .ref ma, .ref ua, .ref oa, .int ph, .int dn, .int nx, .int fo])), (ra, .inl (cI, 32, .inl (rg)))] [.ref x, .int w, .int ad]) (zQi D (va_A [(x, .inr (0, [.ref wa, .int wc, .ref ra, .ref ma, .ref ua, .ref oa, .int ph, .int dn, .int nx, .int fo])), (ra, .inl (cI, 32, .inl (rg)))] sz) (fun r (_ : Unit) => r = (sp_Rv_jump w ad nx fo rg).1) (z0) (fun _ => [(x, .inr (0, [.ref wa, .int wc, .ref ra, .ref ma, .ref ua, .ref oa, .int ph, .int dn, .int nx, .int ((sp_Rv_jump w ad nx fo rg).2.1)])), (ra, .inl (cI, 32, .inl ((sp_Rv_jump w ad nx fo rg).2.2)))])) (va_A [(x, .inr (0, [.ref wa, .int wc, .ref ra, .ref ma, .ref ua, .ref oa, .int ph, .int dn, .int nx, .int fo])), (ra, .inl (cI, 32, .inl (rg)))] sz) := by
  refine zstart (Qc := fun A => zQi D A (fun r (_ : Unit) => r = (sp_Rv_jump w ad nx fo rg).1) (z0) (fun _ => [(x, .inr (0, [.ref wa, .int wc, .ref ra, .ref ma, .ref ua, .ref oa, .int ph, .int dn, .int nx, .int ((sp_Rv_jump w ad nx fo rg).2.1)])), (ra, .inl (cI, 32, .inl ((sp_Rv_jump w ad nx fo rg).2.2)))])) (by decide) (Nat.le_of_ble_eq_true rfl) ?_
  intro p e s m below meth c ls A hE hr hlocks hin hsz hK hP hD hS hA hAe hl
  have hx := hE.1
  have hb := hE.2.1
  have hown := hE.2.2.2.1
  have hw := hE.2.2.2.2
  have hl : lv_has ls 4 [(0, .ref x), (1, .int w), (2, .int ad)] := hl
  refine lv_aload_n hx hb d_Rv_jump_0 rfl (lv_at hl 0 rfl) ?_
  refine lv_iload_n hx hb d_Rv_jump_1 rfl (lv_at hl 2 rfl) ?_
  refine zgoi (wr := [(ra, .inl (cI, 32, .inl (rg)))]) (zrunV (n := 1) (As := [.int ad]) (rest := []) hE (c_Rv_goTo l D cI cB cJ _ ad x wa wc ra ma ua oa ph dn nx fo) cb_Rv_goTo lk_Rv_155 in_Rv_goTo se_Rv_goTo (zpreV (q0 := 0) hK hP hD rfl rfl rfl [0] rfl rfl rfl) ⟨Nat.le_of_ble_eq_true rfl, Nat.le_of_ble_eq_true rfl, Nat.le_of_ble_eq_true rfl, Nat.le_of_ble_eq_true rfl⟩ rfl hl.1 rfl (Nat.le_of_ble_eq_true rfl) d_Rv_jump_2) hP hD hS hA [0] [1] rfl rfl rfl (by decide) (fun r u H locs hq1 hP hD hS => ?_)
  subst hq1
  have hP : va_P D zC [(ra, .inl (cI, 32, .inl (rg))), (x, .inr (0, [.ref wa, .int wc, .ref ra, .ref ma, .ref ua, .ref oa, .int ph, .int dn, .int nx, .int ((sp_Rv_goTo ad fo).2)]))] H := hP
  have hD : va_D A [(ra, .inl (cI, 32, .inl (rg))), (x, .inr (0, [.ref wa, .int wc, .ref ra, .ref ma, .ref ua, .ref oa, .int ph, .int dn, .int nx, .int ((sp_Rv_goTo ad fo).2)]))] := hD
  refine lv_istore_n (lv' := [(3, .int ((sp_Rv_goTo ad fo).1)), (0, .ref x), (1, .int w), (2, .int ad)]) hx hb d_Rv_jump_5 rfl hl (by decide) rfl (fun ls hl => ?_)
  refine lv_iload_n hx hb d_Rv_jump_6 rfl (lv_at hl 0 rfl) ?_
  refine lv_if_ne (tgt := 24) hx hb d_Rv_jump_7 (by decide) (fun h2 => ?_) (fun h2 => ?_)
  · refine lv_iload_n hx hb d_Rv_jump_24 rfl (lv_at hl 0 rfl) ?_
    have hs : (sp_Rv_jump w ad nx fo rg) = ((sp_Rv_goTo ad fo).1, (sp_Rv_goTo ad fo).2, rg) := by rw [sp_Rv_jump, if_neg h2]
    have hP9 := hP.sub (ws' := [(x, .inr (0, [.ref wa, .int wc, .ref ra, .ref ma, .ref ua, .ref oa, .int ph, .int dn, .int nx, .int ((sp_Rv_goTo ad fo).2)])), (ra, .inl (cI, 32, .inl (rg)))]) [1, 0] rfl
    have hD9 := hD.sub (ws' := [(x, .inr (0, [.ref wa, .int wc, .ref ra, .ref ma, .ref ua, .ref oa, .int ph, .int dn, .int nx, .int ((sp_Rv_goTo ad fo).2)])), (ra, .inl (cI, 32, .inl (rg)))]) [1, 0] rfl rfl
    exact zreti hx hb hr rfl hlocks hS () (by rw [hs]) rfl (by rw [hs]; exact hP9) (by rw [hs]; exact hD9) d_Rv_jump_25
  · refine lv_aload_n hx hb d_Rv_jump_10 rfl (lv_at hl 1 rfl) ?_
    refine lv_iload_n hx hb d_Rv_jump_11 rfl (lv_at hl 2 rfl) ?_
    refine lv_aload_n hx hb d_Rv_jump_12 rfl (lv_at hl 1 rfl) ?_
    refine zget hE hK hP 1 rfl fd_Rv_65 rfl d_Rv_jump_13 ?_
    refine lv_iconst (v := 4) hx hb d_Rv_jump_16 (by decide) ?_
    refine lv_iadd hx hb d_Rv_jump_17 ?_
    refine zgoi (wr := []) (zrunV (n := 2) (As := [.int w, .int (nx + 4)]) (rest := []) hE (c_Rv_keep l D cI cB cJ _ w (nx + 4) x wa wc ra ma ua oa ph dn nx ((sp_Rv_goTo ad fo).2) rg) cb_Rv_keep lk_Rv_120 in_Rv_keep se_Rv_keep (zpreV (q0 := 1) hK hP hD rfl rfl rfl [1, 0] rfl rfl rfl) ⟨Nat.le_of_ble_eq_true rfl, Nat.le_of_ble_eq_true rfl, Nat.le_of_ble_eq_true rfl, Nat.le_of_ble_eq_true rfl⟩ rfl hl.1 rfl (Nat.le_of_ble_eq_true rfl) d_Rv_jump_18) hP hD hS hA [1, 0] [] rfl rfl rfl (by decide) (fun r u H locs hq3 hP hD hS => ?_)
    subst hq3
    have hP : va_P D zC [(x, .inr (0, [.ref wa, .int wc, .ref ra, .ref ma, .ref ua, .ref oa, .int ph, .int dn, .int nx, .int ((sp_Rv_goTo ad fo).2)])), (ra, .inl (cI, 32, .inl ((sp_Rv_keep w (nx + 4) rg).2)))] H := hP
    have hD : va_D A [(x, .inr (0, [.ref wa, .int wc, .ref ra, .ref ma, .ref ua, .ref oa, .int ph, .int dn, .int nx, .int ((sp_Rv_goTo ad fo).2)])), (ra, .inl (cI, 32, .inl ((sp_Rv_keep w (nx + 4) rg).2)))] := hD
    refine lv_goto (tgt := 25) hx hb d_Rv_jump_21 (by decide) ?_
    have hs : (sp_Rv_jump w ad nx fo rg) = ((sp_Rv_keep w (nx + 4) rg).1, (sp_Rv_goTo ad fo).2, (sp_Rv_keep w (nx + 4) rg).2) := by rw [sp_Rv_jump, if_pos h2]
    have hP9 := hP.sub (ws' := [(x, .inr (0, [.ref wa, .int wc, .ref ra, .ref ma, .ref ua, .ref oa, .int ph, .int dn, .int nx, .int ((sp_Rv_goTo ad fo).2)])), (ra, .inl (cI, 32, .inl ((sp_Rv_keep w (nx + 4) rg).2)))]) [0, 1] rfl
    have hD9 := hD.sub (ws' := [(x, .inr (0, [.ref wa, .int wc, .ref ra, .ref ma, .ref ua, .ref oa, .int ph, .int dn, .int nx, .int ((sp_Rv_goTo ad fo).2)])), (ra, .inl (cI, 32, .inl ((sp_Rv_keep w (nx + 4) rg).2)))]) [0, 1] rfl rfl
    exact zreti hx hb hr rfl hlocks hS () (by rw [hs]) rfl (by rw [hs]; exact hP9) (by rw [hs]; exact hD9) d_Rv_jump_25

def sp_Rv_jumpByRegister (w : Int32) (nx : Int32) (fo : Int32) (rg : Nat → Int32) : Int32 × Int32 × (Nat → Int32) := if (sp_Rv_middle w) = 0 then ((sp_Rv_jump w (((sp_Rv_firstOperand w rg) + ((w : Int32) >>> ((20 : Int32) &&& 31))) &&& (-2)) nx fo rg).1, (sp_Rv_jump w (((sp_Rv_firstOperand w rg) + ((w : Int32) >>> ((20 : Int32) &&& 31))) &&& (-2)) nx fo rg).2.1, (sp_Rv_jump w (((sp_Rv_firstOperand w rg) + ((w : Int32) >>> ((20 : Int32) &&& 31))) &&& (-2)) nx fo rg).2.2) else (1, fo, rg)
set_option maxHeartbeats 4000000 in
theorem c_Rv_jumpByRegister (l : Launch) (D : va_G) (cI cB cJ : ClassId) (sz : Nat) (w : Int32) (x : Nat) (wa : Nat) (wc : Int32) (ra : Nat) (ma : Nat) (ua : Nat) (oa : Nat) (ph : Int32) (dn : Int32) (nx : Int32) (fo : Int32) (rg : Nat → Int32) : zMet l y_Rv_jumpByRegister (zWs y_Rv_jumpByRegister b_Rv_jumpByRegister 2 (some .int)) { frames := 2, cells := 0, slots := 0, locals := 46 } (zPc D (zT cI cB cJ) sz [(x, .inr (0, [.ref wa, .int wc, .ref ra, .ref ma, .ref ua, .ref oa, .int ph, .int dn, .int nx, .int fo])), (ra, .inl (cI, 32, .inl (rg)))] [.ref x, .int w]) (zQi D (va_A [(x, .inr (0, [.ref wa, .int wc, .ref ra, .ref ma, .ref ua, .ref oa, .int ph, .int dn, .int nx, .int fo])), (ra, .inl (cI, 32, .inl (rg)))] sz) (fun r (_ : Unit) => r = (sp_Rv_jumpByRegister w nx fo rg).1) (z0) (fun _ => [(x, .inr (0, [.ref wa, .int wc, .ref ra, .ref ma, .ref ua, .ref oa, .int ph, .int dn, .int nx, .int ((sp_Rv_jumpByRegister w nx fo rg).2.1)])), (ra, .inl (cI, 32, .inl ((sp_Rv_jumpByRegister w nx fo rg).2.2)))])) (va_A [(x, .inr (0, [.ref wa, .int wc, .ref ra, .ref ma, .ref ua, .ref oa, .int ph, .int dn, .int nx, .int fo])), (ra, .inl (cI, 32, .inl (rg)))] sz) := by
  refine zstart (Qc := fun A => zQi D A (fun r (_ : Unit) => r = (sp_Rv_jumpByRegister w nx fo rg).1) (z0) (fun _ => [(x, .inr (0, [.ref wa, .int wc, .ref ra, .ref ma, .ref ua, .ref oa, .int ph, .int dn, .int nx, .int ((sp_Rv_jumpByRegister w nx fo rg).2.1)])), (ra, .inl (cI, 32, .inl ((sp_Rv_jumpByRegister w nx fo rg).2.2)))])) (by decide) (Nat.le_of_ble_eq_true rfl) ?_
  intro p e s m below meth c ls A hE hr hlocks hin hsz hK hP hD hS hA hAe hl
  have hx := hE.1
  have hb := hE.2.1
  have hown := hE.2.2.2.1
  have hw := hE.2.2.2.2
  have hl : lv_has ls 2 [(0, .ref x), (1, .int w)] := hl
  refine lv_iload_n hx hb d_Rv_jumpByRegister_0 rfl (lv_at hl 1 rfl) ?_
  refine zgoi (wr := [(x, .inr (0, [.ref wa, .int wc, .ref ra, .ref ma, .ref ua, .ref oa, .int ph, .int dn, .int nx, .int fo])), (ra, .inl (cI, 32, .inl (rg)))]) (zrunS (n := 1) (As := [.int w]) (rest := []) hE (c_Rv_middle l D _ _ w) cb_Rv_middle lk_Rv_147 st_Rv_middle (zpreS hK hP hD [] rfl rfl rfl) ⟨Nat.le_of_ble_eq_true rfl, Nat.le_of_ble_eq_true rfl, Nat.le_of_ble_eq_true rfl, Nat.le_of_ble_eq_true rfl⟩ rfl hl.1 rfl (Nat.le_of_ble_eq_true rfl) d_Rv_jumpByRegister_1) hP hD hS hA [] [0, 1] rfl rfl rfl (by decide) (fun r u H locs hq1 hP hD hS => ?_)
  subst hq1
  have hP : va_P D zC [(x, .inr (0, [.ref wa, .int wc, .ref ra, .ref ma, .ref ua, .ref oa, .int ph, .int dn, .int nx, .int fo])), (ra, .inl (cI, 32, .inl (rg)))] H := hP
  have hD : va_D A [(x, .inr (0, [.ref wa, .int wc, .ref ra, .ref ma, .ref ua, .ref oa, .int ph, .int dn, .int nx, .int fo])), (ra, .inl (cI, 32, .inl (rg)))] := hD
  refine lv_if_eq (tgt := 9) hx hb d_Rv_jumpByRegister_4 (by decide) (fun h2 => ?_) (fun h2 => ?_)
  · refine lv_aload_n hx hb d_Rv_jumpByRegister_9 rfl (lv_at hl 0 rfl) ?_
    refine lv_iload_n hx hb d_Rv_jumpByRegister_10 rfl (lv_at hl 1 rfl) ?_
    refine lv_aload_n hx hb d_Rv_jumpByRegister_11 rfl (lv_at hl 0 rfl) ?_
    refine lv_iload_n hx hb d_Rv_jumpByRegister_12 rfl (lv_at hl 1 rfl) ?_
    refine zgoi (wr := []) (zrunV (n := 1) (As := [.int w]) (rest := [.int w, .ref x]) hE (c_Rv_firstOperand l D cI cB cJ _ w x wa wc ra ma ua oa ph dn nx fo rg) cb_Rv_firstOperand lk_Rv_158 in_Rv_firstOperand se_Rv_firstOperand (zpreV (q0 := 0) hK hP hD rfl rfl rfl [0, 1] rfl rfl rfl) ⟨Nat.le_of_ble_eq_true rfl, Nat.le_of_ble_eq_true rfl, Nat.le_of_ble_eq_true rfl, Nat.le_of_ble_eq_true rfl⟩ rfl hl.1 rfl (Nat.le_of_ble_eq_true rfl) d_Rv_jumpByRegister_13) hP hD hS hA [0, 1] [] rfl rfl rfl (by decide) (fun r u H locs hq3 hP hD hS => ?_)
    subst hq3
    have hP : va_P D zC [(x, .inr (0, [.ref wa, .int wc, .ref ra, .ref ma, .ref ua, .ref oa, .int ph, .int dn, .int nx, .int fo])), (ra, .inl (cI, 32, .inl (rg)))] H := hP
    have hD : va_D A [(x, .inr (0, [.ref wa, .int wc, .ref ra, .ref ma, .ref ua, .ref oa, .int ph, .int dn, .int nx, .int fo])), (ra, .inl (cI, 32, .inl (rg)))] := hD
    refine lv_iload_n hx hb d_Rv_jumpByRegister_16 rfl (lv_at hl 1 rfl) ?_
    refine lv_bipush (v := 20) hx hb d_Rv_jumpByRegister_17 (by decide) ?_
    refine lv_ishr hx hb d_Rv_jumpByRegister_19 ?_
    refine lv_iadd hx hb d_Rv_jumpByRegister_20 ?_
    refine lv_bipush (v := (-2)) hx hb d_Rv_jumpByRegister_21 (by decide) ?_
    refine lv_iand hx hb d_Rv_jumpByRegister_23 ?_
    refine zgoi (wr := []) (zrunV (n := 2) (As := [.int w, .int (((sp_Rv_firstOperand w rg) + ((w : Int32) >>> ((20 : Int32) &&& 31))) &&& (-2))]) (rest := []) hE (c_Rv_jump l D cI cB cJ _ w (((sp_Rv_firstOperand w rg) + ((w : Int32) >>> ((20 : Int32) &&& 31))) &&& (-2)) x wa wc ra ma ua oa ph dn nx fo rg) cb_Rv_jump lk_Rv_126 in_Rv_jump se_Rv_jump (zpreV (q0 := 0) hK hP hD rfl rfl rfl [0, 1] rfl rfl rfl) ⟨Nat.le_of_ble_eq_true rfl, Nat.le_of_ble_eq_true rfl, Nat.le_of_ble_eq_true rfl, Nat.le_of_ble_eq_true rfl⟩ rfl hl.1 rfl (Nat.le_of_ble_eq_true rfl) d_Rv_jumpByRegister_24) hP hD hS hA [0, 1] [] rfl rfl rfl (by decide) (fun r u H locs hq4 hP hD hS => ?_)
    subst hq4
    have hP : va_P D zC [(x, .inr (0, [.ref wa, .int wc, .ref ra, .ref ma, .ref ua, .ref oa, .int ph, .int dn, .int nx, .int ((sp_Rv_jump w (((sp_Rv_firstOperand w rg) + ((w : Int32) >>> ((20 : Int32) &&& 31))) &&& (-2)) nx fo rg).2.1)])), (ra, .inl (cI, 32, .inl ((sp_Rv_jump w (((sp_Rv_firstOperand w rg) + ((w : Int32) >>> ((20 : Int32) &&& 31))) &&& (-2)) nx fo rg).2.2)))] H := hP
    have hD : va_D A [(x, .inr (0, [.ref wa, .int wc, .ref ra, .ref ma, .ref ua, .ref oa, .int ph, .int dn, .int nx, .int ((sp_Rv_jump w (((sp_Rv_firstOperand w rg) + ((w : Int32) >>> ((20 : Int32) &&& 31))) &&& (-2)) nx fo rg).2.1)])), (ra, .inl (cI, 32, .inl ((sp_Rv_jump w (((sp_Rv_firstOperand w rg) + ((w : Int32) >>> ((20 : Int32) &&& 31))) &&& (-2)) nx fo rg).2.2)))] := hD
    have hs : (sp_Rv_jumpByRegister w nx fo rg) = ((sp_Rv_jump w (((sp_Rv_firstOperand w rg) + ((w : Int32) >>> ((20 : Int32) &&& 31))) &&& (-2)) nx fo rg).1, (sp_Rv_jump w (((sp_Rv_firstOperand w rg) + ((w : Int32) >>> ((20 : Int32) &&& 31))) &&& (-2)) nx fo rg).2.1, (sp_Rv_jump w (((sp_Rv_firstOperand w rg) + ((w : Int32) >>> ((20 : Int32) &&& 31))) &&& (-2)) nx fo rg).2.2) := by rw [sp_Rv_jumpByRegister, if_pos h2]
    have hP9 := hP.sub (ws' := [(x, .inr (0, [.ref wa, .int wc, .ref ra, .ref ma, .ref ua, .ref oa, .int ph, .int dn, .int nx, .int ((sp_Rv_jump w (((sp_Rv_firstOperand w rg) + ((w : Int32) >>> ((20 : Int32) &&& 31))) &&& (-2)) nx fo rg).2.1)])), (ra, .inl (cI, 32, .inl ((sp_Rv_jump w (((sp_Rv_firstOperand w rg) + ((w : Int32) >>> ((20 : Int32) &&& 31))) &&& (-2)) nx fo rg).2.2)))]) [0, 1] rfl
    have hD9 := hD.sub (ws' := [(x, .inr (0, [.ref wa, .int wc, .ref ra, .ref ma, .ref ua, .ref oa, .int ph, .int dn, .int nx, .int ((sp_Rv_jump w (((sp_Rv_firstOperand w rg) + ((w : Int32) >>> ((20 : Int32) &&& 31))) &&& (-2)) nx fo rg).2.1)])), (ra, .inl (cI, 32, .inl ((sp_Rv_jump w (((sp_Rv_firstOperand w rg) + ((w : Int32) >>> ((20 : Int32) &&& 31))) &&& (-2)) nx fo rg).2.2)))]) [0, 1] rfl rfl
    exact zreti hx hb hr rfl hlocks hS () (by rw [hs]) rfl (by rw [hs]; exact hP9) (by rw [hs]; exact hD9) d_Rv_jumpByRegister_27
  · refine lv_iconst (v := 1) hx hb d_Rv_jumpByRegister_7 (by decide) ?_
    have hs : (sp_Rv_jumpByRegister w nx fo rg) = (1, fo, rg) := by rw [sp_Rv_jumpByRegister, if_neg h2]
    have hP9 := hP.sub (ws' := [(x, .inr (0, [.ref wa, .int wc, .ref ra, .ref ma, .ref ua, .ref oa, .int ph, .int dn, .int nx, .int fo])), (ra, .inl (cI, 32, .inl (rg)))]) [0, 1] rfl
    have hD9 := hD.sub (ws' := [(x, .inr (0, [.ref wa, .int wc, .ref ra, .ref ma, .ref ua, .ref oa, .int ph, .int dn, .int nx, .int fo])), (ra, .inl (cI, 32, .inl (rg)))]) [0, 1] rfl rfl
    exact zreti hx hb hr rfl hlocks hS () (by rw [hs]) rfl (by rw [hs]; exact hP9) (by rw [hs]; exact hD9) d_Rv_jumpByRegister_8

def sp_Rv_branch (w : Int32) (nx : Int32) (fo : Int32) (rg : Nat → Int32) : Int32 × Int32 := if (sp_Rv_middle w) = 0 then
  if (sp_Rv_firstOperand w rg) = (sp_Rv_secondOperand w rg) then ((sp_Rv_goTo (nx + (sp_Rv_branchOffset w)) fo).1, (sp_Rv_goTo (nx + (sp_Rv_branchOffset w)) fo).2) else (0, fo)
else if (sp_Rv_middle w) = 1 then
  if (sp_Rv_firstOperand w rg) = (sp_Rv_secondOperand w rg) then (0, fo) else ((sp_Rv_goTo (nx + (sp_Rv_branchOffset w)) fo).1, (sp_Rv_goTo (nx + (sp_Rv_branchOffset w)) fo).2)
else if (sp_Rv_middle w) = 2 then (1, fo) else if (sp_Rv_middle w) = 3 then (1, fo) else if (sp_Rv_middle w) = 4 then
  if (sp_Rv_secondOperand w rg) ≤ (sp_Rv_firstOperand w rg) then (0, fo) else ((sp_Rv_goTo (nx + (sp_Rv_branchOffset w)) fo).1, (sp_Rv_goTo (nx + (sp_Rv_branchOffset w)) fo).2)
else if (sp_Rv_middle w) = 5 then
  if (sp_Rv_firstOperand w rg) < (sp_Rv_secondOperand w rg) then (0, fo) else ((sp_Rv_goTo (nx + (sp_Rv_branchOffset w)) fo).1, (sp_Rv_goTo (nx + (sp_Rv_branchOffset w)) fo).2)
else if (sp_Rv_middle w) = 6 then
  if (sp_Rv_isBelow (sp_Rv_firstOperand w rg) (sp_Rv_secondOperand w rg)) = 0 then (0, fo) else ((sp_Rv_goTo (nx + (sp_Rv_branchOffset w)) fo).1, (sp_Rv_goTo (nx + (sp_Rv_branchOffset w)) fo).2)
else if (sp_Rv_middle w) = 7 then
  if (sp_Rv_isBelow (sp_Rv_firstOperand w rg) (sp_Rv_secondOperand w rg)) = 0 then ((sp_Rv_goTo (nx + (sp_Rv_branchOffset w)) fo).1, (sp_Rv_goTo (nx + (sp_Rv_branchOffset w)) fo).2) else (0, fo)
else (1, fo)
set_option maxHeartbeats 4000000 in
theorem c_Rv_branch (l : Launch) (D : va_G) (cI cB cJ : ClassId) (sz : Nat) (w : Int32) (x : Nat) (wa : Nat) (wc : Int32) (ra : Nat) (ma : Nat) (ua : Nat) (oa : Nat) (ph : Int32) (dn : Int32) (nx : Int32) (fo : Int32) (rg : Nat → Int32) : zMet l y_Rv_branch (zWs y_Rv_branch b_Rv_branch 5 (some .int)) { frames := 2, cells := 0, slots := 0, locals := 41 } (zPc D (zT cI cB cJ) sz [(x, .inr (0, [.ref wa, .int wc, .ref ra, .ref ma, .ref ua, .ref oa, .int ph, .int dn, .int nx, .int fo])), (ra, .inl (cI, 32, .inl (rg)))] [.ref x, .int w]) (zQi D (va_A [(x, .inr (0, [.ref wa, .int wc, .ref ra, .ref ma, .ref ua, .ref oa, .int ph, .int dn, .int nx, .int fo])), (ra, .inl (cI, 32, .inl (rg)))] sz) (fun r (_ : Unit) => r = (sp_Rv_branch w nx fo rg).1) (z0) (fun _ => [(x, .inr (0, [.ref wa, .int wc, .ref ra, .ref ma, .ref ua, .ref oa, .int ph, .int dn, .int nx, .int ((sp_Rv_branch w nx fo rg).2)])), (ra, .inl (cI, 32, .inl (rg)))])) (va_A [(x, .inr (0, [.ref wa, .int wc, .ref ra, .ref ma, .ref ua, .ref oa, .int ph, .int dn, .int nx, .int fo])), (ra, .inl (cI, 32, .inl (rg)))] sz) := by
  refine zstart (Qc := fun A => zQi D A (fun r (_ : Unit) => r = (sp_Rv_branch w nx fo rg).1) (z0) (fun _ => [(x, .inr (0, [.ref wa, .int wc, .ref ra, .ref ma, .ref ua, .ref oa, .int ph, .int dn, .int nx, .int ((sp_Rv_branch w nx fo rg).2)])), (ra, .inl (cI, 32, .inl (rg)))])) (by decide) (Nat.le_of_ble_eq_true rfl) ?_
  intro p e s m below meth c ls A hE hr hlocks hin hsz hK hP hD hS hA hAe hl
  have hx := hE.1
  have hb := hE.2.1
  have hown := hE.2.2.2.1
  have hw := hE.2.2.2.2
  have hl : lv_has ls 5 [(0, .ref x), (1, .int w)] := hl
  refine lv_aload_n hx hb d_Rv_branch_0 rfl (lv_at hl 0 rfl) ?_
  refine lv_iload_n hx hb d_Rv_branch_1 rfl (lv_at hl 1 rfl) ?_
  refine zgoi (wr := []) (zrunV (n := 1) (As := [.int w]) (rest := []) hE (c_Rv_firstOperand l D cI cB cJ _ w x wa wc ra ma ua oa ph dn nx fo rg) cb_Rv_firstOperand lk_Rv_158 in_Rv_firstOperand se_Rv_firstOperand (zpreV (q0 := 0) hK hP hD rfl rfl rfl [0, 1] rfl rfl rfl) ⟨Nat.le_of_ble_eq_true rfl, Nat.le_of_ble_eq_true rfl, Nat.le_of_ble_eq_true rfl, Nat.le_of_ble_eq_true rfl⟩ rfl hl.1 rfl (Nat.le_of_ble_eq_true rfl) d_Rv_branch_2) hP hD hS hA [0, 1] [] rfl rfl rfl (by decide) (fun r u H locs hq1 hP hD hS => ?_)
  subst hq1
  have hP : va_P D zC [(x, .inr (0, [.ref wa, .int wc, .ref ra, .ref ma, .ref ua, .ref oa, .int ph, .int dn, .int nx, .int fo])), (ra, .inl (cI, 32, .inl (rg)))] H := hP
  have hD : va_D A [(x, .inr (0, [.ref wa, .int wc, .ref ra, .ref ma, .ref ua, .ref oa, .int ph, .int dn, .int nx, .int fo])), (ra, .inl (cI, 32, .inl (rg)))] := hD
  refine lv_istore_n (lv' := [(2, .int ((sp_Rv_firstOperand w rg))), (0, .ref x), (1, .int w)]) hx hb d_Rv_branch_5 rfl hl (by decide) rfl (fun ls hl => ?_)
  refine lv_aload_n hx hb d_Rv_branch_6 rfl (lv_at hl 1 rfl) ?_
  refine lv_iload_n hx hb d_Rv_branch_7 rfl (lv_at hl 2 rfl) ?_
  refine zgoi (wr := []) (zrunV (n := 1) (As := [.int w]) (rest := []) hE (c_Rv_secondOperand l D cI cB cJ _ w x wa wc ra ma ua oa ph dn nx fo rg) cb_Rv_secondOperand lk_Rv_161 in_Rv_secondOperand se_Rv_secondOperand (zpreV (q0 := 0) hK hP hD rfl rfl rfl [0, 1] rfl rfl rfl) ⟨Nat.le_of_ble_eq_true rfl, Nat.le_of_ble_eq_true rfl, Nat.le_of_ble_eq_true rfl, Nat.le_of_ble_eq_true rfl⟩ rfl hl.1 rfl (Nat.le_of_ble_eq_true rfl) d_Rv_branch_8) hP hD hS hA [0, 1] [] rfl rfl rfl (by decide) (fun r u H locs hq2 hP hD hS => ?_)
  subst hq2
  have hP : va_P D zC [(x, .inr (0, [.ref wa, .int wc, .ref ra, .ref ma, .ref ua, .ref oa, .int ph, .int dn, .int nx, .int fo])), (ra, .inl (cI, 32, .inl (rg)))] H := hP
  have hD : va_D A [(x, .inr (0, [.ref wa, .int wc, .ref ra, .ref ma, .ref ua, .ref oa, .int ph, .int dn, .int nx, .int fo])), (ra, .inl (cI, 32, .inl (rg)))] := hD
  refine lv_istore_n (lv' := [(3, .int ((sp_Rv_secondOperand w rg))), (2, .int ((sp_Rv_firstOperand w rg))), (0, .ref x), (1, .int w)]) hx hb d_Rv_branch_11 rfl hl (by decide) rfl (fun ls hl => ?_)
  refine lv_iload_n hx hb d_Rv_branch_12 rfl (lv_at hl 3 rfl) ?_
  refine zgoi (wr := [(x, .inr (0, [.ref wa, .int wc, .ref ra, .ref ma, .ref ua, .ref oa, .int ph, .int dn, .int nx, .int fo])), (ra, .inl (cI, 32, .inl (rg)))]) (zrunS (n := 1) (As := [.int w]) (rest := []) hE (c_Rv_middle l D _ _ w) cb_Rv_middle lk_Rv_147 st_Rv_middle (zpreS hK hP hD [] rfl rfl rfl) ⟨Nat.le_of_ble_eq_true rfl, Nat.le_of_ble_eq_true rfl, Nat.le_of_ble_eq_true rfl, Nat.le_of_ble_eq_true rfl⟩ rfl hl.1 rfl (Nat.le_of_ble_eq_true rfl) d_Rv_branch_13) hP hD hS hA [] [0, 1] rfl rfl rfl (by decide) (fun r u H locs hq3 hP hD hS => ?_)
  subst hq3
  have hP : va_P D zC [(x, .inr (0, [.ref wa, .int wc, .ref ra, .ref ma, .ref ua, .ref oa, .int ph, .int dn, .int nx, .int fo])), (ra, .inl (cI, 32, .inl (rg)))] H := hP
  have hD : va_D A [(x, .inr (0, [.ref wa, .int wc, .ref ra, .ref ma, .ref ua, .ref oa, .int ph, .int dn, .int nx, .int fo])), (ra, .inl (cI, 32, .inl (rg)))] := hD
  rcases Decidable.em ((sp_Rv_middle w) = 0) with h4 | h4
  · refine lv_tableIn (tgt := 64) hx hb d_Rv_branch_16 (by rw [h4]; decide) (by rw [h4]; decide) (by rw [h4]; rfl) (by decide) ?_
    refine lv_iload_n hx hb d_Rv_branch_64 rfl (lv_at hl 1 rfl) ?_
    refine lv_iload_n hx hb d_Rv_branch_65 rfl (lv_at hl 0 rfl) ?_
    refine lv_icmp_ne (tgt := 73) hx hb d_Rv_branch_66 (by decide) (fun h5 => ?_) (fun h5 => ?_)
    · refine lv_iconst (v := 0) hx hb d_Rv_branch_73 (by decide) ?_
      refine lv_istore (lv' := [(4, .int 0), (3, .int ((sp_Rv_secondOperand w rg))), (2, .int ((sp_Rv_firstOperand w rg))), (0, .ref x), (1, .int w)]) hx hb d_Rv_branch_74 hl (by decide) rfl (fun ls hl => ?_)
      refine lv_goto (tgt := 154) hx hb d_Rv_branch_76 (by decide) ?_
      refine lv_iload hx hb d_Rv_branch_154 (lv_at hl 0 rfl) ?_
      refine lv_if_eq (tgt := 175) hx hb d_Rv_branch_156 (by decide) (fun h6 => ?_) (fun h6 => (show False by revert h6; decide).elim)
      refine lv_iconst (v := 0) hx hb d_Rv_branch_175 (by decide) ?_
      have hs : (sp_Rv_branch w nx fo rg) = (0, fo) := by rw [sp_Rv_branch, if_pos h4, if_neg h5]
      have hP9 := hP.sub (ws' := [(x, .inr (0, [.ref wa, .int wc, .ref ra, .ref ma, .ref ua, .ref oa, .int ph, .int dn, .int nx, .int fo])), (ra, .inl (cI, 32, .inl (rg)))]) [0, 1] rfl
      have hD9 := hD.sub (ws' := [(x, .inr (0, [.ref wa, .int wc, .ref ra, .ref ma, .ref ua, .ref oa, .int ph, .int dn, .int nx, .int fo])), (ra, .inl (cI, 32, .inl (rg)))]) [0, 1] rfl rfl
      exact zreti hx hb hr rfl hlocks hS () (by rw [hs]) rfl (by rw [hs]; exact hP9) (by rw [hs]; exact hD9) d_Rv_branch_176
    · refine lv_iconst (v := 1) hx hb d_Rv_branch_69 (by decide) ?_
      refine lv_goto (tgt := 74) hx hb d_Rv_branch_70 (by decide) ?_
      refine lv_istore (lv' := [(4, .int 1), (3, .int ((sp_Rv_secondOperand w rg))), (2, .int ((sp_Rv_firstOperand w rg))), (0, .ref x), (1, .int w)]) hx hb d_Rv_branch_74 hl (by decide) rfl (fun ls hl => ?_)
      refine lv_goto (tgt := 154) hx hb d_Rv_branch_76 (by decide) ?_
      refine lv_iload hx hb d_Rv_branch_154 (lv_at hl 0 rfl) ?_
      refine lv_if_eq (tgt := 175) hx hb d_Rv_branch_156 (by decide) (fun h7 => (show False by revert h7; decide).elim) (fun h7 => ?_)
      refine lv_aload_n hx hb d_Rv_branch_159 rfl (lv_at hl 3 rfl) ?_
      refine lv_aload_n hx hb d_Rv_branch_160 rfl (lv_at hl 3 rfl) ?_
      refine zget hE hK hP 0 rfl fd_Rv_65 rfl d_Rv_branch_161 ?_
      refine lv_iload_n hx hb d_Rv_branch_164 rfl (lv_at hl 4 rfl) ?_
      refine zgoi (wr := [(x, .inr (0, [.ref wa, .int wc, .ref ra, .ref ma, .ref ua, .ref oa, .int ph, .int dn, .int nx, .int fo])), (ra, .inl (cI, 32, .inl (rg)))]) (zrunS (n := 1) (As := [.int w]) (rest := [.int nx, .ref x]) hE (c_Rv_branchOffset l D _ _ w) cb_Rv_branchOffset lk_Rv_167 st_Rv_branchOffset (zpreS hK hP hD [] rfl rfl rfl) ⟨Nat.le_of_ble_eq_true rfl, Nat.le_of_ble_eq_true rfl, Nat.le_of_ble_eq_true rfl, Nat.le_of_ble_eq_true rfl⟩ rfl hl.1 rfl (Nat.le_of_ble_eq_true rfl) d_Rv_branch_165) hP hD hS hA [] [0, 1] rfl rfl rfl (by decide) (fun r u H locs hq8 hP hD hS => ?_)
      subst hq8
      have hP : va_P D zC [(x, .inr (0, [.ref wa, .int wc, .ref ra, .ref ma, .ref ua, .ref oa, .int ph, .int dn, .int nx, .int fo])), (ra, .inl (cI, 32, .inl (rg)))] H := hP
      have hD : va_D A [(x, .inr (0, [.ref wa, .int wc, .ref ra, .ref ma, .ref ua, .ref oa, .int ph, .int dn, .int nx, .int fo])), (ra, .inl (cI, 32, .inl (rg)))] := hD
      refine lv_iadd hx hb d_Rv_branch_168 ?_
      refine zgoi (wr := [(ra, .inl (cI, 32, .inl (rg)))]) (zrunV (n := 1) (As := [.int (nx + (sp_Rv_branchOffset w))]) (rest := []) hE (c_Rv_goTo l D cI cB cJ _ (nx + (sp_Rv_branchOffset w)) x wa wc ra ma ua oa ph dn nx fo) cb_Rv_goTo lk_Rv_155 in_Rv_goTo se_Rv_goTo (zpreV (q0 := 0) hK hP hD rfl rfl rfl [0] rfl rfl rfl) ⟨Nat.le_of_ble_eq_true rfl, Nat.le_of_ble_eq_true rfl, Nat.le_of_ble_eq_true rfl, Nat.le_of_ble_eq_true rfl⟩ rfl hl.1 rfl (Nat.le_of_ble_eq_true rfl) d_Rv_branch_169) hP hD hS hA [0] [1] rfl rfl rfl (by decide) (fun r u H locs hq9 hP hD hS => ?_)
      subst hq9
      have hP : va_P D zC [(ra, .inl (cI, 32, .inl (rg))), (x, .inr (0, [.ref wa, .int wc, .ref ra, .ref ma, .ref ua, .ref oa, .int ph, .int dn, .int nx, .int ((sp_Rv_goTo (nx + (sp_Rv_branchOffset w)) fo).2)]))] H := hP
      have hD : va_D A [(ra, .inl (cI, 32, .inl (rg))), (x, .inr (0, [.ref wa, .int wc, .ref ra, .ref ma, .ref ua, .ref oa, .int ph, .int dn, .int nx, .int ((sp_Rv_goTo (nx + (sp_Rv_branchOffset w)) fo).2)]))] := hD
      refine lv_goto (tgt := 176) hx hb d_Rv_branch_172 (by decide) ?_
      have hs : (sp_Rv_branch w nx fo rg) = ((sp_Rv_goTo (nx + (sp_Rv_branchOffset w)) fo).1, (sp_Rv_goTo (nx + (sp_Rv_branchOffset w)) fo).2) := by rw [sp_Rv_branch, if_pos h4, if_pos h5]
      have hP9 := hP.sub (ws' := [(x, .inr (0, [.ref wa, .int wc, .ref ra, .ref ma, .ref ua, .ref oa, .int ph, .int dn, .int nx, .int ((sp_Rv_goTo (nx + (sp_Rv_branchOffset w)) fo).2)])), (ra, .inl (cI, 32, .inl (rg)))]) [1, 0] rfl
      have hD9 := hD.sub (ws' := [(x, .inr (0, [.ref wa, .int wc, .ref ra, .ref ma, .ref ua, .ref oa, .int ph, .int dn, .int nx, .int ((sp_Rv_goTo (nx + (sp_Rv_branchOffset w)) fo).2)])), (ra, .inl (cI, 32, .inl (rg)))]) [1, 0] rfl rfl
      exact zreti hx hb hr rfl hlocks hS () (by rw [hs]) rfl (by rw [hs]; exact hP9) (by rw [hs]; exact hD9) d_Rv_branch_176
  · rcases Decidable.em ((sp_Rv_middle w) = 1) with h10 | h10
    · refine lv_tableIn (tgt := 79) hx hb d_Rv_branch_16 (by rw [h10]; decide) (by rw [h10]; decide) (by rw [h10]; rfl) (by decide) ?_
      refine lv_iload_n hx hb d_Rv_branch_79 rfl (lv_at hl 1 rfl) ?_
      refine lv_iload_n hx hb d_Rv_branch_80 rfl (lv_at hl 0 rfl) ?_
      refine lv_icmp_eq (tgt := 88) hx hb d_Rv_branch_81 (by decide) (fun h11 => ?_) (fun h11 => ?_)
      · refine lv_iconst (v := 0) hx hb d_Rv_branch_88 (by decide) ?_
        refine lv_istore (lv' := [(4, .int 0), (3, .int ((sp_Rv_secondOperand w rg))), (2, .int ((sp_Rv_firstOperand w rg))), (0, .ref x), (1, .int w)]) hx hb d_Rv_branch_89 hl (by decide) rfl (fun ls hl => ?_)
        refine lv_goto (tgt := 154) hx hb d_Rv_branch_91 (by decide) ?_
        refine lv_iload hx hb d_Rv_branch_154 (lv_at hl 0 rfl) ?_
        refine lv_if_eq (tgt := 175) hx hb d_Rv_branch_156 (by decide) (fun h12 => ?_) (fun h12 => (show False by revert h12; decide).elim)
        refine lv_iconst (v := 0) hx hb d_Rv_branch_175 (by decide) ?_
        have hs : (sp_Rv_branch w nx fo rg) = (0, fo) := by rw [sp_Rv_branch, if_neg h4, if_pos h10, if_pos h11]
        have hP9 := hP.sub (ws' := [(x, .inr (0, [.ref wa, .int wc, .ref ra, .ref ma, .ref ua, .ref oa, .int ph, .int dn, .int nx, .int fo])), (ra, .inl (cI, 32, .inl (rg)))]) [0, 1] rfl
        have hD9 := hD.sub (ws' := [(x, .inr (0, [.ref wa, .int wc, .ref ra, .ref ma, .ref ua, .ref oa, .int ph, .int dn, .int nx, .int fo])), (ra, .inl (cI, 32, .inl (rg)))]) [0, 1] rfl rfl
        exact zreti hx hb hr rfl hlocks hS () (by rw [hs]) rfl (by rw [hs]; exact hP9) (by rw [hs]; exact hD9) d_Rv_branch_176
      · refine lv_iconst (v := 1) hx hb d_Rv_branch_84 (by decide) ?_
        refine lv_goto (tgt := 89) hx hb d_Rv_branch_85 (by decide) ?_
        refine lv_istore (lv' := [(4, .int 1), (3, .int ((sp_Rv_secondOperand w rg))), (2, .int ((sp_Rv_firstOperand w rg))), (0, .ref x), (1, .int w)]) hx hb d_Rv_branch_89 hl (by decide) rfl (fun ls hl => ?_)
        refine lv_goto (tgt := 154) hx hb d_Rv_branch_91 (by decide) ?_
        refine lv_iload hx hb d_Rv_branch_154 (lv_at hl 0 rfl) ?_
        refine lv_if_eq (tgt := 175) hx hb d_Rv_branch_156 (by decide) (fun h13 => (show False by revert h13; decide).elim) (fun h13 => ?_)
        refine lv_aload_n hx hb d_Rv_branch_159 rfl (lv_at hl 3 rfl) ?_
        refine lv_aload_n hx hb d_Rv_branch_160 rfl (lv_at hl 3 rfl) ?_
        refine zget hE hK hP 0 rfl fd_Rv_65 rfl d_Rv_branch_161 ?_
        refine lv_iload_n hx hb d_Rv_branch_164 rfl (lv_at hl 4 rfl) ?_
        refine zgoi (wr := [(x, .inr (0, [.ref wa, .int wc, .ref ra, .ref ma, .ref ua, .ref oa, .int ph, .int dn, .int nx, .int fo])), (ra, .inl (cI, 32, .inl (rg)))]) (zrunS (n := 1) (As := [.int w]) (rest := [.int nx, .ref x]) hE (c_Rv_branchOffset l D _ _ w) cb_Rv_branchOffset lk_Rv_167 st_Rv_branchOffset (zpreS hK hP hD [] rfl rfl rfl) ⟨Nat.le_of_ble_eq_true rfl, Nat.le_of_ble_eq_true rfl, Nat.le_of_ble_eq_true rfl, Nat.le_of_ble_eq_true rfl⟩ rfl hl.1 rfl (Nat.le_of_ble_eq_true rfl) d_Rv_branch_165) hP hD hS hA [] [0, 1] rfl rfl rfl (by decide) (fun r u H locs hq14 hP hD hS => ?_)
        subst hq14
        have hP : va_P D zC [(x, .inr (0, [.ref wa, .int wc, .ref ra, .ref ma, .ref ua, .ref oa, .int ph, .int dn, .int nx, .int fo])), (ra, .inl (cI, 32, .inl (rg)))] H := hP
        have hD : va_D A [(x, .inr (0, [.ref wa, .int wc, .ref ra, .ref ma, .ref ua, .ref oa, .int ph, .int dn, .int nx, .int fo])), (ra, .inl (cI, 32, .inl (rg)))] := hD
        refine lv_iadd hx hb d_Rv_branch_168 ?_
        refine zgoi (wr := [(ra, .inl (cI, 32, .inl (rg)))]) (zrunV (n := 1) (As := [.int (nx + (sp_Rv_branchOffset w))]) (rest := []) hE (c_Rv_goTo l D cI cB cJ _ (nx + (sp_Rv_branchOffset w)) x wa wc ra ma ua oa ph dn nx fo) cb_Rv_goTo lk_Rv_155 in_Rv_goTo se_Rv_goTo (zpreV (q0 := 0) hK hP hD rfl rfl rfl [0] rfl rfl rfl) ⟨Nat.le_of_ble_eq_true rfl, Nat.le_of_ble_eq_true rfl, Nat.le_of_ble_eq_true rfl, Nat.le_of_ble_eq_true rfl⟩ rfl hl.1 rfl (Nat.le_of_ble_eq_true rfl) d_Rv_branch_169) hP hD hS hA [0] [1] rfl rfl rfl (by decide) (fun r u H locs hq15 hP hD hS => ?_)
        subst hq15
        have hP : va_P D zC [(ra, .inl (cI, 32, .inl (rg))), (x, .inr (0, [.ref wa, .int wc, .ref ra, .ref ma, .ref ua, .ref oa, .int ph, .int dn, .int nx, .int ((sp_Rv_goTo (nx + (sp_Rv_branchOffset w)) fo).2)]))] H := hP
        have hD : va_D A [(ra, .inl (cI, 32, .inl (rg))), (x, .inr (0, [.ref wa, .int wc, .ref ra, .ref ma, .ref ua, .ref oa, .int ph, .int dn, .int nx, .int ((sp_Rv_goTo (nx + (sp_Rv_branchOffset w)) fo).2)]))] := hD
        refine lv_goto (tgt := 176) hx hb d_Rv_branch_172 (by decide) ?_
        have hs : (sp_Rv_branch w nx fo rg) = ((sp_Rv_goTo (nx + (sp_Rv_branchOffset w)) fo).1, (sp_Rv_goTo (nx + (sp_Rv_branchOffset w)) fo).2) := by rw [sp_Rv_branch, if_neg h4, if_pos h10, if_neg h11]
        have hP9 := hP.sub (ws' := [(x, .inr (0, [.ref wa, .int wc, .ref ra, .ref ma, .ref ua, .ref oa, .int ph, .int dn, .int nx, .int ((sp_Rv_goTo (nx + (sp_Rv_branchOffset w)) fo).2)])), (ra, .inl (cI, 32, .inl (rg)))]) [1, 0] rfl
        have hD9 := hD.sub (ws' := [(x, .inr (0, [.ref wa, .int wc, .ref ra, .ref ma, .ref ua, .ref oa, .int ph, .int dn, .int nx, .int ((sp_Rv_goTo (nx + (sp_Rv_branchOffset w)) fo).2)])), (ra, .inl (cI, 32, .inl (rg)))]) [1, 0] rfl rfl
        exact zreti hx hb hr rfl hlocks hS () (by rw [hs]) rfl (by rw [hs]; exact hP9) (by rw [hs]; exact hD9) d_Rv_branch_176
    · rcases Decidable.em ((sp_Rv_middle w) = 2) with h16 | h16
      · refine lv_tableIn (tgt := 152) hx hb d_Rv_branch_16 (by rw [h16]; decide) (by rw [h16]; decide) (by rw [h16]; rfl) (by decide) ?_
        refine lv_iconst (v := 1) hx hb d_Rv_branch_152 (by decide) ?_
        have hs : (sp_Rv_branch w nx fo rg) = (1, fo) := by rw [sp_Rv_branch, if_neg h4, if_neg h10, if_pos h16]
        have hP9 := hP.sub (ws' := [(x, .inr (0, [.ref wa, .int wc, .ref ra, .ref ma, .ref ua, .ref oa, .int ph, .int dn, .int nx, .int fo])), (ra, .inl (cI, 32, .inl (rg)))]) [0, 1] rfl
        have hD9 := hD.sub (ws' := [(x, .inr (0, [.ref wa, .int wc, .ref ra, .ref ma, .ref ua, .ref oa, .int ph, .int dn, .int nx, .int fo])), (ra, .inl (cI, 32, .inl (rg)))]) [0, 1] rfl rfl
        exact zreti hx hb hr rfl hlocks hS () (by rw [hs]) rfl (by rw [hs]; exact hP9) (by rw [hs]; exact hD9) d_Rv_branch_153
      · rcases Decidable.em ((sp_Rv_middle w) = 3) with h17 | h17
        · refine lv_tableIn (tgt := 152) hx hb d_Rv_branch_16 (by rw [h17]; decide) (by rw [h17]; decide) (by rw [h17]; rfl) (by decide) ?_
          refine lv_iconst (v := 1) hx hb d_Rv_branch_152 (by decide) ?_
          have hs : (sp_Rv_branch w nx fo rg) = (1, fo) := by rw [sp_Rv_branch, if_neg h4, if_neg h10, if_neg h16, if_pos h17]
          have hP9 := hP.sub (ws' := [(x, .inr (0, [.ref wa, .int wc, .ref ra, .ref ma, .ref ua, .ref oa, .int ph, .int dn, .int nx, .int fo])), (ra, .inl (cI, 32, .inl (rg)))]) [0, 1] rfl
          have hD9 := hD.sub (ws' := [(x, .inr (0, [.ref wa, .int wc, .ref ra, .ref ma, .ref ua, .ref oa, .int ph, .int dn, .int nx, .int fo])), (ra, .inl (cI, 32, .inl (rg)))]) [0, 1] rfl rfl
          exact zreti hx hb hr rfl hlocks hS () (by rw [hs]) rfl (by rw [hs]; exact hP9) (by rw [hs]; exact hD9) d_Rv_branch_153
        · rcases Decidable.em ((sp_Rv_middle w) = 4) with h18 | h18
          · refine lv_tableIn (tgt := 94) hx hb d_Rv_branch_16 (by rw [h18]; decide) (by rw [h18]; decide) (by rw [h18]; rfl) (by decide) ?_
            refine lv_iload_n hx hb d_Rv_branch_94 rfl (lv_at hl 1 rfl) ?_
            refine lv_iload_n hx hb d_Rv_branch_95 rfl (lv_at hl 0 rfl) ?_
            refine lv_icmp_ge (tgt := 103) hx hb d_Rv_branch_96 (by decide) (fun h19 => ?_) (fun h19 => ?_)
            · refine lv_iconst (v := 0) hx hb d_Rv_branch_103 (by decide) ?_
              refine lv_istore (lv' := [(4, .int 0), (3, .int ((sp_Rv_secondOperand w rg))), (2, .int ((sp_Rv_firstOperand w rg))), (0, .ref x), (1, .int w)]) hx hb d_Rv_branch_104 hl (by decide) rfl (fun ls hl => ?_)
              refine lv_goto (tgt := 154) hx hb d_Rv_branch_106 (by decide) ?_
              refine lv_iload hx hb d_Rv_branch_154 (lv_at hl 0 rfl) ?_
              refine lv_if_eq (tgt := 175) hx hb d_Rv_branch_156 (by decide) (fun h20 => ?_) (fun h20 => (show False by revert h20; decide).elim)
              refine lv_iconst (v := 0) hx hb d_Rv_branch_175 (by decide) ?_
              have hs : (sp_Rv_branch w nx fo rg) = (0, fo) := by rw [sp_Rv_branch, if_neg h4, if_neg h10, if_neg h16, if_neg h17, if_pos h18, if_pos h19]
              have hP9 := hP.sub (ws' := [(x, .inr (0, [.ref wa, .int wc, .ref ra, .ref ma, .ref ua, .ref oa, .int ph, .int dn, .int nx, .int fo])), (ra, .inl (cI, 32, .inl (rg)))]) [0, 1] rfl
              have hD9 := hD.sub (ws' := [(x, .inr (0, [.ref wa, .int wc, .ref ra, .ref ma, .ref ua, .ref oa, .int ph, .int dn, .int nx, .int fo])), (ra, .inl (cI, 32, .inl (rg)))]) [0, 1] rfl rfl
              exact zreti hx hb hr rfl hlocks hS () (by rw [hs]) rfl (by rw [hs]; exact hP9) (by rw [hs]; exact hD9) d_Rv_branch_176
            · refine lv_iconst (v := 1) hx hb d_Rv_branch_99 (by decide) ?_
              refine lv_goto (tgt := 104) hx hb d_Rv_branch_100 (by decide) ?_
              refine lv_istore (lv' := [(4, .int 1), (3, .int ((sp_Rv_secondOperand w rg))), (2, .int ((sp_Rv_firstOperand w rg))), (0, .ref x), (1, .int w)]) hx hb d_Rv_branch_104 hl (by decide) rfl (fun ls hl => ?_)
              refine lv_goto (tgt := 154) hx hb d_Rv_branch_106 (by decide) ?_
              refine lv_iload hx hb d_Rv_branch_154 (lv_at hl 0 rfl) ?_
              refine lv_if_eq (tgt := 175) hx hb d_Rv_branch_156 (by decide) (fun h21 => (show False by revert h21; decide).elim) (fun h21 => ?_)
              refine lv_aload_n hx hb d_Rv_branch_159 rfl (lv_at hl 3 rfl) ?_
              refine lv_aload_n hx hb d_Rv_branch_160 rfl (lv_at hl 3 rfl) ?_
              refine zget hE hK hP 0 rfl fd_Rv_65 rfl d_Rv_branch_161 ?_
              refine lv_iload_n hx hb d_Rv_branch_164 rfl (lv_at hl 4 rfl) ?_
              refine zgoi (wr := [(x, .inr (0, [.ref wa, .int wc, .ref ra, .ref ma, .ref ua, .ref oa, .int ph, .int dn, .int nx, .int fo])), (ra, .inl (cI, 32, .inl (rg)))]) (zrunS (n := 1) (As := [.int w]) (rest := [.int nx, .ref x]) hE (c_Rv_branchOffset l D _ _ w) cb_Rv_branchOffset lk_Rv_167 st_Rv_branchOffset (zpreS hK hP hD [] rfl rfl rfl) ⟨Nat.le_of_ble_eq_true rfl, Nat.le_of_ble_eq_true rfl, Nat.le_of_ble_eq_true rfl, Nat.le_of_ble_eq_true rfl⟩ rfl hl.1 rfl (Nat.le_of_ble_eq_true rfl) d_Rv_branch_165) hP hD hS hA [] [0, 1] rfl rfl rfl (by decide) (fun r u H locs hq22 hP hD hS => ?_)
              subst hq22
              have hP : va_P D zC [(x, .inr (0, [.ref wa, .int wc, .ref ra, .ref ma, .ref ua, .ref oa, .int ph, .int dn, .int nx, .int fo])), (ra, .inl (cI, 32, .inl (rg)))] H := hP
              have hD : va_D A [(x, .inr (0, [.ref wa, .int wc, .ref ra, .ref ma, .ref ua, .ref oa, .int ph, .int dn, .int nx, .int fo])), (ra, .inl (cI, 32, .inl (rg)))] := hD
              refine lv_iadd hx hb d_Rv_branch_168 ?_
              refine zgoi (wr := [(ra, .inl (cI, 32, .inl (rg)))]) (zrunV (n := 1) (As := [.int (nx + (sp_Rv_branchOffset w))]) (rest := []) hE (c_Rv_goTo l D cI cB cJ _ (nx + (sp_Rv_branchOffset w)) x wa wc ra ma ua oa ph dn nx fo) cb_Rv_goTo lk_Rv_155 in_Rv_goTo se_Rv_goTo (zpreV (q0 := 0) hK hP hD rfl rfl rfl [0] rfl rfl rfl) ⟨Nat.le_of_ble_eq_true rfl, Nat.le_of_ble_eq_true rfl, Nat.le_of_ble_eq_true rfl, Nat.le_of_ble_eq_true rfl⟩ rfl hl.1 rfl (Nat.le_of_ble_eq_true rfl) d_Rv_branch_169) hP hD hS hA [0] [1] rfl rfl rfl (by decide) (fun r u H locs hq23 hP hD hS => ?_)
              subst hq23
              have hP : va_P D zC [(ra, .inl (cI, 32, .inl (rg))), (x, .inr (0, [.ref wa, .int wc, .ref ra, .ref ma, .ref ua, .ref oa, .int ph, .int dn, .int nx, .int ((sp_Rv_goTo (nx + (sp_Rv_branchOffset w)) fo).2)]))] H := hP
              have hD : va_D A [(ra, .inl (cI, 32, .inl (rg))), (x, .inr (0, [.ref wa, .int wc, .ref ra, .ref ma, .ref ua, .ref oa, .int ph, .int dn, .int nx, .int ((sp_Rv_goTo (nx + (sp_Rv_branchOffset w)) fo).2)]))] := hD
              refine lv_goto (tgt := 176) hx hb d_Rv_branch_172 (by decide) ?_
              have hs : (sp_Rv_branch w nx fo rg) = ((sp_Rv_goTo (nx + (sp_Rv_branchOffset w)) fo).1, (sp_Rv_goTo (nx + (sp_Rv_branchOffset w)) fo).2) := by rw [sp_Rv_branch, if_neg h4, if_neg h10, if_neg h16, if_neg h17, if_pos h18, if_neg h19]
              have hP9 := hP.sub (ws' := [(x, .inr (0, [.ref wa, .int wc, .ref ra, .ref ma, .ref ua, .ref oa, .int ph, .int dn, .int nx, .int ((sp_Rv_goTo (nx + (sp_Rv_branchOffset w)) fo).2)])), (ra, .inl (cI, 32, .inl (rg)))]) [1, 0] rfl
              have hD9 := hD.sub (ws' := [(x, .inr (0, [.ref wa, .int wc, .ref ra, .ref ma, .ref ua, .ref oa, .int ph, .int dn, .int nx, .int ((sp_Rv_goTo (nx + (sp_Rv_branchOffset w)) fo).2)])), (ra, .inl (cI, 32, .inl (rg)))]) [1, 0] rfl rfl
              exact zreti hx hb hr rfl hlocks hS () (by rw [hs]) rfl (by rw [hs]; exact hP9) (by rw [hs]; exact hD9) d_Rv_branch_176
          · rcases Decidable.em ((sp_Rv_middle w) = 5) with h24 | h24
            · refine lv_tableIn (tgt := 109) hx hb d_Rv_branch_16 (by rw [h24]; decide) (by rw [h24]; decide) (by rw [h24]; rfl) (by decide) ?_
              refine lv_iload_n hx hb d_Rv_branch_109 rfl (lv_at hl 1 rfl) ?_
              refine lv_iload_n hx hb d_Rv_branch_110 rfl (lv_at hl 0 rfl) ?_
              refine lv_icmp_lt (tgt := 118) hx hb d_Rv_branch_111 (by decide) (fun h25 => ?_) (fun h25 => ?_)
              · refine lv_iconst (v := 0) hx hb d_Rv_branch_118 (by decide) ?_
                refine lv_istore (lv' := [(4, .int 0), (3, .int ((sp_Rv_secondOperand w rg))), (2, .int ((sp_Rv_firstOperand w rg))), (0, .ref x), (1, .int w)]) hx hb d_Rv_branch_119 hl (by decide) rfl (fun ls hl => ?_)
                refine lv_goto (tgt := 154) hx hb d_Rv_branch_121 (by decide) ?_
                refine lv_iload hx hb d_Rv_branch_154 (lv_at hl 0 rfl) ?_
                refine lv_if_eq (tgt := 175) hx hb d_Rv_branch_156 (by decide) (fun h26 => ?_) (fun h26 => (show False by revert h26; decide).elim)
                refine lv_iconst (v := 0) hx hb d_Rv_branch_175 (by decide) ?_
                have hs : (sp_Rv_branch w nx fo rg) = (0, fo) := by rw [sp_Rv_branch, if_neg h4, if_neg h10, if_neg h16, if_neg h17, if_neg h18, if_pos h24, if_pos h25]
                have hP9 := hP.sub (ws' := [(x, .inr (0, [.ref wa, .int wc, .ref ra, .ref ma, .ref ua, .ref oa, .int ph, .int dn, .int nx, .int fo])), (ra, .inl (cI, 32, .inl (rg)))]) [0, 1] rfl
                have hD9 := hD.sub (ws' := [(x, .inr (0, [.ref wa, .int wc, .ref ra, .ref ma, .ref ua, .ref oa, .int ph, .int dn, .int nx, .int fo])), (ra, .inl (cI, 32, .inl (rg)))]) [0, 1] rfl rfl
                exact zreti hx hb hr rfl hlocks hS () (by rw [hs]) rfl (by rw [hs]; exact hP9) (by rw [hs]; exact hD9) d_Rv_branch_176
              · refine lv_iconst (v := 1) hx hb d_Rv_branch_114 (by decide) ?_
                refine lv_goto (tgt := 119) hx hb d_Rv_branch_115 (by decide) ?_
                refine lv_istore (lv' := [(4, .int 1), (3, .int ((sp_Rv_secondOperand w rg))), (2, .int ((sp_Rv_firstOperand w rg))), (0, .ref x), (1, .int w)]) hx hb d_Rv_branch_119 hl (by decide) rfl (fun ls hl => ?_)
                refine lv_goto (tgt := 154) hx hb d_Rv_branch_121 (by decide) ?_
                refine lv_iload hx hb d_Rv_branch_154 (lv_at hl 0 rfl) ?_
                refine lv_if_eq (tgt := 175) hx hb d_Rv_branch_156 (by decide) (fun h27 => (show False by revert h27; decide).elim) (fun h27 => ?_)
                refine lv_aload_n hx hb d_Rv_branch_159 rfl (lv_at hl 3 rfl) ?_
                refine lv_aload_n hx hb d_Rv_branch_160 rfl (lv_at hl 3 rfl) ?_
                refine zget hE hK hP 0 rfl fd_Rv_65 rfl d_Rv_branch_161 ?_
                refine lv_iload_n hx hb d_Rv_branch_164 rfl (lv_at hl 4 rfl) ?_
                refine zgoi (wr := [(x, .inr (0, [.ref wa, .int wc, .ref ra, .ref ma, .ref ua, .ref oa, .int ph, .int dn, .int nx, .int fo])), (ra, .inl (cI, 32, .inl (rg)))]) (zrunS (n := 1) (As := [.int w]) (rest := [.int nx, .ref x]) hE (c_Rv_branchOffset l D _ _ w) cb_Rv_branchOffset lk_Rv_167 st_Rv_branchOffset (zpreS hK hP hD [] rfl rfl rfl) ⟨Nat.le_of_ble_eq_true rfl, Nat.le_of_ble_eq_true rfl, Nat.le_of_ble_eq_true rfl, Nat.le_of_ble_eq_true rfl⟩ rfl hl.1 rfl (Nat.le_of_ble_eq_true rfl) d_Rv_branch_165) hP hD hS hA [] [0, 1] rfl rfl rfl (by decide) (fun r u H locs hq28 hP hD hS => ?_)
                subst hq28
                have hP : va_P D zC [(x, .inr (0, [.ref wa, .int wc, .ref ra, .ref ma, .ref ua, .ref oa, .int ph, .int dn, .int nx, .int fo])), (ra, .inl (cI, 32, .inl (rg)))] H := hP
                have hD : va_D A [(x, .inr (0, [.ref wa, .int wc, .ref ra, .ref ma, .ref ua, .ref oa, .int ph, .int dn, .int nx, .int fo])), (ra, .inl (cI, 32, .inl (rg)))] := hD
                refine lv_iadd hx hb d_Rv_branch_168 ?_
                refine zgoi (wr := [(ra, .inl (cI, 32, .inl (rg)))]) (zrunV (n := 1) (As := [.int (nx + (sp_Rv_branchOffset w))]) (rest := []) hE (c_Rv_goTo l D cI cB cJ _ (nx + (sp_Rv_branchOffset w)) x wa wc ra ma ua oa ph dn nx fo) cb_Rv_goTo lk_Rv_155 in_Rv_goTo se_Rv_goTo (zpreV (q0 := 0) hK hP hD rfl rfl rfl [0] rfl rfl rfl) ⟨Nat.le_of_ble_eq_true rfl, Nat.le_of_ble_eq_true rfl, Nat.le_of_ble_eq_true rfl, Nat.le_of_ble_eq_true rfl⟩ rfl hl.1 rfl (Nat.le_of_ble_eq_true rfl) d_Rv_branch_169) hP hD hS hA [0] [1] rfl rfl rfl (by decide) (fun r u H locs hq29 hP hD hS => ?_)
                subst hq29
                have hP : va_P D zC [(ra, .inl (cI, 32, .inl (rg))), (x, .inr (0, [.ref wa, .int wc, .ref ra, .ref ma, .ref ua, .ref oa, .int ph, .int dn, .int nx, .int ((sp_Rv_goTo (nx + (sp_Rv_branchOffset w)) fo).2)]))] H := hP
                have hD : va_D A [(ra, .inl (cI, 32, .inl (rg))), (x, .inr (0, [.ref wa, .int wc, .ref ra, .ref ma, .ref ua, .ref oa, .int ph, .int dn, .int nx, .int ((sp_Rv_goTo (nx + (sp_Rv_branchOffset w)) fo).2)]))] := hD
                refine lv_goto (tgt := 176) hx hb d_Rv_branch_172 (by decide) ?_
                have hs : (sp_Rv_branch w nx fo rg) = ((sp_Rv_goTo (nx + (sp_Rv_branchOffset w)) fo).1, (sp_Rv_goTo (nx + (sp_Rv_branchOffset w)) fo).2) := by rw [sp_Rv_branch, if_neg h4, if_neg h10, if_neg h16, if_neg h17, if_neg h18, if_pos h24, if_neg h25]
                have hP9 := hP.sub (ws' := [(x, .inr (0, [.ref wa, .int wc, .ref ra, .ref ma, .ref ua, .ref oa, .int ph, .int dn, .int nx, .int ((sp_Rv_goTo (nx + (sp_Rv_branchOffset w)) fo).2)])), (ra, .inl (cI, 32, .inl (rg)))]) [1, 0] rfl
                have hD9 := hD.sub (ws' := [(x, .inr (0, [.ref wa, .int wc, .ref ra, .ref ma, .ref ua, .ref oa, .int ph, .int dn, .int nx, .int ((sp_Rv_goTo (nx + (sp_Rv_branchOffset w)) fo).2)])), (ra, .inl (cI, 32, .inl (rg)))]) [1, 0] rfl rfl
                exact zreti hx hb hr rfl hlocks hS () (by rw [hs]) rfl (by rw [hs]; exact hP9) (by rw [hs]; exact hD9) d_Rv_branch_176
            · rcases Decidable.em ((sp_Rv_middle w) = 6) with h30 | h30
              · refine lv_tableIn (tgt := 124) hx hb d_Rv_branch_16 (by rw [h30]; decide) (by rw [h30]; decide) (by rw [h30]; rfl) (by decide) ?_
                refine lv_iload_n hx hb d_Rv_branch_124 rfl (lv_at hl 1 rfl) ?_
                refine lv_iload_n hx hb d_Rv_branch_125 rfl (lv_at hl 0 rfl) ?_
                refine zgoi (wr := [(x, .inr (0, [.ref wa, .int wc, .ref ra, .ref ma, .ref ua, .ref oa, .int ph, .int dn, .int nx, .int fo])), (ra, .inl (cI, 32, .inl (rg)))]) (zrunS (n := 2) (As := [.int ((sp_Rv_firstOperand w rg)), .int ((sp_Rv_secondOperand w rg))]) (rest := []) hE (c_Rv_isBelow l D _ _ (sp_Rv_firstOperand w rg) (sp_Rv_secondOperand w rg)) cb_Rv_isBelow lk_Rv_164 st_Rv_isBelow (zpreS hK hP hD [] rfl rfl rfl) ⟨Nat.le_of_ble_eq_true rfl, Nat.le_of_ble_eq_true rfl, Nat.le_of_ble_eq_true rfl, Nat.le_of_ble_eq_true rfl⟩ rfl hl.1 rfl (Nat.le_of_ble_eq_true rfl) d_Rv_branch_126) hP hD hS hA [] [0, 1] rfl rfl rfl (by decide) (fun r u H locs hq31 hP hD hS => ?_)
                subst hq31
                have hP : va_P D zC [(x, .inr (0, [.ref wa, .int wc, .ref ra, .ref ma, .ref ua, .ref oa, .int ph, .int dn, .int nx, .int fo])), (ra, .inl (cI, 32, .inl (rg)))] H := hP
                have hD : va_D A [(x, .inr (0, [.ref wa, .int wc, .ref ra, .ref ma, .ref ua, .ref oa, .int ph, .int dn, .int nx, .int fo])), (ra, .inl (cI, 32, .inl (rg)))] := hD
                refine lv_istore (lv' := [(4, .int (sp_Rv_isBelow (sp_Rv_firstOperand w rg) (sp_Rv_secondOperand w rg))), (3, .int ((sp_Rv_secondOperand w rg))), (2, .int ((sp_Rv_firstOperand w rg))), (0, .ref x), (1, .int w)]) hx hb d_Rv_branch_129 hl (by decide) rfl (fun ls hl => ?_)
                refine lv_goto (tgt := 154) hx hb d_Rv_branch_131 (by decide) ?_
                refine lv_iload hx hb d_Rv_branch_154 (lv_at hl 0 rfl) ?_
                refine lv_if_eq (tgt := 175) hx hb d_Rv_branch_156 (by decide) (fun h32 => ?_) (fun h32 => ?_)
                · refine lv_iconst (v := 0) hx hb d_Rv_branch_175 (by decide) ?_
                  have hs : (sp_Rv_branch w nx fo rg) = (0, fo) := by rw [sp_Rv_branch, if_neg h4, if_neg h10, if_neg h16, if_neg h17, if_neg h18, if_neg h24, if_pos h30, if_pos h32]
                  have hP9 := hP.sub (ws' := [(x, .inr (0, [.ref wa, .int wc, .ref ra, .ref ma, .ref ua, .ref oa, .int ph, .int dn, .int nx, .int fo])), (ra, .inl (cI, 32, .inl (rg)))]) [0, 1] rfl
                  have hD9 := hD.sub (ws' := [(x, .inr (0, [.ref wa, .int wc, .ref ra, .ref ma, .ref ua, .ref oa, .int ph, .int dn, .int nx, .int fo])), (ra, .inl (cI, 32, .inl (rg)))]) [0, 1] rfl rfl
                  exact zreti hx hb hr rfl hlocks hS () (by rw [hs]) rfl (by rw [hs]; exact hP9) (by rw [hs]; exact hD9) d_Rv_branch_176
                · refine lv_aload_n hx hb d_Rv_branch_159 rfl (lv_at hl 3 rfl) ?_
                  refine lv_aload_n hx hb d_Rv_branch_160 rfl (lv_at hl 3 rfl) ?_
                  refine zget hE hK hP 0 rfl fd_Rv_65 rfl d_Rv_branch_161 ?_
                  refine lv_iload_n hx hb d_Rv_branch_164 rfl (lv_at hl 4 rfl) ?_
                  refine zgoi (wr := [(x, .inr (0, [.ref wa, .int wc, .ref ra, .ref ma, .ref ua, .ref oa, .int ph, .int dn, .int nx, .int fo])), (ra, .inl (cI, 32, .inl (rg)))]) (zrunS (n := 1) (As := [.int w]) (rest := [.int nx, .ref x]) hE (c_Rv_branchOffset l D _ _ w) cb_Rv_branchOffset lk_Rv_167 st_Rv_branchOffset (zpreS hK hP hD [] rfl rfl rfl) ⟨Nat.le_of_ble_eq_true rfl, Nat.le_of_ble_eq_true rfl, Nat.le_of_ble_eq_true rfl, Nat.le_of_ble_eq_true rfl⟩ rfl hl.1 rfl (Nat.le_of_ble_eq_true rfl) d_Rv_branch_165) hP hD hS hA [] [0, 1] rfl rfl rfl (by decide) (fun r u H locs hq33 hP hD hS => ?_)
                  subst hq33
                  have hP : va_P D zC [(x, .inr (0, [.ref wa, .int wc, .ref ra, .ref ma, .ref ua, .ref oa, .int ph, .int dn, .int nx, .int fo])), (ra, .inl (cI, 32, .inl (rg)))] H := hP
                  have hD : va_D A [(x, .inr (0, [.ref wa, .int wc, .ref ra, .ref ma, .ref ua, .ref oa, .int ph, .int dn, .int nx, .int fo])), (ra, .inl (cI, 32, .inl (rg)))] := hD
                  refine lv_iadd hx hb d_Rv_branch_168 ?_
                  refine zgoi (wr := [(ra, .inl (cI, 32, .inl (rg)))]) (zrunV (n := 1) (As := [.int (nx + (sp_Rv_branchOffset w))]) (rest := []) hE (c_Rv_goTo l D cI cB cJ _ (nx + (sp_Rv_branchOffset w)) x wa wc ra ma ua oa ph dn nx fo) cb_Rv_goTo lk_Rv_155 in_Rv_goTo se_Rv_goTo (zpreV (q0 := 0) hK hP hD rfl rfl rfl [0] rfl rfl rfl) ⟨Nat.le_of_ble_eq_true rfl, Nat.le_of_ble_eq_true rfl, Nat.le_of_ble_eq_true rfl, Nat.le_of_ble_eq_true rfl⟩ rfl hl.1 rfl (Nat.le_of_ble_eq_true rfl) d_Rv_branch_169) hP hD hS hA [0] [1] rfl rfl rfl (by decide) (fun r u H locs hq34 hP hD hS => ?_)
                  subst hq34
                  have hP : va_P D zC [(ra, .inl (cI, 32, .inl (rg))), (x, .inr (0, [.ref wa, .int wc, .ref ra, .ref ma, .ref ua, .ref oa, .int ph, .int dn, .int nx, .int ((sp_Rv_goTo (nx + (sp_Rv_branchOffset w)) fo).2)]))] H := hP
                  have hD : va_D A [(ra, .inl (cI, 32, .inl (rg))), (x, .inr (0, [.ref wa, .int wc, .ref ra, .ref ma, .ref ua, .ref oa, .int ph, .int dn, .int nx, .int ((sp_Rv_goTo (nx + (sp_Rv_branchOffset w)) fo).2)]))] := hD
                  refine lv_goto (tgt := 176) hx hb d_Rv_branch_172 (by decide) ?_
                  have hs : (sp_Rv_branch w nx fo rg) = ((sp_Rv_goTo (nx + (sp_Rv_branchOffset w)) fo).1, (sp_Rv_goTo (nx + (sp_Rv_branchOffset w)) fo).2) := by rw [sp_Rv_branch, if_neg h4, if_neg h10, if_neg h16, if_neg h17, if_neg h18, if_neg h24, if_pos h30, if_neg h32]
                  have hP9 := hP.sub (ws' := [(x, .inr (0, [.ref wa, .int wc, .ref ra, .ref ma, .ref ua, .ref oa, .int ph, .int dn, .int nx, .int ((sp_Rv_goTo (nx + (sp_Rv_branchOffset w)) fo).2)])), (ra, .inl (cI, 32, .inl (rg)))]) [1, 0] rfl
                  have hD9 := hD.sub (ws' := [(x, .inr (0, [.ref wa, .int wc, .ref ra, .ref ma, .ref ua, .ref oa, .int ph, .int dn, .int nx, .int ((sp_Rv_goTo (nx + (sp_Rv_branchOffset w)) fo).2)])), (ra, .inl (cI, 32, .inl (rg)))]) [1, 0] rfl rfl
                  exact zreti hx hb hr rfl hlocks hS () (by rw [hs]) rfl (by rw [hs]; exact hP9) (by rw [hs]; exact hD9) d_Rv_branch_176
              · rcases Decidable.em ((sp_Rv_middle w) = 7) with h35 | h35
                · refine lv_tableIn (tgt := 134) hx hb d_Rv_branch_16 (by rw [h35]; decide) (by rw [h35]; decide) (by rw [h35]; rfl) (by decide) ?_
                  refine lv_iload_n hx hb d_Rv_branch_134 rfl (lv_at hl 1 rfl) ?_
                  refine lv_iload_n hx hb d_Rv_branch_135 rfl (lv_at hl 0 rfl) ?_
                  refine zgoi (wr := [(x, .inr (0, [.ref wa, .int wc, .ref ra, .ref ma, .ref ua, .ref oa, .int ph, .int dn, .int nx, .int fo])), (ra, .inl (cI, 32, .inl (rg)))]) (zrunS (n := 2) (As := [.int ((sp_Rv_firstOperand w rg)), .int ((sp_Rv_secondOperand w rg))]) (rest := []) hE (c_Rv_isBelow l D _ _ (sp_Rv_firstOperand w rg) (sp_Rv_secondOperand w rg)) cb_Rv_isBelow lk_Rv_164 st_Rv_isBelow (zpreS hK hP hD [] rfl rfl rfl) ⟨Nat.le_of_ble_eq_true rfl, Nat.le_of_ble_eq_true rfl, Nat.le_of_ble_eq_true rfl, Nat.le_of_ble_eq_true rfl⟩ rfl hl.1 rfl (Nat.le_of_ble_eq_true rfl) d_Rv_branch_136) hP hD hS hA [] [0, 1] rfl rfl rfl (by decide) (fun r u H locs hq36 hP hD hS => ?_)
                  subst hq36
                  have hP : va_P D zC [(x, .inr (0, [.ref wa, .int wc, .ref ra, .ref ma, .ref ua, .ref oa, .int ph, .int dn, .int nx, .int fo])), (ra, .inl (cI, 32, .inl (rg)))] H := hP
                  have hD : va_D A [(x, .inr (0, [.ref wa, .int wc, .ref ra, .ref ma, .ref ua, .ref oa, .int ph, .int dn, .int nx, .int fo])), (ra, .inl (cI, 32, .inl (rg)))] := hD
                  refine lv_if_ne (tgt := 146) hx hb d_Rv_branch_139 (by decide) (fun h37 => ?_) (fun h37 => ?_)
                  · refine lv_iconst (v := 0) hx hb d_Rv_branch_146 (by decide) ?_
                    refine lv_istore (lv' := [(4, .int 0), (3, .int ((sp_Rv_secondOperand w rg))), (2, .int ((sp_Rv_firstOperand w rg))), (0, .ref x), (1, .int w)]) hx hb d_Rv_branch_147 hl (by decide) rfl (fun ls hl => ?_)
                    refine lv_goto (tgt := 154) hx hb d_Rv_branch_149 (by decide) ?_
                    refine lv_iload hx hb d_Rv_branch_154 (lv_at hl 0 rfl) ?_
                    refine lv_if_eq (tgt := 175) hx hb d_Rv_branch_156 (by decide) (fun h38 => ?_) (fun h38 => (show False by revert h38; decide).elim)
                    refine lv_iconst (v := 0) hx hb d_Rv_branch_175 (by decide) ?_
                    have hs : (sp_Rv_branch w nx fo rg) = (0, fo) := by rw [sp_Rv_branch, if_neg h4, if_neg h10, if_neg h16, if_neg h17, if_neg h18, if_neg h24, if_neg h30, if_pos h35, if_neg h37]
                    have hP9 := hP.sub (ws' := [(x, .inr (0, [.ref wa, .int wc, .ref ra, .ref ma, .ref ua, .ref oa, .int ph, .int dn, .int nx, .int fo])), (ra, .inl (cI, 32, .inl (rg)))]) [0, 1] rfl
                    have hD9 := hD.sub (ws' := [(x, .inr (0, [.ref wa, .int wc, .ref ra, .ref ma, .ref ua, .ref oa, .int ph, .int dn, .int nx, .int fo])), (ra, .inl (cI, 32, .inl (rg)))]) [0, 1] rfl rfl
                    exact zreti hx hb hr rfl hlocks hS () (by rw [hs]) rfl (by rw [hs]; exact hP9) (by rw [hs]; exact hD9) d_Rv_branch_176
                  · refine lv_iconst (v := 1) hx hb d_Rv_branch_142 (by decide) ?_
                    refine lv_goto (tgt := 147) hx hb d_Rv_branch_143 (by decide) ?_
                    refine lv_istore (lv' := [(4, .int 1), (3, .int ((sp_Rv_secondOperand w rg))), (2, .int ((sp_Rv_firstOperand w rg))), (0, .ref x), (1, .int w)]) hx hb d_Rv_branch_147 hl (by decide) rfl (fun ls hl => ?_)
                    refine lv_goto (tgt := 154) hx hb d_Rv_branch_149 (by decide) ?_
                    refine lv_iload hx hb d_Rv_branch_154 (lv_at hl 0 rfl) ?_
                    refine lv_if_eq (tgt := 175) hx hb d_Rv_branch_156 (by decide) (fun h39 => (show False by revert h39; decide).elim) (fun h39 => ?_)
                    refine lv_aload_n hx hb d_Rv_branch_159 rfl (lv_at hl 3 rfl) ?_
                    refine lv_aload_n hx hb d_Rv_branch_160 rfl (lv_at hl 3 rfl) ?_
                    refine zget hE hK hP 0 rfl fd_Rv_65 rfl d_Rv_branch_161 ?_
                    refine lv_iload_n hx hb d_Rv_branch_164 rfl (lv_at hl 4 rfl) ?_
                    refine zgoi (wr := [(x, .inr (0, [.ref wa, .int wc, .ref ra, .ref ma, .ref ua, .ref oa, .int ph, .int dn, .int nx, .int fo])), (ra, .inl (cI, 32, .inl (rg)))]) (zrunS (n := 1) (As := [.int w]) (rest := [.int nx, .ref x]) hE (c_Rv_branchOffset l D _ _ w) cb_Rv_branchOffset lk_Rv_167 st_Rv_branchOffset (zpreS hK hP hD [] rfl rfl rfl) ⟨Nat.le_of_ble_eq_true rfl, Nat.le_of_ble_eq_true rfl, Nat.le_of_ble_eq_true rfl, Nat.le_of_ble_eq_true rfl⟩ rfl hl.1 rfl (Nat.le_of_ble_eq_true rfl) d_Rv_branch_165) hP hD hS hA [] [0, 1] rfl rfl rfl (by decide) (fun r u H locs hq40 hP hD hS => ?_)
                    subst hq40
                    have hP : va_P D zC [(x, .inr (0, [.ref wa, .int wc, .ref ra, .ref ma, .ref ua, .ref oa, .int ph, .int dn, .int nx, .int fo])), (ra, .inl (cI, 32, .inl (rg)))] H := hP
                    have hD : va_D A [(x, .inr (0, [.ref wa, .int wc, .ref ra, .ref ma, .ref ua, .ref oa, .int ph, .int dn, .int nx, .int fo])), (ra, .inl (cI, 32, .inl (rg)))] := hD
                    refine lv_iadd hx hb d_Rv_branch_168 ?_
                    refine zgoi (wr := [(ra, .inl (cI, 32, .inl (rg)))]) (zrunV (n := 1) (As := [.int (nx + (sp_Rv_branchOffset w))]) (rest := []) hE (c_Rv_goTo l D cI cB cJ _ (nx + (sp_Rv_branchOffset w)) x wa wc ra ma ua oa ph dn nx fo) cb_Rv_goTo lk_Rv_155 in_Rv_goTo se_Rv_goTo (zpreV (q0 := 0) hK hP hD rfl rfl rfl [0] rfl rfl rfl) ⟨Nat.le_of_ble_eq_true rfl, Nat.le_of_ble_eq_true rfl, Nat.le_of_ble_eq_true rfl, Nat.le_of_ble_eq_true rfl⟩ rfl hl.1 rfl (Nat.le_of_ble_eq_true rfl) d_Rv_branch_169) hP hD hS hA [0] [1] rfl rfl rfl (by decide) (fun r u H locs hq41 hP hD hS => ?_)
                    subst hq41
                    have hP : va_P D zC [(ra, .inl (cI, 32, .inl (rg))), (x, .inr (0, [.ref wa, .int wc, .ref ra, .ref ma, .ref ua, .ref oa, .int ph, .int dn, .int nx, .int ((sp_Rv_goTo (nx + (sp_Rv_branchOffset w)) fo).2)]))] H := hP
                    have hD : va_D A [(ra, .inl (cI, 32, .inl (rg))), (x, .inr (0, [.ref wa, .int wc, .ref ra, .ref ma, .ref ua, .ref oa, .int ph, .int dn, .int nx, .int ((sp_Rv_goTo (nx + (sp_Rv_branchOffset w)) fo).2)]))] := hD
                    refine lv_goto (tgt := 176) hx hb d_Rv_branch_172 (by decide) ?_
                    have hs : (sp_Rv_branch w nx fo rg) = ((sp_Rv_goTo (nx + (sp_Rv_branchOffset w)) fo).1, (sp_Rv_goTo (nx + (sp_Rv_branchOffset w)) fo).2) := by rw [sp_Rv_branch, if_neg h4, if_neg h10, if_neg h16, if_neg h17, if_neg h18, if_neg h24, if_neg h30, if_pos h35, if_pos h37]
                    have hP9 := hP.sub (ws' := [(x, .inr (0, [.ref wa, .int wc, .ref ra, .ref ma, .ref ua, .ref oa, .int ph, .int dn, .int nx, .int ((sp_Rv_goTo (nx + (sp_Rv_branchOffset w)) fo).2)])), (ra, .inl (cI, 32, .inl (rg)))]) [1, 0] rfl
                    have hD9 := hD.sub (ws' := [(x, .inr (0, [.ref wa, .int wc, .ref ra, .ref ma, .ref ua, .ref oa, .int ph, .int dn, .int nx, .int ((sp_Rv_goTo (nx + (sp_Rv_branchOffset w)) fo).2)])), (ra, .inl (cI, 32, .inl (rg)))]) [1, 0] rfl rfl
                    exact zreti hx hb hr rfl hlocks hS () (by rw [hs]) rfl (by rw [hs]; exact hP9) (by rw [hs]; exact hD9) d_Rv_branch_176
                · refine lv_tableOut (tgt := 152) hx hb d_Rv_branch_16 (by have q0 := z_ne h4 (n := 0) (by decide); have q1 := z_ne h10 (n := 1) (by decide); have q2 := z_ne h16 (n := 2) (by decide); have q3 := z_ne h17 (n := 3) (by decide); have q4 := z_ne h18 (n := 4) (by decide); have q5 := z_ne h24 (n := 5) (by decide); have q6 := z_ne h30 (n := 6) (by decide); have q7 := z_ne h35 (n := 7) (by decide); omega) (by decide) ?_
                  refine lv_iconst (v := 1) hx hb d_Rv_branch_152 (by decide) ?_
                  have hs : (sp_Rv_branch w nx fo rg) = (1, fo) := by rw [sp_Rv_branch, if_neg h4, if_neg h10, if_neg h16, if_neg h17, if_neg h18, if_neg h24, if_neg h30, if_neg h35]
                  have hP9 := hP.sub (ws' := [(x, .inr (0, [.ref wa, .int wc, .ref ra, .ref ma, .ref ua, .ref oa, .int ph, .int dn, .int nx, .int fo])), (ra, .inl (cI, 32, .inl (rg)))]) [0, 1] rfl
                  have hD9 := hD.sub (ws' := [(x, .inr (0, [.ref wa, .int wc, .ref ra, .ref ma, .ref ua, .ref oa, .int ph, .int dn, .int nx, .int fo])), (ra, .inl (cI, 32, .inl (rg)))]) [0, 1] rfl rfl
                  exact zreti hx hb hr rfl hlocks hS () (by rw [hs]) rfl (by rw [hs]; exact hP9) (by rw [hs]; exact hD9) d_Rv_branch_153

def sp_Rv_operateWithConstant (w : Int32) (rg : Nat → Int32) : Int32 × (Nat → Int32) := if (sp_Rv_middle w) = 1 then
  if (sp_Rv_top w) = 0 then ((sp_Rv_keep w (((sp_Rv_firstOperand w rg) : Int32) <<< ((((w : Int32) >>> ((20 : Int32) &&& 31)) &&& 31 : Int32) &&& 31)) rg).1, (sp_Rv_keep w (((sp_Rv_firstOperand w rg) : Int32) <<< ((((w : Int32) >>> ((20 : Int32) &&& 31)) &&& 31 : Int32) &&& 31)) rg).2) else (1, rg)
else if (sp_Rv_middle w) = 5 then
  if (sp_Rv_top w) = 32 then ((sp_Rv_keep w (((sp_Rv_firstOperand w rg) : Int32) >>> ((((w : Int32) >>> ((20 : Int32) &&& 31)) &&& 31 : Int32) &&& 31)) rg).1, (sp_Rv_keep w (((sp_Rv_firstOperand w rg) : Int32) >>> ((((w : Int32) >>> ((20 : Int32) &&& 31)) &&& 31 : Int32) &&& 31)) rg).2) else if (sp_Rv_top w) = 0 then ((sp_Rv_keep w (zushr (sp_Rv_firstOperand w rg) (((w : Int32) >>> ((20 : Int32) &&& 31)) &&& 31)) rg).1, (sp_Rv_keep w (zushr (sp_Rv_firstOperand w rg) (((w : Int32) >>> ((20 : Int32) &&& 31)) &&& 31)) rg).2) else (1, rg)
else ((sp_Rv_keep w (sp_Rv_plainResult (sp_Rv_middle w) (sp_Rv_firstOperand w rg) ((w : Int32) >>> ((20 : Int32) &&& 31))) rg).1, (sp_Rv_keep w (sp_Rv_plainResult (sp_Rv_middle w) (sp_Rv_firstOperand w rg) ((w : Int32) >>> ((20 : Int32) &&& 31))) rg).2)
set_option maxHeartbeats 4000000 in
theorem c_Rv_operateWithConstant (l : Launch) (D : va_G) (cI cB cJ : ClassId) (sz : Nat) (w : Int32) (x : Nat) (wa : Nat) (wc : Int32) (ra : Nat) (ma : Nat) (ua : Nat) (oa : Nat) (ph : Int32) (dn : Int32) (nx : Int32) (fo : Int32) (rg : Nat → Int32) : zMet l y_Rv_operateWithConstant (zWs y_Rv_operateWithConstant b_Rv_operateWithConstant 4 (some .int)) { frames := 3, cells := 0, slots := 0, locals := 63 } (zPc D (zT cI cB cJ) sz [(x, .inr (0, [.ref wa, .int wc, .ref ra, .ref ma, .ref ua, .ref oa, .int ph, .int dn, .int nx, .int fo])), (ra, .inl (cI, 32, .inl (rg)))] [.ref x, .int w]) (zQi D (va_A [(x, .inr (0, [.ref wa, .int wc, .ref ra, .ref ma, .ref ua, .ref oa, .int ph, .int dn, .int nx, .int fo])), (ra, .inl (cI, 32, .inl (rg)))] sz) (fun r (_ : Unit) => r = (sp_Rv_operateWithConstant w rg).1) (z0) (fun _ => [(x, .inr (0, [.ref wa, .int wc, .ref ra, .ref ma, .ref ua, .ref oa, .int ph, .int dn, .int nx, .int fo])), (ra, .inl (cI, 32, .inl ((sp_Rv_operateWithConstant w rg).2)))])) (va_A [(x, .inr (0, [.ref wa, .int wc, .ref ra, .ref ma, .ref ua, .ref oa, .int ph, .int dn, .int nx, .int fo])), (ra, .inl (cI, 32, .inl (rg)))] sz) := by
  refine zstart (Qc := fun A => zQi D A (fun r (_ : Unit) => r = (sp_Rv_operateWithConstant w rg).1) (z0) (fun _ => [(x, .inr (0, [.ref wa, .int wc, .ref ra, .ref ma, .ref ua, .ref oa, .int ph, .int dn, .int nx, .int fo])), (ra, .inl (cI, 32, .inl ((sp_Rv_operateWithConstant w rg).2)))])) (by decide) (Nat.le_of_ble_eq_true rfl) ?_
  intro p e s m below meth c ls A hE hr hlocks hin hsz hK hP hD hS hA hAe hl
  have hx := hE.1
  have hb := hE.2.1
  have hown := hE.2.2.2.1
  have hw := hE.2.2.2.2
  have hl : lv_has ls 4 [(0, .ref x), (1, .int w)] := hl
  refine lv_aload_n hx hb d_Rv_operateWithConstant_0 rfl (lv_at hl 0 rfl) ?_
  refine lv_iload_n hx hb d_Rv_operateWithConstant_1 rfl (lv_at hl 1 rfl) ?_
  refine zgoi (wr := []) (zrunV (n := 1) (As := [.int w]) (rest := []) hE (c_Rv_firstOperand l D cI cB cJ _ w x wa wc ra ma ua oa ph dn nx fo rg) cb_Rv_firstOperand lk_Rv_158 in_Rv_firstOperand se_Rv_firstOperand (zpreV (q0 := 0) hK hP hD rfl rfl rfl [0, 1] rfl rfl rfl) ⟨Nat.le_of_ble_eq_true rfl, Nat.le_of_ble_eq_true rfl, Nat.le_of_ble_eq_true rfl, Nat.le_of_ble_eq_true rfl⟩ rfl hl.1 rfl (Nat.le_of_ble_eq_true rfl) d_Rv_operateWithConstant_2) hP hD hS hA [0, 1] [] rfl rfl rfl (by decide) (fun r u H locs hq1 hP hD hS => ?_)
  subst hq1
  have hP : va_P D zC [(x, .inr (0, [.ref wa, .int wc, .ref ra, .ref ma, .ref ua, .ref oa, .int ph, .int dn, .int nx, .int fo])), (ra, .inl (cI, 32, .inl (rg)))] H := hP
  have hD : va_D A [(x, .inr (0, [.ref wa, .int wc, .ref ra, .ref ma, .ref ua, .ref oa, .int ph, .int dn, .int nx, .int fo])), (ra, .inl (cI, 32, .inl (rg)))] := hD
  refine lv_istore_n (lv' := [(2, .int ((sp_Rv_firstOperand w rg))), (0, .ref x), (1, .int w)]) hx hb d_Rv_operateWithConstant_5 rfl hl (by decide) rfl (fun ls hl => ?_)
  refine lv_iload_n hx hb d_Rv_operateWithConstant_6 rfl (lv_at hl 2 rfl) ?_
  refine lv_bipush (v := 20) hx hb d_Rv_operateWithConstant_7 (by decide) ?_
  refine lv_ishr hx hb d_Rv_operateWithConstant_9 ?_
  refine lv_istore_n (lv' := [(3, .int ((w : Int32) >>> ((20 : Int32) &&& 31))), (2, .int ((sp_Rv_firstOperand w rg))), (0, .ref x), (1, .int w)]) hx hb d_Rv_operateWithConstant_10 rfl hl (by decide) rfl (fun ls hl => ?_)
  refine lv_iload_n hx hb d_Rv_operateWithConstant_11 rfl (lv_at hl 3 rfl) ?_
  refine zgoi (wr := [(x, .inr (0, [.ref wa, .int wc, .ref ra, .ref ma, .ref ua, .ref oa, .int ph, .int dn, .int nx, .int fo])), (ra, .inl (cI, 32, .inl (rg)))]) (zrunS (n := 1) (As := [.int w]) (rest := []) hE (c_Rv_middle l D _ _ w) cb_Rv_middle lk_Rv_147 st_Rv_middle (zpreS hK hP hD [] rfl rfl rfl) ⟨Nat.le_of_ble_eq_true rfl, Nat.le_of_ble_eq_true rfl, Nat.le_of_ble_eq_true rfl, Nat.le_of_ble_eq_true rfl⟩ rfl hl.1 rfl (Nat.le_of_ble_eq_true rfl) d_Rv_operateWithConstant_12) hP hD hS hA [] [0, 1] rfl rfl rfl (by decide) (fun r u H locs hq2 hP hD hS => ?_)
  subst hq2
  have hP : va_P D zC [(x, .inr (0, [.ref wa, .int wc, .ref ra, .ref ma, .ref ua, .ref oa, .int ph, .int dn, .int nx, .int fo])), (ra, .inl (cI, 32, .inl (rg)))] H := hP
  have hD : va_D A [(x, .inr (0, [.ref wa, .int wc, .ref ra, .ref ma, .ref ua, .ref oa, .int ph, .int dn, .int nx, .int fo])), (ra, .inl (cI, 32, .inl (rg)))] := hD
  rcases Decidable.em ((sp_Rv_middle w) = 1) with h3 | h3
  · refine lv_lookup (tgt := 40) (off := 25) hx hb d_Rv_operateWithConstant_15 (by decide) (by rw [h3]; first | done | rfl) (by decide) ?_
    refine lv_iload_n hx hb d_Rv_operateWithConstant_40 rfl (lv_at hl 3 rfl) ?_
    refine zgoi (wr := [(x, .inr (0, [.ref wa, .int wc, .ref ra, .ref ma, .ref ua, .ref oa, .int ph, .int dn, .int nx, .int fo])), (ra, .inl (cI, 32, .inl (rg)))]) (zrunS (n := 1) (As := [.int w]) (rest := []) hE (c_Rv_top l D _ _ w) cb_Rv_top lk_Rv_180 st_Rv_top (zpreS hK hP hD [] rfl rfl rfl) ⟨Nat.le_of_ble_eq_true rfl, Nat.le_of_ble_eq_true rfl, Nat.le_of_ble_eq_true rfl, Nat.le_of_ble_eq_true rfl⟩ rfl hl.1 rfl (Nat.le_of_ble_eq_true rfl) d_Rv_operateWithConstant_41) hP hD hS hA [] [0, 1] rfl rfl rfl (by decide) (fun r u H locs hq4 hP hD hS => ?_)
    subst hq4
    have hP : va_P D zC [(x, .inr (0, [.ref wa, .int wc, .ref ra, .ref ma, .ref ua, .ref oa, .int ph, .int dn, .int nx, .int fo])), (ra, .inl (cI, 32, .inl (rg)))] H := hP
    have hD : va_D A [(x, .inr (0, [.ref wa, .int wc, .ref ra, .ref ma, .ref ua, .ref oa, .int ph, .int dn, .int nx, .int fo])), (ra, .inl (cI, 32, .inl (rg)))] := hD
    refine lv_if_ne (tgt := 61) hx hb d_Rv_operateWithConstant_44 (by decide) (fun h5 => ?_) (fun h5 => ?_)
    · refine lv_iconst (v := 1) hx hb d_Rv_operateWithConstant_61 (by decide) ?_
      have hs : (sp_Rv_operateWithConstant w rg) = (1, rg) := by rw [sp_Rv_operateWithConstant, if_pos h3, if_neg h5]
      have hP9 := hP.sub (ws' := [(x, .inr (0, [.ref wa, .int wc, .ref ra, .ref ma, .ref ua, .ref oa, .int ph, .int dn, .int nx, .int fo])), (ra, .inl (cI, 32, .inl (rg)))]) [0, 1] rfl
      have hD9 := hD.sub (ws' := [(x, .inr (0, [.ref wa, .int wc, .ref ra, .ref ma, .ref ua, .ref oa, .int ph, .int dn, .int nx, .int fo])), (ra, .inl (cI, 32, .inl (rg)))]) [0, 1] rfl rfl
      exact zreti hx hb hr rfl hlocks hS () (by rw [hs]) rfl (by rw [hs]; exact hP9) (by rw [hs]; exact hD9) d_Rv_operateWithConstant_62
    · refine lv_aload_n hx hb d_Rv_operateWithConstant_47 rfl (lv_at hl 2 rfl) ?_
      refine lv_iload_n hx hb d_Rv_operateWithConstant_48 rfl (lv_at hl 3 rfl) ?_
      refine lv_iload_n hx hb d_Rv_operateWithConstant_49 rfl (lv_at hl 1 rfl) ?_
      refine lv_iload_n hx hb d_Rv_operateWithConstant_50 rfl (lv_at hl 0 rfl) ?_
      refine lv_bipush (v := 31) hx hb d_Rv_operateWithConstant_51 (by decide) ?_
      refine lv_iand hx hb d_Rv_operateWithConstant_53 ?_
      refine lv_ishl hx hb d_Rv_operateWithConstant_54 ?_
      refine zgoi (wr := []) (zrunV (n := 2) (As := [.int w, .int (((sp_Rv_firstOperand w rg) : Int32) <<< ((((w : Int32) >>> ((20 : Int32) &&& 31)) &&& 31 : Int32) &&& 31))]) (rest := []) hE (c_Rv_keep l D cI cB cJ _ w (((sp_Rv_firstOperand w rg) : Int32) <<< ((((w : Int32) >>> ((20 : Int32) &&& 31)) &&& 31 : Int32) &&& 31)) x wa wc ra ma ua oa ph dn nx fo rg) cb_Rv_keep lk_Rv_120 in_Rv_keep se_Rv_keep (zpreV (q0 := 0) hK hP hD rfl rfl rfl [0, 1] rfl rfl rfl) ⟨Nat.le_of_ble_eq_true rfl, Nat.le_of_ble_eq_true rfl, Nat.le_of_ble_eq_true rfl, Nat.le_of_ble_eq_true rfl⟩ rfl hl.1 rfl (Nat.le_of_ble_eq_true rfl) d_Rv_operateWithConstant_55) hP hD hS hA [0, 1] [] rfl rfl rfl (by decide) (fun r u H locs hq6 hP hD hS => ?_)
      subst hq6
      have hP : va_P D zC [(x, .inr (0, [.ref wa, .int wc, .ref ra, .ref ma, .ref ua, .ref oa, .int ph, .int dn, .int nx, .int fo])), (ra, .inl (cI, 32, .inl ((sp_Rv_keep w (((sp_Rv_firstOperand w rg) : Int32) <<< ((((w : Int32) >>> ((20 : Int32) &&& 31)) &&& 31 : Int32) &&& 31)) rg).2)))] H := hP
      have hD : va_D A [(x, .inr (0, [.ref wa, .int wc, .ref ra, .ref ma, .ref ua, .ref oa, .int ph, .int dn, .int nx, .int fo])), (ra, .inl (cI, 32, .inl ((sp_Rv_keep w (((sp_Rv_firstOperand w rg) : Int32) <<< ((((w : Int32) >>> ((20 : Int32) &&& 31)) &&& 31 : Int32) &&& 31)) rg).2)))] := hD
      refine lv_goto (tgt := 62) hx hb d_Rv_operateWithConstant_58 (by decide) ?_
      have hs : (sp_Rv_operateWithConstant w rg) = ((sp_Rv_keep w (((sp_Rv_firstOperand w rg) : Int32) <<< ((((w : Int32) >>> ((20 : Int32) &&& 31)) &&& 31 : Int32) &&& 31)) rg).1, (sp_Rv_keep w (((sp_Rv_firstOperand w rg) : Int32) <<< ((((w : Int32) >>> ((20 : Int32) &&& 31)) &&& 31 : Int32) &&& 31)) rg).2) := by rw [sp_Rv_operateWithConstant, if_pos h3, if_pos h5]
      have hP9 := hP.sub (ws' := [(x, .inr (0, [.ref wa, .int wc, .ref ra, .ref ma, .ref ua, .ref oa, .int ph, .int dn, .int nx, .int fo])), (ra, .inl (cI, 32, .inl ((sp_Rv_keep w (((sp_Rv_firstOperand w rg) : Int32) <<< ((((w : Int32) >>> ((20 : Int32) &&& 31)) &&& 31 : Int32) &&& 31)) rg).2)))]) [0, 1] rfl
      have hD9 := hD.sub (ws' := [(x, .inr (0, [.ref wa, .int wc, .ref ra, .ref ma, .ref ua, .ref oa, .int ph, .int dn, .int nx, .int fo])), (ra, .inl (cI, 32, .inl ((sp_Rv_keep w (((sp_Rv_firstOperand w rg) : Int32) <<< ((((w : Int32) >>> ((20 : Int32) &&& 31)) &&& 31 : Int32) &&& 31)) rg).2)))]) [0, 1] rfl rfl
      exact zreti hx hb hr rfl hlocks hS () (by rw [hs]) rfl (by rw [hs]; exact hP9) (by rw [hs]; exact hD9) d_Rv_operateWithConstant_62
  · rcases Decidable.em ((sp_Rv_middle w) = 5) with h7 | h7
    · refine lv_lookup (tgt := 63) (off := 48) hx hb d_Rv_operateWithConstant_15 (by decide) (by rw [h7]; first | done | rfl) (by decide) ?_
      refine lv_iload_n hx hb d_Rv_operateWithConstant_63 rfl (lv_at hl 3 rfl) ?_
      refine zgoi (wr := [(x, .inr (0, [.ref wa, .int wc, .ref ra, .ref ma, .ref ua, .ref oa, .int ph, .int dn, .int nx, .int fo])), (ra, .inl (cI, 32, .inl (rg)))]) (zrunS (n := 1) (As := [.int w]) (rest := []) hE (c_Rv_top l D _ _ w) cb_Rv_top lk_Rv_180 st_Rv_top (zpreS hK hP hD [] rfl rfl rfl) ⟨Nat.le_of_ble_eq_true rfl, Nat.le_of_ble_eq_true rfl, Nat.le_of_ble_eq_true rfl, Nat.le_of_ble_eq_true rfl⟩ rfl hl.1 rfl (Nat.le_of_ble_eq_true rfl) d_Rv_operateWithConstant_64) hP hD hS hA [] [0, 1] rfl rfl rfl (by decide) (fun r u H locs hq8 hP hD hS => ?_)
      subst hq8
      have hP : va_P D zC [(x, .inr (0, [.ref wa, .int wc, .ref ra, .ref ma, .ref ua, .ref oa, .int ph, .int dn, .int nx, .int fo])), (ra, .inl (cI, 32, .inl (rg)))] H := hP
      have hD : va_D A [(x, .inr (0, [.ref wa, .int wc, .ref ra, .ref ma, .ref ua, .ref oa, .int ph, .int dn, .int nx, .int fo])), (ra, .inl (cI, 32, .inl (rg)))] := hD
      refine lv_bipush (v := 32) hx hb d_Rv_operateWithConstant_67 (by decide) ?_
      refine lv_icmp_ne (tgt := 84) hx hb d_Rv_operateWithConstant_69 (by decide) (fun h9 => ?_) (fun h9 => ?_)
      · refine lv_iload_n hx hb d_Rv_operateWithConstant_84 rfl (lv_at hl 3 rfl) ?_
        refine zgoi (wr := [(x, .inr (0, [.ref wa, .int wc, .ref ra, .ref ma, .ref ua, .ref oa, .int ph, .int dn, .int nx, .int fo])), (ra, .inl (cI, 32, .inl (rg)))]) (zrunS (n := 1) (As := [.int w]) (rest := []) hE (c_Rv_top l D _ _ w) cb_Rv_top lk_Rv_180 st_Rv_top (zpreS hK hP hD [] rfl rfl rfl) ⟨Nat.le_of_ble_eq_true rfl, Nat.le_of_ble_eq_true rfl, Nat.le_of_ble_eq_true rfl, Nat.le_of_ble_eq_true rfl⟩ rfl hl.1 rfl (Nat.le_of_ble_eq_true rfl) d_Rv_operateWithConstant_85) hP hD hS hA [] [0, 1] rfl rfl rfl (by decide) (fun r u H locs hq10 hP hD hS => ?_)
        subst hq10
        have hP : va_P D zC [(x, .inr (0, [.ref wa, .int wc, .ref ra, .ref ma, .ref ua, .ref oa, .int ph, .int dn, .int nx, .int fo])), (ra, .inl (cI, 32, .inl (rg)))] H := hP
        have hD : va_D A [(x, .inr (0, [.ref wa, .int wc, .ref ra, .ref ma, .ref ua, .ref oa, .int ph, .int dn, .int nx, .int fo])), (ra, .inl (cI, 32, .inl (rg)))] := hD
        refine lv_if_ne (tgt := 105) hx hb d_Rv_operateWithConstant_88 (by decide) (fun h11 => ?_) (fun h11 => ?_)
        · refine lv_iconst (v := 1) hx hb d_Rv_operateWithConstant_105 (by decide) ?_
          have hs : (sp_Rv_operateWithConstant w rg) = (1, rg) := by rw [sp_Rv_operateWithConstant, if_neg h3, if_pos h7, if_neg h9, if_neg h11]
          have hP9 := hP.sub (ws' := [(x, .inr (0, [.ref wa, .int wc, .ref ra, .ref ma, .ref ua, .ref oa, .int ph, .int dn, .int nx, .int fo])), (ra, .inl (cI, 32, .inl (rg)))]) [0, 1] rfl
          have hD9 := hD.sub (ws' := [(x, .inr (0, [.ref wa, .int wc, .ref ra, .ref ma, .ref ua, .ref oa, .int ph, .int dn, .int nx, .int fo])), (ra, .inl (cI, 32, .inl (rg)))]) [0, 1] rfl rfl
          exact zreti hx hb hr rfl hlocks hS () (by rw [hs]) rfl (by rw [hs]; exact hP9) (by rw [hs]; exact hD9) d_Rv_operateWithConstant_106
        · refine lv_aload_n hx hb d_Rv_operateWithConstant_91 rfl (lv_at hl 2 rfl) ?_
          refine lv_iload_n hx hb d_Rv_operateWithConstant_92 rfl (lv_at hl 3 rfl) ?_
          refine lv_iload_n hx hb d_Rv_operateWithConstant_93 rfl (lv_at hl 1 rfl) ?_
          refine lv_iload_n hx hb d_Rv_operateWithConstant_94 rfl (lv_at hl 0 rfl) ?_
          refine lv_bipush (v := 31) hx hb d_Rv_operateWithConstant_95 (by decide) ?_
          refine lv_iand hx hb d_Rv_operateWithConstant_97 ?_
          refine lv_iushr (v := zushr (sp_Rv_firstOperand w rg) (((w : Int32) >>> ((20 : Int32) &&& 31)) &&& 31)) hx hb d_Rv_operateWithConstant_98 rfl ?_
          refine zgoi (wr := []) (zrunV (n := 2) (As := [.int w, .int (zushr (sp_Rv_firstOperand w rg) (((w : Int32) >>> ((20 : Int32) &&& 31)) &&& 31))]) (rest := []) hE (c_Rv_keep l D cI cB cJ _ w (zushr (sp_Rv_firstOperand w rg) (((w : Int32) >>> ((20 : Int32) &&& 31)) &&& 31)) x wa wc ra ma ua oa ph dn nx fo rg) cb_Rv_keep lk_Rv_120 in_Rv_keep se_Rv_keep (zpreV (q0 := 0) hK hP hD rfl rfl rfl [0, 1] rfl rfl rfl) ⟨Nat.le_of_ble_eq_true rfl, Nat.le_of_ble_eq_true rfl, Nat.le_of_ble_eq_true rfl, Nat.le_of_ble_eq_true rfl⟩ rfl hl.1 rfl (Nat.le_of_ble_eq_true rfl) d_Rv_operateWithConstant_99) hP hD hS hA [0, 1] [] rfl rfl rfl (by decide) (fun r u H locs hq12 hP hD hS => ?_)
          subst hq12
          have hP : va_P D zC [(x, .inr (0, [.ref wa, .int wc, .ref ra, .ref ma, .ref ua, .ref oa, .int ph, .int dn, .int nx, .int fo])), (ra, .inl (cI, 32, .inl ((sp_Rv_keep w (zushr (sp_Rv_firstOperand w rg) (((w : Int32) >>> ((20 : Int32) &&& 31)) &&& 31)) rg).2)))] H := hP
          have hD : va_D A [(x, .inr (0, [.ref wa, .int wc, .ref ra, .ref ma, .ref ua, .ref oa, .int ph, .int dn, .int nx, .int fo])), (ra, .inl (cI, 32, .inl ((sp_Rv_keep w (zushr (sp_Rv_firstOperand w rg) (((w : Int32) >>> ((20 : Int32) &&& 31)) &&& 31)) rg).2)))] := hD
          refine lv_goto (tgt := 106) hx hb d_Rv_operateWithConstant_102 (by decide) ?_
          have hs : (sp_Rv_operateWithConstant w rg) = ((sp_Rv_keep w (zushr (sp_Rv_firstOperand w rg) (((w : Int32) >>> ((20 : Int32) &&& 31)) &&& 31)) rg).1, (sp_Rv_keep w (zushr (sp_Rv_firstOperand w rg) (((w : Int32) >>> ((20 : Int32) &&& 31)) &&& 31)) rg).2) := by rw [sp_Rv_operateWithConstant, if_neg h3, if_pos h7, if_neg h9, if_pos h11]
          have hP9 := hP.sub (ws' := [(x, .inr (0, [.ref wa, .int wc, .ref ra, .ref ma, .ref ua, .ref oa, .int ph, .int dn, .int nx, .int fo])), (ra, .inl (cI, 32, .inl ((sp_Rv_keep w (zushr (sp_Rv_firstOperand w rg) (((w : Int32) >>> ((20 : Int32) &&& 31)) &&& 31)) rg).2)))]) [0, 1] rfl
          have hD9 := hD.sub (ws' := [(x, .inr (0, [.ref wa, .int wc, .ref ra, .ref ma, .ref ua, .ref oa, .int ph, .int dn, .int nx, .int fo])), (ra, .inl (cI, 32, .inl ((sp_Rv_keep w (zushr (sp_Rv_firstOperand w rg) (((w : Int32) >>> ((20 : Int32) &&& 31)) &&& 31)) rg).2)))]) [0, 1] rfl rfl
          exact zreti hx hb hr rfl hlocks hS () (by rw [hs]) rfl (by rw [hs]; exact hP9) (by rw [hs]; exact hD9) d_Rv_operateWithConstant_106
      · refine lv_aload_n hx hb d_Rv_operateWithConstant_72 rfl (lv_at hl 2 rfl) ?_
        refine lv_iload_n hx hb d_Rv_operateWithConstant_73 rfl (lv_at hl 3 rfl) ?_
        refine lv_iload_n hx hb d_Rv_operateWithConstant_74 rfl (lv_at hl 1 rfl) ?_
        refine lv_iload_n hx hb d_Rv_operateWithConstant_75 rfl (lv_at hl 0 rfl) ?_
        refine lv_bipush (v := 31) hx hb d_Rv_operateWithConstant_76 (by decide) ?_
        refine lv_iand hx hb d_Rv_operateWithConstant_78 ?_
        refine lv_ishr hx hb d_Rv_operateWithConstant_79 ?_
        refine zgoi (wr := []) (zrunV (n := 2) (As := [.int w, .int (((sp_Rv_firstOperand w rg) : Int32) >>> ((((w : Int32) >>> ((20 : Int32) &&& 31)) &&& 31 : Int32) &&& 31))]) (rest := []) hE (c_Rv_keep l D cI cB cJ _ w (((sp_Rv_firstOperand w rg) : Int32) >>> ((((w : Int32) >>> ((20 : Int32) &&& 31)) &&& 31 : Int32) &&& 31)) x wa wc ra ma ua oa ph dn nx fo rg) cb_Rv_keep lk_Rv_120 in_Rv_keep se_Rv_keep (zpreV (q0 := 0) hK hP hD rfl rfl rfl [0, 1] rfl rfl rfl) ⟨Nat.le_of_ble_eq_true rfl, Nat.le_of_ble_eq_true rfl, Nat.le_of_ble_eq_true rfl, Nat.le_of_ble_eq_true rfl⟩ rfl hl.1 rfl (Nat.le_of_ble_eq_true rfl) d_Rv_operateWithConstant_80) hP hD hS hA [0, 1] [] rfl rfl rfl (by decide) (fun r u H locs hq13 hP hD hS => ?_)
        subst hq13
        have hP : va_P D zC [(x, .inr (0, [.ref wa, .int wc, .ref ra, .ref ma, .ref ua, .ref oa, .int ph, .int dn, .int nx, .int fo])), (ra, .inl (cI, 32, .inl ((sp_Rv_keep w (((sp_Rv_firstOperand w rg) : Int32) >>> ((((w : Int32) >>> ((20 : Int32) &&& 31)) &&& 31 : Int32) &&& 31)) rg).2)))] H := hP
        have hD : va_D A [(x, .inr (0, [.ref wa, .int wc, .ref ra, .ref ma, .ref ua, .ref oa, .int ph, .int dn, .int nx, .int fo])), (ra, .inl (cI, 32, .inl ((sp_Rv_keep w (((sp_Rv_firstOperand w rg) : Int32) >>> ((((w : Int32) >>> ((20 : Int32) &&& 31)) &&& 31 : Int32) &&& 31)) rg).2)))] := hD
        have hs : (sp_Rv_operateWithConstant w rg) = ((sp_Rv_keep w (((sp_Rv_firstOperand w rg) : Int32) >>> ((((w : Int32) >>> ((20 : Int32) &&& 31)) &&& 31 : Int32) &&& 31)) rg).1, (sp_Rv_keep w (((sp_Rv_firstOperand w rg) : Int32) >>> ((((w : Int32) >>> ((20 : Int32) &&& 31)) &&& 31 : Int32) &&& 31)) rg).2) := by rw [sp_Rv_operateWithConstant, if_neg h3, if_pos h7, if_pos h9]
        have hP9 := hP.sub (ws' := [(x, .inr (0, [.ref wa, .int wc, .ref ra, .ref ma, .ref ua, .ref oa, .int ph, .int dn, .int nx, .int fo])), (ra, .inl (cI, 32, .inl ((sp_Rv_keep w (((sp_Rv_firstOperand w rg) : Int32) >>> ((((w : Int32) >>> ((20 : Int32) &&& 31)) &&& 31 : Int32) &&& 31)) rg).2)))]) [0, 1] rfl
        have hD9 := hD.sub (ws' := [(x, .inr (0, [.ref wa, .int wc, .ref ra, .ref ma, .ref ua, .ref oa, .int ph, .int dn, .int nx, .int fo])), (ra, .inl (cI, 32, .inl ((sp_Rv_keep w (((sp_Rv_firstOperand w rg) : Int32) >>> ((((w : Int32) >>> ((20 : Int32) &&& 31)) &&& 31 : Int32) &&& 31)) rg).2)))]) [0, 1] rfl rfl
        exact zreti hx hb hr rfl hlocks hS () (by rw [hs]) rfl (by rw [hs]; exact hP9) (by rw [hs]; exact hD9) d_Rv_operateWithConstant_83
    · refine lv_lookup (tgt := 107) (off := 92) hx hb d_Rv_operateWithConstant_15 (by decide) (by rw [lv_osw h3 (show ((1 : Int32)).toInt = 1 from by decide), lv_osw h7 (show ((5 : Int32)).toInt = 5 from by decide)]; first | done | rfl) (by decide) ?_
      refine lv_aload_n hx hb d_Rv_operateWithConstant_107 rfl (lv_at hl 2 rfl) ?_
      refine lv_iload_n hx hb d_Rv_operateWithConstant_108 rfl (lv_at hl 3 rfl) ?_
      refine lv_iload_n hx hb d_Rv_operateWithConstant_109 rfl (lv_at hl 3 rfl) ?_
      refine zgoi (wr := [(x, .inr (0, [.ref wa, .int wc, .ref ra, .ref ma, .ref ua, .ref oa, .int ph, .int dn, .int nx, .int fo])), (ra, .inl (cI, 32, .inl (rg)))]) (zrunS (n := 1) (As := [.int w]) (rest := [.int w, .ref x]) hE (c_Rv_middle l D _ _ w) cb_Rv_middle lk_Rv_147 st_Rv_middle (zpreS hK hP hD [] rfl rfl rfl) ⟨Nat.le_of_ble_eq_true rfl, Nat.le_of_ble_eq_true rfl, Nat.le_of_ble_eq_true rfl, Nat.le_of_ble_eq_true rfl⟩ rfl hl.1 rfl (Nat.le_of_ble_eq_true rfl) d_Rv_operateWithConstant_110) hP hD hS hA [] [0, 1] rfl rfl rfl (by decide) (fun r u H locs hq14 hP hD hS => ?_)
      subst hq14
      have hP : va_P D zC [(x, .inr (0, [.ref wa, .int wc, .ref ra, .ref ma, .ref ua, .ref oa, .int ph, .int dn, .int nx, .int fo])), (ra, .inl (cI, 32, .inl (rg)))] H := hP
      have hD : va_D A [(x, .inr (0, [.ref wa, .int wc, .ref ra, .ref ma, .ref ua, .ref oa, .int ph, .int dn, .int nx, .int fo])), (ra, .inl (cI, 32, .inl (rg)))] := hD
      refine lv_iload_n hx hb d_Rv_operateWithConstant_113 rfl (lv_at hl 1 rfl) ?_
      refine lv_iload_n hx hb d_Rv_operateWithConstant_114 rfl (lv_at hl 0 rfl) ?_
      refine zgoi (wr := [(x, .inr (0, [.ref wa, .int wc, .ref ra, .ref ma, .ref ua, .ref oa, .int ph, .int dn, .int nx, .int fo])), (ra, .inl (cI, 32, .inl (rg)))]) (zrunS (n := 3) (As := [.int (sp_Rv_middle w), .int ((sp_Rv_firstOperand w rg)), .int ((w : Int32) >>> ((20 : Int32) &&& 31))]) (rest := [.int w, .ref x]) hE (c_Rv_plainResult l D _ _ (sp_Rv_middle w) (sp_Rv_firstOperand w rg) ((w : Int32) >>> ((20 : Int32) &&& 31))) cb_Rv_plainResult lk_Rv_183 st_Rv_plainResult (zpreS hK hP hD [] rfl rfl rfl) ⟨Nat.le_of_ble_eq_true rfl, Nat.le_of_ble_eq_true rfl, Nat.le_of_ble_eq_true rfl, Nat.le_of_ble_eq_true rfl⟩ rfl hl.1 rfl (Nat.le_of_ble_eq_true rfl) d_Rv_operateWithConstant_115) hP hD hS hA [] [0, 1] rfl rfl rfl (by decide) (fun r u H locs hq15 hP hD hS => ?_)
      subst hq15
      have hP : va_P D zC [(x, .inr (0, [.ref wa, .int wc, .ref ra, .ref ma, .ref ua, .ref oa, .int ph, .int dn, .int nx, .int fo])), (ra, .inl (cI, 32, .inl (rg)))] H := hP
      have hD : va_D A [(x, .inr (0, [.ref wa, .int wc, .ref ra, .ref ma, .ref ua, .ref oa, .int ph, .int dn, .int nx, .int fo])), (ra, .inl (cI, 32, .inl (rg)))] := hD
      refine zgoi (wr := []) (zrunV (n := 2) (As := [.int w, .int (sp_Rv_plainResult (sp_Rv_middle w) (sp_Rv_firstOperand w rg) ((w : Int32) >>> ((20 : Int32) &&& 31)))]) (rest := []) hE (c_Rv_keep l D cI cB cJ _ w (sp_Rv_plainResult (sp_Rv_middle w) (sp_Rv_firstOperand w rg) ((w : Int32) >>> ((20 : Int32) &&& 31))) x wa wc ra ma ua oa ph dn nx fo rg) cb_Rv_keep lk_Rv_120 in_Rv_keep se_Rv_keep (zpreV (q0 := 0) hK hP hD rfl rfl rfl [0, 1] rfl rfl rfl) ⟨Nat.le_of_ble_eq_true rfl, Nat.le_of_ble_eq_true rfl, Nat.le_of_ble_eq_true rfl, Nat.le_of_ble_eq_true rfl⟩ rfl hl.1 rfl (Nat.le_of_ble_eq_true rfl) d_Rv_operateWithConstant_118) hP hD hS hA [0, 1] [] rfl rfl rfl (by decide) (fun r u H locs hq16 hP hD hS => ?_)
      subst hq16
      have hP : va_P D zC [(x, .inr (0, [.ref wa, .int wc, .ref ra, .ref ma, .ref ua, .ref oa, .int ph, .int dn, .int nx, .int fo])), (ra, .inl (cI, 32, .inl ((sp_Rv_keep w (sp_Rv_plainResult (sp_Rv_middle w) (sp_Rv_firstOperand w rg) ((w : Int32) >>> ((20 : Int32) &&& 31))) rg).2)))] H := hP
      have hD : va_D A [(x, .inr (0, [.ref wa, .int wc, .ref ra, .ref ma, .ref ua, .ref oa, .int ph, .int dn, .int nx, .int fo])), (ra, .inl (cI, 32, .inl ((sp_Rv_keep w (sp_Rv_plainResult (sp_Rv_middle w) (sp_Rv_firstOperand w rg) ((w : Int32) >>> ((20 : Int32) &&& 31))) rg).2)))] := hD
      have hs : (sp_Rv_operateWithConstant w rg) = ((sp_Rv_keep w (sp_Rv_plainResult (sp_Rv_middle w) (sp_Rv_firstOperand w rg) ((w : Int32) >>> ((20 : Int32) &&& 31))) rg).1, (sp_Rv_keep w (sp_Rv_plainResult (sp_Rv_middle w) (sp_Rv_firstOperand w rg) ((w : Int32) >>> ((20 : Int32) &&& 31))) rg).2) := by rw [sp_Rv_operateWithConstant, if_neg h3, if_neg h7]
      have hP9 := hP.sub (ws' := [(x, .inr (0, [.ref wa, .int wc, .ref ra, .ref ma, .ref ua, .ref oa, .int ph, .int dn, .int nx, .int fo])), (ra, .inl (cI, 32, .inl ((sp_Rv_keep w (sp_Rv_plainResult (sp_Rv_middle w) (sp_Rv_firstOperand w rg) ((w : Int32) >>> ((20 : Int32) &&& 31))) rg).2)))]) [0, 1] rfl
      have hD9 := hD.sub (ws' := [(x, .inr (0, [.ref wa, .int wc, .ref ra, .ref ma, .ref ua, .ref oa, .int ph, .int dn, .int nx, .int fo])), (ra, .inl (cI, 32, .inl ((sp_Rv_keep w (sp_Rv_plainResult (sp_Rv_middle w) (sp_Rv_firstOperand w rg) ((w : Int32) >>> ((20 : Int32) &&& 31))) rg).2)))]) [0, 1] rfl rfl
      exact zreti hx hb hr rfl hlocks hS () (by rw [hs]) rfl (by rw [hs]; exact hP9) (by rw [hs]; exact hD9) d_Rv_operateWithConstant_121

def sp_Rv_operate (w : Int32) (rg : Nat → Int32) : Int32 × (Nat → Int32) := if (sp_Rv_top w) = 0 then ((sp_Rv_keep w (sp_Rv_plainResult (sp_Rv_middle w) (sp_Rv_firstOperand w rg) (sp_Rv_secondOperand w rg)) rg).1, (sp_Rv_keep w (sp_Rv_plainResult (sp_Rv_middle w) (sp_Rv_firstOperand w rg) (sp_Rv_secondOperand w rg)) rg).2) else if (sp_Rv_top w) = 1 then
  if 4 ≤ (sp_Rv_middle w) then ((sp_Rv_keep w (sp_Rv_quotient (sp_Rv_middle w) (sp_Rv_firstOperand w rg) (sp_Rv_secondOperand w rg)) rg).1, (sp_Rv_keep w (sp_Rv_quotient (sp_Rv_middle w) (sp_Rv_firstOperand w rg) (sp_Rv_secondOperand w rg)) rg).2) else ((sp_Rv_keep w (sp_Rv_product (sp_Rv_middle w) (sp_Rv_firstOperand w rg) (sp_Rv_secondOperand w rg)) rg).1, (sp_Rv_keep w (sp_Rv_product (sp_Rv_middle w) (sp_Rv_firstOperand w rg) (sp_Rv_secondOperand w rg)) rg).2)
else if (sp_Rv_top w) = 32 then
  if (sp_Rv_middle w) = 0 then ((sp_Rv_keep w ((sp_Rv_firstOperand w rg) - (sp_Rv_secondOperand w rg)) rg).1, (sp_Rv_keep w ((sp_Rv_firstOperand w rg) - (sp_Rv_secondOperand w rg)) rg).2) else if (sp_Rv_middle w) = 5 then ((sp_Rv_keep w (((sp_Rv_firstOperand w rg) : Int32) >>> (((sp_Rv_secondOperand w rg) &&& 31 : Int32) &&& 31)) rg).1, (sp_Rv_keep w (((sp_Rv_firstOperand w rg) : Int32) >>> (((sp_Rv_secondOperand w rg) &&& 31 : Int32) &&& 31)) rg).2) else (1, rg)
else (1, rg)
set_option maxHeartbeats 4000000 in
theorem c_Rv_operate (l : Launch) (D : va_G) (cI cB cJ : ClassId) (sz : Nat) (w : Int32) (x : Nat) (wa : Nat) (wc : Int32) (ra : Nat) (ma : Nat) (ua : Nat) (oa : Nat) (ph : Int32) (dn : Int32) (nx : Int32) (fo : Int32) (rg : Nat → Int32) : zMet l y_Rv_operate (zWs y_Rv_operate b_Rv_operate 5 (some .int)) { frames := 3, cells := 0, slots := 0, locals := 63 } (zPc D (zT cI cB cJ) sz [(x, .inr (0, [.ref wa, .int wc, .ref ra, .ref ma, .ref ua, .ref oa, .int ph, .int dn, .int nx, .int fo])), (ra, .inl (cI, 32, .inl (rg)))] [.ref x, .int w]) (zQi D (va_A [(x, .inr (0, [.ref wa, .int wc, .ref ra, .ref ma, .ref ua, .ref oa, .int ph, .int dn, .int nx, .int fo])), (ra, .inl (cI, 32, .inl (rg)))] sz) (fun r (_ : Unit) => r = (sp_Rv_operate w rg).1) (z0) (fun _ => [(x, .inr (0, [.ref wa, .int wc, .ref ra, .ref ma, .ref ua, .ref oa, .int ph, .int dn, .int nx, .int fo])), (ra, .inl (cI, 32, .inl ((sp_Rv_operate w rg).2)))])) (va_A [(x, .inr (0, [.ref wa, .int wc, .ref ra, .ref ma, .ref ua, .ref oa, .int ph, .int dn, .int nx, .int fo])), (ra, .inl (cI, 32, .inl (rg)))] sz) := by
  refine zstart (Qc := fun A => zQi D A (fun r (_ : Unit) => r = (sp_Rv_operate w rg).1) (z0) (fun _ => [(x, .inr (0, [.ref wa, .int wc, .ref ra, .ref ma, .ref ua, .ref oa, .int ph, .int dn, .int nx, .int fo])), (ra, .inl (cI, 32, .inl ((sp_Rv_operate w rg).2)))])) (by decide) (Nat.le_of_ble_eq_true rfl) ?_
  intro p e s m below meth c ls A hE hr hlocks hin hsz hK hP hD hS hA hAe hl
  have hx := hE.1
  have hb := hE.2.1
  have hown := hE.2.2.2.1
  have hw := hE.2.2.2.2
  have hl : lv_has ls 5 [(0, .ref x), (1, .int w)] := hl
  refine lv_aload_n hx hb d_Rv_operate_0 rfl (lv_at hl 0 rfl) ?_
  refine lv_iload_n hx hb d_Rv_operate_1 rfl (lv_at hl 1 rfl) ?_
  refine zgoi (wr := []) (zrunV (n := 1) (As := [.int w]) (rest := []) hE (c_Rv_firstOperand l D cI cB cJ _ w x wa wc ra ma ua oa ph dn nx fo rg) cb_Rv_firstOperand lk_Rv_158 in_Rv_firstOperand se_Rv_firstOperand (zpreV (q0 := 0) hK hP hD rfl rfl rfl [0, 1] rfl rfl rfl) ⟨Nat.le_of_ble_eq_true rfl, Nat.le_of_ble_eq_true rfl, Nat.le_of_ble_eq_true rfl, Nat.le_of_ble_eq_true rfl⟩ rfl hl.1 rfl (Nat.le_of_ble_eq_true rfl) d_Rv_operate_2) hP hD hS hA [0, 1] [] rfl rfl rfl (by decide) (fun r u H locs hq1 hP hD hS => ?_)
  subst hq1
  have hP : va_P D zC [(x, .inr (0, [.ref wa, .int wc, .ref ra, .ref ma, .ref ua, .ref oa, .int ph, .int dn, .int nx, .int fo])), (ra, .inl (cI, 32, .inl (rg)))] H := hP
  have hD : va_D A [(x, .inr (0, [.ref wa, .int wc, .ref ra, .ref ma, .ref ua, .ref oa, .int ph, .int dn, .int nx, .int fo])), (ra, .inl (cI, 32, .inl (rg)))] := hD
  refine lv_istore_n (lv' := [(2, .int ((sp_Rv_firstOperand w rg))), (0, .ref x), (1, .int w)]) hx hb d_Rv_operate_5 rfl hl (by decide) rfl (fun ls hl => ?_)
  refine lv_aload_n hx hb d_Rv_operate_6 rfl (lv_at hl 1 rfl) ?_
  refine lv_iload_n hx hb d_Rv_operate_7 rfl (lv_at hl 2 rfl) ?_
  refine zgoi (wr := []) (zrunV (n := 1) (As := [.int w]) (rest := []) hE (c_Rv_secondOperand l D cI cB cJ _ w x wa wc ra ma ua oa ph dn nx fo rg) cb_Rv_secondOperand lk_Rv_161 in_Rv_secondOperand se_Rv_secondOperand (zpreV (q0 := 0) hK hP hD rfl rfl rfl [0, 1] rfl rfl rfl) ⟨Nat.le_of_ble_eq_true rfl, Nat.le_of_ble_eq_true rfl, Nat.le_of_ble_eq_true rfl, Nat.le_of_ble_eq_true rfl⟩ rfl hl.1 rfl (Nat.le_of_ble_eq_true rfl) d_Rv_operate_8) hP hD hS hA [0, 1] [] rfl rfl rfl (by decide) (fun r u H locs hq2 hP hD hS => ?_)
  subst hq2
  have hP : va_P D zC [(x, .inr (0, [.ref wa, .int wc, .ref ra, .ref ma, .ref ua, .ref oa, .int ph, .int dn, .int nx, .int fo])), (ra, .inl (cI, 32, .inl (rg)))] H := hP
  have hD : va_D A [(x, .inr (0, [.ref wa, .int wc, .ref ra, .ref ma, .ref ua, .ref oa, .int ph, .int dn, .int nx, .int fo])), (ra, .inl (cI, 32, .inl (rg)))] := hD
  refine lv_istore_n (lv' := [(3, .int ((sp_Rv_secondOperand w rg))), (2, .int ((sp_Rv_firstOperand w rg))), (0, .ref x), (1, .int w)]) hx hb d_Rv_operate_11 rfl hl (by decide) rfl (fun ls hl => ?_)
  refine lv_iload_n hx hb d_Rv_operate_12 rfl (lv_at hl 3 rfl) ?_
  refine zgoi (wr := [(x, .inr (0, [.ref wa, .int wc, .ref ra, .ref ma, .ref ua, .ref oa, .int ph, .int dn, .int nx, .int fo])), (ra, .inl (cI, 32, .inl (rg)))]) (zrunS (n := 1) (As := [.int w]) (rest := []) hE (c_Rv_middle l D _ _ w) cb_Rv_middle lk_Rv_147 st_Rv_middle (zpreS hK hP hD [] rfl rfl rfl) ⟨Nat.le_of_ble_eq_true rfl, Nat.le_of_ble_eq_true rfl, Nat.le_of_ble_eq_true rfl, Nat.le_of_ble_eq_true rfl⟩ rfl hl.1 rfl (Nat.le_of_ble_eq_true rfl) d_Rv_operate_13) hP hD hS hA [] [0, 1] rfl rfl rfl (by decide) (fun r u H locs hq3 hP hD hS => ?_)
  subst hq3
  have hP : va_P D zC [(x, .inr (0, [.ref wa, .int wc, .ref ra, .ref ma, .ref ua, .ref oa, .int ph, .int dn, .int nx, .int fo])), (ra, .inl (cI, 32, .inl (rg)))] H := hP
  have hD : va_D A [(x, .inr (0, [.ref wa, .int wc, .ref ra, .ref ma, .ref ua, .ref oa, .int ph, .int dn, .int nx, .int fo])), (ra, .inl (cI, 32, .inl (rg)))] := hD
  refine lv_istore (lv' := [(4, .int (sp_Rv_middle w)), (3, .int ((sp_Rv_secondOperand w rg))), (2, .int ((sp_Rv_firstOperand w rg))), (0, .ref x), (1, .int w)]) hx hb d_Rv_operate_16 hl (by decide) rfl (fun ls hl => ?_)
  refine lv_iload_n hx hb d_Rv_operate_18 rfl (lv_at hl 4 rfl) ?_
  refine zgoi (wr := [(x, .inr (0, [.ref wa, .int wc, .ref ra, .ref ma, .ref ua, .ref oa, .int ph, .int dn, .int nx, .int fo])), (ra, .inl (cI, 32, .inl (rg)))]) (zrunS (n := 1) (As := [.int w]) (rest := []) hE (c_Rv_top l D _ _ w) cb_Rv_top lk_Rv_180 st_Rv_top (zpreS hK hP hD [] rfl rfl rfl) ⟨Nat.le_of_ble_eq_true rfl, Nat.le_of_ble_eq_true rfl, Nat.le_of_ble_eq_true rfl, Nat.le_of_ble_eq_true rfl⟩ rfl hl.1 rfl (Nat.le_of_ble_eq_true rfl) d_Rv_operate_19) hP hD hS hA [] [0, 1] rfl rfl rfl (by decide) (fun r u H locs hq4 hP hD hS => ?_)
  subst hq4
  have hP : va_P D zC [(x, .inr (0, [.ref wa, .int wc, .ref ra, .ref ma, .ref ua, .ref oa, .int ph, .int dn, .int nx, .int fo])), (ra, .inl (cI, 32, .inl (rg)))] H := hP
  have hD : va_D A [(x, .inr (0, [.ref wa, .int wc, .ref ra, .ref ma, .ref ua, .ref oa, .int ph, .int dn, .int nx, .int fo])), (ra, .inl (cI, 32, .inl (rg)))] := hD
  rcases Decidable.em ((sp_Rv_top w) = 0) with h5 | h5
  · refine lv_lookup (tgt := 56) (off := 34) hx hb d_Rv_operate_22 (by decide) (by rw [h5]; first | done | rfl) (by decide) ?_
    refine lv_aload_n hx hb d_Rv_operate_56 rfl (lv_at hl 3 rfl) ?_
    refine lv_iload_n hx hb d_Rv_operate_57 rfl (lv_at hl 4 rfl) ?_
    refine lv_iload hx hb d_Rv_operate_58 (lv_at hl 0 rfl) ?_
    refine lv_iload_n hx hb d_Rv_operate_60 rfl (lv_at hl 2 rfl) ?_
    refine lv_iload_n hx hb d_Rv_operate_61 rfl (lv_at hl 1 rfl) ?_
    refine zgoi (wr := [(x, .inr (0, [.ref wa, .int wc, .ref ra, .ref ma, .ref ua, .ref oa, .int ph, .int dn, .int nx, .int fo])), (ra, .inl (cI, 32, .inl (rg)))]) (zrunS (n := 3) (As := [.int (sp_Rv_middle w), .int ((sp_Rv_firstOperand w rg)), .int ((sp_Rv_secondOperand w rg))]) (rest := [.int w, .ref x]) hE (c_Rv_plainResult l D _ _ (sp_Rv_middle w) (sp_Rv_firstOperand w rg) (sp_Rv_secondOperand w rg)) cb_Rv_plainResult lk_Rv_183 st_Rv_plainResult (zpreS hK hP hD [] rfl rfl rfl) ⟨Nat.le_of_ble_eq_true rfl, Nat.le_of_ble_eq_true rfl, Nat.le_of_ble_eq_true rfl, Nat.le_of_ble_eq_true rfl⟩ rfl hl.1 rfl (Nat.le_of_ble_eq_true rfl) d_Rv_operate_62) hP hD hS hA [] [0, 1] rfl rfl rfl (by decide) (fun r u H locs hq6 hP hD hS => ?_)
    subst hq6
    have hP : va_P D zC [(x, .inr (0, [.ref wa, .int wc, .ref ra, .ref ma, .ref ua, .ref oa, .int ph, .int dn, .int nx, .int fo])), (ra, .inl (cI, 32, .inl (rg)))] H := hP
    have hD : va_D A [(x, .inr (0, [.ref wa, .int wc, .ref ra, .ref ma, .ref ua, .ref oa, .int ph, .int dn, .int nx, .int fo])), (ra, .inl (cI, 32, .inl (rg)))] := hD
    refine zgoi (wr := []) (zrunV (n := 2) (As := [.int w, .int (sp_Rv_plainResult (sp_Rv_middle w) (sp_Rv_firstOperand w rg) (sp_Rv_secondOperand w rg))]) (rest := []) hE (c_Rv_keep l D cI cB cJ _ w (sp_Rv_plainResult (sp_Rv_middle w) (sp_Rv_firstOperand w rg) (sp_Rv_secondOperand w rg)) x wa wc ra ma ua oa ph dn nx fo rg) cb_Rv_keep lk_Rv_120 in_Rv_keep se_Rv_keep (zpreV (q0 := 0) hK hP hD rfl rfl rfl [0, 1] rfl rfl rfl) ⟨Nat.le_of_ble_eq_true rfl, Nat.le_of_ble_eq_true rfl, Nat.le_of_ble_eq_true rfl, Nat.le_of_ble_eq_true rfl⟩ rfl hl.1 rfl (Nat.le_of_ble_eq_true rfl) d_Rv_operate_65) hP hD hS hA [0, 1] [] rfl rfl rfl (by decide) (fun r u H locs hq7 hP hD hS => ?_)
    subst hq7
    have hP : va_P D zC [(x, .inr (0, [.ref wa, .int wc, .ref ra, .ref ma, .ref ua, .ref oa, .int ph, .int dn, .int nx, .int fo])), (ra, .inl (cI, 32, .inl ((sp_Rv_keep w (sp_Rv_plainResult (sp_Rv_middle w) (sp_Rv_firstOperand w rg) (sp_Rv_secondOperand w rg)) rg).2)))] H := hP
    have hD : va_D A [(x, .inr (0, [.ref wa, .int wc, .ref ra, .ref ma, .ref ua, .ref oa, .int ph, .int dn, .int nx, .int fo])), (ra, .inl (cI, 32, .inl ((sp_Rv_keep w (sp_Rv_plainResult (sp_Rv_middle w) (sp_Rv_firstOperand w rg) (sp_Rv_secondOperand w rg)) rg).2)))] := hD
    have hs : (sp_Rv_operate w rg) = ((sp_Rv_keep w (sp_Rv_plainResult (sp_Rv_middle w) (sp_Rv_firstOperand w rg) (sp_Rv_secondOperand w rg)) rg).1, (sp_Rv_keep w (sp_Rv_plainResult (sp_Rv_middle w) (sp_Rv_firstOperand w rg) (sp_Rv_secondOperand w rg)) rg).2) := by rw [sp_Rv_operate, if_pos h5]
    have hP9 := hP.sub (ws' := [(x, .inr (0, [.ref wa, .int wc, .ref ra, .ref ma, .ref ua, .ref oa, .int ph, .int dn, .int nx, .int fo])), (ra, .inl (cI, 32, .inl ((sp_Rv_keep w (sp_Rv_plainResult (sp_Rv_middle w) (sp_Rv_firstOperand w rg) (sp_Rv_secondOperand w rg)) rg).2)))]) [0, 1] rfl
    have hD9 := hD.sub (ws' := [(x, .inr (0, [.ref wa, .int wc, .ref ra, .ref ma, .ref ua, .ref oa, .int ph, .int dn, .int nx, .int fo])), (ra, .inl (cI, 32, .inl ((sp_Rv_keep w (sp_Rv_plainResult (sp_Rv_middle w) (sp_Rv_firstOperand w rg) (sp_Rv_secondOperand w rg)) rg).2)))]) [0, 1] rfl rfl
    exact zreti hx hb hr rfl hlocks hS () (by rw [hs]) rfl (by rw [hs]; exact hP9) (by rw [hs]; exact hD9) d_Rv_operate_68
  · rcases Decidable.em ((sp_Rv_top w) = 1) with h8 | h8
    · refine lv_lookup (tgt := 69) (off := 47) hx hb d_Rv_operate_22 (by decide) (by rw [h8]; first | done | rfl) (by decide) ?_
      refine lv_aload_n hx hb d_Rv_operate_69 rfl (lv_at hl 3 rfl) ?_
      refine lv_iload_n hx hb d_Rv_operate_70 rfl (lv_at hl 4 rfl) ?_
      refine lv_iload hx hb d_Rv_operate_71 (lv_at hl 0 rfl) ?_
      refine lv_iconst (v := 4) hx hb d_Rv_operate_73 (by decide) ?_
      refine lv_icmp_ge (tgt := 87) hx hb d_Rv_operate_74 (by decide) (fun h9 => ?_) (fun h9 => ?_)
      · refine lv_iload hx hb d_Rv_operate_87 (lv_at hl 0 rfl) ?_
        refine lv_iload_n hx hb d_Rv_operate_89 rfl (lv_at hl 2 rfl) ?_
        refine lv_iload_n hx hb d_Rv_operate_90 rfl (lv_at hl 1 rfl) ?_
        refine zgoi (wr := [(x, .inr (0, [.ref wa, .int wc, .ref ra, .ref ma, .ref ua, .ref oa, .int ph, .int dn, .int nx, .int fo])), (ra, .inl (cI, 32, .inl (rg)))]) (zrunS (n := 3) (As := [.int (sp_Rv_middle w), .int ((sp_Rv_firstOperand w rg)), .int ((sp_Rv_secondOperand w rg))]) (rest := [.int w, .ref x]) hE (c_Rv_quotient l D _ _ (sp_Rv_middle w) (sp_Rv_firstOperand w rg) (sp_Rv_secondOperand w rg)) cb_Rv_quotient lk_Rv_190 st_Rv_quotient (zpreS hK hP hD [] rfl rfl rfl) ⟨Nat.le_of_ble_eq_true rfl, Nat.le_of_ble_eq_true rfl, Nat.le_of_ble_eq_true rfl, Nat.le_of_ble_eq_true rfl⟩ rfl hl.1 rfl (Nat.le_of_ble_eq_true rfl) d_Rv_operate_91) hP hD hS hA [] [0, 1] rfl rfl rfl (by decide) (fun r u H locs hq10 hP hD hS => ?_)
        subst hq10
        have hP : va_P D zC [(x, .inr (0, [.ref wa, .int wc, .ref ra, .ref ma, .ref ua, .ref oa, .int ph, .int dn, .int nx, .int fo])), (ra, .inl (cI, 32, .inl (rg)))] H := hP
        have hD : va_D A [(x, .inr (0, [.ref wa, .int wc, .ref ra, .ref ma, .ref ua, .ref oa, .int ph, .int dn, .int nx, .int fo])), (ra, .inl (cI, 32, .inl (rg)))] := hD
        refine zgoi (wr := []) (zrunV (n := 2) (As := [.int w, .int (sp_Rv_quotient (sp_Rv_middle w) (sp_Rv_firstOperand w rg) (sp_Rv_secondOperand w rg))]) (rest := []) hE (c_Rv_keep l D cI cB cJ _ w (sp_Rv_quotient (sp_Rv_middle w) (sp_Rv_firstOperand w rg) (sp_Rv_secondOperand w rg)) x wa wc ra ma ua oa ph dn nx fo rg) cb_Rv_keep lk_Rv_120 in_Rv_keep se_Rv_keep (zpreV (q0 := 0) hK hP hD rfl rfl rfl [0, 1] rfl rfl rfl) ⟨Nat.le_of_ble_eq_true rfl, Nat.le_of_ble_eq_true rfl, Nat.le_of_ble_eq_true rfl, Nat.le_of_ble_eq_true rfl⟩ rfl hl.1 rfl (Nat.le_of_ble_eq_true rfl) d_Rv_operate_94) hP hD hS hA [0, 1] [] rfl rfl rfl (by decide) (fun r u H locs hq11 hP hD hS => ?_)
        subst hq11
        have hP : va_P D zC [(x, .inr (0, [.ref wa, .int wc, .ref ra, .ref ma, .ref ua, .ref oa, .int ph, .int dn, .int nx, .int fo])), (ra, .inl (cI, 32, .inl ((sp_Rv_keep w (sp_Rv_quotient (sp_Rv_middle w) (sp_Rv_firstOperand w rg) (sp_Rv_secondOperand w rg)) rg).2)))] H := hP
        have hD : va_D A [(x, .inr (0, [.ref wa, .int wc, .ref ra, .ref ma, .ref ua, .ref oa, .int ph, .int dn, .int nx, .int fo])), (ra, .inl (cI, 32, .inl ((sp_Rv_keep w (sp_Rv_quotient (sp_Rv_middle w) (sp_Rv_firstOperand w rg) (sp_Rv_secondOperand w rg)) rg).2)))] := hD
        have hs : (sp_Rv_operate w rg) = ((sp_Rv_keep w (sp_Rv_quotient (sp_Rv_middle w) (sp_Rv_firstOperand w rg) (sp_Rv_secondOperand w rg)) rg).1, (sp_Rv_keep w (sp_Rv_quotient (sp_Rv_middle w) (sp_Rv_firstOperand w rg) (sp_Rv_secondOperand w rg)) rg).2) := by rw [sp_Rv_operate, if_neg h5, if_pos h8, if_pos h9]
        have hP9 := hP.sub (ws' := [(x, .inr (0, [.ref wa, .int wc, .ref ra, .ref ma, .ref ua, .ref oa, .int ph, .int dn, .int nx, .int fo])), (ra, .inl (cI, 32, .inl ((sp_Rv_keep w (sp_Rv_quotient (sp_Rv_middle w) (sp_Rv_firstOperand w rg) (sp_Rv_secondOperand w rg)) rg).2)))]) [0, 1] rfl
        have hD9 := hD.sub (ws' := [(x, .inr (0, [.ref wa, .int wc, .ref ra, .ref ma, .ref ua, .ref oa, .int ph, .int dn, .int nx, .int fo])), (ra, .inl (cI, 32, .inl ((sp_Rv_keep w (sp_Rv_quotient (sp_Rv_middle w) (sp_Rv_firstOperand w rg) (sp_Rv_secondOperand w rg)) rg).2)))]) [0, 1] rfl rfl
        exact zreti hx hb hr rfl hlocks hS () (by rw [hs]) rfl (by rw [hs]; exact hP9) (by rw [hs]; exact hD9) d_Rv_operate_97
      · refine lv_iload hx hb d_Rv_operate_77 (lv_at hl 0 rfl) ?_
        refine lv_iload_n hx hb d_Rv_operate_79 rfl (lv_at hl 2 rfl) ?_
        refine lv_iload_n hx hb d_Rv_operate_80 rfl (lv_at hl 1 rfl) ?_
        refine zgoi (wr := [(x, .inr (0, [.ref wa, .int wc, .ref ra, .ref ma, .ref ua, .ref oa, .int ph, .int dn, .int nx, .int fo])), (ra, .inl (cI, 32, .inl (rg)))]) (zrunS (n := 3) (As := [.int (sp_Rv_middle w), .int ((sp_Rv_firstOperand w rg)), .int ((sp_Rv_secondOperand w rg))]) (rest := [.int w, .ref x]) hE (c_Rv_product l D _ _ (sp_Rv_middle w) (sp_Rv_firstOperand w rg) (sp_Rv_secondOperand w rg)) cb_Rv_product lk_Rv_187 st_Rv_product (zpreS hK hP hD [] rfl rfl rfl) ⟨Nat.le_of_ble_eq_true rfl, Nat.le_of_ble_eq_true rfl, Nat.le_of_ble_eq_true rfl, Nat.le_of_ble_eq_true rfl⟩ rfl hl.1 rfl (Nat.le_of_ble_eq_true rfl) d_Rv_operate_81) hP hD hS hA [] [0, 1] rfl rfl rfl (by decide) (fun r u H locs hq12 hP hD hS => ?_)
        subst hq12
        have hP : va_P D zC [(x, .inr (0, [.ref wa, .int wc, .ref ra, .ref ma, .ref ua, .ref oa, .int ph, .int dn, .int nx, .int fo])), (ra, .inl (cI, 32, .inl (rg)))] H := hP
        have hD : va_D A [(x, .inr (0, [.ref wa, .int wc, .ref ra, .ref ma, .ref ua, .ref oa, .int ph, .int dn, .int nx, .int fo])), (ra, .inl (cI, 32, .inl (rg)))] := hD
        refine lv_goto (tgt := 94) hx hb d_Rv_operate_84 (by decide) ?_
        refine zgoi (wr := []) (zrunV (n := 2) (As := [.int w, .int (sp_Rv_product (sp_Rv_middle w) (sp_Rv_firstOperand w rg) (sp_Rv_secondOperand w rg))]) (rest := []) hE (c_Rv_keep l D cI cB cJ _ w (sp_Rv_product (sp_Rv_middle w) (sp_Rv_firstOperand w rg) (sp_Rv_secondOperand w rg)) x wa wc ra ma ua oa ph dn nx fo rg) cb_Rv_keep lk_Rv_120 in_Rv_keep se_Rv_keep (zpreV (q0 := 0) hK hP hD rfl rfl rfl [0, 1] rfl rfl rfl) ⟨Nat.le_of_ble_eq_true rfl, Nat.le_of_ble_eq_true rfl, Nat.le_of_ble_eq_true rfl, Nat.le_of_ble_eq_true rfl⟩ rfl hl.1 rfl (Nat.le_of_ble_eq_true rfl) d_Rv_operate_94) hP hD hS hA [0, 1] [] rfl rfl rfl (by decide) (fun r u H locs hq13 hP hD hS => ?_)
        subst hq13
        have hP : va_P D zC [(x, .inr (0, [.ref wa, .int wc, .ref ra, .ref ma, .ref ua, .ref oa, .int ph, .int dn, .int nx, .int fo])), (ra, .inl (cI, 32, .inl ((sp_Rv_keep w (sp_Rv_product (sp_Rv_middle w) (sp_Rv_firstOperand w rg) (sp_Rv_secondOperand w rg)) rg).2)))] H := hP
        have hD : va_D A [(x, .inr (0, [.ref wa, .int wc, .ref ra, .ref ma, .ref ua, .ref oa, .int ph, .int dn, .int nx, .int fo])), (ra, .inl (cI, 32, .inl ((sp_Rv_keep w (sp_Rv_product (sp_Rv_middle w) (sp_Rv_firstOperand w rg) (sp_Rv_secondOperand w rg)) rg).2)))] := hD
        have hs : (sp_Rv_operate w rg) = ((sp_Rv_keep w (sp_Rv_product (sp_Rv_middle w) (sp_Rv_firstOperand w rg) (sp_Rv_secondOperand w rg)) rg).1, (sp_Rv_keep w (sp_Rv_product (sp_Rv_middle w) (sp_Rv_firstOperand w rg) (sp_Rv_secondOperand w rg)) rg).2) := by rw [sp_Rv_operate, if_neg h5, if_pos h8, if_neg h9]
        have hP9 := hP.sub (ws' := [(x, .inr (0, [.ref wa, .int wc, .ref ra, .ref ma, .ref ua, .ref oa, .int ph, .int dn, .int nx, .int fo])), (ra, .inl (cI, 32, .inl ((sp_Rv_keep w (sp_Rv_product (sp_Rv_middle w) (sp_Rv_firstOperand w rg) (sp_Rv_secondOperand w rg)) rg).2)))]) [0, 1] rfl
        have hD9 := hD.sub (ws' := [(x, .inr (0, [.ref wa, .int wc, .ref ra, .ref ma, .ref ua, .ref oa, .int ph, .int dn, .int nx, .int fo])), (ra, .inl (cI, 32, .inl ((sp_Rv_keep w (sp_Rv_product (sp_Rv_middle w) (sp_Rv_firstOperand w rg) (sp_Rv_secondOperand w rg)) rg).2)))]) [0, 1] rfl rfl
        exact zreti hx hb hr rfl hlocks hS () (by rw [hs]) rfl (by rw [hs]; exact hP9) (by rw [hs]; exact hD9) d_Rv_operate_97
    · rcases Decidable.em ((sp_Rv_top w) = 32) with h14 | h14
      · refine lv_lookup (tgt := 98) (off := 76) hx hb d_Rv_operate_22 (by decide) (by rw [h14]; first | done | rfl) (by decide) ?_
        refine lv_iload hx hb d_Rv_operate_98 (lv_at hl 0 rfl) ?_
        refine lv_if_ne (tgt := 112) hx hb d_Rv_operate_100 (by decide) (fun h15 => ?_) (fun h15 => ?_)
        · refine lv_iload hx hb d_Rv_operate_112 (lv_at hl 0 rfl) ?_
          refine lv_iconst (v := 5) hx hb d_Rv_operate_114 (by decide) ?_
          refine lv_icmp_ne (tgt := 132) hx hb d_Rv_operate_115 (by decide) (fun h16 => ?_) (fun h16 => ?_)
          · refine lv_iconst (v := 1) hx hb d_Rv_operate_132 (by decide) ?_
            have hs : (sp_Rv_operate w rg) = (1, rg) := by rw [sp_Rv_operate, if_neg h5, if_neg h8, if_pos h14, if_neg h15, if_neg h16]
            have hP9 := hP.sub (ws' := [(x, .inr (0, [.ref wa, .int wc, .ref ra, .ref ma, .ref ua, .ref oa, .int ph, .int dn, .int nx, .int fo])), (ra, .inl (cI, 32, .inl (rg)))]) [0, 1] rfl
            have hD9 := hD.sub (ws' := [(x, .inr (0, [.ref wa, .int wc, .ref ra, .ref ma, .ref ua, .ref oa, .int ph, .int dn, .int nx, .int fo])), (ra, .inl (cI, 32, .inl (rg)))]) [0, 1] rfl rfl
            exact zreti hx hb hr rfl hlocks hS () (by rw [hs]) rfl (by rw [hs]; exact hP9) (by rw [hs]; exact hD9) d_Rv_operate_133
          · refine lv_aload_n hx hb d_Rv_operate_118 rfl (lv_at hl 3 rfl) ?_
            refine lv_iload_n hx hb d_Rv_operate_119 rfl (lv_at hl 4 rfl) ?_
            refine lv_iload_n hx hb d_Rv_operate_120 rfl (lv_at hl 2 rfl) ?_
            refine lv_iload_n hx hb d_Rv_operate_121 rfl (lv_at hl 1 rfl) ?_
            refine lv_bipush (v := 31) hx hb d_Rv_operate_122 (by decide) ?_
            refine lv_iand hx hb d_Rv_operate_124 ?_
            refine lv_ishr hx hb d_Rv_operate_125 ?_
            refine zgoi (wr := []) (zrunV (n := 2) (As := [.int w, .int (((sp_Rv_firstOperand w rg) : Int32) >>> (((sp_Rv_secondOperand w rg) &&& 31 : Int32) &&& 31))]) (rest := []) hE (c_Rv_keep l D cI cB cJ _ w (((sp_Rv_firstOperand w rg) : Int32) >>> (((sp_Rv_secondOperand w rg) &&& 31 : Int32) &&& 31)) x wa wc ra ma ua oa ph dn nx fo rg) cb_Rv_keep lk_Rv_120 in_Rv_keep se_Rv_keep (zpreV (q0 := 0) hK hP hD rfl rfl rfl [0, 1] rfl rfl rfl) ⟨Nat.le_of_ble_eq_true rfl, Nat.le_of_ble_eq_true rfl, Nat.le_of_ble_eq_true rfl, Nat.le_of_ble_eq_true rfl⟩ rfl hl.1 rfl (Nat.le_of_ble_eq_true rfl) d_Rv_operate_126) hP hD hS hA [0, 1] [] rfl rfl rfl (by decide) (fun r u H locs hq17 hP hD hS => ?_)
            subst hq17
            have hP : va_P D zC [(x, .inr (0, [.ref wa, .int wc, .ref ra, .ref ma, .ref ua, .ref oa, .int ph, .int dn, .int nx, .int fo])), (ra, .inl (cI, 32, .inl ((sp_Rv_keep w (((sp_Rv_firstOperand w rg) : Int32) >>> (((sp_Rv_secondOperand w rg) &&& 31 : Int32) &&& 31)) rg).2)))] H := hP
            have hD : va_D A [(x, .inr (0, [.ref wa, .int wc, .ref ra, .ref ma, .ref ua, .ref oa, .int ph, .int dn, .int nx, .int fo])), (ra, .inl (cI, 32, .inl ((sp_Rv_keep w (((sp_Rv_firstOperand w rg) : Int32) >>> (((sp_Rv_secondOperand w rg) &&& 31 : Int32) &&& 31)) rg).2)))] := hD
            refine lv_goto (tgt := 133) hx hb d_Rv_operate_129 (by decide) ?_
            have hs : (sp_Rv_operate w rg) = ((sp_Rv_keep w (((sp_Rv_firstOperand w rg) : Int32) >>> (((sp_Rv_secondOperand w rg) &&& 31 : Int32) &&& 31)) rg).1, (sp_Rv_keep w (((sp_Rv_firstOperand w rg) : Int32) >>> (((sp_Rv_secondOperand w rg) &&& 31 : Int32) &&& 31)) rg).2) := by rw [sp_Rv_operate, if_neg h5, if_neg h8, if_pos h14, if_neg h15, if_pos h16]
            have hP9 := hP.sub (ws' := [(x, .inr (0, [.ref wa, .int wc, .ref ra, .ref ma, .ref ua, .ref oa, .int ph, .int dn, .int nx, .int fo])), (ra, .inl (cI, 32, .inl ((sp_Rv_keep w (((sp_Rv_firstOperand w rg) : Int32) >>> (((sp_Rv_secondOperand w rg) &&& 31 : Int32) &&& 31)) rg).2)))]) [0, 1] rfl
            have hD9 := hD.sub (ws' := [(x, .inr (0, [.ref wa, .int wc, .ref ra, .ref ma, .ref ua, .ref oa, .int ph, .int dn, .int nx, .int fo])), (ra, .inl (cI, 32, .inl ((sp_Rv_keep w (((sp_Rv_firstOperand w rg) : Int32) >>> (((sp_Rv_secondOperand w rg) &&& 31 : Int32) &&& 31)) rg).2)))]) [0, 1] rfl rfl
            exact zreti hx hb hr rfl hlocks hS () (by rw [hs]) rfl (by rw [hs]; exact hP9) (by rw [hs]; exact hD9) d_Rv_operate_133
        · refine lv_aload_n hx hb d_Rv_operate_103 rfl (lv_at hl 3 rfl) ?_
          refine lv_iload_n hx hb d_Rv_operate_104 rfl (lv_at hl 4 rfl) ?_
          refine lv_iload_n hx hb d_Rv_operate_105 rfl (lv_at hl 2 rfl) ?_
          refine lv_iload_n hx hb d_Rv_operate_106 rfl (lv_at hl 1 rfl) ?_
          refine lv_isub hx hb d_Rv_operate_107 ?_
          refine zgoi (wr := []) (zrunV (n := 2) (As := [.int w, .int ((sp_Rv_firstOperand w rg) - (sp_Rv_secondOperand w rg))]) (rest := []) hE (c_Rv_keep l D cI cB cJ _ w ((sp_Rv_firstOperand w rg) - (sp_Rv_secondOperand w rg)) x wa wc ra ma ua oa ph dn nx fo rg) cb_Rv_keep lk_Rv_120 in_Rv_keep se_Rv_keep (zpreV (q0 := 0) hK hP hD rfl rfl rfl [0, 1] rfl rfl rfl) ⟨Nat.le_of_ble_eq_true rfl, Nat.le_of_ble_eq_true rfl, Nat.le_of_ble_eq_true rfl, Nat.le_of_ble_eq_true rfl⟩ rfl hl.1 rfl (Nat.le_of_ble_eq_true rfl) d_Rv_operate_108) hP hD hS hA [0, 1] [] rfl rfl rfl (by decide) (fun r u H locs hq18 hP hD hS => ?_)
          subst hq18
          have hP : va_P D zC [(x, .inr (0, [.ref wa, .int wc, .ref ra, .ref ma, .ref ua, .ref oa, .int ph, .int dn, .int nx, .int fo])), (ra, .inl (cI, 32, .inl ((sp_Rv_keep w ((sp_Rv_firstOperand w rg) - (sp_Rv_secondOperand w rg)) rg).2)))] H := hP
          have hD : va_D A [(x, .inr (0, [.ref wa, .int wc, .ref ra, .ref ma, .ref ua, .ref oa, .int ph, .int dn, .int nx, .int fo])), (ra, .inl (cI, 32, .inl ((sp_Rv_keep w ((sp_Rv_firstOperand w rg) - (sp_Rv_secondOperand w rg)) rg).2)))] := hD
          have hs : (sp_Rv_operate w rg) = ((sp_Rv_keep w ((sp_Rv_firstOperand w rg) - (sp_Rv_secondOperand w rg)) rg).1, (sp_Rv_keep w ((sp_Rv_firstOperand w rg) - (sp_Rv_secondOperand w rg)) rg).2) := by rw [sp_Rv_operate, if_neg h5, if_neg h8, if_pos h14, if_pos h15]
          have hP9 := hP.sub (ws' := [(x, .inr (0, [.ref wa, .int wc, .ref ra, .ref ma, .ref ua, .ref oa, .int ph, .int dn, .int nx, .int fo])), (ra, .inl (cI, 32, .inl ((sp_Rv_keep w ((sp_Rv_firstOperand w rg) - (sp_Rv_secondOperand w rg)) rg).2)))]) [0, 1] rfl
          have hD9 := hD.sub (ws' := [(x, .inr (0, [.ref wa, .int wc, .ref ra, .ref ma, .ref ua, .ref oa, .int ph, .int dn, .int nx, .int fo])), (ra, .inl (cI, 32, .inl ((sp_Rv_keep w ((sp_Rv_firstOperand w rg) - (sp_Rv_secondOperand w rg)) rg).2)))]) [0, 1] rfl rfl
          exact zreti hx hb hr rfl hlocks hS () (by rw [hs]) rfl (by rw [hs]; exact hP9) (by rw [hs]; exact hD9) d_Rv_operate_111
      · refine lv_lookup (tgt := 134) (off := 112) hx hb d_Rv_operate_22 (by decide) (by rw [lv_osw h5 (show ((0 : Int32)).toInt = 0 from by decide), lv_osw h8 (show ((1 : Int32)).toInt = 1 from by decide), lv_osw h14 (show ((32 : Int32)).toInt = 32 from by decide)]; first | done | rfl) (by decide) ?_
        refine lv_iconst (v := 1) hx hb d_Rv_operate_134 (by decide) ?_
        have hs : (sp_Rv_operate w rg) = (1, rg) := by rw [sp_Rv_operate, if_neg h5, if_neg h8, if_neg h14]
        have hP9 := hP.sub (ws' := [(x, .inr (0, [.ref wa, .int wc, .ref ra, .ref ma, .ref ua, .ref oa, .int ph, .int dn, .int nx, .int fo])), (ra, .inl (cI, 32, .inl (rg)))]) [0, 1] rfl
        have hD9 := hD.sub (ws' := [(x, .inr (0, [.ref wa, .int wc, .ref ra, .ref ma, .ref ua, .ref oa, .int ph, .int dn, .int nx, .int fo])), (ra, .inl (cI, 32, .inl (rg)))]) [0, 1] rfl rfl
        exact zreti hx hb hr rfl hlocks hS () (by rw [hs]) rfl (by rw [hs]; exact hP9) (by rw [hs]; exact hD9) d_Rv_operate_135

def sp_Rv_answerAddress (ad : Int32) (rg : Nat → Int32) : Int32 × (Nat → Int32) := if ad = 0 then (4, rg) else (0, upd rg 10 ad)
set_option maxHeartbeats 4000000 in
theorem c_Rv_answerAddress (l : Launch) (D : va_G) (cI cB cJ : ClassId) (sz : Nat) (ad : Int32) (x : Nat) (wa : Nat) (wc : Int32) (ra : Nat) (ma : Nat) (ua : Nat) (oa : Nat) (ph : Int32) (dn : Int32) (nx : Int32) (fo : Int32) (rg : Nat → Int32) : zMet l y_Rv_answerAddress (zWs y_Rv_answerAddress b_Rv_answerAddress 2 (some .int)) { frames := 0, cells := 0, slots := 0, locals := 0 } (zPc D (zT cI cB cJ) sz [(x, .inr (0, [.ref wa, .int wc, .ref ra, .ref ma, .ref ua, .ref oa, .int ph, .int dn, .int nx, .int fo])), (ra, .inl (cI, 32, .inl (rg)))] [.ref x, .int ad]) (zQi D (va_A [(x, .inr (0, [.ref wa, .int wc, .ref ra, .ref ma, .ref ua, .ref oa, .int ph, .int dn, .int nx, .int fo])), (ra, .inl (cI, 32, .inl (rg)))] sz) (fun r (_ : Unit) => r = (sp_Rv_answerAddress ad rg).1) (z0) (fun _ => [(x, .inr (0, [.ref wa, .int wc, .ref ra, .ref ma, .ref ua, .ref oa, .int ph, .int dn, .int nx, .int fo])), (ra, .inl (cI, 32, .inl ((sp_Rv_answerAddress ad rg).2)))])) (va_A [(x, .inr (0, [.ref wa, .int wc, .ref ra, .ref ma, .ref ua, .ref oa, .int ph, .int dn, .int nx, .int fo])), (ra, .inl (cI, 32, .inl (rg)))] sz) := by
  refine zstart (Qc := fun A => zQi D A (fun r (_ : Unit) => r = (sp_Rv_answerAddress ad rg).1) (z0) (fun _ => [(x, .inr (0, [.ref wa, .int wc, .ref ra, .ref ma, .ref ua, .ref oa, .int ph, .int dn, .int nx, .int fo])), (ra, .inl (cI, 32, .inl ((sp_Rv_answerAddress ad rg).2)))])) (by decide) (Nat.le_of_ble_eq_true rfl) ?_
  intro p e s m below meth c ls A hE hr hlocks hin hsz hK hP hD hS hA hAe hl
  have hx := hE.1
  have hb := hE.2.1
  have hown := hE.2.2.2.1
  have hw := hE.2.2.2.2
  have hl : lv_has ls 2 [(0, .ref x), (1, .int ad)] := hl
  refine lv_iload_n hx hb d_Rv_answerAddress_0 rfl (lv_at hl 1 rfl) ?_
  refine lv_if_ne (tgt := 6) hx hb d_Rv_answerAddress_1 (by decide) (fun h1 => ?_) (fun h1 => ?_)
  · refine lv_aload_n hx hb d_Rv_answerAddress_6 rfl (lv_at hl 0 rfl) ?_
    refine zget hE hK hP 0 rfl fd_Rv_13 rfl d_Rv_answerAddress_7 ?_
    refine lv_bipush (v := 10) hx hb d_Rv_answerAddress_10 (by decide) ?_
    refine lv_iload_n hx hb d_Rv_answerAddress_12 rfl (lv_at hl 1 rfl) ?_
    refine va_iast hx hb hK hP hD hS 1 0 rfl rfl (by unfold vp_in; decide) d_Rv_answerAddress_13 (fun H locs hP hD hS => ?_)
    have hP : va_P D zC [(x, .inr (0, [.ref wa, .int wc, .ref ra, .ref ma, .ref ua, .ref oa, .int ph, .int dn, .int nx, .int fo])), (ra, .inl (cI, 32, .inl (upd rg 10 ad)))] H := hP
    have hD : va_D A [(x, .inr (0, [.ref wa, .int wc, .ref ra, .ref ma, .ref ua, .ref oa, .int ph, .int dn, .int nx, .int fo])), (ra, .inl (cI, 32, .inl (upd rg 10 ad)))] := hD
    refine lv_iconst (v := 0) hx hb d_Rv_answerAddress_14 (by decide) ?_
    have hs : (sp_Rv_answerAddress ad rg) = (0, upd rg 10 ad) := by rw [sp_Rv_answerAddress, if_neg h1]
    have hP9 := hP.sub (ws' := [(x, .inr (0, [.ref wa, .int wc, .ref ra, .ref ma, .ref ua, .ref oa, .int ph, .int dn, .int nx, .int fo])), (ra, .inl (cI, 32, .inl (upd rg 10 ad)))]) [0, 1] rfl
    have hD9 := hD.sub (ws' := [(x, .inr (0, [.ref wa, .int wc, .ref ra, .ref ma, .ref ua, .ref oa, .int ph, .int dn, .int nx, .int fo])), (ra, .inl (cI, 32, .inl (upd rg 10 ad)))]) [0, 1] rfl rfl
    exact zreti hx hb hr rfl hlocks hS () (by rw [hs]) rfl (by rw [hs]; exact hP9) (by rw [hs]; exact hD9) d_Rv_answerAddress_15
  · refine lv_iconst (v := 4) hx hb d_Rv_answerAddress_4 (by decide) ?_
    have hs : (sp_Rv_answerAddress ad rg) = (4, rg) := by rw [sp_Rv_answerAddress, if_pos h1]
    have hP9 := hP.sub (ws' := [(x, .inr (0, [.ref wa, .int wc, .ref ra, .ref ma, .ref ua, .ref oa, .int ph, .int dn, .int nx, .int fo])), (ra, .inl (cI, 32, .inl (rg)))]) [0, 1] rfl
    have hD9 := hD.sub (ws' := [(x, .inr (0, [.ref wa, .int wc, .ref ra, .ref ma, .ref ua, .ref oa, .int ph, .int dn, .int nx, .int fo])), (ra, .inl (cI, 32, .inl (rg)))]) [0, 1] rfl rfl
    exact zreti hx hb hr rfl hlocks hS () (by rw [hs]) rfl (by rw [hs]; exact hP9) (by rw [hs]; exact hD9) d_Rv_answerAddress_5
