/-! decode rows -/
theorem d_Mo_thrown_0 : decode b_Mo_thrown 0 = .ok (.aload_n 0, 1) := by decide +kernel
theorem d_Mo_thrown_1 : decode b_Mo_thrown 1 = .ok (.getfield 62, 3) := by decide +kernel
theorem d_Mo_thrown_4 : decode b_Mo_thrown 4 = .ok (.ireturn, 1) := by decide +kernel
theorem d_Mo_trap_0 : decode b_Mo_trap 0 = .ok (.aload_n 0, 1) := by decide +kernel
theorem d_Mo_trap_1 : decode b_Mo_trap 1 = .ok (.bipush 10, 2) := by decide +kernel
theorem d_Mo_trap_3 : decode b_Mo_trap 3 = .ok (.iload_n 1, 1) := by decide +kernel
theorem d_Mo_trap_4 : decode b_Mo_trap 4 = .ok (.iadd, 1) := by decide +kernel
theorem d_Mo_trap_5 : decode b_Mo_trap 5 = .ok (.putfield 97, 3) := by decide +kernel
theorem d_Mo_trap_8 : decode b_Mo_trap 8 = .ok (.return_, 1) := by decide +kernel
theorem d_Mo_isGone_0 : decode b_Mo_isGone 0 = .ok (.iload_n 1, 1) := by decide +kernel
theorem d_Mo_isGone_1 : decode b_Mo_isGone 1 = .ok (.iconst 3, 1) := by decide +kernel
theorem d_Mo_isGone_2 : decode b_Mo_isGone 2 = .ok (.iand, 1) := by decide +kernel
theorem d_Mo_isGone_3 : decode b_Mo_isGone 3 = .ok (.ifCond .eq 10, 3) := by decide +kernel
theorem d_Mo_isGone_6 : decode b_Mo_isGone 6 = .ok (.aload_n 0, 1) := by decide +kernel
theorem d_Mo_isGone_7 : decode b_Mo_isGone 7 = .ok (.iconst 3, 1) := by decide +kernel
theorem d_Mo_isGone_8 : decode b_Mo_isGone 8 = .ok (.invokevirtual 100, 3) := by decide +kernel
theorem d_Mo_isGone_11 : decode b_Mo_isGone 11 = .ok (.iconst 0, 1) := by decide +kernel
theorem d_Mo_isGone_12 : decode b_Mo_isGone 12 = .ok (.ireturn, 1) := by decide +kernel
theorem d_Mo_isGone_13 : decode b_Mo_isGone 13 = .ok (.aload_n 0, 1) := by decide +kernel
theorem d_Mo_isGone_14 : decode b_Mo_isGone 14 = .ok (.iload_n 1, 1) := by decide +kernel
theorem d_Mo_isGone_15 : decode b_Mo_isGone 15 = .ok (.putfield 104, 3) := by decide +kernel
theorem d_Mo_isGone_18 : decode b_Mo_isGone 18 = .ok (.iconst 1, 1) := by decide +kernel
theorem d_Mo_isGone_19 : decode b_Mo_isGone 19 = .ok (.ireturn, 1) := by decide +kernel
theorem d_Mo_put_0 : decode b_Mo_put 0 = .ok (.iload_n 1, 1) := by decide +kernel
theorem d_Mo_put_1 : decode b_Mo_put 1 = .ok (.bipush 7, 2) := by decide +kernel
theorem d_Mo_put_3 : decode b_Mo_put 3 = .ok (.iconst 5, 1) := by decide +kernel
theorem d_Mo_put_4 : decode b_Mo_put 4 = .ok (.invokestatic 65, 3) := by decide +kernel
theorem d_Mo_put_7 : decode b_Mo_put 7 = .ok (.istore_n 3, 1) := by decide +kernel
theorem d_Mo_put_8 : decode b_Mo_put 8 = .ok (.iload_n 3, 1) := by decide +kernel
theorem d_Mo_put_9 : decode b_Mo_put 9 = .ok (.ifCond .le 10, 3) := by decide +kernel
theorem d_Mo_put_12 : decode b_Mo_put 12 = .ok (.aload_n 0, 1) := by decide +kernel
theorem d_Mo_put_13 : decode b_Mo_put 13 = .ok (.getfield 19, 3) := by decide +kernel
theorem d_Mo_put_16 : decode b_Mo_put 16 = .ok (.iload_n 3, 1) := by decide +kernel
theorem d_Mo_put_17 : decode b_Mo_put 17 = .ok (.iload_n 2, 1) := by decide +kernel
theorem d_Mo_put_18 : decode b_Mo_put 18 = .ok (.iastore, 1) := by decide +kernel
theorem d_Mo_put_19 : decode b_Mo_put 19 = .ok (.return_, 1) := by decide +kernel
theorem d_Mo_goesOn_0 : decode b_Mo_goesOn 0 = .ok (.aload_n 0, 1) := by decide +kernel
theorem d_Mo_goesOn_1 : decode b_Mo_goesOn 1 = .ok (.iload_n 1, 1) := by decide +kernel
theorem d_Mo_goesOn_2 : decode b_Mo_goesOn 2 = .ok (.iload_n 2, 1) := by decide +kernel
theorem d_Mo_goesOn_3 : decode b_Mo_goesOn 3 = .ok (.invokevirtual 138, 3) := by decide +kernel
theorem d_Mo_goesOn_6 : decode b_Mo_goesOn 6 = .ok (.aload_n 0, 1) := by decide +kernel
theorem d_Mo_goesOn_7 : decode b_Mo_goesOn 7 = .ok (.dup, 1) := by decide +kernel
theorem d_Mo_goesOn_8 : decode b_Mo_goesOn 8 = .ok (.getfield 104, 3) := by decide +kernel
theorem d_Mo_goesOn_11 : decode b_Mo_goesOn 11 = .ok (.iconst 4, 1) := by decide +kernel
theorem d_Mo_goesOn_12 : decode b_Mo_goesOn 12 = .ok (.iadd, 1) := by decide +kernel
theorem d_Mo_goesOn_13 : decode b_Mo_goesOn 13 = .ok (.putfield 104, 3) := by decide +kernel
theorem d_Mo_goesOn_16 : decode b_Mo_goesOn 16 = .ok (.return_, 1) := by decide +kernel
theorem d_Mo_jumps_0 : decode b_Mo_jumps 0 = .ok (.aload_n 0, 1) := by decide +kernel
theorem d_Mo_jumps_1 : decode b_Mo_jumps 1 = .ok (.getfield 104, 3) := by decide +kernel
theorem d_Mo_jumps_4 : decode b_Mo_jumps 4 = .ok (.istore_n 3, 1) := by decide +kernel
theorem d_Mo_jumps_5 : decode b_Mo_jumps 5 = .ok (.iload_n 1, 1) := by decide +kernel
theorem d_Mo_jumps_6 : decode b_Mo_jumps 6 = .ok (.ifCond .ne 16, 3) := by decide +kernel
theorem d_Mo_jumps_9 : decode b_Mo_jumps 9 = .ok (.aload_n 0, 1) := by decide +kernel
theorem d_Mo_jumps_10 : decode b_Mo_jumps 10 = .ok (.iload_n 2, 1) := by decide +kernel
theorem d_Mo_jumps_11 : decode b_Mo_jumps 11 = .ok (.iload_n 2, 1) := by decide +kernel
theorem d_Mo_jumps_12 : decode b_Mo_jumps 12 = .ok (.sipush (-4096), 3) := by decide +kernel
theorem d_Mo_jumps_15 : decode b_Mo_jumps 15 = .ok (.iand, 1) := by decide +kernel
theorem d_Mo_jumps_16 : decode b_Mo_jumps 16 = .ok (.invokevirtual 129, 3) := by decide +kernel
theorem d_Mo_jumps_19 : decode b_Mo_jumps 19 = .ok (.goto 76, 3) := by decide +kernel
theorem d_Mo_jumps_22 : decode b_Mo_jumps 22 = .ok (.iload_n 1, 1) := by decide +kernel
theorem d_Mo_jumps_23 : decode b_Mo_jumps 23 = .ok (.iconst 1, 1) := by decide +kernel
theorem d_Mo_jumps_24 : decode b_Mo_jumps 24 = .ok (.if_icmp .ne 18, 3) := by decide +kernel
theorem d_Mo_jumps_27 : decode b_Mo_jumps 27 = .ok (.aload_n 0, 1) := by decide +kernel
theorem d_Mo_jumps_28 : decode b_Mo_jumps 28 = .ok (.iload_n 2, 1) := by decide +kernel
theorem d_Mo_jumps_29 : decode b_Mo_jumps 29 = .ok (.iload_n 3, 1) := by decide +kernel
theorem d_Mo_jumps_30 : decode b_Mo_jumps 30 = .ok (.iload_n 2, 1) := by decide +kernel
theorem d_Mo_jumps_31 : decode b_Mo_jumps 31 = .ok (.sipush (-4096), 3) := by decide +kernel
theorem d_Mo_jumps_34 : decode b_Mo_jumps 34 = .ok (.iand, 1) := by decide +kernel
theorem d_Mo_jumps_35 : decode b_Mo_jumps 35 = .ok (.iadd, 1) := by decide +kernel
theorem d_Mo_jumps_36 : decode b_Mo_jumps 36 = .ok (.invokevirtual 129, 3) := by decide +kernel
theorem d_Mo_jumps_39 : decode b_Mo_jumps 39 = .ok (.goto 56, 3) := by decide +kernel
theorem d_Mo_jumps_42 : decode b_Mo_jumps 42 = .ok (.iload_n 1, 1) := by decide +kernel
theorem d_Mo_jumps_43 : decode b_Mo_jumps 43 = .ok (.iconst 2, 1) := by decide +kernel
theorem d_Mo_jumps_44 : decode b_Mo_jumps 44 = .ok (.if_icmp .ne 12, 3) := by decide +kernel
theorem d_Mo_jumps_47 : decode b_Mo_jumps 47 = .ok (.iload_n 3, 1) := by decide +kernel
theorem d_Mo_jumps_48 : decode b_Mo_jumps 48 = .ok (.iload_n 2, 1) := by decide +kernel
theorem d_Mo_jumps_49 : decode b_Mo_jumps 49 = .ok (.invokestatic 141, 3) := by decide +kernel
theorem d_Mo_jumps_52 : decode b_Mo_jumps 52 = .ok (.iadd, 1) := by decide +kernel
theorem d_Mo_jumps_53 : decode b_Mo_jumps 53 = .ok (.goto 23, 3) := by decide +kernel
theorem d_Mo_jumps_56 : decode b_Mo_jumps 56 = .ok (.aload_n 0, 1) := by decide +kernel
theorem d_Mo_jumps_57 : decode b_Mo_jumps 57 = .ok (.getfield 19, 3) := by decide +kernel
theorem d_Mo_jumps_60 : decode b_Mo_jumps 60 = .ok (.iload_n 2, 1) := by decide +kernel
theorem d_Mo_jumps_61 : decode b_Mo_jumps 61 = .ok (.bipush 15, 2) := by decide +kernel
theorem d_Mo_jumps_63 : decode b_Mo_jumps 63 = .ok (.iconst 5, 1) := by decide +kernel
theorem d_Mo_jumps_64 : decode b_Mo_jumps 64 = .ok (.invokestatic 65, 3) := by decide +kernel
theorem d_Mo_jumps_67 : decode b_Mo_jumps 67 = .ok (.iaload, 1) := by decide +kernel
theorem d_Mo_jumps_68 : decode b_Mo_jumps 68 = .ok (.iload_n 2, 1) := by decide +kernel
theorem d_Mo_jumps_69 : decode b_Mo_jumps 69 = .ok (.invokestatic 122, 3) := by decide +kernel
theorem d_Mo_jumps_72 : decode b_Mo_jumps 72 = .ok (.iadd, 1) := by decide +kernel
theorem d_Mo_jumps_73 : decode b_Mo_jumps 73 = .ok (.bipush (-2), 2) := by decide +kernel
theorem d_Mo_jumps_75 : decode b_Mo_jumps 75 = .ok (.iand, 1) := by decide +kernel
theorem d_Mo_jumps_76 : decode b_Mo_jumps 76 = .ok (.istore 4, 2) := by decide +kernel
theorem d_Mo_jumps_78 : decode b_Mo_jumps 78 = .ok (.aload_n 0, 1) := by decide +kernel
theorem d_Mo_jumps_79 : decode b_Mo_jumps 79 = .ok (.iload 4, 2) := by decide +kernel
theorem d_Mo_jumps_81 : decode b_Mo_jumps 81 = .ok (.invokevirtual 144, 3) := by decide +kernel
theorem d_Mo_jumps_84 : decode b_Mo_jumps 84 = .ok (.ifCond .eq 11, 3) := by decide +kernel
theorem d_Mo_jumps_87 : decode b_Mo_jumps 87 = .ok (.aload_n 0, 1) := by decide +kernel
theorem d_Mo_jumps_88 : decode b_Mo_jumps 88 = .ok (.iload_n 2, 1) := by decide +kernel
theorem d_Mo_jumps_89 : decode b_Mo_jumps 89 = .ok (.iload_n 3, 1) := by decide +kernel
theorem d_Mo_jumps_90 : decode b_Mo_jumps 90 = .ok (.iconst 4, 1) := by decide +kernel
theorem d_Mo_jumps_91 : decode b_Mo_jumps 91 = .ok (.iadd, 1) := by decide +kernel
theorem d_Mo_jumps_92 : decode b_Mo_jumps 92 = .ok (.invokevirtual 138, 3) := by decide +kernel
theorem d_Mo_jumps_95 : decode b_Mo_jumps 95 = .ok (.return_, 1) := by decide +kernel
theorem d_Mo_branch_0 : decode b_Mo_branch 0 = .ok (.aload_n 0, 1) := by decide +kernel
theorem d_Mo_branch_1 : decode b_Mo_branch 1 = .ok (.getfield 19, 3) := by decide +kernel
theorem d_Mo_branch_4 : decode b_Mo_branch 4 = .ok (.iload_n 2, 1) := by decide +kernel
theorem d_Mo_branch_5 : decode b_Mo_branch 5 = .ok (.bipush 15, 2) := by decide +kernel
theorem d_Mo_branch_7 : decode b_Mo_branch 7 = .ok (.iconst 5, 1) := by decide +kernel
theorem d_Mo_branch_8 : decode b_Mo_branch 8 = .ok (.invokestatic 65, 3) := by decide +kernel
theorem d_Mo_branch_11 : decode b_Mo_branch 11 = .ok (.iaload, 1) := by decide +kernel
theorem d_Mo_branch_12 : decode b_Mo_branch 12 = .ok (.i2l, 1) := by decide +kernel
theorem d_Mo_branch_13 : decode b_Mo_branch 13 = .ok (.lstore_n 3, 1) := by decide +kernel
theorem d_Mo_branch_14 : decode b_Mo_branch 14 = .ok (.aload_n 0, 1) := by decide +kernel
theorem d_Mo_branch_15 : decode b_Mo_branch 15 = .ok (.getfield 19, 3) := by decide +kernel
theorem d_Mo_branch_18 : decode b_Mo_branch 18 = .ok (.iload_n 2, 1) := by decide +kernel
theorem d_Mo_branch_19 : decode b_Mo_branch 19 = .ok (.bipush 20, 2) := by decide +kernel
theorem d_Mo_branch_21 : decode b_Mo_branch 21 = .ok (.iconst 5, 1) := by decide +kernel
theorem d_Mo_branch_22 : decode b_Mo_branch 22 = .ok (.invokestatic 65, 3) := by decide +kernel
theorem d_Mo_branch_25 : decode b_Mo_branch 25 = .ok (.iaload, 1) := by decide +kernel
theorem d_Mo_branch_26 : decode b_Mo_branch 26 = .ok (.i2l, 1) := by decide +kernel
theorem d_Mo_branch_27 : decode b_Mo_branch 27 = .ok (.lstore 5, 2) := by decide +kernel
theorem d_Mo_branch_29 : decode b_Mo_branch 29 = .ok (.iload_n 1, 1) := by decide +kernel
theorem d_Mo_branch_30 : decode b_Mo_branch 30 = .ok (.iconst 5, 1) := by decide +kernel
theorem d_Mo_branch_31 : decode b_Mo_branch 31 = .ok (.if_icmp .le 17, 3) := by decide +kernel
theorem d_Mo_branch_34 : decode b_Mo_branch 34 = .ok (.lload_n 3, 1) := by decide +kernel
theorem d_Mo_branch_35 : decode b_Mo_branch 35 = .ok (.ldc2_w 148, 3) := by decide +kernel
theorem d_Mo_branch_38 : decode b_Mo_branch 38 = .ok (.land, 1) := by decide +kernel
theorem d_Mo_branch_39 : decode b_Mo_branch 39 = .ok (.lstore_n 3, 1) := by decide +kernel
theorem d_Mo_branch_40 : decode b_Mo_branch 40 = .ok (.lload 5, 2) := by decide +kernel
theorem d_Mo_branch_42 : decode b_Mo_branch 42 = .ok (.ldc2_w 148, 3) := by decide +kernel
theorem d_Mo_branch_45 : decode b_Mo_branch 45 = .ok (.land, 1) := by decide +kernel
theorem d_Mo_branch_46 : decode b_Mo_branch 46 = .ok (.lstore 5, 2) := by decide +kernel
theorem d_Mo_branch_48 : decode b_Mo_branch 48 = .ok (.iload_n 1, 1) := by decide +kernel
theorem d_Mo_branch_49 : decode b_Mo_branch 49 = .ok (.iconst 2, 1) := by decide +kernel
theorem d_Mo_branch_50 : decode b_Mo_branch 50 = .ok (.if_icmp .ge 18, 3) := by decide +kernel
theorem d_Mo_branch_53 : decode b_Mo_branch 53 = .ok (.lload_n 3, 1) := by decide +kernel
theorem d_Mo_branch_54 : decode b_Mo_branch 54 = .ok (.lload 5, 2) := by decide +kernel
theorem d_Mo_branch_56 : decode b_Mo_branch 56 = .ok (.lcmp, 1) := by decide +kernel
theorem d_Mo_branch_57 : decode b_Mo_branch 57 = .ok (.ifCond .ne 7, 3) := by decide +kernel
theorem d_Mo_branch_60 : decode b_Mo_branch 60 = .ok (.iconst 1, 1) := by decide +kernel
theorem d_Mo_branch_61 : decode b_Mo_branch 61 = .ok (.goto 19, 3) := by decide +kernel
theorem d_Mo_branch_64 : decode b_Mo_branch 64 = .ok (.iconst 0, 1) := by decide +kernel
theorem d_Mo_branch_65 : decode b_Mo_branch 65 = .ok (.goto 15, 3) := by decide +kernel
theorem d_Mo_branch_68 : decode b_Mo_branch 68 = .ok (.lload_n 3, 1) := by decide +kernel
theorem d_Mo_branch_69 : decode b_Mo_branch 69 = .ok (.lload 5, 2) := by decide +kernel
theorem d_Mo_branch_71 : decode b_Mo_branch 71 = .ok (.lcmp, 1) := by decide +kernel
theorem d_Mo_branch_72 : decode b_Mo_branch 72 = .ok (.ifCond .ge 7, 3) := by decide +kernel
theorem d_Mo_branch_75 : decode b_Mo_branch 75 = .ok (.iconst 1, 1) := by decide +kernel
theorem d_Mo_branch_76 : decode b_Mo_branch 76 = .ok (.goto 4, 3) := by decide +kernel
theorem d_Mo_branch_79 : decode b_Mo_branch 79 = .ok (.iconst 0, 1) := by decide +kernel
theorem d_Mo_branch_80 : decode b_Mo_branch 80 = .ok (.istore 7, 2) := by decide +kernel
theorem d_Mo_branch_82 : decode b_Mo_branch 82 = .ok (.iload_n 1, 1) := by decide +kernel
theorem d_Mo_branch_83 : decode b_Mo_branch 83 = .ok (.iconst 1, 1) := by decide +kernel
theorem d_Mo_branch_84 : decode b_Mo_branch 84 = .ok (.iand, 1) := by decide +kernel
theorem d_Mo_branch_85 : decode b_Mo_branch 85 = .ok (.iconst 1, 1) := by decide +kernel
theorem d_Mo_branch_86 : decode b_Mo_branch 86 = .ok (.if_icmp .ne 15, 3) := by decide +kernel
theorem d_Mo_branch_89 : decode b_Mo_branch 89 = .ok (.iload 7, 2) := by decide +kernel
theorem d_Mo_branch_91 : decode b_Mo_branch 91 = .ok (.ifCond .ne 7, 3) := by decide +kernel
theorem d_Mo_branch_94 : decode b_Mo_branch 94 = .ok (.iconst 1, 1) := by decide +kernel
theorem d_Mo_branch_95 : decode b_Mo_branch 95 = .ok (.goto 4, 3) := by decide +kernel
theorem d_Mo_branch_98 : decode b_Mo_branch 98 = .ok (.iconst 0, 1) := by decide +kernel
theorem d_Mo_branch_99 : decode b_Mo_branch 99 = .ok (.istore 7, 2) := by decide +kernel
theorem d_Mo_branch_101 : decode b_Mo_branch 101 = .ok (.iload 7, 2) := by decide +kernel
theorem d_Mo_branch_103 : decode b_Mo_branch 103 = .ok (.ifCond .eq 20, 3) := by decide +kernel
theorem d_Mo_branch_106 : decode b_Mo_branch 106 = .ok (.aload_n 0, 1) := by decide +kernel
theorem d_Mo_branch_107 : decode b_Mo_branch 107 = .ok (.aload_n 0, 1) := by decide +kernel
theorem d_Mo_branch_108 : decode b_Mo_branch 108 = .ok (.getfield 104, 3) := by decide +kernel
theorem d_Mo_branch_111 : decode b_Mo_branch 111 = .ok (.iload_n 2, 1) := by decide +kernel
theorem d_Mo_branch_112 : decode b_Mo_branch 112 = .ok (.invokestatic 150, 3) := by decide +kernel
theorem d_Mo_branch_115 : decode b_Mo_branch 115 = .ok (.iadd, 1) := by decide +kernel
theorem d_Mo_branch_116 : decode b_Mo_branch 116 = .ok (.invokevirtual 144, 3) := by decide +kernel
theorem d_Mo_branch_119 : decode b_Mo_branch 119 = .ok (.pop, 1) := by decide +kernel
theorem d_Mo_branch_120 : decode b_Mo_branch 120 = .ok (.goto 13, 3) := by decide +kernel
theorem d_Mo_branch_123 : decode b_Mo_branch 123 = .ok (.aload_n 0, 1) := by decide +kernel
theorem d_Mo_branch_124 : decode b_Mo_branch 124 = .ok (.dup, 1) := by decide +kernel
theorem d_Mo_branch_125 : decode b_Mo_branch 125 = .ok (.getfield 104, 3) := by decide +kernel
theorem d_Mo_branch_128 : decode b_Mo_branch 128 = .ok (.iconst 4, 1) := by decide +kernel
theorem d_Mo_branch_129 : decode b_Mo_branch 129 = .ok (.iadd, 1) := by decide +kernel
theorem d_Mo_branch_130 : decode b_Mo_branch 130 = .ok (.putfield 104, 3) := by decide +kernel
theorem d_Mo_branch_133 : decode b_Mo_branch 133 = .ok (.return_, 1) := by decide +kernel
theorem d_Mo_state_0 : decode b_Mo_state 0 = .ok (.aload_n 0, 1) := by decide +kernel
theorem d_Mo_state_1 : decode b_Mo_state 1 = .ok (.iconst 0, 1) := by decide +kernel
theorem d_Mo_state_2 : decode b_Mo_state 2 = .ok (.putfield 62, 3) := by decide +kernel
theorem d_Mo_state_5 : decode b_Mo_state 5 = .ok (.aload_n 0, 1) := by decide +kernel
theorem d_Mo_state_6 : decode b_Mo_state 6 = .ok (.getfield 97, 3) := by decide +kernel
theorem d_Mo_state_9 : decode b_Mo_state 9 = .ok (.ireturn, 1) := by decide +kernel
theorem d_Mo_register_0 : decode b_Mo_register 0 = .ok (.aload_n 0, 1) := by decide +kernel
theorem d_Mo_register_1 : decode b_Mo_register 1 = .ok (.iload_n 1, 1) := by decide +kernel
theorem d_Mo_register_2 : decode b_Mo_register 2 = .ok (.ifCond .lt 9, 3) := by decide +kernel
theorem d_Mo_register_5 : decode b_Mo_register 5 = .ok (.iload_n 1, 1) := by decide +kernel
theorem d_Mo_register_6 : decode b_Mo_register 6 = .ok (.bipush 32, 2) := by decide +kernel
theorem d_Mo_register_8 : decode b_Mo_register 8 = .ok (.if_icmp .le 7, 3) := by decide +kernel
theorem d_Mo_register_11 : decode b_Mo_register 11 = .ok (.iconst 1, 1) := by decide +kernel
theorem d_Mo_register_12 : decode b_Mo_register 12 = .ok (.goto 4, 3) := by decide +kernel
theorem d_Mo_register_15 : decode b_Mo_register 15 = .ok (.iconst 0, 1) := by decide +kernel
theorem d_Mo_register_16 : decode b_Mo_register 16 = .ok (.putfield 62, 3) := by decide +kernel
theorem d_Mo_register_19 : decode b_Mo_register 19 = .ok (.aload_n 0, 1) := by decide +kernel
theorem d_Mo_register_20 : decode b_Mo_register 20 = .ok (.getfield 62, 3) := by decide +kernel
theorem d_Mo_register_23 : decode b_Mo_register 23 = .ok (.ifCond .le 5, 3) := by decide +kernel
theorem d_Mo_register_26 : decode b_Mo_register 26 = .ok (.iconst 0, 1) := by decide +kernel
theorem d_Mo_register_27 : decode b_Mo_register 27 = .ok (.ireturn, 1) := by decide +kernel
theorem d_Mo_register_28 : decode b_Mo_register 28 = .ok (.iload_n 1, 1) := by decide +kernel
theorem d_Mo_register_29 : decode b_Mo_register 29 = .ok (.bipush 32, 2) := by decide +kernel
theorem d_Mo_register_31 : decode b_Mo_register 31 = .ok (.if_icmp .ne 10, 3) := by decide +kernel
theorem d_Mo_register_34 : decode b_Mo_register 34 = .ok (.aload_n 0, 1) := by decide +kernel
theorem d_Mo_register_35 : decode b_Mo_register 35 = .ok (.getfield 104, 3) := by decide +kernel
theorem d_Mo_register_38 : decode b_Mo_register 38 = .ok (.goto 9, 3) := by decide +kernel
theorem d_Mo_register_41 : decode b_Mo_register 41 = .ok (.aload_n 0, 1) := by decide +kernel
theorem d_Mo_register_42 : decode b_Mo_register 42 = .ok (.getfield 19, 3) := by decide +kernel
theorem d_Mo_register_45 : decode b_Mo_register 45 = .ok (.iload_n 1, 1) := by decide +kernel
theorem d_Mo_register_46 : decode b_Mo_register 46 = .ok (.iaload, 1) := by decide +kernel
theorem d_Mo_register_47 : decode b_Mo_register 47 = .ok (.ireturn, 1) := by decide +kernel
theorem d_Mo_set_0 : decode b_Mo_set 0 = .ok (.aload_n 0, 1) := by decide +kernel
theorem d_Mo_set_1 : decode b_Mo_set 1 = .ok (.iload_n 1, 1) := by decide +kernel
theorem d_Mo_set_2 : decode b_Mo_set 2 = .ok (.iconst 1, 1) := by decide +kernel
theorem d_Mo_set_3 : decode b_Mo_set 3 = .ok (.if_icmp .lt 9, 3) := by decide +kernel
theorem d_Mo_set_6 : decode b_Mo_set 6 = .ok (.iload_n 1, 1) := by decide +kernel
theorem d_Mo_set_7 : decode b_Mo_set 7 = .ok (.bipush 31, 2) := by decide +kernel
theorem d_Mo_set_9 : decode b_Mo_set 9 = .ok (.if_icmp .le 7, 3) := by decide +kernel
theorem d_Mo_set_12 : decode b_Mo_set 12 = .ok (.iconst 1, 1) := by decide +kernel
theorem d_Mo_set_13 : decode b_Mo_set 13 = .ok (.goto 4, 3) := by decide +kernel
theorem d_Mo_set_16 : decode b_Mo_set 16 = .ok (.iconst 0, 1) := by decide +kernel
theorem d_Mo_set_17 : decode b_Mo_set 17 = .ok (.putfield 62, 3) := by decide +kernel
theorem d_Mo_set_20 : decode b_Mo_set 20 = .ok (.aload_n 0, 1) := by decide +kernel
theorem d_Mo_set_21 : decode b_Mo_set 21 = .ok (.getfield 62, 3) := by decide +kernel
theorem d_Mo_set_24 : decode b_Mo_set 24 = .ok (.ifCond .le 5, 3) := by decide +kernel
theorem d_Mo_set_27 : decode b_Mo_set 27 = .ok (.iconst 0, 1) := by decide +kernel
theorem d_Mo_set_28 : decode b_Mo_set 28 = .ok (.ireturn, 1) := by decide +kernel
theorem d_Mo_set_29 : decode b_Mo_set 29 = .ok (.aload_n 0, 1) := by decide +kernel
theorem d_Mo_set_30 : decode b_Mo_set 30 = .ok (.getfield 19, 3) := by decide +kernel
theorem d_Mo_set_33 : decode b_Mo_set 33 = .ok (.iload_n 1, 1) := by decide +kernel
theorem d_Mo_set_34 : decode b_Mo_set 34 = .ok (.iaload, 1) := by decide +kernel
theorem d_Mo_set_35 : decode b_Mo_set 35 = .ok (.istore_n 3, 1) := by decide +kernel
theorem d_Mo_set_36 : decode b_Mo_set 36 = .ok (.aload_n 0, 1) := by decide +kernel
theorem d_Mo_set_37 : decode b_Mo_set 37 = .ok (.getfield 19, 3) := by decide +kernel
theorem d_Mo_set_40 : decode b_Mo_set 40 = .ok (.iload_n 1, 1) := by decide +kernel
theorem d_Mo_set_41 : decode b_Mo_set 41 = .ok (.iload_n 2, 1) := by decide +kernel
theorem d_Mo_set_42 : decode b_Mo_set 42 = .ok (.iastore, 1) := by decide +kernel
theorem d_Mo_set_43 : decode b_Mo_set 43 = .ok (.iload_n 3, 1) := by decide +kernel
theorem d_Mo_set_44 : decode b_Mo_set 44 = .ok (.ireturn, 1) := by decide +kernel
theorem d_Mo_count_0 : decode b_Mo_count 0 = .ok (.aload_n 0, 1) := by decide +kernel
theorem d_Mo_count_1 : decode b_Mo_count 1 = .ok (.iload_n 1, 1) := by decide +kernel
theorem d_Mo_count_2 : decode b_Mo_count 2 = .ok (.ifCond .lt 9, 3) := by decide +kernel
theorem d_Mo_count_5 : decode b_Mo_count 5 = .ok (.iload_n 1, 1) := by decide +kernel
theorem d_Mo_count_6 : decode b_Mo_count 6 = .ok (.bipush 6, 2) := by decide +kernel
theorem d_Mo_count_8 : decode b_Mo_count 8 = .ok (.if_icmp .le 7, 3) := by decide +kernel
theorem d_Mo_count_11 : decode b_Mo_count 11 = .ok (.iconst 1, 1) := by decide +kernel
theorem d_Mo_count_12 : decode b_Mo_count 12 = .ok (.goto 4, 3) := by decide +kernel
theorem d_Mo_count_15 : decode b_Mo_count 15 = .ok (.iconst 0, 1) := by decide +kernel
theorem d_Mo_count_16 : decode b_Mo_count 16 = .ok (.putfield 62, 3) := by decide +kernel
theorem d_Mo_count_19 : decode b_Mo_count 19 = .ok (.aload_n 0, 1) := by decide +kernel
theorem d_Mo_count_20 : decode b_Mo_count 20 = .ok (.getfield 62, 3) := by decide +kernel
theorem d_Mo_count_23 : decode b_Mo_count 23 = .ok (.ifCond .le 5, 3) := by decide +kernel
theorem d_Mo_count_26 : decode b_Mo_count 26 = .ok (.iconst 0, 1) := by decide +kernel
theorem d_Mo_count_27 : decode b_Mo_count 27 = .ok (.ireturn, 1) := by decide +kernel
theorem d_Mo_count_28 : decode b_Mo_count 28 = .ok (.iload_n 1, 1) := by decide +kernel
theorem d_Mo_count_29 : decode b_Mo_count 29 = .ok (.tableswitch 69 0 5 #[39, 44, 49, 54, 59, 64], 39) := by decide +kernel
theorem d_Mo_count_68 : decode b_Mo_count 68 = .ok (.aload_n 0, 1) := by decide +kernel
theorem d_Mo_count_69 : decode b_Mo_count 69 = .ok (.getfield 107, 3) := by decide +kernel
theorem d_Mo_count_72 : decode b_Mo_count 72 = .ok (.ireturn, 1) := by decide +kernel
theorem d_Mo_count_73 : decode b_Mo_count 73 = .ok (.aload_n 0, 1) := by decide +kernel
theorem d_Mo_count_74 : decode b_Mo_count 74 = .ok (.getfield 74, 3) := by decide +kernel
theorem d_Mo_count_77 : decode b_Mo_count 77 = .ok (.ireturn, 1) := by decide +kernel
theorem d_Mo_count_78 : decode b_Mo_count 78 = .ok (.aload_n 0, 1) := by decide +kernel
theorem d_Mo_count_79 : decode b_Mo_count 79 = .ok (.getfield 77, 3) := by decide +kernel
theorem d_Mo_count_82 : decode b_Mo_count 82 = .ok (.ireturn, 1) := by decide +kernel
theorem d_Mo_count_83 : decode b_Mo_count 83 = .ok (.aload_n 0, 1) := by decide +kernel
theorem d_Mo_count_84 : decode b_Mo_count 84 = .ok (.getfield 165, 3) := by decide +kernel
theorem d_Mo_count_87 : decode b_Mo_count 87 = .ok (.ireturn, 1) := by decide +kernel
theorem d_Mo_count_88 : decode b_Mo_count 88 = .ok (.aload_n 0, 1) := by decide +kernel
theorem d_Mo_count_89 : decode b_Mo_count 89 = .ok (.getfield 177, 3) := by decide +kernel
theorem d_Mo_count_92 : decode b_Mo_count 92 = .ok (.ireturn, 1) := by decide +kernel
theorem d_Mo_count_93 : decode b_Mo_count 93 = .ok (.aload_n 0, 1) := by decide +kernel
theorem d_Mo_count_94 : decode b_Mo_count 94 = .ok (.getfield 171, 3) := by decide +kernel
theorem d_Mo_count_97 : decode b_Mo_count 97 = .ok (.ireturn, 1) := by decide +kernel
theorem d_Mo_count_98 : decode b_Mo_count 98 = .ok (.aload_n 0, 1) := by decide +kernel
theorem d_Mo_count_99 : decode b_Mo_count 99 = .ok (.getfield 174, 3) := by decide +kernel
theorem d_Mo_count_102 : decode b_Mo_count 102 = .ok (.ireturn, 1) := by decide +kernel
theorem d_Mo_word_0 : decode b_Mo_word 0 = .ok (.aload_n 0, 1) := by decide +kernel
theorem d_Mo_word_1 : decode b_Mo_word 1 = .ok (.aload_n 0, 1) := by decide +kernel
theorem d_Mo_word_2 : decode b_Mo_word 2 = .ok (.getfield 107, 3) := by decide +kernel
theorem d_Mo_word_5 : decode b_Mo_word 5 = .ok (.sipush 4000, 3) := by decide +kernel
theorem d_Mo_word_8 : decode b_Mo_word 8 = .ok (.if_icmp .ne 7, 3) := by decide +kernel
theorem d_Mo_word_11 : decode b_Mo_word 11 = .ok (.iconst 1, 1) := by decide +kernel
theorem d_Mo_word_12 : decode b_Mo_word 12 = .ok (.goto 4, 3) := by decide +kernel
theorem d_Mo_word_15 : decode b_Mo_word 15 = .ok (.iconst 0, 1) := by decide +kernel
theorem d_Mo_word_16 : decode b_Mo_word 16 = .ok (.putfield 62, 3) := by decide +kernel
theorem d_Mo_word_19 : decode b_Mo_word 19 = .ok (.aload_n 0, 1) := by decide +kernel
theorem d_Mo_word_20 : decode b_Mo_word 20 = .ok (.getfield 62, 3) := by decide +kernel
theorem d_Mo_word_23 : decode b_Mo_word 23 = .ok (.ifCond .le 5, 3) := by decide +kernel
theorem d_Mo_word_26 : decode b_Mo_word 26 = .ok (.iconst 0, 1) := by decide +kernel
theorem d_Mo_word_27 : decode b_Mo_word 27 = .ok (.ireturn, 1) := by decide +kernel
theorem d_Mo_word_28 : decode b_Mo_word 28 = .ok (.aload_n 0, 1) := by decide +kernel
theorem d_Mo_word_29 : decode b_Mo_word 29 = .ok (.getfield 16, 3) := by decide +kernel
theorem d_Mo_word_32 : decode b_Mo_word 32 = .ok (.aload_n 0, 1) := by decide +kernel
theorem d_Mo_word_33 : decode b_Mo_word 33 = .ok (.getfield 107, 3) := by decide +kernel
theorem d_Mo_word_36 : decode b_Mo_word 36 = .ok (.iload_n 1, 1) := by decide +kernel
theorem d_Mo_word_37 : decode b_Mo_word 37 = .ok (.iastore, 1) := by decide +kernel
theorem d_Mo_word_38 : decode b_Mo_word 38 = .ok (.aload_n 0, 1) := by decide +kernel
theorem d_Mo_word_39 : decode b_Mo_word 39 = .ok (.dup, 1) := by decide +kernel
theorem d_Mo_word_40 : decode b_Mo_word 40 = .ok (.getfield 107, 3) := by decide +kernel
theorem d_Mo_word_43 : decode b_Mo_word 43 = .ok (.iconst 1, 1) := by decide +kernel
theorem d_Mo_word_44 : decode b_Mo_word 44 = .ok (.iadd, 1) := by decide +kernel
theorem d_Mo_word_45 : decode b_Mo_word 45 = .ok (.putfield 107, 3) := by decide +kernel
theorem d_Mo_word_48 : decode b_Mo_word 48 = .ok (.aload_n 0, 1) := by decide +kernel
theorem d_Mo_word_49 : decode b_Mo_word 49 = .ok (.getfield 107, 3) := by decide +kernel
theorem d_Mo_word_52 : decode b_Mo_word 52 = .ok (.ireturn, 1) := by decide +kernel
theorem d_Mo_place_0 : decode b_Mo_place 0 = .ok (.iload_n 1, 1) := by decide +kernel
theorem d_Mo_place_1 : decode b_Mo_place 1 = .ok (.bipush 16, 2) := by decide +kernel
theorem d_Mo_place_3 : decode b_Mo_place 3 = .ok (.iushr, 1) := by decide +kernel
theorem d_Mo_place_4 : decode b_Mo_place 4 = .ok (.istore_n 3, 1) := by decide +kernel
theorem d_Mo_place_5 : decode b_Mo_place 5 = .ok (.iload_n 1, 1) := by decide +kernel
theorem d_Mo_place_6 : decode b_Mo_place 6 = .ok (.ldc 73, 2) := by decide +kernel
theorem d_Mo_place_8 : decode b_Mo_place 8 = .ok (.iand, 1) := by decide +kernel
theorem d_Mo_place_9 : decode b_Mo_place 9 = .ok (.istore 4, 2) := by decide +kernel
theorem d_Mo_place_11 : decode b_Mo_place 11 = .ok (.iload_n 3, 1) := by decide +kernel
theorem d_Mo_place_12 : decode b_Mo_place 12 = .ok (.ifCond .eq 44, 3) := by decide +kernel
theorem d_Mo_place_15 : decode b_Mo_place 15 = .ok (.iload_n 3, 1) := by decide +kernel
theorem d_Mo_place_16 : decode b_Mo_place 16 = .ok (.aload_n 0, 1) := by decide +kernel
theorem d_Mo_place_17 : decode b_Mo_place 17 = .ok (.getfield 74, 3) := by decide +kernel
theorem d_Mo_place_20 : decode b_Mo_place 20 = .ok (.if_icmp .gt 36, 3) := by decide +kernel
theorem d_Mo_place_23 : decode b_Mo_place 23 = .ok (.aload_n 0, 1) := by decide +kernel
theorem d_Mo_place_24 : decode b_Mo_place 24 = .ok (.getfield 33, 3) := by decide +kernel
theorem d_Mo_place_27 : decode b_Mo_place 27 = .ok (.iload_n 3, 1) := by decide +kernel
theorem d_Mo_place_28 : decode b_Mo_place 28 = .ok (.iaload, 1) := by decide +kernel
theorem d_Mo_place_29 : decode b_Mo_place 29 = .ok (.ifCond .eq 27, 3) := by decide +kernel
theorem d_Mo_place_32 : decode b_Mo_place 32 = .ok (.iload 4, 2) := by decide +kernel
theorem d_Mo_place_34 : decode b_Mo_place 34 = .ok (.iload_n 2, 1) := by decide +kernel
theorem d_Mo_place_35 : decode b_Mo_place 35 = .ok (.iadd, 1) := by decide +kernel
theorem d_Mo_place_36 : decode b_Mo_place 36 = .ok (.aload_n 0, 1) := by decide +kernel
theorem d_Mo_place_37 : decode b_Mo_place 37 = .ok (.getfield 30, 3) := by decide +kernel
theorem d_Mo_place_40 : decode b_Mo_place 40 = .ok (.iload_n 3, 1) := by decide +kernel
theorem d_Mo_place_41 : decode b_Mo_place 41 = .ok (.iaload, 1) := by decide +kernel
theorem d_Mo_place_42 : decode b_Mo_place 42 = .ok (.if_icmp .gt 14, 3) := by decide +kernel
theorem d_Mo_place_45 : decode b_Mo_place 45 = .ok (.iload 4, 2) := by decide +kernel
theorem d_Mo_place_47 : decode b_Mo_place 47 = .ok (.iload_n 2, 1) := by decide +kernel
theorem d_Mo_place_48 : decode b_Mo_place 48 = .ok (.idiv, 1) := by decide +kernel
theorem d_Mo_place_49 : decode b_Mo_place 49 = .ok (.iload_n 2, 1) := by decide +kernel
theorem d_Mo_place_50 : decode b_Mo_place 50 = .ok (.imul, 1) := by decide +kernel
theorem d_Mo_place_51 : decode b_Mo_place 51 = .ok (.iload 4, 2) := by decide +kernel
theorem d_Mo_place_53 : decode b_Mo_place 53 = .ok (.if_icmp .eq 5, 3) := by decide +kernel
theorem d_Mo_place_56 : decode b_Mo_place 56 = .ok (.iconst (-1), 1) := by decide +kernel
theorem d_Mo_place_57 : decode b_Mo_place 57 = .ok (.ireturn, 1) := by decide +kernel
theorem d_Mo_place_58 : decode b_Mo_place 58 = .ok (.aload_n 0, 1) := by decide +kernel
theorem d_Mo_place_59 : decode b_Mo_place 59 = .ok (.getfield 27, 3) := by decide +kernel
theorem d_Mo_place_62 : decode b_Mo_place 62 = .ok (.iload_n 3, 1) := by decide +kernel
theorem d_Mo_place_63 : decode b_Mo_place 63 = .ok (.iaload, 1) := by decide +kernel
theorem d_Mo_place_64 : decode b_Mo_place 64 = .ok (.iload 4, 2) := by decide +kernel
theorem d_Mo_place_66 : decode b_Mo_place 66 = .ok (.iadd, 1) := by decide +kernel
theorem d_Mo_place_67 : decode b_Mo_place 67 = .ok (.ireturn, 1) := by decide +kernel
theorem d_Mo_gone_0 : decode b_Mo_gone 0 = .ok (.aload_n 0, 1) := by decide +kernel
theorem d_Mo_gone_1 : decode b_Mo_gone 1 = .ok (.getfield 33, 3) := by decide +kernel
theorem d_Mo_gone_4 : decode b_Mo_gone 4 = .ok (.iload_n 1, 1) := by decide +kernel
theorem d_Mo_gone_5 : decode b_Mo_gone 5 = .ok (.iconst 0, 1) := by decide +kernel
theorem d_Mo_gone_6 : decode b_Mo_gone 6 = .ok (.iastore, 1) := by decide +kernel
theorem d_Mo_gone_7 : decode b_Mo_gone 7 = .ok (.aload_n 0, 1) := by decide +kernel
theorem d_Mo_gone_8 : decode b_Mo_gone 8 = .ok (.dup, 1) := by decide +kernel
theorem d_Mo_gone_9 : decode b_Mo_gone 9 = .ok (.getfield 77, 3) := by decide +kernel
theorem d_Mo_gone_12 : decode b_Mo_gone 12 = .ok (.aload_n 0, 1) := by decide +kernel
theorem d_Mo_gone_13 : decode b_Mo_gone 13 = .ok (.getfield 30, 3) := by decide +kernel
theorem d_Mo_gone_16 : decode b_Mo_gone 16 = .ok (.iload_n 1, 1) := by decide +kernel
theorem d_Mo_gone_17 : decode b_Mo_gone 17 = .ok (.iaload, 1) := by decide +kernel
theorem d_Mo_gone_18 : decode b_Mo_gone 18 = .ok (.invokestatic 80, 3) := by decide +kernel
theorem d_Mo_gone_21 : decode b_Mo_gone 21 = .ok (.isub, 1) := by decide +kernel
theorem d_Mo_gone_22 : decode b_Mo_gone 22 = .ok (.putfield 77, 3) := by decide +kernel
theorem d_Mo_gone_25 : decode b_Mo_gone 25 = .ok (.return_, 1) := by decide +kernel
theorem d_Mo_change_0 : decode b_Mo_change 0 = .ok (.aload_n 0, 1) := by decide +kernel
theorem d_Mo_change_1 : decode b_Mo_change 1 = .ok (.iload_n 1, 1) := by decide +kernel
theorem d_Mo_change_2 : decode b_Mo_change 2 = .ok (.ifCond .lt 11, 3) := by decide +kernel
theorem d_Mo_change_5 : decode b_Mo_change 5 = .ok (.iload_n 1, 1) := by decide +kernel
theorem d_Mo_change_6 : decode b_Mo_change 6 = .ok (.aload_n 0, 1) := by decide +kernel
theorem d_Mo_change_7 : decode b_Mo_change 7 = .ok (.getfield 107, 3) := by decide +kernel
theorem d_Mo_change_10 : decode b_Mo_change 10 = .ok (.if_icmp .lt 7, 3) := by decide +kernel
theorem d_Mo_change_13 : decode b_Mo_change 13 = .ok (.iconst 1, 1) := by decide +kernel
theorem d_Mo_change_14 : decode b_Mo_change 14 = .ok (.goto 4, 3) := by decide +kernel
theorem d_Mo_change_17 : decode b_Mo_change 17 = .ok (.iconst 0, 1) := by decide +kernel
theorem d_Mo_change_18 : decode b_Mo_change 18 = .ok (.putfield 62, 3) := by decide +kernel
theorem d_Mo_change_21 : decode b_Mo_change 21 = .ok (.aload_n 0, 1) := by decide +kernel
theorem d_Mo_change_22 : decode b_Mo_change 22 = .ok (.getfield 62, 3) := by decide +kernel
theorem d_Mo_change_25 : decode b_Mo_change 25 = .ok (.ifCond .le 5, 3) := by decide +kernel
theorem d_Mo_change_28 : decode b_Mo_change 28 = .ok (.iconst 0, 1) := by decide +kernel
theorem d_Mo_change_29 : decode b_Mo_change 29 = .ok (.ireturn, 1) := by decide +kernel
theorem d_Mo_change_30 : decode b_Mo_change 30 = .ok (.aload_n 0, 1) := by decide +kernel
theorem d_Mo_change_31 : decode b_Mo_change 31 = .ok (.getfield 16, 3) := by decide +kernel
theorem d_Mo_change_34 : decode b_Mo_change 34 = .ok (.iload_n 1, 1) := by decide +kernel
theorem d_Mo_change_35 : decode b_Mo_change 35 = .ok (.iaload, 1) := by decide +kernel
theorem d_Mo_change_36 : decode b_Mo_change 36 = .ok (.istore_n 3, 1) := by decide +kernel
theorem d_Mo_change_37 : decode b_Mo_change 37 = .ok (.aload_n 0, 1) := by decide +kernel
theorem d_Mo_change_38 : decode b_Mo_change 38 = .ok (.getfield 16, 3) := by decide +kernel
theorem d_Mo_change_41 : decode b_Mo_change 41 = .ok (.iload_n 1, 1) := by decide +kernel
theorem d_Mo_change_42 : decode b_Mo_change 42 = .ok (.iload_n 2, 1) := by decide +kernel
theorem d_Mo_change_43 : decode b_Mo_change 43 = .ok (.iastore, 1) := by decide +kernel
theorem d_Mo_change_44 : decode b_Mo_change 44 = .ok (.iload_n 3, 1) := by decide +kernel
theorem d_Mo_change_45 : decode b_Mo_change 45 = .ok (.ireturn, 1) := by decide +kernel
theorem zb5 (w i : Int32) : vp_in (sp_Mo_bits w i 5) 32 := by
  have h : (((1 : Int32) <<< ((5 : Int32) &&& 31)) - 1) = 31 := by decide
  unfold sp_Mo_bits
  rw [h]
  exact pk_andIn _ 5 rfl (by decide)
def sp_Mo_thrown (th : Int32) : Int32 := th
set_option maxHeartbeats 4000000 in
theorem c_Mo_thrown (l : Launch) (D : va_G) (cI cB cJ : ClassId) (sz : Nat) (m0 : Nat) (mk : Nat) (mt : Nat) (kd : Int32) (wo : Nat) (wn : Int32) (re : Nat) (pc : Int32) (sta : Int32) (dn : Int32) (th : Int32) (ro : Nat) (aa : Nat) (si : Nat) (so : Nat) (la : Nat) (md : Int32) (lq : Int32) (tp : Int32) (tr : Int32) (ip : Nat) (oq : Nat) (cp : Nat) (ni : Int32) (no : Int32) : zMet l y_Mo_thrown (zWs y_Mo_thrown b_Mo_thrown 1 (some .int)) { frames := 0, cells := 0, slots := 0, locals := 0 } (zPc D (zT cI cB cJ) sz [(m0, .inr (3, [.ref mk, .ref mt, .int kd, .ref wo, .int wn, .ref re, .int pc, .int sta, .int dn, .int th, .ref ro, .ref aa, .ref si, .ref so, .ref la, .int md, .int lq, .int tp, .int tr, .ref ip, .ref oq, .ref cp, .int ni, .int no]))] [.ref m0]) (zQi D (va_A [(m0, .inr (3, [.ref mk, .ref mt, .int kd, .ref wo, .int wn, .ref re, .int pc, .int sta, .int dn, .int th, .ref ro, .ref aa, .ref si, .ref so, .ref la, .int md, .int lq, .int tp, .int tr, .ref ip, .ref oq, .ref cp, .int ni, .int no]))] sz) (fun r (_ : Unit) => r = (sp_Mo_thrown th)) (z0) (fun _ => [(m0, .inr (3, [.ref mk, .ref mt, .int kd, .ref wo, .int wn, .ref re, .int pc, .int sta, .int dn, .int th, .ref ro, .ref aa, .ref si, .ref so, .ref la, .int md, .int lq, .int tp, .int tr, .ref ip, .ref oq, .ref cp, .int ni, .int no]))])) (va_A [(m0, .inr (3, [.ref mk, .ref mt, .int kd, .ref wo, .int wn, .ref re, .int pc, .int sta, .int dn, .int th, .ref ro, .ref aa, .ref si, .ref so, .ref la, .int md, .int lq, .int tp, .int tr, .ref ip, .ref oq, .ref cp, .int ni, .int no]))] sz) := by
  refine zstart (Qc := fun A => zQi D A (fun r (_ : Unit) => r = (sp_Mo_thrown th)) (z0) (fun _ => [(m0, .inr (3, [.ref mk, .ref mt, .int kd, .ref wo, .int wn, .ref re, .int pc, .int sta, .int dn, .int th, .ref ro, .ref aa, .ref si, .ref so, .ref la, .int md, .int lq, .int tp, .int tr, .ref ip, .ref oq, .ref cp, .int ni, .int no]))])) (by decide) (Nat.le_of_ble_eq_true rfl) ?_
  intro p e s m below meth c ls A hE hr hlocks hin hsz hK hP hD hS hA hAe hl
  have hx := hE.1
  have hb := hE.2.1
  have hown := hE.2.2.2.1
  have hw := hE.2.2.2.2
  have hl : lv_has ls 1 [(0, .ref m0)] := hl
  refine lv_aload_n hx hb d_Mo_thrown_0 rfl (lv_at hl 0 rfl) ?_
  refine zget hE hK hP 0 rfl fd_Mo_62 rfl d_Mo_thrown_1 ?_
  have hs : (sp_Mo_thrown th) = th := rfl
  have hP9 := hP.sub (ws' := [(m0, .inr (3, [.ref mk, .ref mt, .int kd, .ref wo, .int wn, .ref re, .int pc, .int sta, .int dn, .int th, .ref ro, .ref aa, .ref si, .ref so, .ref la, .int md, .int lq, .int tp, .int tr, .ref ip, .ref oq, .ref cp, .int ni, .int no]))]) [0] rfl
  have hD9 := hD.sub (ws' := [(m0, .inr (3, [.ref mk, .ref mt, .int kd, .ref wo, .int wn, .ref re, .int pc, .int sta, .int dn, .int th, .ref ro, .ref aa, .ref si, .ref so, .ref la, .int md, .int lq, .int tp, .int tr, .ref ip, .ref oq, .ref cp, .int ni, .int no]))]) [0] rfl rfl
  exact zreti hx hb hr rfl hlocks hS () (by rw [hs]) rfl (by exact hP9) (by exact hD9) d_Mo_thrown_4

def sp_Mo_trap (t : Int32) : Int32 := 10 + t
set_option maxHeartbeats 4000000 in
theorem c_Mo_trap (l : Launch) (D : va_G) (cI cB cJ : ClassId) (sz : Nat) (t : Int32) (m0 : Nat) (mk : Nat) (mt : Nat) (kd : Int32) (wo : Nat) (wn : Int32) (re : Nat) (pc : Int32) (sta : Int32) (dn : Int32) (th : Int32) (ro : Nat) (aa : Nat) (si : Nat) (so : Nat) (la : Nat) (md : Int32) (lq : Int32) (tp : Int32) (tr : Int32) (ip : Nat) (oq : Nat) (cp : Nat) (ni : Int32) (no : Int32) : zMet l y_Mo_trap (zWs y_Mo_trap b_Mo_trap 2 (none)) { frames := 0, cells := 0, slots := 0, locals := 0 } (zPc D (zT cI cB cJ) sz [(m0, .inr (3, [.ref mk, .ref mt, .int kd, .ref wo, .int wn, .ref re, .int pc, .int sta, .int dn, .int th, .ref ro, .ref aa, .ref si, .ref so, .ref la, .int md, .int lq, .int tp, .int tr, .ref ip, .ref oq, .ref cp, .int ni, .int no]))] [.ref m0, .int t]) (zQv D (va_A [(m0, .inr (3, [.ref mk, .ref mt, .int kd, .ref wo, .int wn, .ref re, .int pc, .int sta, .int dn, .int th, .ref ro, .ref aa, .ref si, .ref so, .ref la, .int md, .int lq, .int tp, .int tr, .ref ip, .ref oq, .ref cp, .int ni, .int no]))] sz) (fun (_ : Unit) => True) (z0) (fun _ => [(m0, .inr (3, [.ref mk, .ref mt, .int kd, .ref wo, .int wn, .ref re, .int pc, .int ((sp_Mo_trap t)), .int dn, .int th, .ref ro, .ref aa, .ref si, .ref so, .ref la, .int md, .int lq, .int tp, .int tr, .ref ip, .ref oq, .ref cp, .int ni, .int no]))])) (va_A [(m0, .inr (3, [.ref mk, .ref mt, .int kd, .ref wo, .int wn, .ref re, .int pc, .int sta, .int dn, .int th, .ref ro, .ref aa, .ref si, .ref so, .ref la, .int md, .int lq, .int tp, .int tr, .ref ip, .ref oq, .ref cp, .int ni, .int no]))] sz) := by
  refine zstart (Qc := fun A => zQv D A (fun (_ : Unit) => True) (z0) (fun _ => [(m0, .inr (3, [.ref mk, .ref mt, .int kd, .ref wo, .int wn, .ref re, .int pc, .int ((sp_Mo_trap t)), .int dn, .int th, .ref ro, .ref aa, .ref si, .ref so, .ref la, .int md, .int lq, .int tp, .int tr, .ref ip, .ref oq, .ref cp, .int ni, .int no]))])) (by decide) (Nat.le_of_ble_eq_true rfl) ?_
  intro p e s m below meth c ls A hE hr hlocks hin hsz hK hP hD hS hA hAe hl
  have hx := hE.1
  have hb := hE.2.1
  have hown := hE.2.2.2.1
  have hw := hE.2.2.2.2
  have hl : lv_has ls 2 [(0, .ref m0), (1, .int t)] := hl
  refine lv_aload_n hx hb d_Mo_trap_0 rfl (lv_at hl 0 rfl) ?_
  refine lv_bipush (v := 10) hx hb d_Mo_trap_1 (by decide) ?_
  refine lv_iload_n hx hb d_Mo_trap_3 rfl (lv_at hl 1 rfl) ?_
  refine lv_iadd hx hb d_Mo_trap_4 ?_
  refine zput (v := .int (10 + t)) hE hK hP hD hS 0 rfl fd_Mo_97 ft_Mo_7 rfl rfl (Nat.le_of_ble_eq_true rfl) d_Mo_trap_5 (fun H locs hP hD hS => ?_)
  have hP : va_P D zC [(m0, .inr (3, [.ref mk, .ref mt, .int kd, .ref wo, .int wn, .ref re, .int pc, .int (10 + t), .int dn, .int th, .ref ro, .ref aa, .ref si, .ref so, .ref la, .int md, .int lq, .int tp, .int tr, .ref ip, .ref oq, .ref cp, .int ni, .int no]))] H := hP
  have hD : va_D A [(m0, .inr (3, [.ref mk, .ref mt, .int kd, .ref wo, .int wn, .ref re, .int pc, .int (10 + t), .int dn, .int th, .ref ro, .ref aa, .ref si, .ref so, .ref la, .int md, .int lq, .int tp, .int tr, .ref ip, .ref oq, .ref cp, .int ni, .int no]))] := hD
  have hs : (sp_Mo_trap t) = 10 + t := rfl
  have hP9 := hP.sub (ws' := [(m0, .inr (3, [.ref mk, .ref mt, .int kd, .ref wo, .int wn, .ref re, .int pc, .int (10 + t), .int dn, .int th, .ref ro, .ref aa, .ref si, .ref so, .ref la, .int md, .int lq, .int tp, .int tr, .ref ip, .ref oq, .ref cp, .int ni, .int no]))]) [0] rfl
  have hD9 := hD.sub (ws' := [(m0, .inr (3, [.ref mk, .ref mt, .int kd, .ref wo, .int wn, .ref re, .int pc, .int (10 + t), .int dn, .int th, .ref ro, .ref aa, .ref si, .ref so, .ref la, .int md, .int lq, .int tp, .int tr, .ref ip, .ref oq, .ref cp, .int ni, .int no]))]) [0] rfl rfl
  exact zretv hx hb hr hlocks hS () trivial rfl (by rw [hs]; exact hP9) (by rw [hs]; exact hD9) d_Mo_trap_8

def sp_Mo_isGone (to : Int32) (pc : Int32) (sta : Int32) : Int32 × Int32 × Int32 := if (to &&& 3) = 0 then (1, to, sta) else (0, pc, (sp_Mo_trap 3))
set_option maxHeartbeats 4000000 in
theorem c_Mo_isGone (l : Launch) (D : va_G) (cI cB cJ : ClassId) (sz : Nat) (to : Int32) (m0 : Nat) (mk : Nat) (mt : Nat) (kd : Int32) (wo : Nat) (wn : Int32) (re : Nat) (pc : Int32) (sta : Int32) (dn : Int32) (th : Int32) (ro : Nat) (aa : Nat) (si : Nat) (so : Nat) (la : Nat) (md : Int32) (lq : Int32) (tp : Int32) (tr : Int32) (ip : Nat) (oq : Nat) (cp : Nat) (ni : Int32) (no : Int32) : zMet l y_Mo_isGone (zWs y_Mo_isGone b_Mo_isGone 2 (some .boolean)) { frames := 1, cells := 0, slots := 0, locals := 21 } (zPc D (zT cI cB cJ) sz [(m0, .inr (3, [.ref mk, .ref mt, .int kd, .ref wo, .int wn, .ref re, .int pc, .int sta, .int dn, .int th, .ref ro, .ref aa, .ref si, .ref so, .ref la, .int md, .int lq, .int tp, .int tr, .ref ip, .ref oq, .ref cp, .int ni, .int no]))] [.ref m0, .int to]) (zQi D (va_A [(m0, .inr (3, [.ref mk, .ref mt, .int kd, .ref wo, .int wn, .ref re, .int pc, .int sta, .int dn, .int th, .ref ro, .ref aa, .ref si, .ref so, .ref la, .int md, .int lq, .int tp, .int tr, .ref ip, .ref oq, .ref cp, .int ni, .int no]))] sz) (fun r (_ : Unit) => r = (sp_Mo_isGone to pc sta).1) (z0) (fun _ => [(m0, .inr (3, [.ref mk, .ref mt, .int kd, .ref wo, .int wn, .ref re, .int ((sp_Mo_isGone to pc sta).2.1), .int ((sp_Mo_isGone to pc sta).2.2), .int dn, .int th, .ref ro, .ref aa, .ref si, .ref so, .ref la, .int md, .int lq, .int tp, .int tr, .ref ip, .ref oq, .ref cp, .int ni, .int no]))])) (va_A [(m0, .inr (3, [.ref mk, .ref mt, .int kd, .ref wo, .int wn, .ref re, .int pc, .int sta, .int dn, .int th, .ref ro, .ref aa, .ref si, .ref so, .ref la, .int md, .int lq, .int tp, .int tr, .ref ip, .ref oq, .ref cp, .int ni, .int no]))] sz) := by
  refine zstart (Qc := fun A => zQi D A (fun r (_ : Unit) => r = (sp_Mo_isGone to pc sta).1) (z0) (fun _ => [(m0, .inr (3, [.ref mk, .ref mt, .int kd, .ref wo, .int wn, .ref re, .int ((sp_Mo_isGone to pc sta).2.1), .int ((sp_Mo_isGone to pc sta).2.2), .int dn, .int th, .ref ro, .ref aa, .ref si, .ref so, .ref la, .int md, .int lq, .int tp, .int tr, .ref ip, .ref oq, .ref cp, .int ni, .int no]))])) (by decide) (Nat.le_of_ble_eq_true rfl) ?_
  intro p e s m below meth c ls A hE hr hlocks hin hsz hK hP hD hS hA hAe hl
  have hx := hE.1
  have hb := hE.2.1
  have hown := hE.2.2.2.1
  have hw := hE.2.2.2.2
  have hl : lv_has ls 2 [(0, .ref m0), (1, .int to)] := hl
  refine lv_iload_n hx hb d_Mo_isGone_0 rfl (lv_at hl 1 rfl) ?_
  refine lv_iconst (v := 3) hx hb d_Mo_isGone_1 (by decide) ?_
  refine lv_iand hx hb d_Mo_isGone_2 ?_
  refine lv_if_eq (tgt := 13) hx hb d_Mo_isGone_3 (by decide) (fun h1 => ?_) (fun h1 => ?_)
  · refine lv_aload_n hx hb d_Mo_isGone_13 rfl (lv_at hl 0 rfl) ?_
    refine lv_iload_n hx hb d_Mo_isGone_14 rfl (lv_at hl 1 rfl) ?_
    refine zput (v := .int to) hE hK hP hD hS 0 rfl fd_Mo_104 ft_Mo_6 rfl rfl (Nat.le_of_ble_eq_true rfl) d_Mo_isGone_15 (fun H locs hP hD hS => ?_)
    have hP : va_P D zC [(m0, .inr (3, [.ref mk, .ref mt, .int kd, .ref wo, .int wn, .ref re, .int to, .int sta, .int dn, .int th, .ref ro, .ref aa, .ref si, .ref so, .ref la, .int md, .int lq, .int tp, .int tr, .ref ip, .ref oq, .ref cp, .int ni, .int no]))] H := hP
    have hD : va_D A [(m0, .inr (3, [.ref mk, .ref mt, .int kd, .ref wo, .int wn, .ref re, .int to, .int sta, .int dn, .int th, .ref ro, .ref aa, .ref si, .ref so, .ref la, .int md, .int lq, .int tp, .int tr, .ref ip, .ref oq, .ref cp, .int ni, .int no]))] := hD
    refine lv_iconst (v := 1) hx hb d_Mo_isGone_18 (by decide) ?_
    have hs : (sp_Mo_isGone to pc sta) = (1, to, sta) := by rw [sp_Mo_isGone, if_pos h1]
    have hP9 := hP.sub (ws' := [(m0, .inr (3, [.ref mk, .ref mt, .int kd, .ref wo, .int wn, .ref re, .int to, .int sta, .int dn, .int th, .ref ro, .ref aa, .ref si, .ref so, .ref la, .int md, .int lq, .int tp, .int tr, .ref ip, .ref oq, .ref cp, .int ni, .int no]))]) [0] rfl
    have hD9 := hD.sub (ws' := [(m0, .inr (3, [.ref mk, .ref mt, .int kd, .ref wo, .int wn, .ref re, .int to, .int sta, .int dn, .int th, .ref ro, .ref aa, .ref si, .ref so, .ref la, .int md, .int lq, .int tp, .int tr, .ref ip, .ref oq, .ref cp, .int ni, .int no]))]) [0] rfl rfl
    exact zreti hx hb hr rfl hlocks hS () (by rw [hs]) rfl (by rw [hs]; exact hP9) (by rw [hs]; exact hD9) d_Mo_isGone_19
  · refine lv_aload_n hx hb d_Mo_isGone_6 rfl (lv_at hl 0 rfl) ?_
    refine lv_iconst (v := 3) hx hb d_Mo_isGone_7 (by decide) ?_
    refine zgov (wr := []) (zrunV (n := 1) (As := [.int 3]) (rest := []) hE (c_Mo_trap l D cI cB cJ _ 3 m0 mk mt kd wo wn re pc sta dn th ro aa si so la md lq tp tr ip oq cp ni no) cb_Mo_trap lk_Mo_100 in_Mo_trap se_Mo_trap (zpreV (q0 := 0) hK hP hD rfl rfl rfl [0] rfl rfl rfl) ⟨Nat.le_of_ble_eq_true rfl, Nat.le_of_ble_eq_true rfl, Nat.le_of_ble_eq_true rfl, Nat.le_of_ble_eq_true rfl⟩ rfl hl.1 rfl (Nat.le_of_ble_eq_true rfl) d_Mo_isGone_8) hP hD hS hA [0] [] rfl rfl rfl (by decide) (fun u H locs hq2 hP hD hS => ?_)
    clear hq2
    have hP : va_P D zC [(m0, .inr (3, [.ref mk, .ref mt, .int kd, .ref wo, .int wn, .ref re, .int pc, .int ((sp_Mo_trap 3)), .int dn, .int th, .ref ro, .ref aa, .ref si, .ref so, .ref la, .int md, .int lq, .int tp, .int tr, .ref ip, .ref oq, .ref cp, .int ni, .int no]))] H := hP
    have hD : va_D A [(m0, .inr (3, [.ref mk, .ref mt, .int kd, .ref wo, .int wn, .ref re, .int pc, .int ((sp_Mo_trap 3)), .int dn, .int th, .ref ro, .ref aa, .ref si, .ref so, .ref la, .int md, .int lq, .int tp, .int tr, .ref ip, .ref oq, .ref cp, .int ni, .int no]))] := hD
    refine lv_iconst (v := 0) hx hb d_Mo_isGone_11 (by decide) ?_
    have hs : (sp_Mo_isGone to pc sta) = (0, pc, (sp_Mo_trap 3)) := by rw [sp_Mo_isGone, if_neg h1]
    have hP9 := hP.sub (ws' := [(m0, .inr (3, [.ref mk, .ref mt, .int kd, .ref wo, .int wn, .ref re, .int pc, .int ((sp_Mo_trap 3)), .int dn, .int th, .ref ro, .ref aa, .ref si, .ref so, .ref la, .int md, .int lq, .int tp, .int tr, .ref ip, .ref oq, .ref cp, .int ni, .int no]))]) [0] rfl
    have hD9 := hD.sub (ws' := [(m0, .inr (3, [.ref mk, .ref mt, .int kd, .ref wo, .int wn, .ref re, .int pc, .int ((sp_Mo_trap 3)), .int dn, .int th, .ref ro, .ref aa, .ref si, .ref so, .ref la, .int md, .int lq, .int tp, .int tr, .ref ip, .ref oq, .ref cp, .int ni, .int no]))]) [0] rfl rfl
    exact zreti hx hb hr rfl hlocks hS () (by rw [hs]) rfl (by rw [hs]; exact hP9) (by rw [hs]; exact hD9) d_Mo_isGone_12

def sp_Mo_put (w : Int32) (v : Int32) (rg : Nat → Int32) : (Nat → Int32) := if (sp_Mo_bits w 7 5) ≤ 0 then rg else upd rg (sp_Mo_bits w 7 5).toNatClampNeg v
set_option maxHeartbeats 4000000 in
theorem c_Mo_put (l : Launch) (D : va_G) (cI cB cJ : ClassId) (sz : Nat) (w : Int32) (v : Int32) (m0 : Nat) (mk : Nat) (mt : Nat) (kd : Int32) (wo : Nat) (wn : Int32) (re : Nat) (pc : Int32) (sta : Int32) (dn : Int32) (th : Int32) (ro : Nat) (aa : Nat) (si : Nat) (so : Nat) (la : Nat) (md : Int32) (lq : Int32) (tp : Int32) (tr : Int32) (ip : Nat) (oq : Nat) (cp : Nat) (ni : Int32) (no : Int32) (rg : Nat → Int32) : zMet l y_Mo_put (zWs y_Mo_put b_Mo_put 4 (none)) { frames := 1, cells := 0, slots := 0, locals := 22 } (zPc D (zT cI cB cJ) sz [(m0, .inr (3, [.ref mk, .ref mt, .int kd, .ref wo, .int wn, .ref re, .int pc, .int sta, .int dn, .int th, .ref ro, .ref aa, .ref si, .ref so, .ref la, .int md, .int lq, .int tp, .int tr, .ref ip, .ref oq, .ref cp, .int ni, .int no])), (re, .inl (cI, 32, .inl (rg)))] [.ref m0, .int w, .int v]) (zQv D (va_A [(m0, .inr (3, [.ref mk, .ref mt, .int kd, .ref wo, .int wn, .ref re, .int pc, .int sta, .int dn, .int th, .ref ro, .ref aa, .ref si, .ref so, .ref la, .int md, .int lq, .int tp, .int tr, .ref ip, .ref oq, .ref cp, .int ni, .int no])), (re, .inl (cI, 32, .inl (rg)))] sz) (fun (_ : Unit) => True) (z0) (fun _ => [(m0, .inr (3, [.ref mk, .ref mt, .int kd, .ref wo, .int wn, .ref re, .int pc, .int sta, .int dn, .int th, .ref ro, .ref aa, .ref si, .ref so, .ref la, .int md, .int lq, .int tp, .int tr, .ref ip, .ref oq, .ref cp, .int ni, .int no])), (re, .inl (cI, 32, .inl ((sp_Mo_put w v rg))))])) (va_A [(m0, .inr (3, [.ref mk, .ref mt, .int kd, .ref wo, .int wn, .ref re, .int pc, .int sta, .int dn, .int th, .ref ro, .ref aa, .ref si, .ref so, .ref la, .int md, .int lq, .int tp, .int tr, .ref ip, .ref oq, .ref cp, .int ni, .int no])), (re, .inl (cI, 32, .inl (rg)))] sz) := by
  refine zstart (Qc := fun A => zQv D A (fun (_ : Unit) => True) (z0) (fun _ => [(m0, .inr (3, [.ref mk, .ref mt, .int kd, .ref wo, .int wn, .ref re, .int pc, .int sta, .int dn, .int th, .ref ro, .ref aa, .ref si, .ref so, .ref la, .int md, .int lq, .int tp, .int tr, .ref ip, .ref oq, .ref cp, .int ni, .int no])), (re, .inl (cI, 32, .inl ((sp_Mo_put w v rg))))])) (by decide) (Nat.le_of_ble_eq_true rfl) ?_
  intro p e s m below meth c ls A hE hr hlocks hin hsz hK hP hD hS hA hAe hl
  have hx := hE.1
  have hb := hE.2.1
  have hown := hE.2.2.2.1
  have hw := hE.2.2.2.2
  have hl : lv_has ls 4 [(0, .ref m0), (1, .int w), (2, .int v)] := hl
  refine lv_iload_n hx hb d_Mo_put_0 rfl (lv_at hl 1 rfl) ?_
  refine lv_bipush (v := 7) hx hb d_Mo_put_1 (by decide) ?_
  refine lv_iconst (v := 5) hx hb d_Mo_put_3 (by decide) ?_
  refine zgoi (wr := [(m0, .inr (3, [.ref mk, .ref mt, .int kd, .ref wo, .int wn, .ref re, .int pc, .int sta, .int dn, .int th, .ref ro, .ref aa, .ref si, .ref so, .ref la, .int md, .int lq, .int tp, .int tr, .ref ip, .ref oq, .ref cp, .int ni, .int no])), (re, .inl (cI, 32, .inl (rg)))]) (zrunS (n := 3) (As := [.int w, .int 7, .int 5]) (rest := []) hE (c_Mo_bits l D _ _ w 7 5) cb_Mo_bits lk_Mo_65 st_Mo_bits (zpreS hK hP hD [] rfl rfl rfl) ⟨Nat.le_of_ble_eq_true rfl, Nat.le_of_ble_eq_true rfl, Nat.le_of_ble_eq_true rfl, Nat.le_of_ble_eq_true rfl⟩ rfl hl.1 rfl (Nat.le_of_ble_eq_true rfl) d_Mo_put_4) hP hD hS hA [] [0, 1] rfl rfl rfl (by decide) (fun r u H locs hq1 hP hD hS => ?_)
  subst hq1
  have hP : va_P D zC [(m0, .inr (3, [.ref mk, .ref mt, .int kd, .ref wo, .int wn, .ref re, .int pc, .int sta, .int dn, .int th, .ref ro, .ref aa, .ref si, .ref so, .ref la, .int md, .int lq, .int tp, .int tr, .ref ip, .ref oq, .ref cp, .int ni, .int no])), (re, .inl (cI, 32, .inl (rg)))] H := hP
  have hD : va_D A [(m0, .inr (3, [.ref mk, .ref mt, .int kd, .ref wo, .int wn, .ref re, .int pc, .int sta, .int dn, .int th, .ref ro, .ref aa, .ref si, .ref so, .ref la, .int md, .int lq, .int tp, .int tr, .ref ip, .ref oq, .ref cp, .int ni, .int no])), (re, .inl (cI, 32, .inl (rg)))] := hD
  refine lv_istore_n (lv' := [(3, .int (sp_Mo_bits w 7 5)), (0, .ref m0), (1, .int w), (2, .int v)]) hx hb d_Mo_put_7 rfl hl (by decide) rfl (fun ls hl => ?_)
  refine lv_iload_n hx hb d_Mo_put_8 rfl (lv_at hl 0 rfl) ?_
  refine lv_if_le (tgt := 19) hx hb d_Mo_put_9 (by decide) (fun h2 => ?_) (fun h2 => ?_)
  · have hs : (sp_Mo_put w v rg) = rg := by rw [sp_Mo_put, if_pos h2]
    have hP9 := hP.sub (ws' := [(m0, .inr (3, [.ref mk, .ref mt, .int kd, .ref wo, .int wn, .ref re, .int pc, .int sta, .int dn, .int th, .ref ro, .ref aa, .ref si, .ref so, .ref la, .int md, .int lq, .int tp, .int tr, .ref ip, .ref oq, .ref cp, .int ni, .int no])), (re, .inl (cI, 32, .inl (rg)))]) [0, 1] rfl
    have hD9 := hD.sub (ws' := [(m0, .inr (3, [.ref mk, .ref mt, .int kd, .ref wo, .int wn, .ref re, .int pc, .int sta, .int dn, .int th, .ref ro, .ref aa, .ref si, .ref so, .ref la, .int md, .int lq, .int tp, .int tr, .ref ip, .ref oq, .ref cp, .int ni, .int no])), (re, .inl (cI, 32, .inl (rg)))]) [0, 1] rfl rfl
    exact zretv hx hb hr hlocks hS () trivial rfl (by rw [hs]; exact hP9) (by rw [hs]; exact hD9) d_Mo_put_19
  · refine lv_aload_n hx hb d_Mo_put_12 rfl (lv_at hl 1 rfl) ?_
    refine zget hE hK hP 0 rfl fd_Mo_19 rfl d_Mo_put_13 ?_
    refine lv_iload_n hx hb d_Mo_put_16 rfl (lv_at hl 0 rfl) ?_
    refine lv_iload_n hx hb d_Mo_put_17 rfl (lv_at hl 3 rfl) ?_
    refine va_iast hx hb hK hP hD hS 1 0 rfl rfl (zb5 _ _) d_Mo_put_18 (fun H locs hP hD hS => ?_)
    have hP : va_P D zC [(m0, .inr (3, [.ref mk, .ref mt, .int kd, .ref wo, .int wn, .ref re, .int pc, .int sta, .int dn, .int th, .ref ro, .ref aa, .ref si, .ref so, .ref la, .int md, .int lq, .int tp, .int tr, .ref ip, .ref oq, .ref cp, .int ni, .int no])), (re, .inl (cI, 32, .inl (upd rg (sp_Mo_bits w 7 5).toNatClampNeg v)))] H := hP
    have hD : va_D A [(m0, .inr (3, [.ref mk, .ref mt, .int kd, .ref wo, .int wn, .ref re, .int pc, .int sta, .int dn, .int th, .ref ro, .ref aa, .ref si, .ref so, .ref la, .int md, .int lq, .int tp, .int tr, .ref ip, .ref oq, .ref cp, .int ni, .int no])), (re, .inl (cI, 32, .inl (upd rg (sp_Mo_bits w 7 5).toNatClampNeg v)))] := hD
    have hs : (sp_Mo_put w v rg) = upd rg (sp_Mo_bits w 7 5).toNatClampNeg v := by rw [sp_Mo_put, if_neg h2]
    have hP9 := hP.sub (ws' := [(m0, .inr (3, [.ref mk, .ref mt, .int kd, .ref wo, .int wn, .ref re, .int pc, .int sta, .int dn, .int th, .ref ro, .ref aa, .ref si, .ref so, .ref la, .int md, .int lq, .int tp, .int tr, .ref ip, .ref oq, .ref cp, .int ni, .int no])), (re, .inl (cI, 32, .inl (upd rg (sp_Mo_bits w 7 5).toNatClampNeg v)))]) [0, 1] rfl
    have hD9 := hD.sub (ws' := [(m0, .inr (3, [.ref mk, .ref mt, .int kd, .ref wo, .int wn, .ref re, .int pc, .int sta, .int dn, .int th, .ref ro, .ref aa, .ref si, .ref so, .ref la, .int md, .int lq, .int tp, .int tr, .ref ip, .ref oq, .ref cp, .int ni, .int no])), (re, .inl (cI, 32, .inl (upd rg (sp_Mo_bits w 7 5).toNatClampNeg v)))]) [0, 1] rfl rfl
    exact zretv hx hb hr hlocks hS () trivial rfl (by rw [hs]; exact hP9) (by rw [hs]; exact hD9) d_Mo_put_19

def sp_Mo_goesOn (w : Int32) (v : Int32) (pc : Int32) (rg : Nat → Int32) : Int32 × (Nat → Int32) := (pc + 4, (sp_Mo_put w v rg))
set_option maxHeartbeats 4000000 in
theorem c_Mo_goesOn (l : Launch) (D : va_G) (cI cB cJ : ClassId) (sz : Nat) (w : Int32) (v : Int32) (m0 : Nat) (mk : Nat) (mt : Nat) (kd : Int32) (wo : Nat) (wn : Int32) (re : Nat) (pc : Int32) (sta : Int32) (dn : Int32) (th : Int32) (ro : Nat) (aa : Nat) (si : Nat) (so : Nat) (la : Nat) (md : Int32) (lq : Int32) (tp : Int32) (tr : Int32) (ip : Nat) (oq : Nat) (cp : Nat) (ni : Int32) (no : Int32) (rg : Nat → Int32) : zMet l y_Mo_goesOn (zWs y_Mo_goesOn b_Mo_goesOn 3 (none)) { frames := 2, cells := 0, slots := 0, locals := 45 } (zPc D (zT cI cB cJ) sz [(m0, .inr (3, [.ref mk, .ref mt, .int kd, .ref wo, .int wn, .ref re, .int pc, .int sta, .int dn, .int th, .ref ro, .ref aa, .ref si, .ref so, .ref la, .int md, .int lq, .int tp, .int tr, .ref ip, .ref oq, .ref cp, .int ni, .int no])), (re, .inl (cI, 32, .inl (rg)))] [.ref m0, .int w, .int v]) (zQv D (va_A [(m0, .inr (3, [.ref mk, .ref mt, .int kd, .ref wo, .int wn, .ref re, .int pc, .int sta, .int dn, .int th, .ref ro, .ref aa, .ref si, .ref so, .ref la, .int md, .int lq, .int tp, .int tr, .ref ip, .ref oq, .ref cp, .int ni, .int no])), (re, .inl (cI, 32, .inl (rg)))] sz) (fun (_ : Unit) => True) (z0) (fun _ => [(m0, .inr (3, [.ref mk, .ref mt, .int kd, .ref wo, .int wn, .ref re, .int ((sp_Mo_goesOn w v pc rg).1), .int sta, .int dn, .int th, .ref ro, .ref aa, .ref si, .ref so, .ref la, .int md, .int lq, .int tp, .int tr, .ref ip, .ref oq, .ref cp, .int ni, .int no])), (re, .inl (cI, 32, .inl ((sp_Mo_goesOn w v pc rg).2)))])) (va_A [(m0, .inr (3, [.ref mk, .ref mt, .int kd, .ref wo, .int wn, .ref re, .int pc, .int sta, .int dn, .int th, .ref ro, .ref aa, .ref si, .ref so, .ref la, .int md, .int lq, .int tp, .int tr, .ref ip, .ref oq, .ref cp, .int ni, .int no])), (re, .inl (cI, 32, .inl (rg)))] sz) := by
  refine zstart (Qc := fun A => zQv D A (fun (_ : Unit) => True) (z0) (fun _ => [(m0, .inr (3, [.ref mk, .ref mt, .int kd, .ref wo, .int wn, .ref re, .int ((sp_Mo_goesOn w v pc rg).1), .int sta, .int dn, .int th, .ref ro, .ref aa, .ref si, .ref so, .ref la, .int md, .int lq, .int tp, .int tr, .ref ip, .ref oq, .ref cp, .int ni, .int no])), (re, .inl (cI, 32, .inl ((sp_Mo_goesOn w v pc rg).2)))])) (by decide) (Nat.le_of_ble_eq_true rfl) ?_
  intro p e s m below meth c ls A hE hr hlocks hin hsz hK hP hD hS hA hAe hl
  have hx := hE.1
  have hb := hE.2.1
  have hown := hE.2.2.2.1
  have hw := hE.2.2.2.2
  have hl : lv_has ls 3 [(0, .ref m0), (1, .int w), (2, .int v)] := hl
  refine lv_aload_n hx hb d_Mo_goesOn_0 rfl (lv_at hl 0 rfl) ?_
  refine lv_iload_n hx hb d_Mo_goesOn_1 rfl (lv_at hl 1 rfl) ?_
  refine lv_iload_n hx hb d_Mo_goesOn_2 rfl (lv_at hl 2 rfl) ?_
  refine zgov (wr := []) (zrunV (n := 2) (As := [.int w, .int v]) (rest := []) hE (c_Mo_put l D cI cB cJ _ w v m0 mk mt kd wo wn re pc sta dn th ro aa si so la md lq tp tr ip oq cp ni no rg) cb_Mo_put lk_Mo_138 in_Mo_put se_Mo_put (zpreV (q0 := 0) hK hP hD rfl rfl rfl [0, 1] rfl rfl rfl) ⟨Nat.le_of_ble_eq_true rfl, Nat.le_of_ble_eq_true rfl, Nat.le_of_ble_eq_true rfl, Nat.le_of_ble_eq_true rfl⟩ rfl hl.1 rfl (Nat.le_of_ble_eq_true rfl) d_Mo_goesOn_3) hP hD hS hA [0, 1] [] rfl rfl rfl (by decide) (fun u H locs hq1 hP hD hS => ?_)
  clear hq1
  have hP : va_P D zC [(m0, .inr (3, [.ref mk, .ref mt, .int kd, .ref wo, .int wn, .ref re, .int pc, .int sta, .int dn, .int th, .ref ro, .ref aa, .ref si, .ref so, .ref la, .int md, .int lq, .int tp, .int tr, .ref ip, .ref oq, .ref cp, .int ni, .int no])), (re, .inl (cI, 32, .inl ((sp_Mo_put w v rg))))] H := hP
  have hD : va_D A [(m0, .inr (3, [.ref mk, .ref mt, .int kd, .ref wo, .int wn, .ref re, .int pc, .int sta, .int dn, .int th, .ref ro, .ref aa, .ref si, .ref so, .ref la, .int md, .int lq, .int tp, .int tr, .ref ip, .ref oq, .ref cp, .int ni, .int no])), (re, .inl (cI, 32, .inl ((sp_Mo_put w v rg))))] := hD
  refine lv_aload_n hx hb d_Mo_goesOn_6 rfl (lv_at hl 0 rfl) ?_
  refine lv_dup hx hb d_Mo_goesOn_7 rfl ?_
  refine zget hE hK hP 0 rfl fd_Mo_104 rfl d_Mo_goesOn_8 ?_
  refine lv_iconst (v := 4) hx hb d_Mo_goesOn_11 (by decide) ?_
  refine lv_iadd hx hb d_Mo_goesOn_12 ?_
  refine zput (v := .int (pc + 4)) hE hK hP hD hS 0 rfl fd_Mo_104 ft_Mo_6 rfl rfl (Nat.le_of_ble_eq_true rfl) d_Mo_goesOn_13 (fun H locs hP hD hS => ?_)
  have hP : va_P D zC [(m0, .inr (3, [.ref mk, .ref mt, .int kd, .ref wo, .int wn, .ref re, .int (pc + 4), .int sta, .int dn, .int th, .ref ro, .ref aa, .ref si, .ref so, .ref la, .int md, .int lq, .int tp, .int tr, .ref ip, .ref oq, .ref cp, .int ni, .int no])), (re, .inl (cI, 32, .inl ((sp_Mo_put w v rg))))] H := hP
  have hD : va_D A [(m0, .inr (3, [.ref mk, .ref mt, .int kd, .ref wo, .int wn, .ref re, .int (pc + 4), .int sta, .int dn, .int th, .ref ro, .ref aa, .ref si, .ref so, .ref la, .int md, .int lq, .int tp, .int tr, .ref ip, .ref oq, .ref cp, .int ni, .int no])), (re, .inl (cI, 32, .inl ((sp_Mo_put w v rg))))] := hD
  have hs : (sp_Mo_goesOn w v pc rg) = (pc + 4, (sp_Mo_put w v rg)) := rfl
  have hP9 := hP.sub (ws' := [(m0, .inr (3, [.ref mk, .ref mt, .int kd, .ref wo, .int wn, .ref re, .int (pc + 4), .int sta, .int dn, .int th, .ref ro, .ref aa, .ref si, .ref so, .ref la, .int md, .int lq, .int tp, .int tr, .ref ip, .ref oq, .ref cp, .int ni, .int no])), (re, .inl (cI, 32, .inl ((sp_Mo_put w v rg))))]) [0, 1] rfl
  have hD9 := hD.sub (ws' := [(m0, .inr (3, [.ref mk, .ref mt, .int kd, .ref wo, .int wn, .ref re, .int (pc + 4), .int sta, .int dn, .int th, .ref ro, .ref aa, .ref si, .ref so, .ref la, .int md, .int lq, .int tp, .int tr, .ref ip, .ref oq, .ref cp, .int ni, .int no])), (re, .inl (cI, 32, .inl ((sp_Mo_put w v rg))))]) [0, 1] rfl rfl
  exact zretv hx hb hr hlocks hS () trivial rfl (by rw [hs]; exact hP9) (by rw [hs]; exact hD9) d_Mo_goesOn_16

def sp_Mo_jumps (k : Int32) (w : Int32) (pc : Int32) (sta : Int32) (rg : Nat → Int32) : Int32 × Int32 × (Nat → Int32) := if k = 0 then ((sp_Mo_goesOn w (w &&& (-4096)) pc rg).1, sta, (sp_Mo_goesOn w (w &&& (-4096)) pc rg).2) else if k = 1 then ((sp_Mo_goesOn w (pc + (w &&& (-4096))) pc rg).1, sta, (sp_Mo_goesOn w (pc + (w &&& (-4096))) pc rg).2) else if k = 2 then
  if ((sp_Mo_isGone (pc + (sp_Mo_byJump w)) pc sta).1) = 0 then ((sp_Mo_isGone (pc + (sp_Mo_byJump w)) pc sta).2.1, (sp_Mo_isGone (pc + (sp_Mo_byJump w)) pc sta).2.2, rg) else ((sp_Mo_isGone (pc + (sp_Mo_byJump w)) pc sta).2.1, (sp_Mo_isGone (pc + (sp_Mo_byJump w)) pc sta).2.2, (sp_Mo_put w (pc + 4) rg))
else if ((sp_Mo_isGone (((rg (sp_Mo_bits w 15 5).toNatClampNeg) + (sp_Mo_byUpper w)) &&& (-2)) pc sta).1) = 0 then ((sp_Mo_isGone (((rg (sp_Mo_bits w 15 5).toNatClampNeg) + (sp_Mo_byUpper w)) &&& (-2)) pc sta).2.1, (sp_Mo_isGone (((rg (sp_Mo_bits w 15 5).toNatClampNeg) + (sp_Mo_byUpper w)) &&& (-2)) pc sta).2.2, rg) else ((sp_Mo_isGone (((rg (sp_Mo_bits w 15 5).toNatClampNeg) + (sp_Mo_byUpper w)) &&& (-2)) pc sta).2.1, (sp_Mo_isGone (((rg (sp_Mo_bits w 15 5).toNatClampNeg) + (sp_Mo_byUpper w)) &&& (-2)) pc sta).2.2, (sp_Mo_put w (pc + 4) rg))
set_option maxHeartbeats 4000000 in
theorem c_Mo_jumps (l : Launch) (D : va_G) (cI cB cJ : ClassId) (sz : Nat) (k : Int32) (w : Int32) (m0 : Nat) (mk : Nat) (mt : Nat) (kd : Int32) (wo : Nat) (wn : Int32) (re : Nat) (pc : Int32) (sta : Int32) (dn : Int32) (th : Int32) (ro : Nat) (aa : Nat) (si : Nat) (so : Nat) (la : Nat) (md : Int32) (lq : Int32) (tp : Int32) (tr : Int32) (ip : Nat) (oq : Nat) (cp : Nat) (ni : Int32) (no : Int32) (rg : Nat → Int32) : zMet l y_Mo_jumps (zWs y_Mo_jumps b_Mo_jumps 5 (none)) { frames := 3, cells := 0, slots := 0, locals := 67 } (zPc D (zT cI cB cJ) sz [(m0, .inr (3, [.ref mk, .ref mt, .int kd, .ref wo, .int wn, .ref re, .int pc, .int sta, .int dn, .int th, .ref ro, .ref aa, .ref si, .ref so, .ref la, .int md, .int lq, .int tp, .int tr, .ref ip, .ref oq, .ref cp, .int ni, .int no])), (re, .inl (cI, 32, .inl (rg)))] [.ref m0, .int k, .int w]) (zQv D (va_A [(m0, .inr (3, [.ref mk, .ref mt, .int kd, .ref wo, .int wn, .ref re, .int pc, .int sta, .int dn, .int th, .ref ro, .ref aa, .ref si, .ref so, .ref la, .int md, .int lq, .int tp, .int tr, .ref ip, .ref oq, .ref cp, .int ni, .int no])), (re, .inl (cI, 32, .inl (rg)))] sz) (fun (_ : Unit) => True) (z0) (fun _ => [(m0, .inr (3, [.ref mk, .ref mt, .int kd, .ref wo, .int wn, .ref re, .int ((sp_Mo_jumps k w pc sta rg).1), .int ((sp_Mo_jumps k w pc sta rg).2.1), .int dn, .int th, .ref ro, .ref aa, .ref si, .ref so, .ref la, .int md, .int lq, .int tp, .int tr, .ref ip, .ref oq, .ref cp, .int ni, .int no])), (re, .inl (cI, 32, .inl ((sp_Mo_jumps k w pc sta rg).2.2)))])) (va_A [(m0, .inr (3, [.ref mk, .ref mt, .int kd, .ref wo, .int wn, .ref re, .int pc, .int sta, .int dn, .int th, .ref ro, .ref aa, .ref si, .ref so, .ref la, .int md, .int lq, .int tp, .int tr, .ref ip, .ref oq, .ref cp, .int ni, .int no])), (re, .inl (cI, 32, .inl (rg)))] sz) := by
  refine zstart (Qc := fun A => zQv D A (fun (_ : Unit) => True) (z0) (fun _ => [(m0, .inr (3, [.ref mk, .ref mt, .int kd, .ref wo, .int wn, .ref re, .int ((sp_Mo_jumps k w pc sta rg).1), .int ((sp_Mo_jumps k w pc sta rg).2.1), .int dn, .int th, .ref ro, .ref aa, .ref si, .ref so, .ref la, .int md, .int lq, .int tp, .int tr, .ref ip, .ref oq, .ref cp, .int ni, .int no])), (re, .inl (cI, 32, .inl ((sp_Mo_jumps k w pc sta rg).2.2)))])) (by decide) (Nat.le_of_ble_eq_true rfl) ?_
  intro p e s m below meth c ls A hE hr hlocks hin hsz hK hP hD hS hA hAe hl
  have hx := hE.1
  have hb := hE.2.1
  have hown := hE.2.2.2.1
  have hw := hE.2.2.2.2
  have hl : lv_has ls 5 [(0, .ref m0), (1, .int k), (2, .int w)] := hl
  refine lv_aload_n hx hb d_Mo_jumps_0 rfl (lv_at hl 0 rfl) ?_
  refine zget hE hK hP 0 rfl fd_Mo_104 rfl d_Mo_jumps_1 ?_
  refine lv_istore_n (lv' := [(3, .int pc), (0, .ref m0), (1, .int k), (2, .int w)]) hx hb d_Mo_jumps_4 rfl hl (by decide) rfl (fun ls hl => ?_)
  refine lv_iload_n hx hb d_Mo_jumps_5 rfl (lv_at hl 2 rfl) ?_
  refine lv_if_ne (tgt := 22) hx hb d_Mo_jumps_6 (by decide) (fun h1 => ?_) (fun h1 => ?_)
  · refine lv_iload_n hx hb d_Mo_jumps_22 rfl (lv_at hl 2 rfl) ?_
    refine lv_iconst (v := 1) hx hb d_Mo_jumps_23 (by decide) ?_
    refine lv_icmp_ne (tgt := 42) hx hb d_Mo_jumps_24 (by decide) (fun h2 => ?_) (fun h2 => ?_)
    · refine lv_iload_n hx hb d_Mo_jumps_42 rfl (lv_at hl 2 rfl) ?_
      refine lv_iconst (v := 2) hx hb d_Mo_jumps_43 (by decide) ?_
      refine lv_icmp_ne (tgt := 56) hx hb d_Mo_jumps_44 (by decide) (fun h3 => ?_) (fun h3 => ?_)
      · refine lv_aload_n hx hb d_Mo_jumps_56 rfl (lv_at hl 1 rfl) ?_
        refine zget hE hK hP 0 rfl fd_Mo_19 rfl d_Mo_jumps_57 ?_
        refine lv_iload_n hx hb d_Mo_jumps_60 rfl (lv_at hl 3 rfl) ?_
        refine lv_bipush (v := 15) hx hb d_Mo_jumps_61 (by decide) ?_
        refine lv_iconst (v := 5) hx hb d_Mo_jumps_63 (by decide) ?_
        refine zgoi (wr := [(m0, .inr (3, [.ref mk, .ref mt, .int kd, .ref wo, .int wn, .ref re, .int pc, .int sta, .int dn, .int th, .ref ro, .ref aa, .ref si, .ref so, .ref la, .int md, .int lq, .int tp, .int tr, .ref ip, .ref oq, .ref cp, .int ni, .int no])), (re, .inl (cI, 32, .inl (rg)))]) (zrunS (n := 3) (As := [.int w, .int 15, .int 5]) (rest := [.ref re]) hE (c_Mo_bits l D _ _ w 15 5) cb_Mo_bits lk_Mo_65 st_Mo_bits (zpreS hK hP hD [] rfl rfl rfl) ⟨Nat.le_of_ble_eq_true rfl, Nat.le_of_ble_eq_true rfl, Nat.le_of_ble_eq_true rfl, Nat.le_of_ble_eq_true rfl⟩ rfl hl.1 rfl (Nat.le_of_ble_eq_true rfl) d_Mo_jumps_64) hP hD hS hA [] [0, 1] rfl rfl rfl (by decide) (fun r u H locs hq4 hP hD hS => ?_)
        subst hq4
        have hP : va_P D zC [(m0, .inr (3, [.ref mk, .ref mt, .int kd, .ref wo, .int wn, .ref re, .int pc, .int sta, .int dn, .int th, .ref ro, .ref aa, .ref si, .ref so, .ref la, .int md, .int lq, .int tp, .int tr, .ref ip, .ref oq, .ref cp, .int ni, .int no])), (re, .inl (cI, 32, .inl (rg)))] H := hP
        have hD : va_D A [(m0, .inr (3, [.ref mk, .ref mt, .int kd, .ref wo, .int wn, .ref re, .int pc, .int sta, .int dn, .int th, .ref ro, .ref aa, .ref si, .ref so, .ref la, .int md, .int lq, .int tp, .int tr, .ref ip, .ref oq, .ref cp, .int ni, .int no])), (re, .inl (cI, 32, .inl (rg)))] := hD
        refine va_iald hx hb hK hP 1 0 rfl rfl (zb5 _ _) d_Mo_jumps_67 ?_
        refine lv_iload_n hx hb d_Mo_jumps_68 rfl (lv_at hl 3 rfl) ?_
        refine zgoi (wr := [(m0, .inr (3, [.ref mk, .ref mt, .int kd, .ref wo, .int wn, .ref re, .int pc, .int sta, .int dn, .int th, .ref ro, .ref aa, .ref si, .ref so, .ref la, .int md, .int lq, .int tp, .int tr, .ref ip, .ref oq, .ref cp, .int ni, .int no])), (re, .inl (cI, 32, .inl (rg)))]) (zrunS (n := 1) (As := [.int w]) (rest := [.int (rg (sp_Mo_bits w 15 5).toNatClampNeg)]) hE (c_Mo_byUpper l D _ _ w) cb_Mo_byUpper lk_Mo_122 st_Mo_byUpper (zpreS hK hP hD [] rfl rfl rfl) ⟨Nat.le_of_ble_eq_true rfl, Nat.le_of_ble_eq_true rfl, Nat.le_of_ble_eq_true rfl, Nat.le_of_ble_eq_true rfl⟩ rfl hl.1 rfl (Nat.le_of_ble_eq_true rfl) d_Mo_jumps_69) hP hD hS hA [] [0, 1] rfl rfl rfl (by decide) (fun r u H locs hq5 hP hD hS => ?_)
        subst hq5
        have hP : va_P D zC [(m0, .inr (3, [.ref mk, .ref mt, .int kd, .ref wo, .int wn, .ref re, .int pc, .int sta, .int dn, .int th, .ref ro, .ref aa, .ref si, .ref so, .ref la, .int md, .int lq, .int tp, .int tr, .ref ip, .ref oq, .ref cp, .int ni, .int no])), (re, .inl (cI, 32, .inl (rg)))] H := hP
        have hD : va_D A [(m0, .inr (3, [.ref mk, .ref mt, .int kd, .ref wo, .int wn, .ref re, .int pc, .int sta, .int dn, .int th, .ref ro, .ref aa, .ref si, .ref so, .ref la, .int md, .int lq, .int tp, .int tr, .ref ip, .ref oq, .ref cp, .int ni, .int no])), (re, .inl (cI, 32, .inl (rg)))] := hD
        refine lv_iadd hx hb d_Mo_jumps_72 ?_
        refine lv_bipush (v := (-2)) hx hb d_Mo_jumps_73 (by decide) ?_
        refine lv_iand hx hb d_Mo_jumps_75 ?_
        refine lv_istore (lv' := [(4, .int (((rg (sp_Mo_bits w 15 5).toNatClampNeg) + (sp_Mo_byUpper w)) &&& (-2))), (3, .int pc), (0, .ref m0), (1, .int k), (2, .int w)]) hx hb d_Mo_jumps_76 hl (by decide) rfl (fun ls hl => ?_)
        refine lv_aload_n hx hb d_Mo_jumps_78 rfl (lv_at hl 2 rfl) ?_
        refine lv_iload hx hb d_Mo_jumps_79 (lv_at hl 0 rfl) ?_
        refine zgoi (wr := [(re, .inl (cI, 32, .inl (rg)))]) (zrunV (n := 1) (As := [.int (((rg (sp_Mo_bits w 15 5).toNatClampNeg) + (sp_Mo_byUpper w)) &&& (-2))]) (rest := []) hE (c_Mo_isGone l D cI cB cJ _ (((rg (sp_Mo_bits w 15 5).toNatClampNeg) + (sp_Mo_byUpper w)) &&& (-2)) m0 mk mt kd wo wn re pc sta dn th ro aa si so la md lq tp tr ip oq cp ni no) cb_Mo_isGone lk_Mo_144 in_Mo_isGone se_Mo_isGone (zpreV (q0 := 0) hK hP hD rfl rfl rfl [0] rfl rfl rfl) ⟨Nat.le_of_ble_eq_true rfl, Nat.le_of_ble_eq_true rfl, Nat.le_of_ble_eq_true rfl, Nat.le_of_ble_eq_true rfl⟩ rfl hl.1 rfl (Nat.le_of_ble_eq_true rfl) d_Mo_jumps_81) hP hD hS hA [0] [1] rfl rfl rfl (by decide) (fun r u H locs hq6 hP hD hS => ?_)
        subst hq6
        have hP : va_P D zC [(re, .inl (cI, 32, .inl (rg))), (m0, .inr (3, [.ref mk, .ref mt, .int kd, .ref wo, .int wn, .ref re, .int ((sp_Mo_isGone (((rg (sp_Mo_bits w 15 5).toNatClampNeg) + (sp_Mo_byUpper w)) &&& (-2)) pc sta).2.1), .int ((sp_Mo_isGone (((rg (sp_Mo_bits w 15 5).toNatClampNeg) + (sp_Mo_byUpper w)) &&& (-2)) pc sta).2.2), .int dn, .int th, .ref ro, .ref aa, .ref si, .ref so, .ref la, .int md, .int lq, .int tp, .int tr, .ref ip, .ref oq, .ref cp, .int ni, .int no]))] H := hP
        have hD : va_D A [(re, .inl (cI, 32, .inl (rg))), (m0, .inr (3, [.ref mk, .ref mt, .int kd, .ref wo, .int wn, .ref re, .int ((sp_Mo_isGone (((rg (sp_Mo_bits w 15 5).toNatClampNeg) + (sp_Mo_byUpper w)) &&& (-2)) pc sta).2.1), .int ((sp_Mo_isGone (((rg (sp_Mo_bits w 15 5).toNatClampNeg) + (sp_Mo_byUpper w)) &&& (-2)) pc sta).2.2), .int dn, .int th, .ref ro, .ref aa, .ref si, .ref so, .ref la, .int md, .int lq, .int tp, .int tr, .ref ip, .ref oq, .ref cp, .int ni, .int no]))] := hD
        refine lv_if_eq (tgt := 95) hx hb d_Mo_jumps_84 (by decide) (fun h7 => ?_) (fun h7 => ?_)
        · have hs : (sp_Mo_jumps k w pc sta rg) = ((sp_Mo_isGone (((rg (sp_Mo_bits w 15 5).toNatClampNeg) + (sp_Mo_byUpper w)) &&& (-2)) pc sta).2.1, (sp_Mo_isGone (((rg (sp_Mo_bits w 15 5).toNatClampNeg) + (sp_Mo_byUpper w)) &&& (-2)) pc sta).2.2, rg) := by rw [sp_Mo_jumps, if_neg h1, if_neg h2, if_neg h3, if_pos h7]
          have hP9 := hP.sub (ws' := [(m0, .inr (3, [.ref mk, .ref mt, .int kd, .ref wo, .int wn, .ref re, .int ((sp_Mo_isGone (((rg (sp_Mo_bits w 15 5).toNatClampNeg) + (sp_Mo_byUpper w)) &&& (-2)) pc sta).2.1), .int ((sp_Mo_isGone (((rg (sp_Mo_bits w 15 5).toNatClampNeg) + (sp_Mo_byUpper w)) &&& (-2)) pc sta).2.2), .int dn, .int th, .ref ro, .ref aa, .ref si, .ref so, .ref la, .int md, .int lq, .int tp, .int tr, .ref ip, .ref oq, .ref cp, .int ni, .int no])), (re, .inl (cI, 32, .inl (rg)))]) [1, 0] rfl
          have hD9 := hD.sub (ws' := [(m0, .inr (3, [.ref mk, .ref mt, .int kd, .ref wo, .int wn, .ref re, .int ((sp_Mo_isGone (((rg (sp_Mo_bits w 15 5).toNatClampNeg) + (sp_Mo_byUpper w)) &&& (-2)) pc sta).2.1), .int ((sp_Mo_isGone (((rg (sp_Mo_bits w 15 5).toNatClampNeg) + (sp_Mo_byUpper w)) &&& (-2)) pc sta).2.2), .int dn, .int th, .ref ro, .ref aa, .ref si, .ref so, .ref la, .int md, .int lq, .int tp, .int tr, .ref ip, .ref oq, .ref cp, .int ni, .int no])), (re, .inl (cI, 32, .inl (rg)))]) [1, 0] rfl rfl
          exact zretv hx hb hr hlocks hS () trivial rfl (by rw [hs]; exact hP9) (by rw [hs]; exact hD9) d_Mo_jumps_95
        · refine lv_aload_n hx hb d_Mo_jumps_87 rfl (lv_at hl 2 rfl) ?_
          refine lv_iload_n hx hb d_Mo_jumps_88 rfl (lv_at hl 4 rfl) ?_
          refine lv_iload_n hx hb d_Mo_jumps_89 rfl (lv_at hl 1 rfl) ?_
          refine lv_iconst (v := 4) hx hb d_Mo_jumps_90 (by decide) ?_
          refine lv_iadd hx hb d_Mo_jumps_91 ?_
          refine zgov (wr := []) (zrunV (n := 2) (As := [.int w, .int (pc + 4)]) (rest := []) hE (c_Mo_put l D cI cB cJ _ w (pc + 4) m0 mk mt kd wo wn re ((sp_Mo_isGone (((rg (sp_Mo_bits w 15 5).toNatClampNeg) + (sp_Mo_byUpper w)) &&& (-2)) pc sta).2.1) ((sp_Mo_isGone (((rg (sp_Mo_bits w 15 5).toNatClampNeg) + (sp_Mo_byUpper w)) &&& (-2)) pc sta).2.2) dn th ro aa si so la md lq tp tr ip oq cp ni no rg) cb_Mo_put lk_Mo_138 in_Mo_put se_Mo_put (zpreV (q0 := 1) hK hP hD rfl rfl rfl [1, 0] rfl rfl rfl) ⟨Nat.le_of_ble_eq_true rfl, Nat.le_of_ble_eq_true rfl, Nat.le_of_ble_eq_true rfl, Nat.le_of_ble_eq_true rfl⟩ rfl hl.1 rfl (Nat.le_of_ble_eq_true rfl) d_Mo_jumps_92) hP hD hS hA [1, 0] [] rfl rfl rfl (by decide) (fun u H locs hq8 hP hD hS => ?_)
          clear hq8
          have hP : va_P D zC [(m0, .inr (3, [.ref mk, .ref mt, .int kd, .ref wo, .int wn, .ref re, .int ((sp_Mo_isGone (((rg (sp_Mo_bits w 15 5).toNatClampNeg) + (sp_Mo_byUpper w)) &&& (-2)) pc sta).2.1), .int ((sp_Mo_isGone (((rg (sp_Mo_bits w 15 5).toNatClampNeg) + (sp_Mo_byUpper w)) &&& (-2)) pc sta).2.2), .int dn, .int th, .ref ro, .ref aa, .ref si, .ref so, .ref la, .int md, .int lq, .int tp, .int tr, .ref ip, .ref oq, .ref cp, .int ni, .int no])), (re, .inl (cI, 32, .inl ((sp_Mo_put w (pc + 4) rg))))] H := hP
          have hD : va_D A [(m0, .inr (3, [.ref mk, .ref mt, .int kd, .ref wo, .int wn, .ref re, .int ((sp_Mo_isGone (((rg (sp_Mo_bits w 15 5).toNatClampNeg) + (sp_Mo_byUpper w)) &&& (-2)) pc sta).2.1), .int ((sp_Mo_isGone (((rg (sp_Mo_bits w 15 5).toNatClampNeg) + (sp_Mo_byUpper w)) &&& (-2)) pc sta).2.2), .int dn, .int th, .ref ro, .ref aa, .ref si, .ref so, .ref la, .int md, .int lq, .int tp, .int tr, .ref ip, .ref oq, .ref cp, .int ni, .int no])), (re, .inl (cI, 32, .inl ((sp_Mo_put w (pc + 4) rg))))] := hD
          have hs : (sp_Mo_jumps k w pc sta rg) = ((sp_Mo_isGone (((rg (sp_Mo_bits w 15 5).toNatClampNeg) + (sp_Mo_byUpper w)) &&& (-2)) pc sta).2.1, (sp_Mo_isGone (((rg (sp_Mo_bits w 15 5).toNatClampNeg) + (sp_Mo_byUpper w)) &&& (-2)) pc sta).2.2, (sp_Mo_put w (pc + 4) rg)) := by rw [sp_Mo_jumps, if_neg h1, if_neg h2, if_neg h3, if_neg h7]
          have hP9 := hP.sub (ws' := [(m0, .inr (3, [.ref mk, .ref mt, .int kd, .ref wo, .int wn, .ref re, .int ((sp_Mo_isGone (((rg (sp_Mo_bits w 15 5).toNatClampNeg) + (sp_Mo_byUpper w)) &&& (-2)) pc sta).2.1), .int ((sp_Mo_isGone (((rg (sp_Mo_bits w 15 5).toNatClampNeg) + (sp_Mo_byUpper w)) &&& (-2)) pc sta).2.2), .int dn, .int th, .ref ro, .ref aa, .ref si, .ref so, .ref la, .int md, .int lq, .int tp, .int tr, .ref ip, .ref oq, .ref cp, .int ni, .int no])), (re, .inl (cI, 32, .inl ((sp_Mo_put w (pc + 4) rg))))]) [0, 1] rfl
          have hD9 := hD.sub (ws' := [(m0, .inr (3, [.ref mk, .ref mt, .int kd, .ref wo, .int wn, .ref re, .int ((sp_Mo_isGone (((rg (sp_Mo_bits w 15 5).toNatClampNeg) + (sp_Mo_byUpper w)) &&& (-2)) pc sta).2.1), .int ((sp_Mo_isGone (((rg (sp_Mo_bits w 15 5).toNatClampNeg) + (sp_Mo_byUpper w)) &&& (-2)) pc sta).2.2), .int dn, .int th, .ref ro, .ref aa, .ref si, .ref so, .ref la, .int md, .int lq, .int tp, .int tr, .ref ip, .ref oq, .ref cp, .int ni, .int no])), (re, .inl (cI, 32, .inl ((sp_Mo_put w (pc + 4) rg))))]) [0, 1] rfl rfl
          exact zretv hx hb hr hlocks hS () trivial rfl (by rw [hs]; exact hP9) (by rw [hs]; exact hD9) d_Mo_jumps_95
      · refine lv_iload_n hx hb d_Mo_jumps_47 rfl (lv_at hl 0 rfl) ?_
        refine lv_iload_n hx hb d_Mo_jumps_48 rfl (lv_at hl 3 rfl) ?_
        refine zgoi (wr := [(m0, .inr (3, [.ref mk, .ref mt, .int kd, .ref wo, .int wn, .ref re, .int pc, .int sta, .int dn, .int th, .ref ro, .ref aa, .ref si, .ref so, .ref la, .int md, .int lq, .int tp, .int tr, .ref ip, .ref oq, .ref cp, .int ni, .int no])), (re, .inl (cI, 32, .inl (rg)))]) (zrunS (n := 1) (As := [.int w]) (rest := [.int pc]) hE (c_Mo_byJump l D _ _ w) cb_Mo_byJump lk_Mo_141 st_Mo_byJump (zpreS hK hP hD [] rfl rfl rfl) ⟨Nat.le_of_ble_eq_true rfl, Nat.le_of_ble_eq_true rfl, Nat.le_of_ble_eq_true rfl, Nat.le_of_ble_eq_true rfl⟩ rfl hl.1 rfl (Nat.le_of_ble_eq_true rfl) d_Mo_jumps_49) hP hD hS hA [] [0, 1] rfl rfl rfl (by decide) (fun r u H locs hq9 hP hD hS => ?_)
        subst hq9
        have hP : va_P D zC [(m0, .inr (3, [.ref mk, .ref mt, .int kd, .ref wo, .int wn, .ref re, .int pc, .int sta, .int dn, .int th, .ref ro, .ref aa, .ref si, .ref so, .ref la, .int md, .int lq, .int tp, .int tr, .ref ip, .ref oq, .ref cp, .int ni, .int no])), (re, .inl (cI, 32, .inl (rg)))] H := hP
        have hD : va_D A [(m0, .inr (3, [.ref mk, .ref mt, .int kd, .ref wo, .int wn, .ref re, .int pc, .int sta, .int dn, .int th, .ref ro, .ref aa, .ref si, .ref so, .ref la, .int md, .int lq, .int tp, .int tr, .ref ip, .ref oq, .ref cp, .int ni, .int no])), (re, .inl (cI, 32, .inl (rg)))] := hD
        refine lv_iadd hx hb d_Mo_jumps_52 ?_
        refine lv_goto (tgt := 76) hx hb d_Mo_jumps_53 (by decide) ?_
        refine lv_istore (lv' := [(4, .int (pc + (sp_Mo_byJump w))), (3, .int pc), (0, .ref m0), (1, .int k), (2, .int w)]) hx hb d_Mo_jumps_76 hl (by decide) rfl (fun ls hl => ?_)
        refine lv_aload_n hx hb d_Mo_jumps_78 rfl (lv_at hl 2 rfl) ?_
        refine lv_iload hx hb d_Mo_jumps_79 (lv_at hl 0 rfl) ?_
        refine zgoi (wr := [(re, .inl (cI, 32, .inl (rg)))]) (zrunV (n := 1) (As := [.int (pc + (sp_Mo_byJump w))]) (rest := []) hE (c_Mo_isGone l D cI cB cJ _ (pc + (sp_Mo_byJump w)) m0 mk mt kd wo wn re pc sta dn th ro aa si so la md lq tp tr ip oq cp ni no) cb_Mo_isGone lk_Mo_144 in_Mo_isGone se_Mo_isGone (zpreV (q0 := 0) hK hP hD rfl rfl rfl [0] rfl rfl rfl) ⟨Nat.le_of_ble_eq_true rfl, Nat.le_of_ble_eq_true rfl, Nat.le_of_ble_eq_true rfl, Nat.le_of_ble_eq_true rfl⟩ rfl hl.1 rfl (Nat.le_of_ble_eq_true rfl) d_Mo_jumps_81) hP hD hS hA [0] [1] rfl rfl rfl (by decide) (fun r u H locs hq10 hP hD hS => ?_)
        subst hq10
        have hP : va_P D zC [(re, .inl (cI, 32, .inl (rg))), (m0, .inr (3, [.ref mk, .ref mt, .int kd, .ref wo, .int wn, .ref re, .int ((sp_Mo_isGone (pc + (sp_Mo_byJump w)) pc sta).2.1), .int ((sp_Mo_isGone (pc + (sp_Mo_byJump w)) pc sta).2.2), .int dn, .int th, .ref ro, .ref aa, .ref si, .ref so, .ref la, .int md, .int lq, .int tp, .int tr, .ref ip, .ref oq, .ref cp, .int ni, .int no]))] H := hP
        have hD : va_D A [(re, .inl (cI, 32, .inl (rg))), (m0, .inr (3, [.ref mk, .ref mt, .int kd, .ref wo, .int wn, .ref re, .int ((sp_Mo_isGone (pc + (sp_Mo_byJump w)) pc sta).2.1), .int ((sp_Mo_isGone (pc + (sp_Mo_byJump w)) pc sta).2.2), .int dn, .int th, .ref ro, .ref aa, .ref si, .ref so, .ref la, .int md, .int lq, .int tp, .int tr, .ref ip, .ref oq, .ref cp, .int ni, .int no]))] := hD
        refine lv_if_eq (tgt := 95) hx hb d_Mo_jumps_84 (by decide) (fun h11 => ?_) (fun h11 => ?_)
        · have hs : (sp_Mo_jumps k w pc sta rg) = ((sp_Mo_isGone (pc + (sp_Mo_byJump w)) pc sta).2.1, (sp_Mo_isGone (pc + (sp_Mo_byJump w)) pc sta).2.2, rg) := by rw [sp_Mo_jumps, if_neg h1, if_neg h2, if_pos h3, if_pos h11]
          have hP9 := hP.sub (ws' := [(m0, .inr (3, [.ref mk, .ref mt, .int kd, .ref wo, .int wn, .ref re, .int ((sp_Mo_isGone (pc + (sp_Mo_byJump w)) pc sta).2.1), .int ((sp_Mo_isGone (pc + (sp_Mo_byJump w)) pc sta).2.2), .int dn, .int th, .ref ro, .ref aa, .ref si, .ref so, .ref la, .int md, .int lq, .int tp, .int tr, .ref ip, .ref oq, .ref cp, .int ni, .int no])), (re, .inl (cI, 32, .inl (rg)))]) [1, 0] rfl
          have hD9 := hD.sub (ws' := [(m0, .inr (3, [.ref mk, .ref mt, .int kd, .ref wo, .int wn, .ref re, .int ((sp_Mo_isGone (pc + (sp_Mo_byJump w)) pc sta).2.1), .int ((sp_Mo_isGone (pc + (sp_Mo_byJump w)) pc sta).2.2), .int dn, .int th, .ref ro, .ref aa, .ref si, .ref so, .ref la, .int md, .int lq, .int tp, .int tr, .ref ip, .ref oq, .ref cp, .int ni, .int no])), (re, .inl (cI, 32, .inl (rg)))]) [1, 0] rfl rfl
          exact zretv hx hb hr hlocks hS () trivial rfl (by rw [hs]; exact hP9) (by rw [hs]; exact hD9) d_Mo_jumps_95
        · refine lv_aload_n hx hb d_Mo_jumps_87 rfl (lv_at hl 2 rfl) ?_
          refine lv_iload_n hx hb d_Mo_jumps_88 rfl (lv_at hl 4 rfl) ?_
          refine lv_iload_n hx hb d_Mo_jumps_89 rfl (lv_at hl 1 rfl) ?_
          refine lv_iconst (v := 4) hx hb d_Mo_jumps_90 (by decide) ?_
          refine lv_iadd hx hb d_Mo_jumps_91 ?_
          refine zgov (wr := []) (zrunV (n := 2) (As := [.int w, .int (pc + 4)]) (rest := []) hE (c_Mo_put l D cI cB cJ _ w (pc + 4) m0 mk mt kd wo wn re ((sp_Mo_isGone (pc + (sp_Mo_byJump w)) pc sta).2.1) ((sp_Mo_isGone (pc + (sp_Mo_byJump w)) pc sta).2.2) dn th ro aa si so la md lq tp tr ip oq cp ni no rg) cb_Mo_put lk_Mo_138 in_Mo_put se_Mo_put (zpreV (q0 := 1) hK hP hD rfl rfl rfl [1, 0] rfl rfl rfl) ⟨Nat.le_of_ble_eq_true rfl, Nat.le_of_ble_eq_true rfl, Nat.le_of_ble_eq_true rfl, Nat.le_of_ble_eq_true rfl⟩ rfl hl.1 rfl (Nat.le_of_ble_eq_true rfl) d_Mo_jumps_92) hP hD hS hA [1, 0] [] rfl rfl rfl (by decide) (fun u H locs hq12 hP hD hS => ?_)
          clear hq12
          have hP : va_P D zC [(m0, .inr (3, [.ref mk, .ref mt, .int kd, .ref wo, .int wn, .ref re, .int ((sp_Mo_isGone (pc + (sp_Mo_byJump w)) pc sta).2.1), .int ((sp_Mo_isGone (pc + (sp_Mo_byJump w)) pc sta).2.2), .int dn, .int th, .ref ro, .ref aa, .ref si, .ref so, .ref la, .int md, .int lq, .int tp, .int tr, .ref ip, .ref oq, .ref cp, .int ni, .int no])), (re, .inl (cI, 32, .inl ((sp_Mo_put w (pc + 4) rg))))] H := hP
          have hD : va_D A [(m0, .inr (3, [.ref mk, .ref mt, .int kd, .ref wo, .int wn, .ref re, .int ((sp_Mo_isGone (pc + (sp_Mo_byJump w)) pc sta).2.1), .int ((sp_Mo_isGone (pc + (sp_Mo_byJump w)) pc sta).2.2), .int dn, .int th, .ref ro, .ref aa, .ref si, .ref so, .ref la, .int md, .int lq, .int tp, .int tr, .ref ip, .ref oq, .ref cp, .int ni, .int no])), (re, .inl (cI, 32, .inl ((sp_Mo_put w (pc + 4) rg))))] := hD
          have hs : (sp_Mo_jumps k w pc sta rg) = ((sp_Mo_isGone (pc + (sp_Mo_byJump w)) pc sta).2.1, (sp_Mo_isGone (pc + (sp_Mo_byJump w)) pc sta).2.2, (sp_Mo_put w (pc + 4) rg)) := by rw [sp_Mo_jumps, if_neg h1, if_neg h2, if_pos h3, if_neg h11]
          have hP9 := hP.sub (ws' := [(m0, .inr (3, [.ref mk, .ref mt, .int kd, .ref wo, .int wn, .ref re, .int ((sp_Mo_isGone (pc + (sp_Mo_byJump w)) pc sta).2.1), .int ((sp_Mo_isGone (pc + (sp_Mo_byJump w)) pc sta).2.2), .int dn, .int th, .ref ro, .ref aa, .ref si, .ref so, .ref la, .int md, .int lq, .int tp, .int tr, .ref ip, .ref oq, .ref cp, .int ni, .int no])), (re, .inl (cI, 32, .inl ((sp_Mo_put w (pc + 4) rg))))]) [0, 1] rfl
          have hD9 := hD.sub (ws' := [(m0, .inr (3, [.ref mk, .ref mt, .int kd, .ref wo, .int wn, .ref re, .int ((sp_Mo_isGone (pc + (sp_Mo_byJump w)) pc sta).2.1), .int ((sp_Mo_isGone (pc + (sp_Mo_byJump w)) pc sta).2.2), .int dn, .int th, .ref ro, .ref aa, .ref si, .ref so, .ref la, .int md, .int lq, .int tp, .int tr, .ref ip, .ref oq, .ref cp, .int ni, .int no])), (re, .inl (cI, 32, .inl ((sp_Mo_put w (pc + 4) rg))))]) [0, 1] rfl rfl
          exact zretv hx hb hr hlocks hS () trivial rfl (by rw [hs]; exact hP9) (by rw [hs]; exact hD9) d_Mo_jumps_95
    · refine lv_aload_n hx hb d_Mo_jumps_27 rfl (lv_at hl 1 rfl) ?_
      refine lv_iload_n hx hb d_Mo_jumps_28 rfl (lv_at hl 3 rfl) ?_
      refine lv_iload_n hx hb d_Mo_jumps_29 rfl (lv_at hl 0 rfl) ?_
      refine lv_iload_n hx hb d_Mo_jumps_30 rfl (lv_at hl 3 rfl) ?_
      refine lv_sipush (v := (-4096)) hx hb d_Mo_jumps_31 (by decide) ?_
      refine lv_iand hx hb d_Mo_jumps_34 ?_
      refine lv_iadd hx hb d_Mo_jumps_35 ?_
      refine zgov (wr := []) (zrunV (n := 2) (As := [.int w, .int (pc + (w &&& (-4096)))]) (rest := []) hE (c_Mo_goesOn l D cI cB cJ _ w (pc + (w &&& (-4096))) m0 mk mt kd wo wn re pc sta dn th ro aa si so la md lq tp tr ip oq cp ni no rg) cb_Mo_goesOn lk_Mo_129 in_Mo_goesOn se_Mo_goesOn (zpreV (q0 := 0) hK hP hD rfl rfl rfl [0, 1] rfl rfl rfl) ⟨Nat.le_of_ble_eq_true rfl, Nat.le_of_ble_eq_true rfl, Nat.le_of_ble_eq_true rfl, Nat.le_of_ble_eq_true rfl⟩ rfl hl.1 rfl (Nat.le_of_ble_eq_true rfl) d_Mo_jumps_36) hP hD hS hA [0, 1] [] rfl rfl rfl (by decide) (fun u H locs hq13 hP hD hS => ?_)
      clear hq13
      have hP : va_P D zC [(m0, .inr (3, [.ref mk, .ref mt, .int kd, .ref wo, .int wn, .ref re, .int ((sp_Mo_goesOn w (pc + (w &&& (-4096))) pc rg).1), .int sta, .int dn, .int th, .ref ro, .ref aa, .ref si, .ref so, .ref la, .int md, .int lq, .int tp, .int tr, .ref ip, .ref oq, .ref cp, .int ni, .int no])), (re, .inl (cI, 32, .inl ((sp_Mo_goesOn w (pc + (w &&& (-4096))) pc rg).2)))] H := hP
      have hD : va_D A [(m0, .inr (3, [.ref mk, .ref mt, .int kd, .ref wo, .int wn, .ref re, .int ((sp_Mo_goesOn w (pc + (w &&& (-4096))) pc rg).1), .int sta, .int dn, .int th, .ref ro, .ref aa, .ref si, .ref so, .ref la, .int md, .int lq, .int tp, .int tr, .ref ip, .ref oq, .ref cp, .int ni, .int no])), (re, .inl (cI, 32, .inl ((sp_Mo_goesOn w (pc + (w &&& (-4096))) pc rg).2)))] := hD
      refine lv_goto (tgt := 95) hx hb d_Mo_jumps_39 (by decide) ?_
      have hs : (sp_Mo_jumps k w pc sta rg) = ((sp_Mo_goesOn w (pc + (w &&& (-4096))) pc rg).1, sta, (sp_Mo_goesOn w (pc + (w &&& (-4096))) pc rg).2) := by rw [sp_Mo_jumps, if_neg h1, if_pos h2]
      have hP9 := hP.sub (ws' := [(m0, .inr (3, [.ref mk, .ref mt, .int kd, .ref wo, .int wn, .ref re, .int ((sp_Mo_goesOn w (pc + (w &&& (-4096))) pc rg).1), .int sta, .int dn, .int th, .ref ro, .ref aa, .ref si, .ref so, .ref la, .int md, .int lq, .int tp, .int tr, .ref ip, .ref oq, .ref cp, .int ni, .int no])), (re, .inl (cI, 32, .inl ((sp_Mo_goesOn w (pc + (w &&& (-4096))) pc rg).2)))]) [0, 1] rfl
      have hD9 := hD.sub (ws' := [(m0, .inr (3, [.ref mk, .ref mt, .int kd, .ref wo, .int wn, .ref re, .int ((sp_Mo_goesOn w (pc + (w &&& (-4096))) pc rg).1), .int sta, .int dn, .int th, .ref ro, .ref aa, .ref si, .ref so, .ref la, .int md, .int lq, .int tp, .int tr, .ref ip, .ref oq, .ref cp, .int ni, .int no])), (re, .inl (cI, 32, .inl ((sp_Mo_goesOn w (pc + (w &&& (-4096))) pc rg).2)))]) [0, 1] rfl rfl
      exact zretv hx hb hr hlocks hS () trivial rfl (by rw [hs]; exact hP9) (by rw [hs]; exact hD9) d_Mo_jumps_95
  · refine lv_aload_n hx hb d_Mo_jumps_9 rfl (lv_at hl 1 rfl) ?_
    refine lv_iload_n hx hb d_Mo_jumps_10 rfl (lv_at hl 3 rfl) ?_
    refine lv_iload_n hx hb d_Mo_jumps_11 rfl (lv_at hl 3 rfl) ?_
    refine lv_sipush (v := (-4096)) hx hb d_Mo_jumps_12 (by decide) ?_
    refine lv_iand hx hb d_Mo_jumps_15 ?_
    refine zgov (wr := []) (zrunV (n := 2) (As := [.int w, .int (w &&& (-4096))]) (rest := []) hE (c_Mo_goesOn l D cI cB cJ _ w (w &&& (-4096)) m0 mk mt kd wo wn re pc sta dn th ro aa si so la md lq tp tr ip oq cp ni no rg) cb_Mo_goesOn lk_Mo_129 in_Mo_goesOn se_Mo_goesOn (zpreV (q0 := 0) hK hP hD rfl rfl rfl [0, 1] rfl rfl rfl) ⟨Nat.le_of_ble_eq_true rfl, Nat.le_of_ble_eq_true rfl, Nat.le_of_ble_eq_true rfl, Nat.le_of_ble_eq_true rfl⟩ rfl hl.1 rfl (Nat.le_of_ble_eq_true rfl) d_Mo_jumps_16) hP hD hS hA [0, 1] [] rfl rfl rfl (by decide) (fun u H locs hq14 hP hD hS => ?_)
    clear hq14
    have hP : va_P D zC [(m0, .inr (3, [.ref mk, .ref mt, .int kd, .ref wo, .int wn, .ref re, .int ((sp_Mo_goesOn w (w &&& (-4096)) pc rg).1), .int sta, .int dn, .int th, .ref ro, .ref aa, .ref si, .ref so, .ref la, .int md, .int lq, .int tp, .int tr, .ref ip, .ref oq, .ref cp, .int ni, .int no])), (re, .inl (cI, 32, .inl ((sp_Mo_goesOn w (w &&& (-4096)) pc rg).2)))] H := hP
    have hD : va_D A [(m0, .inr (3, [.ref mk, .ref mt, .int kd, .ref wo, .int wn, .ref re, .int ((sp_Mo_goesOn w (w &&& (-4096)) pc rg).1), .int sta, .int dn, .int th, .ref ro, .ref aa, .ref si, .ref so, .ref la, .int md, .int lq, .int tp, .int tr, .ref ip, .ref oq, .ref cp, .int ni, .int no])), (re, .inl (cI, 32, .inl ((sp_Mo_goesOn w (w &&& (-4096)) pc rg).2)))] := hD
    refine lv_goto (tgt := 95) hx hb d_Mo_jumps_19 (by decide) ?_
    have hs : (sp_Mo_jumps k w pc sta rg) = ((sp_Mo_goesOn w (w &&& (-4096)) pc rg).1, sta, (sp_Mo_goesOn w (w &&& (-4096)) pc rg).2) := by rw [sp_Mo_jumps, if_pos h1]
    have hP9 := hP.sub (ws' := [(m0, .inr (3, [.ref mk, .ref mt, .int kd, .ref wo, .int wn, .ref re, .int ((sp_Mo_goesOn w (w &&& (-4096)) pc rg).1), .int sta, .int dn, .int th, .ref ro, .ref aa, .ref si, .ref so, .ref la, .int md, .int lq, .int tp, .int tr, .ref ip, .ref oq, .ref cp, .int ni, .int no])), (re, .inl (cI, 32, .inl ((sp_Mo_goesOn w (w &&& (-4096)) pc rg).2)))]) [0, 1] rfl
    have hD9 := hD.sub (ws' := [(m0, .inr (3, [.ref mk, .ref mt, .int kd, .ref wo, .int wn, .ref re, .int ((sp_Mo_goesOn w (w &&& (-4096)) pc rg).1), .int sta, .int dn, .int th, .ref ro, .ref aa, .ref si, .ref so, .ref la, .int md, .int lq, .int tp, .int tr, .ref ip, .ref oq, .ref cp, .int ni, .int no])), (re, .inl (cI, 32, .inl ((sp_Mo_goesOn w (w &&& (-4096)) pc rg).2)))]) [0, 1] rfl rfl
    exact zretv hx hb hr hlocks hS () trivial rfl (by rw [hs]; exact hP9) (by rw [hs]; exact hD9) d_Mo_jumps_95

def sp_Mo_branch (f : Int32) (w : Int32) (pc : Int32) (sta : Int32) (rg : Nat → Int32) : Int32 × Int32 := if f ≤ 5 then
  if 2 ≤ f then
    if 0 ≤ (lg_cmp ((rg (sp_Mo_bits w 15 5).toNatClampNeg : Int32).toInt64) ((rg (sp_Mo_bits w 20 5).toNatClampNeg : Int32).toInt64)) then
      if (f &&& 1) = 1 then ((sp_Mo_isGone (pc + (sp_Mo_byBranch w)) pc sta).2.1, (sp_Mo_isGone (pc + (sp_Mo_byBranch w)) pc sta).2.2) else (pc + 4, sta)
    else if (f &&& 1) = 1 then (pc + 4, sta) else ((sp_Mo_isGone (pc + (sp_Mo_byBranch w)) pc sta).2.1, (sp_Mo_isGone (pc + (sp_Mo_byBranch w)) pc sta).2.2)
  else if (lg_cmp ((rg (sp_Mo_bits w 15 5).toNatClampNeg : Int32).toInt64) ((rg (sp_Mo_bits w 20 5).toNatClampNeg : Int32).toInt64)) = 0 then
    if (f &&& 1) = 1 then (pc + 4, sta) else ((sp_Mo_isGone (pc + (sp_Mo_byBranch w)) pc sta).2.1, (sp_Mo_isGone (pc + (sp_Mo_byBranch w)) pc sta).2.2)
  else if (f &&& 1) = 1 then ((sp_Mo_isGone (pc + (sp_Mo_byBranch w)) pc sta).2.1, (sp_Mo_isGone (pc + (sp_Mo_byBranch w)) pc sta).2.2) else (pc + 4, sta)
else if 2 ≤ f then
  if 0 ≤ (lg_cmp (((rg (sp_Mo_bits w 15 5).toNatClampNeg : Int32).toInt64) &&& 4294967295) (((rg (sp_Mo_bits w 20 5).toNatClampNeg : Int32).toInt64) &&& 4294967295)) then
    if (f &&& 1) = 1 then ((sp_Mo_isGone (pc + (sp_Mo_byBranch w)) pc sta).2.1, (sp_Mo_isGone (pc + (sp_Mo_byBranch w)) pc sta).2.2) else (pc + 4, sta)
  else if (f &&& 1) = 1 then (pc + 4, sta) else ((sp_Mo_isGone (pc + (sp_Mo_byBranch w)) pc sta).2.1, (sp_Mo_isGone (pc + (sp_Mo_byBranch w)) pc sta).2.2)
else if (lg_cmp (((rg (sp_Mo_bits w 15 5).toNatClampNeg : Int32).toInt64) &&& 4294967295) (((rg (sp_Mo_bits w 20 5).toNatClampNeg : Int32).toInt64) &&& 4294967295)) = 0 then
  if (f &&& 1) = 1 then (pc + 4, sta) else ((sp_Mo_isGone (pc + (sp_Mo_byBranch w)) pc sta).2.1, (sp_Mo_isGone (pc + (sp_Mo_byBranch w)) pc sta).2.2)
else if (f &&& 1) = 1 then ((sp_Mo_isGone (pc + (sp_Mo_byBranch w)) pc sta).2.1, (sp_Mo_isGone (pc + (sp_Mo_byBranch w)) pc sta).2.2) else (pc + 4, sta)
set_option maxHeartbeats 4000000 in
theorem c_Mo_branch (l : Launch) (D : va_G) (cI cB cJ : ClassId) (sz : Nat) (f : Int32) (w : Int32) (m0 : Nat) (mk : Nat) (mt : Nat) (kd : Int32) (wo : Nat) (wn : Int32) (re : Nat) (pc : Int32) (sta : Int32) (dn : Int32) (th : Int32) (ro : Nat) (aa : Nat) (si : Nat) (so : Nat) (la : Nat) (md : Int32) (lq : Int32) (tp : Int32) (tr : Int32) (ip : Nat) (oq : Nat) (cp : Nat) (ni : Int32) (no : Int32) (rg : Nat → Int32) : zMet l y_Mo_branch (zWs y_Mo_branch b_Mo_branch 8 (none)) { frames := 2, cells := 0, slots := 0, locals := 42 } (zPc D (zT cI cB cJ) sz [(m0, .inr (3, [.ref mk, .ref mt, .int kd, .ref wo, .int wn, .ref re, .int pc, .int sta, .int dn, .int th, .ref ro, .ref aa, .ref si, .ref so, .ref la, .int md, .int lq, .int tp, .int tr, .ref ip, .ref oq, .ref cp, .int ni, .int no])), (re, .inl (cI, 32, .inl (rg)))] [.ref m0, .int f, .int w]) (zQv D (va_A [(m0, .inr (3, [.ref mk, .ref mt, .int kd, .ref wo, .int wn, .ref re, .int pc, .int sta, .int dn, .int th, .ref ro, .ref aa, .ref si, .ref so, .ref la, .int md, .int lq, .int tp, .int tr, .ref ip, .ref oq, .ref cp, .int ni, .int no])), (re, .inl (cI, 32, .inl (rg)))] sz) (fun (_ : Unit) => True) (z0) (fun _ => [(m0, .inr (3, [.ref mk, .ref mt, .int kd, .ref wo, .int wn, .ref re, .int ((sp_Mo_branch f w pc sta rg).1), .int ((sp_Mo_branch f w pc sta rg).2), .int dn, .int th, .ref ro, .ref aa, .ref si, .ref so, .ref la, .int md, .int lq, .int tp, .int tr, .ref ip, .ref oq, .ref cp, .int ni, .int no])), (re, .inl (cI, 32, .inl (rg)))])) (va_A [(m0, .inr (3, [.ref mk, .ref mt, .int kd, .ref wo, .int wn, .ref re, .int pc, .int sta, .int dn, .int th, .ref ro, .ref aa, .ref si, .ref so, .ref la, .int md, .int lq, .int tp, .int tr, .ref ip, .ref oq, .ref cp, .int ni, .int no])), (re, .inl (cI, 32, .inl (rg)))] sz) := by
  refine zstart (Qc := fun A => zQv D A (fun (_ : Unit) => True) (z0) (fun _ => [(m0, .inr (3, [.ref mk, .ref mt, .int kd, .ref wo, .int wn, .ref re, .int ((sp_Mo_branch f w pc sta rg).1), .int ((sp_Mo_branch f w pc sta rg).2), .int dn, .int th, .ref ro, .ref aa, .ref si, .ref so, .ref la, .int md, .int lq, .int tp, .int tr, .ref ip, .ref oq, .ref cp, .int ni, .int no])), (re, .inl (cI, 32, .inl (rg)))])) (by decide) (Nat.le_of_ble_eq_true rfl) ?_
  intro p e s m below meth c ls A hE hr hlocks hin hsz hK hP hD hS hA hAe hl
  have hx := hE.1
  have hb := hE.2.1
  have hown := hE.2.2.2.1
  have hw := hE.2.2.2.2
  have hl : lv_has ls 8 [(0, .ref m0), (1, .int f), (2, .int w)] := hl
  refine lv_aload_n hx hb d_Mo_branch_0 rfl (lv_at hl 0 rfl) ?_
  refine zget hE hK hP 0 rfl fd_Mo_19 rfl d_Mo_branch_1 ?_
  refine lv_iload_n hx hb d_Mo_branch_4 rfl (lv_at hl 2 rfl) ?_
  refine lv_bipush (v := 15) hx hb d_Mo_branch_5 (by decide) ?_
  refine lv_iconst (v := 5) hx hb d_Mo_branch_7 (by decide) ?_
  refine zgoi (wr := [(m0, .inr (3, [.ref mk, .ref mt, .int kd, .ref wo, .int wn, .ref re, .int pc, .int sta, .int dn, .int th, .ref ro, .ref aa, .ref si, .ref so, .ref la, .int md, .int lq, .int tp, .int tr, .ref ip, .ref oq, .ref cp, .int ni, .int no])), (re, .inl (cI, 32, .inl (rg)))]) (zrunS (n := 3) (As := [.int w, .int 15, .int 5]) (rest := [.ref re]) hE (c_Mo_bits l D _ _ w 15 5) cb_Mo_bits lk_Mo_65 st_Mo_bits (zpreS hK hP hD [] rfl rfl rfl) ⟨Nat.le_of_ble_eq_true rfl, Nat.le_of_ble_eq_true rfl, Nat.le_of_ble_eq_true rfl, Nat.le_of_ble_eq_true rfl⟩ rfl hl.1 rfl (Nat.le_of_ble_eq_true rfl) d_Mo_branch_8) hP hD hS hA [] [0, 1] rfl rfl rfl (by decide) (fun r u H locs hq1 hP hD hS => ?_)
  subst hq1
  have hP : va_P D zC [(m0, .inr (3, [.ref mk, .ref mt, .int kd, .ref wo, .int wn, .ref re, .int pc, .int sta, .int dn, .int th, .ref ro, .ref aa, .ref si, .ref so, .ref la, .int md, .int lq, .int tp, .int tr, .ref ip, .ref oq, .ref cp, .int ni, .int no])), (re, .inl (cI, 32, .inl (rg)))] H := hP
  have hD : va_D A [(m0, .inr (3, [.ref mk, .ref mt, .int kd, .ref wo, .int wn, .ref re, .int pc, .int sta, .int dn, .int th, .ref ro, .ref aa, .ref si, .ref so, .ref la, .int md, .int lq, .int tp, .int tr, .ref ip, .ref oq, .ref cp, .int ni, .int no])), (re, .inl (cI, 32, .inl (rg)))] := hD
  refine va_iald hx hb hK hP 1 0 rfl rfl (zb5 _ _) d_Mo_branch_11 ?_
  refine lv_i2l (v := (rg (sp_Mo_bits w 15 5).toNatClampNeg : Int32).toInt64) hx hb d_Mo_branch_12 rfl ?_
  refine lv_lstore_n (lv' := [(3, .long ((rg (sp_Mo_bits w 15 5).toNatClampNeg : Int32).toInt64)), (0, .ref m0), (1, .int f), (2, .int w)]) hx hb d_Mo_branch_13 rfl hl (by decide) rfl (fun ls hl => ?_)
  refine lv_aload_n hx hb d_Mo_branch_14 rfl (lv_at hl 1 rfl) ?_
  refine zget hE hK hP 0 rfl fd_Mo_19 rfl d_Mo_branch_15 ?_
  refine lv_iload_n hx hb d_Mo_branch_18 rfl (lv_at hl 3 rfl) ?_
  refine lv_bipush (v := 20) hx hb d_Mo_branch_19 (by decide) ?_
  refine lv_iconst (v := 5) hx hb d_Mo_branch_21 (by decide) ?_
  refine zgoi (wr := [(m0, .inr (3, [.ref mk, .ref mt, .int kd, .ref wo, .int wn, .ref re, .int pc, .int sta, .int dn, .int th, .ref ro, .ref aa, .ref si, .ref so, .ref la, .int md, .int lq, .int tp, .int tr, .ref ip, .ref oq, .ref cp, .int ni, .int no])), (re, .inl (cI, 32, .inl (rg)))]) (zrunS (n := 3) (As := [.int w, .int 20, .int 5]) (rest := [.ref re]) hE (c_Mo_bits l D _ _ w 20 5) cb_Mo_bits lk_Mo_65 st_Mo_bits (zpreS hK hP hD [] rfl rfl rfl) ⟨Nat.le_of_ble_eq_true rfl, Nat.le_of_ble_eq_true rfl, Nat.le_of_ble_eq_true rfl, Nat.le_of_ble_eq_true rfl⟩ rfl hl.1 rfl (Nat.le_of_ble_eq_true rfl) d_Mo_branch_22) hP hD hS hA [] [0, 1] rfl rfl rfl (by decide) (fun r u H locs hq2 hP hD hS => ?_)
  subst hq2
  have hP : va_P D zC [(m0, .inr (3, [.ref mk, .ref mt, .int kd, .ref wo, .int wn, .ref re, .int pc, .int sta, .int dn, .int th, .ref ro, .ref aa, .ref si, .ref so, .ref la, .int md, .int lq, .int tp, .int tr, .ref ip, .ref oq, .ref cp, .int ni, .int no])), (re, .inl (cI, 32, .inl (rg)))] H := hP
  have hD : va_D A [(m0, .inr (3, [.ref mk, .ref mt, .int kd, .ref wo, .int wn, .ref re, .int pc, .int sta, .int dn, .int th, .ref ro, .ref aa, .ref si, .ref so, .ref la, .int md, .int lq, .int tp, .int tr, .ref ip, .ref oq, .ref cp, .int ni, .int no])), (re, .inl (cI, 32, .inl (rg)))] := hD
  refine va_iald hx hb hK hP 1 0 rfl rfl (zb5 _ _) d_Mo_branch_25 ?_
  refine lv_i2l (v := (rg (sp_Mo_bits w 20 5).toNatClampNeg : Int32).toInt64) hx hb d_Mo_branch_26 rfl ?_
  refine lv_lstore (lv' := [(5, .long ((rg (sp_Mo_bits w 20 5).toNatClampNeg : Int32).toInt64)), (3, .long ((rg (sp_Mo_bits w 15 5).toNatClampNeg : Int32).toInt64)), (0, .ref m0), (1, .int f), (2, .int w)]) hx hb d_Mo_branch_27 hl (by decide) rfl (fun ls hl => ?_)
  refine lv_iload_n hx hb d_Mo_branch_29 rfl (lv_at hl 3 rfl) ?_
  refine lv_iconst (v := 5) hx hb d_Mo_branch_30 (by decide) ?_
  refine lv_icmp_le (tgt := 48) hx hb d_Mo_branch_31 (by decide) (fun h3 => ?_) (fun h3 => ?_)
  · refine lv_iload_n hx hb d_Mo_branch_48 rfl (lv_at hl 3 rfl) ?_
    refine lv_iconst (v := 2) hx hb d_Mo_branch_49 (by decide) ?_
    refine lv_icmp_ge (tgt := 68) hx hb d_Mo_branch_50 (by decide) (fun h4 => ?_) (fun h4 => ?_)
    · refine lv_lload_n hx hb d_Mo_branch_68 rfl (lv_at hl 1 rfl) ?_
      refine lv_lload hx hb d_Mo_branch_69 (lv_at hl 0 rfl) ?_
      refine W.lcmp hx hb d_Mo_branch_71 ?_
      refine lv_if_ge (tgt := 79) hx hb d_Mo_branch_72 (by decide) (fun h5 => ?_) (fun h5 => ?_)
      · refine lv_iconst (v := 0) hx hb d_Mo_branch_79 (by decide) ?_
        refine lv_istore (lv' := [(7, .int 0), (5, .long ((rg (sp_Mo_bits w 20 5).toNatClampNeg : Int32).toInt64)), (3, .long ((rg (sp_Mo_bits w 15 5).toNatClampNeg : Int32).toInt64)), (0, .ref m0), (1, .int f), (2, .int w)]) hx hb d_Mo_branch_80 hl (by decide) rfl (fun ls hl => ?_)
        refine lv_iload_n hx hb d_Mo_branch_82 rfl (lv_at hl 4 rfl) ?_
        refine lv_iconst (v := 1) hx hb d_Mo_branch_83 (by decide) ?_
        refine lv_iand hx hb d_Mo_branch_84 ?_
        refine lv_iconst (v := 1) hx hb d_Mo_branch_85 (by decide) ?_
        refine lv_icmp_ne (tgt := 101) hx hb d_Mo_branch_86 (by decide) (fun h6 => ?_) (fun h6 => ?_)
        · refine lv_iload hx hb d_Mo_branch_101 (lv_at hl 0 rfl) ?_
          refine lv_if_eq (tgt := 123) hx hb d_Mo_branch_103 (by decide) (fun h7 => ?_) (fun h7 => (show False by revert h7; decide).elim)
          refine lv_aload_n hx hb d_Mo_branch_123 rfl (lv_at hl 3 rfl) ?_
          refine lv_dup hx hb d_Mo_branch_124 rfl ?_
          refine zget hE hK hP 0 rfl fd_Mo_104 rfl d_Mo_branch_125 ?_
          refine lv_iconst (v := 4) hx hb d_Mo_branch_128 (by decide) ?_
          refine lv_iadd hx hb d_Mo_branch_129 ?_
          refine zput (v := .int (pc + 4)) hE hK hP hD hS 0 rfl fd_Mo_104 ft_Mo_6 rfl rfl (Nat.le_of_ble_eq_true rfl) d_Mo_branch_130 (fun H locs hP hD hS => ?_)
          have hP : va_P D zC [(m0, .inr (3, [.ref mk, .ref mt, .int kd, .ref wo, .int wn, .ref re, .int (pc + 4), .int sta, .int dn, .int th, .ref ro, .ref aa, .ref si, .ref so, .ref la, .int md, .int lq, .int tp, .int tr, .ref ip, .ref oq, .ref cp, .int ni, .int no])), (re, .inl (cI, 32, .inl (rg)))] H := hP
          have hD : va_D A [(m0, .inr (3, [.ref mk, .ref mt, .int kd, .ref wo, .int wn, .ref re, .int (pc + 4), .int sta, .int dn, .int th, .ref ro, .ref aa, .ref si, .ref so, .ref la, .int md, .int lq, .int tp, .int tr, .ref ip, .ref oq, .ref cp, .int ni, .int no])), (re, .inl (cI, 32, .inl (rg)))] := hD
          have hs : (sp_Mo_branch f w pc sta rg) = (pc + 4, sta) := by rw [sp_Mo_branch, if_pos h3, if_pos h4, if_pos h5, if_neg h6]
          have hP9 := hP.sub (ws' := [(m0, .inr (3, [.ref mk, .ref mt, .int kd, .ref wo, .int wn, .ref re, .int (pc + 4), .int sta, .int dn, .int th, .ref ro, .ref aa, .ref si, .ref so, .ref la, .int md, .int lq, .int tp, .int tr, .ref ip, .ref oq, .ref cp, .int ni, .int no])), (re, .inl (cI, 32, .inl (rg)))]) [0, 1] rfl
          have hD9 := hD.sub (ws' := [(m0, .inr (3, [.ref mk, .ref mt, .int kd, .ref wo, .int wn, .ref re, .int (pc + 4), .int sta, .int dn, .int th, .ref ro, .ref aa, .ref si, .ref so, .ref la, .int md, .int lq, .int tp, .int tr, .ref ip, .ref oq, .ref cp, .int ni, .int no])), (re, .inl (cI, 32, .inl (rg)))]) [0, 1] rfl rfl
          exact zretv hx hb hr hlocks hS () trivial rfl (by rw [hs]; exact hP9) (by rw [hs]; exact hD9) d_Mo_branch_133
        · refine lv_iload hx hb d_Mo_branch_89 (lv_at hl 0 rfl) ?_
          refine lv_if_ne (tgt := 98) hx hb d_Mo_branch_91 (by decide) (fun h8 => (show False by revert h8; decide).elim) (fun h8 => ?_)
          refine lv_iconst (v := 1) hx hb d_Mo_branch_94 (by decide) ?_
          refine lv_goto (tgt := 99) hx hb d_Mo_branch_95 (by decide) ?_
          refine lv_istore (lv' := [(7, .int 1), (5, .long ((rg (sp_Mo_bits w 20 5).toNatClampNeg : Int32).toInt64)), (3, .long ((rg (sp_Mo_bits w 15 5).toNatClampNeg : Int32).toInt64)), (0, .ref m0), (1, .int f), (2, .int w)]) hx hb d_Mo_branch_99 hl (by decide) rfl (fun ls hl => ?_)
          refine lv_iload hx hb d_Mo_branch_101 (lv_at hl 0 rfl) ?_
          refine lv_if_eq (tgt := 123) hx hb d_Mo_branch_103 (by decide) (fun h9 => (show False by revert h9; decide).elim) (fun h9 => ?_)
          refine lv_aload_n hx hb d_Mo_branch_106 rfl (lv_at hl 3 rfl) ?_
          refine lv_aload_n hx hb d_Mo_branch_107 rfl (lv_at hl 3 rfl) ?_
          refine zget hE hK hP 0 rfl fd_Mo_104 rfl d_Mo_branch_108 ?_
          refine lv_iload_n hx hb d_Mo_branch_111 rfl (lv_at hl 5 rfl) ?_
          refine zgoi (wr := [(m0, .inr (3, [.ref mk, .ref mt, .int kd, .ref wo, .int wn, .ref re, .int pc, .int sta, .int dn, .int th, .ref ro, .ref aa, .ref si, .ref so, .ref la, .int md, .int lq, .int tp, .int tr, .ref ip, .ref oq, .ref cp, .int ni, .int no])), (re, .inl (cI, 32, .inl (rg)))]) (zrunS (n := 1) (As := [.int w]) (rest := [.int pc, .ref m0]) hE (c_Mo_byBranch l D _ _ w) cb_Mo_byBranch lk_Mo_150 st_Mo_byBranch (zpreS hK hP hD [] rfl rfl rfl) ⟨Nat.le_of_ble_eq_true rfl, Nat.le_of_ble_eq_true rfl, Nat.le_of_ble_eq_true rfl, Nat.le_of_ble_eq_true rfl⟩ rfl hl.1 rfl (Nat.le_of_ble_eq_true rfl) d_Mo_branch_112) hP hD hS hA [] [0, 1] rfl rfl rfl (by decide) (fun r u H locs hq10 hP hD hS => ?_)
          subst hq10
          have hP : va_P D zC [(m0, .inr (3, [.ref mk, .ref mt, .int kd, .ref wo, .int wn, .ref re, .int pc, .int sta, .int dn, .int th, .ref ro, .ref aa, .ref si, .ref so, .ref la, .int md, .int lq, .int tp, .int tr, .ref ip, .ref oq, .ref cp, .int ni, .int no])), (re, .inl (cI, 32, .inl (rg)))] H := hP
          have hD : va_D A [(m0, .inr (3, [.ref mk, .ref mt, .int kd, .ref wo, .int wn, .ref re, .int pc, .int sta, .int dn, .int th, .ref ro, .ref aa, .ref si, .ref so, .ref la, .int md, .int lq, .int tp, .int tr, .ref ip, .ref oq, .ref cp, .int ni, .int no])), (re, .inl (cI, 32, .inl (rg)))] := hD
          refine lv_iadd hx hb d_Mo_branch_115 ?_
          refine zgoi (wr := [(re, .inl (cI, 32, .inl (rg)))]) (zrunV (n := 1) (As := [.int (pc + (sp_Mo_byBranch w))]) (rest := []) hE (c_Mo_isGone l D cI cB cJ _ (pc + (sp_Mo_byBranch w)) m0 mk mt kd wo wn re pc sta dn th ro aa si so la md lq tp tr ip oq cp ni no) cb_Mo_isGone lk_Mo_144 in_Mo_isGone se_Mo_isGone (zpreV (q0 := 0) hK hP hD rfl rfl rfl [0] rfl rfl rfl) ⟨Nat.le_of_ble_eq_true rfl, Nat.le_of_ble_eq_true rfl, Nat.le_of_ble_eq_true rfl, Nat.le_of_ble_eq_true rfl⟩ rfl hl.1 rfl (Nat.le_of_ble_eq_true rfl) d_Mo_branch_116) hP hD hS hA [0] [1] rfl rfl rfl (by decide) (fun r u H locs hq11 hP hD hS => ?_)
          subst hq11
          have hP : va_P D zC [(re, .inl (cI, 32, .inl (rg))), (m0, .inr (3, [.ref mk, .ref mt, .int kd, .ref wo, .int wn, .ref re, .int ((sp_Mo_isGone (pc + (sp_Mo_byBranch w)) pc sta).2.1), .int ((sp_Mo_isGone (pc + (sp_Mo_byBranch w)) pc sta).2.2), .int dn, .int th, .ref ro, .ref aa, .ref si, .ref so, .ref la, .int md, .int lq, .int tp, .int tr, .ref ip, .ref oq, .ref cp, .int ni, .int no]))] H := hP
          have hD : va_D A [(re, .inl (cI, 32, .inl (rg))), (m0, .inr (3, [.ref mk, .ref mt, .int kd, .ref wo, .int wn, .ref re, .int ((sp_Mo_isGone (pc + (sp_Mo_byBranch w)) pc sta).2.1), .int ((sp_Mo_isGone (pc + (sp_Mo_byBranch w)) pc sta).2.2), .int dn, .int th, .ref ro, .ref aa, .ref si, .ref so, .ref la, .int md, .int lq, .int tp, .int tr, .ref ip, .ref oq, .ref cp, .int ni, .int no]))] := hD
          refine lv_pop hx hb d_Mo_branch_119 rfl ?_
          refine lv_goto (tgt := 133) hx hb d_Mo_branch_120 (by decide) ?_
          have hs : (sp_Mo_branch f w pc sta rg) = ((sp_Mo_isGone (pc + (sp_Mo_byBranch w)) pc sta).2.1, (sp_Mo_isGone (pc + (sp_Mo_byBranch w)) pc sta).2.2) := by rw [sp_Mo_branch, if_pos h3, if_pos h4, if_pos h5, if_pos h6]
          have hP9 := hP.sub (ws' := [(m0, .inr (3, [.ref mk, .ref mt, .int kd, .ref wo, .int wn, .ref re, .int ((sp_Mo_isGone (pc + (sp_Mo_byBranch w)) pc sta).2.1), .int ((sp_Mo_isGone (pc + (sp_Mo_byBranch w)) pc sta).2.2), .int dn, .int th, .ref ro, .ref aa, .ref si, .ref so, .ref la, .int md, .int lq, .int tp, .int tr, .ref ip, .ref oq, .ref cp, .int ni, .int no])), (re, .inl (cI, 32, .inl (rg)))]) [1, 0] rfl
          have hD9 := hD.sub (ws' := [(m0, .inr (3, [.ref mk, .ref mt, .int kd, .ref wo, .int wn, .ref re, .int ((sp_Mo_isGone (pc + (sp_Mo_byBranch w)) pc sta).2.1), .int ((sp_Mo_isGone (pc + (sp_Mo_byBranch w)) pc sta).2.2), .int dn, .int th, .ref ro, .ref aa, .ref si, .ref so, .ref la, .int md, .int lq, .int tp, .int tr, .ref ip, .ref oq, .ref cp, .int ni, .int no])), (re, .inl (cI, 32, .inl (rg)))]) [1, 0] rfl rfl
          exact zretv hx hb hr hlocks hS () trivial rfl (by rw [hs]; exact hP9) (by rw [hs]; exact hD9) d_Mo_branch_133
      · refine lv_iconst (v := 1) hx hb d_Mo_branch_75 (by decide) ?_
        refine lv_goto (tgt := 80) hx hb d_Mo_branch_76 (by decide) ?_
        refine lv_istore (lv' := [(7, .int 1), (5, .long ((rg (sp_Mo_bits w 20 5).toNatClampNeg : Int32).toInt64)), (3, .long ((rg (sp_Mo_bits w 15 5).toNatClampNeg : Int32).toInt64)), (0, .ref m0), (1, .int f), (2, .int w)]) hx hb d_Mo_branch_80 hl (by decide) rfl (fun ls hl => ?_)
        refine lv_iload_n hx hb d_Mo_branch_82 rfl (lv_at hl 4 rfl) ?_
        refine lv_iconst (v := 1) hx hb d_Mo_branch_83 (by decide) ?_
        refine lv_iand hx hb d_Mo_branch_84 ?_
        refine lv_iconst (v := 1) hx hb d_Mo_branch_85 (by decide) ?_
        refine lv_icmp_ne (tgt := 101) hx hb d_Mo_branch_86 (by decide) (fun h12 => ?_) (fun h12 => ?_)
        · refine lv_iload hx hb d_Mo_branch_101 (lv_at hl 0 rfl) ?_
          refine lv_if_eq (tgt := 123) hx hb d_Mo_branch_103 (by decide) (fun h13 => (show False by revert h13; decide).elim) (fun h13 => ?_)
          refine lv_aload_n hx hb d_Mo_branch_106 rfl (lv_at hl 3 rfl) ?_
          refine lv_aload_n hx hb d_Mo_branch_107 rfl (lv_at hl 3 rfl) ?_
          refine zget hE hK hP 0 rfl fd_Mo_104 rfl d_Mo_branch_108 ?_
          refine lv_iload_n hx hb d_Mo_branch_111 rfl (lv_at hl 5 rfl) ?_
          refine zgoi (wr := [(m0, .inr (3, [.ref mk, .ref mt, .int kd, .ref wo, .int wn, .ref re, .int pc, .int sta, .int dn, .int th, .ref ro, .ref aa, .ref si, .ref so, .ref la, .int md, .int lq, .int tp, .int tr, .ref ip, .ref oq, .ref cp, .int ni, .int no])), (re, .inl (cI, 32, .inl (rg)))]) (zrunS (n := 1) (As := [.int w]) (rest := [.int pc, .ref m0]) hE (c_Mo_byBranch l D _ _ w) cb_Mo_byBranch lk_Mo_150 st_Mo_byBranch (zpreS hK hP hD [] rfl rfl rfl) ⟨Nat.le_of_ble_eq_true rfl, Nat.le_of_ble_eq_true rfl, Nat.le_of_ble_eq_true rfl, Nat.le_of_ble_eq_true rfl⟩ rfl hl.1 rfl (Nat.le_of_ble_eq_true rfl) d_Mo_branch_112) hP hD hS hA [] [0, 1] rfl rfl rfl (by decide) (fun r u H locs hq14 hP hD hS => ?_)
          subst hq14
          have hP : va_P D zC [(m0, .inr (3, [.ref mk, .ref mt, .int kd, .ref wo, .int wn, .ref re, .int pc, .int sta, .int dn, .int th, .ref ro, .ref aa, .ref si, .ref so, .ref la, .int md, .int lq, .int tp, .int tr, .ref ip, .ref oq, .ref cp, .int ni, .int no])), (re, .inl (cI, 32, .inl (rg)))] H := hP
          have hD : va_D A [(m0, .inr (3, [.ref mk, .ref mt, .int kd, .ref wo, .int wn, .ref re, .int pc, .int sta, .int dn, .int th, .ref ro, .ref aa, .ref si, .ref so, .ref la, .int md, .int lq, .int tp, .int tr, .ref ip, .ref oq, .ref cp, .int ni, .int no])), (re, .inl (cI, 32, .inl (rg)))] := hD
          refine lv_iadd hx hb d_Mo_branch_115 ?_
          refine zgoi (wr := [(re, .inl (cI, 32, .inl (rg)))]) (zrunV (n := 1) (As := [.int (pc + (sp_Mo_byBranch w))]) (rest := []) hE (c_Mo_isGone l D cI cB cJ _ (pc + (sp_Mo_byBranch w)) m0 mk mt kd wo wn re pc sta dn th ro aa si so la md lq tp tr ip oq cp ni no) cb_Mo_isGone lk_Mo_144 in_Mo_isGone se_Mo_isGone (zpreV (q0 := 0) hK hP hD rfl rfl rfl [0] rfl rfl rfl) ⟨Nat.le_of_ble_eq_true rfl, Nat.le_of_ble_eq_true rfl, Nat.le_of_ble_eq_true rfl, Nat.le_of_ble_eq_true rfl⟩ rfl hl.1 rfl (Nat.le_of_ble_eq_true rfl) d_Mo_branch_116) hP hD hS hA [0] [1] rfl rfl rfl (by decide) (fun r u H locs hq15 hP hD hS => ?_)
          subst hq15
          have hP : va_P D zC [(re, .inl (cI, 32, .inl (rg))), (m0, .inr (3, [.ref mk, .ref mt, .int kd, .ref wo, .int wn, .ref re, .int ((sp_Mo_isGone (pc + (sp_Mo_byBranch w)) pc sta).2.1), .int ((sp_Mo_isGone (pc + (sp_Mo_byBranch w)) pc sta).2.2), .int dn, .int th, .ref ro, .ref aa, .ref si, .ref so, .ref la, .int md, .int lq, .int tp, .int tr, .ref ip, .ref oq, .ref cp, .int ni, .int no]))] H := hP
          have hD : va_D A [(re, .inl (cI, 32, .inl (rg))), (m0, .inr (3, [.ref mk, .ref mt, .int kd, .ref wo, .int wn, .ref re, .int ((sp_Mo_isGone (pc + (sp_Mo_byBranch w)) pc sta).2.1), .int ((sp_Mo_isGone (pc + (sp_Mo_byBranch w)) pc sta).2.2), .int dn, .int th, .ref ro, .ref aa, .ref si, .ref so, .ref la, .int md, .int lq, .int tp, .int tr, .ref ip, .ref oq, .ref cp, .int ni, .int no]))] := hD
          refine lv_pop hx hb d_Mo_branch_119 rfl ?_
          refine lv_goto (tgt := 133) hx hb d_Mo_branch_120 (by decide) ?_
          have hs : (sp_Mo_branch f w pc sta rg) = ((sp_Mo_isGone (pc + (sp_Mo_byBranch w)) pc sta).2.1, (sp_Mo_isGone (pc + (sp_Mo_byBranch w)) pc sta).2.2) := by rw [sp_Mo_branch, if_pos h3, if_pos h4, if_neg h5, if_neg h12]
          have hP9 := hP.sub (ws' := [(m0, .inr (3, [.ref mk, .ref mt, .int kd, .ref wo, .int wn, .ref re, .int ((sp_Mo_isGone (pc + (sp_Mo_byBranch w)) pc sta).2.1), .int ((sp_Mo_isGone (pc + (sp_Mo_byBranch w)) pc sta).2.2), .int dn, .int th, .ref ro, .ref aa, .ref si, .ref so, .ref la, .int md, .int lq, .int tp, .int tr, .ref ip, .ref oq, .ref cp, .int ni, .int no])), (re, .inl (cI, 32, .inl (rg)))]) [1, 0] rfl
          have hD9 := hD.sub (ws' := [(m0, .inr (3, [.ref mk, .ref mt, .int kd, .ref wo, .int wn, .ref re, .int ((sp_Mo_isGone (pc + (sp_Mo_byBranch w)) pc sta).2.1), .int ((sp_Mo_isGone (pc + (sp_Mo_byBranch w)) pc sta).2.2), .int dn, .int th, .ref ro, .ref aa, .ref si, .ref so, .ref la, .int md, .int lq, .int tp, .int tr, .ref ip, .ref oq, .ref cp, .int ni, .int no])), (re, .inl (cI, 32, .inl (rg)))]) [1, 0] rfl rfl
          exact zretv hx hb hr hlocks hS () trivial rfl (by rw [hs]; exact hP9) (by rw [hs]; exact hD9) d_Mo_branch_133
        · refine lv_iload hx hb d_Mo_branch_89 (lv_at hl 0 rfl) ?_
          refine lv_if_ne (tgt := 98) hx hb d_Mo_branch_91 (by decide) (fun h16 => ?_) (fun h16 => (show False by revert h16; decide).elim)
          refine lv_iconst (v := 0) hx hb d_Mo_branch_98 (by decide) ?_
          refine lv_istore (lv' := [(7, .int 0), (5, .long ((rg (sp_Mo_bits w 20 5).toNatClampNeg : Int32).toInt64)), (3, .long ((rg (sp_Mo_bits w 15 5).toNatClampNeg : Int32).toInt64)), (0, .ref m0), (1, .int f), (2, .int w)]) hx hb d_Mo_branch_99 hl (by decide) rfl (fun ls hl => ?_)
          refine lv_iload hx hb d_Mo_branch_101 (lv_at hl 0 rfl) ?_
          refine lv_if_eq (tgt := 123) hx hb d_Mo_branch_103 (by decide) (fun h17 => ?_) (fun h17 => (show False by revert h17; decide).elim)
          refine lv_aload_n hx hb d_Mo_branch_123 rfl (lv_at hl 3 rfl) ?_
          refine lv_dup hx hb d_Mo_branch_124 rfl ?_
          refine zget hE hK hP 0 rfl fd_Mo_104 rfl d_Mo_branch_125 ?_
          refine lv_iconst (v := 4) hx hb d_Mo_branch_128 (by decide) ?_
          refine lv_iadd hx hb d_Mo_branch_129 ?_
          refine zput (v := .int (pc + 4)) hE hK hP hD hS 0 rfl fd_Mo_104 ft_Mo_6 rfl rfl (Nat.le_of_ble_eq_true rfl) d_Mo_branch_130 (fun H locs hP hD hS => ?_)
          have hP : va_P D zC [(m0, .inr (3, [.ref mk, .ref mt, .int kd, .ref wo, .int wn, .ref re, .int (pc + 4), .int sta, .int dn, .int th, .ref ro, .ref aa, .ref si, .ref so, .ref la, .int md, .int lq, .int tp, .int tr, .ref ip, .ref oq, .ref cp, .int ni, .int no])), (re, .inl (cI, 32, .inl (rg)))] H := hP
          have hD : va_D A [(m0, .inr (3, [.ref mk, .ref mt, .int kd, .ref wo, .int wn, .ref re, .int (pc + 4), .int sta, .int dn, .int th, .ref ro, .ref aa, .ref si, .ref so, .ref la, .int md, .int lq, .int tp, .int tr, .ref ip, .ref oq, .ref cp, .int ni, .int no])), (re, .inl (cI, 32, .inl (rg)))] := hD
          have hs : (sp_Mo_branch f w pc sta rg) = (pc + 4, sta) := by rw [sp_Mo_branch, if_pos h3, if_pos h4, if_neg h5, if_pos h12]
          have hP9 := hP.sub (ws' := [(m0, .inr (3, [.ref mk, .ref mt, .int kd, .ref wo, .int wn, .ref re, .int (pc + 4), .int sta, .int dn, .int th, .ref ro, .ref aa, .ref si, .ref so, .ref la, .int md, .int lq, .int tp, .int tr, .ref ip, .ref oq, .ref cp, .int ni, .int no])), (re, .inl (cI, 32, .inl (rg)))]) [0, 1] rfl
          have hD9 := hD.sub (ws' := [(m0, .inr (3, [.ref mk, .ref mt, .int kd, .ref wo, .int wn, .ref re, .int (pc + 4), .int sta, .int dn, .int th, .ref ro, .ref aa, .ref si, .ref so, .ref la, .int md, .int lq, .int tp, .int tr, .ref ip, .ref oq, .ref cp, .int ni, .int no])), (re, .inl (cI, 32, .inl (rg)))]) [0, 1] rfl rfl
          exact zretv hx hb hr hlocks hS () trivial rfl (by rw [hs]; exact hP9) (by rw [hs]; exact hD9) d_Mo_branch_133
    · refine lv_lload_n hx hb d_Mo_branch_53 rfl (lv_at hl 1 rfl) ?_
      refine lv_lload hx hb d_Mo_branch_54 (lv_at hl 0 rfl) ?_
      refine W.lcmp hx hb d_Mo_branch_56 ?_
      refine lv_if_ne (tgt := 64) hx hb d_Mo_branch_57 (by decide) (fun h18 => ?_) (fun h18 => ?_)
      · refine lv_iconst (v := 0) hx hb d_Mo_branch_64 (by decide) ?_
        refine lv_goto (tgt := 80) hx hb d_Mo_branch_65 (by decide) ?_
        refine lv_istore (lv' := [(7, .int 0), (5, .long ((rg (sp_Mo_bits w 20 5).toNatClampNeg : Int32).toInt64)), (3, .long ((rg (sp_Mo_bits w 15 5).toNatClampNeg : Int32).toInt64)), (0, .ref m0), (1, .int f), (2, .int w)]) hx hb d_Mo_branch_80 hl (by decide) rfl (fun ls hl => ?_)
        refine lv_iload_n hx hb d_Mo_branch_82 rfl (lv_at hl 4 rfl) ?_
        refine lv_iconst (v := 1) hx hb d_Mo_branch_83 (by decide) ?_
        refine lv_iand hx hb d_Mo_branch_84 ?_
        refine lv_iconst (v := 1) hx hb d_Mo_branch_85 (by decide) ?_
        refine lv_icmp_ne (tgt := 101) hx hb d_Mo_branch_86 (by decide) (fun h19 => ?_) (fun h19 => ?_)
        · refine lv_iload hx hb d_Mo_branch_101 (lv_at hl 0 rfl) ?_
          refine lv_if_eq (tgt := 123) hx hb d_Mo_branch_103 (by decide) (fun h20 => ?_) (fun h20 => (show False by revert h20; decide).elim)
          refine lv_aload_n hx hb d_Mo_branch_123 rfl (lv_at hl 3 rfl) ?_
          refine lv_dup hx hb d_Mo_branch_124 rfl ?_
          refine zget hE hK hP 0 rfl fd_Mo_104 rfl d_Mo_branch_125 ?_
          refine lv_iconst (v := 4) hx hb d_Mo_branch_128 (by decide) ?_
          refine lv_iadd hx hb d_Mo_branch_129 ?_
          refine zput (v := .int (pc + 4)) hE hK hP hD hS 0 rfl fd_Mo_104 ft_Mo_6 rfl rfl (Nat.le_of_ble_eq_true rfl) d_Mo_branch_130 (fun H locs hP hD hS => ?_)
          have hP : va_P D zC [(m0, .inr (3, [.ref mk, .ref mt, .int kd, .ref wo, .int wn, .ref re, .int (pc + 4), .int sta, .int dn, .int th, .ref ro, .ref aa, .ref si, .ref so, .ref la, .int md, .int lq, .int tp, .int tr, .ref ip, .ref oq, .ref cp, .int ni, .int no])), (re, .inl (cI, 32, .inl (rg)))] H := hP
          have hD : va_D A [(m0, .inr (3, [.ref mk, .ref mt, .int kd, .ref wo, .int wn, .ref re, .int (pc + 4), .int sta, .int dn, .int th, .ref ro, .ref aa, .ref si, .ref so, .ref la, .int md, .int lq, .int tp, .int tr, .ref ip, .ref oq, .ref cp, .int ni, .int no])), (re, .inl (cI, 32, .inl (rg)))] := hD
          have hs : (sp_Mo_branch f w pc sta rg) = (pc + 4, sta) := by rw [sp_Mo_branch, if_pos h3, if_neg h4, if_neg h18, if_neg h19]
          have hP9 := hP.sub (ws' := [(m0, .inr (3, [.ref mk, .ref mt, .int kd, .ref wo, .int wn, .ref re, .int (pc + 4), .int sta, .int dn, .int th, .ref ro, .ref aa, .ref si, .ref so, .ref la, .int md, .int lq, .int tp, .int tr, .ref ip, .ref oq, .ref cp, .int ni, .int no])), (re, .inl (cI, 32, .inl (rg)))]) [0, 1] rfl
          have hD9 := hD.sub (ws' := [(m0, .inr (3, [.ref mk, .ref mt, .int kd, .ref wo, .int wn, .ref re, .int (pc + 4), .int sta, .int dn, .int th, .ref ro, .ref aa, .ref si, .ref so, .ref la, .int md, .int lq, .int tp, .int tr, .ref ip, .ref oq, .ref cp, .int ni, .int no])), (re, .inl (cI, 32, .inl (rg)))]) [0, 1] rfl rfl
          exact zretv hx hb hr hlocks hS () trivial rfl (by rw [hs]; exact hP9) (by rw [hs]; exact hD9) d_Mo_branch_133
        · refine lv_iload hx hb d_Mo_branch_89 (lv_at hl 0 rfl) ?_
          refine lv_if_ne (tgt := 98) hx hb d_Mo_branch_91 (by decide) (fun h21 => (show False by revert h21; decide).elim) (fun h21 => ?_)
          refine lv_iconst (v := 1) hx hb d_Mo_branch_94 (by decide) ?_
          refine lv_goto (tgt := 99) hx hb d_Mo_branch_95 (by decide) ?_
          refine lv_istore (lv' := [(7, .int 1), (5, .long ((rg (sp_Mo_bits w 20 5).toNatClampNeg : Int32).toInt64)), (3, .long ((rg (sp_Mo_bits w 15 5).toNatClampNeg : Int32).toInt64)), (0, .ref m0), (1, .int f), (2, .int w)]) hx hb d_Mo_branch_99 hl (by decide) rfl (fun ls hl => ?_)
          refine lv_iload hx hb d_Mo_branch_101 (lv_at hl 0 rfl) ?_
          refine lv_if_eq (tgt := 123) hx hb d_Mo_branch_103 (by decide) (fun h22 => (show False by revert h22; decide).elim) (fun h22 => ?_)
          refine lv_aload_n hx hb d_Mo_branch_106 rfl (lv_at hl 3 rfl) ?_
          refine lv_aload_n hx hb d_Mo_branch_107 rfl (lv_at hl 3 rfl) ?_
          refine zget hE hK hP 0 rfl fd_Mo_104 rfl d_Mo_branch_108 ?_
          refine lv_iload_n hx hb d_Mo_branch_111 rfl (lv_at hl 5 rfl) ?_
          refine zgoi (wr := [(m0, .inr (3, [.ref mk, .ref mt, .int kd, .ref wo, .int wn, .ref re, .int pc, .int sta, .int dn, .int th, .ref ro, .ref aa, .ref si, .ref so, .ref la, .int md, .int lq, .int tp, .int tr, .ref ip, .ref oq, .ref cp, .int ni, .int no])), (re, .inl (cI, 32, .inl (rg)))]) (zrunS (n := 1) (As := [.int w]) (rest := [.int pc, .ref m0]) hE (c_Mo_byBranch l D _ _ w) cb_Mo_byBranch lk_Mo_150 st_Mo_byBranch (zpreS hK hP hD [] rfl rfl rfl) ⟨Nat.le_of_ble_eq_true rfl, Nat.le_of_ble_eq_true rfl, Nat.le_of_ble_eq_true rfl, Nat.le_of_ble_eq_true rfl⟩ rfl hl.1 rfl (Nat.le_of_ble_eq_true rfl) d_Mo_branch_112) hP hD hS hA [] [0, 1] rfl rfl rfl (by decide) (fun r u H locs hq23 hP hD hS => ?_)
          subst hq23
          have hP : va_P D zC [(m0, .inr (3, [.ref mk, .ref mt, .int kd, .ref wo, .int wn, .ref re, .int pc, .int sta, .int dn, .int th, .ref ro, .ref aa, .ref si, .ref so, .ref la, .int md, .int lq, .int tp, .int tr, .ref ip, .ref oq, .ref cp, .int ni, .int no])), (re, .inl (cI, 32, .inl (rg)))] H := hP
          have hD : va_D A [(m0, .inr (3, [.ref mk, .ref mt, .int kd, .ref wo, .int wn, .ref re, .int pc, .int sta, .int dn, .int th, .ref ro, .ref aa, .ref si, .ref so, .ref la, .int md, .int lq, .int tp, .int tr, .ref ip, .ref oq, .ref cp, .int ni, .int no])), (re, .inl (cI, 32, .inl (rg)))] := hD
          refine lv_iadd hx hb d_Mo_branch_115 ?_
          refine zgoi (wr := [(re, .inl (cI, 32, .inl (rg)))]) (zrunV (n := 1) (As := [.int (pc + (sp_Mo_byBranch w))]) (rest := []) hE (c_Mo_isGone l D cI cB cJ _ (pc + (sp_Mo_byBranch w)) m0 mk mt kd wo wn re pc sta dn th ro aa si so la md lq tp tr ip oq cp ni no) cb_Mo_isGone lk_Mo_144 in_Mo_isGone se_Mo_isGone (zpreV (q0 := 0) hK hP hD rfl rfl rfl [0] rfl rfl rfl) ⟨Nat.le_of_ble_eq_true rfl, Nat.le_of_ble_eq_true rfl, Nat.le_of_ble_eq_true rfl, Nat.le_of_ble_eq_true rfl⟩ rfl hl.1 rfl (Nat.le_of_ble_eq_true rfl) d_Mo_branch_116) hP hD hS hA [0] [1] rfl rfl rfl (by decide) (fun r u H locs hq24 hP hD hS => ?_)
          subst hq24
          have hP : va_P D zC [(re, .inl (cI, 32, .inl (rg))), (m0, .inr (3, [.ref mk, .ref mt, .int kd, .ref wo, .int wn, .ref re, .int ((sp_Mo_isGone (pc + (sp_Mo_byBranch w)) pc sta).2.1), .int ((sp_Mo_isGone (pc + (sp_Mo_byBranch w)) pc sta).2.2), .int dn, .int th, .ref ro, .ref aa, .ref si, .ref so, .ref la, .int md, .int lq, .int tp, .int tr, .ref ip, .ref oq, .ref cp, .int ni, .int no]))] H := hP
          have hD : va_D A [(re, .inl (cI, 32, .inl (rg))), (m0, .inr (3, [.ref mk, .ref mt, .int kd, .ref wo, .int wn, .ref re, .int ((sp_Mo_isGone (pc + (sp_Mo_byBranch w)) pc sta).2.1), .int ((sp_Mo_isGone (pc + (sp_Mo_byBranch w)) pc sta).2.2), .int dn, .int th, .ref ro, .ref aa, .ref si, .ref so, .ref la, .int md, .int lq, .int tp, .int tr, .ref ip, .ref oq, .ref cp, .int ni, .int no]))] := hD
          refine lv_pop hx hb d_Mo_branch_119 rfl ?_
          refine lv_goto (tgt := 133) hx hb d_Mo_branch_120 (by decide) ?_
          have hs : (sp_Mo_branch f w pc sta rg) = ((sp_Mo_isGone (pc + (sp_Mo_byBranch w)) pc sta).2.1, (sp_Mo_isGone (pc + (sp_Mo_byBranch w)) pc sta).2.2) := by rw [sp_Mo_branch, if_pos h3, if_neg h4, if_neg h18, if_pos h19]
          have hP9 := hP.sub (ws' := [(m0, .inr (3, [.ref mk, .ref mt, .int kd, .ref wo, .int wn, .ref re, .int ((sp_Mo_isGone (pc + (sp_Mo_byBranch w)) pc sta).2.1), .int ((sp_Mo_isGone (pc + (sp_Mo_byBranch w)) pc sta).2.2), .int dn, .int th, .ref ro, .ref aa, .ref si, .ref so, .ref la, .int md, .int lq, .int tp, .int tr, .ref ip, .ref oq, .ref cp, .int ni, .int no])), (re, .inl (cI, 32, .inl (rg)))]) [1, 0] rfl
          have hD9 := hD.sub (ws' := [(m0, .inr (3, [.ref mk, .ref mt, .int kd, .ref wo, .int wn, .ref re, .int ((sp_Mo_isGone (pc + (sp_Mo_byBranch w)) pc sta).2.1), .int ((sp_Mo_isGone (pc + (sp_Mo_byBranch w)) pc sta).2.2), .int dn, .int th, .ref ro, .ref aa, .ref si, .ref so, .ref la, .int md, .int lq, .int tp, .int tr, .ref ip, .ref oq, .ref cp, .int ni, .int no])), (re, .inl (cI, 32, .inl (rg)))]) [1, 0] rfl rfl
          exact zretv hx hb hr hlocks hS () trivial rfl (by rw [hs]; exact hP9) (by rw [hs]; exact hD9) d_Mo_branch_133
      · refine lv_iconst (v := 1) hx hb d_Mo_branch_60 (by decide) ?_
        refine lv_goto (tgt := 80) hx hb d_Mo_branch_61 (by decide) ?_
        refine lv_istore (lv' := [(7, .int 1), (5, .long ((rg (sp_Mo_bits w 20 5).toNatClampNeg : Int32).toInt64)), (3, .long ((rg (sp_Mo_bits w 15 5).toNatClampNeg : Int32).toInt64)), (0, .ref m0), (1, .int f), (2, .int w)]) hx hb d_Mo_branch_80 hl (by decide) rfl (fun ls hl => ?_)
        refine lv_iload_n hx hb d_Mo_branch_82 rfl (lv_at hl 4 rfl) ?_
        refine lv_iconst (v := 1) hx hb d_Mo_branch_83 (by decide) ?_
        refine lv_iand hx hb d_Mo_branch_84 ?_
        refine lv_iconst (v := 1) hx hb d_Mo_branch_85 (by decide) ?_
        refine lv_icmp_ne (tgt := 101) hx hb d_Mo_branch_86 (by decide) (fun h25 => ?_) (fun h25 => ?_)
        · refine lv_iload hx hb d_Mo_branch_101 (lv_at hl 0 rfl) ?_
          refine lv_if_eq (tgt := 123) hx hb d_Mo_branch_103 (by decide) (fun h26 => (show False by revert h26; decide).elim) (fun h26 => ?_)
          refine lv_aload_n hx hb d_Mo_branch_106 rfl (lv_at hl 3 rfl) ?_
          refine lv_aload_n hx hb d_Mo_branch_107 rfl (lv_at hl 3 rfl) ?_
          refine zget hE hK hP 0 rfl fd_Mo_104 rfl d_Mo_branch_108 ?_
          refine lv_iload_n hx hb d_Mo_branch_111 rfl (lv_at hl 5 rfl) ?_
          refine zgoi (wr := [(m0, .inr (3, [.ref mk, .ref mt, .int kd, .ref wo, .int wn, .ref re, .int pc, .int sta, .int dn, .int th, .ref ro, .ref aa, .ref si, .ref so, .ref la, .int md, .int lq, .int tp, .int tr, .ref ip, .ref oq, .ref cp, .int ni, .int no])), (re, .inl (cI, 32, .inl (rg)))]) (zrunS (n := 1) (As := [.int w]) (rest := [.int pc, .ref m0]) hE (c_Mo_byBranch l D _ _ w) cb_Mo_byBranch lk_Mo_150 st_Mo_byBranch (zpreS hK hP hD [] rfl rfl rfl) ⟨Nat.le_of_ble_eq_true rfl, Nat.le_of_ble_eq_true rfl, Nat.le_of_ble_eq_true rfl, Nat.le_of_ble_eq_true rfl⟩ rfl hl.1 rfl (Nat.le_of_ble_eq_true rfl) d_Mo_branch_112) hP hD hS hA [] [0, 1] rfl rfl rfl (by decide) (fun r u H locs hq27 hP hD hS => ?_)
          subst hq27
          have hP : va_P D zC [(m0, .inr (3, [.ref mk, .ref mt, .int kd, .ref wo, .int wn, .ref re, .int pc, .int sta, .int dn, .int th, .ref ro, .ref aa, .ref si, .ref so, .ref la, .int md, .int lq, .int tp, .int tr, .ref ip, .ref oq, .ref cp, .int ni, .int no])), (re, .inl (cI, 32, .inl (rg)))] H := hP
          have hD : va_D A [(m0, .inr (3, [.ref mk, .ref mt, .int kd, .ref wo, .int wn, .ref re, .int pc, .int sta, .int dn, .int th, .ref ro, .ref aa, .ref si, .ref so, .ref la, .int md, .int lq, .int tp, .int tr, .ref ip, .ref oq, .ref cp, .int ni, .int no])), (re, .inl (cI, 32, .inl (rg)))] := hD
          refine lv_iadd hx hb d_Mo_branch_115 ?_
          refine zgoi (wr := [(re, .inl (cI, 32, .inl (rg)))]) (zrunV (n := 1) (As := [.int (pc + (sp_Mo_byBranch w))]) (rest := []) hE (c_Mo_isGone l D cI cB cJ _ (pc + (sp_Mo_byBranch w)) m0 mk mt kd wo wn re pc sta dn th ro aa si so la md lq tp tr ip oq cp ni no) cb_Mo_isGone lk_Mo_144 in_Mo_isGone se_Mo_isGone (zpreV (q0 := 0) hK hP hD rfl rfl rfl [0] rfl rfl rfl) ⟨Nat.le_of_ble_eq_true rfl, Nat.le_of_ble_eq_true rfl, Nat.le_of_ble_eq_true rfl, Nat.le_of_ble_eq_true rfl⟩ rfl hl.1 rfl (Nat.le_of_ble_eq_true rfl) d_Mo_branch_116) hP hD hS hA [0] [1] rfl rfl rfl (by decide) (fun r u H locs hq28 hP hD hS => ?_)
          subst hq28
          have hP : va_P D zC [(re, .inl (cI, 32, .inl (rg))), (m0, .inr (3, [.ref mk, .ref mt, .int kd, .ref wo, .int wn, .ref re, .int ((sp_Mo_isGone (pc + (sp_Mo_byBranch w)) pc sta).2.1), .int ((sp_Mo_isGone (pc + (sp_Mo_byBranch w)) pc sta).2.2), .int dn, .int th, .ref ro, .ref aa, .ref si, .ref so, .ref la, .int md, .int lq, .int tp, .int tr, .ref ip, .ref oq, .ref cp, .int ni, .int no]))] H := hP
          have hD : va_D A [(re, .inl (cI, 32, .inl (rg))), (m0, .inr (3, [.ref mk, .ref mt, .int kd, .ref wo, .int wn, .ref re, .int ((sp_Mo_isGone (pc + (sp_Mo_byBranch w)) pc sta).2.1), .int ((sp_Mo_isGone (pc + (sp_Mo_byBranch w)) pc sta).2.2), .int dn, .int th, .ref ro, .ref aa, .ref si, .ref so, .ref la, .int md, .int lq, .int tp, .int tr, .ref ip, .ref oq, .ref cp, .int ni, .int no]))] := hD
          refine lv_pop hx hb d_Mo_branch_119 rfl ?_
          refine lv_goto (tgt := 133) hx hb d_Mo_branch_120 (by decide) ?_
          have hs : (sp_Mo_branch f w pc sta rg) = ((sp_Mo_isGone (pc + (sp_Mo_byBranch w)) pc sta).2.1, (sp_Mo_isGone (pc + (sp_Mo_byBranch w)) pc sta).2.2) := by rw [sp_Mo_branch, if_pos h3, if_neg h4, if_pos h18, if_neg h25]
          have hP9 := hP.sub (ws' := [(m0, .inr (3, [.ref mk, .ref mt, .int kd, .ref wo, .int wn, .ref re, .int ((sp_Mo_isGone (pc + (sp_Mo_byBranch w)) pc sta).2.1), .int ((sp_Mo_isGone (pc + (sp_Mo_byBranch w)) pc sta).2.2), .int dn, .int th, .ref ro, .ref aa, .ref si, .ref so, .ref la, .int md, .int lq, .int tp, .int tr, .ref ip, .ref oq, .ref cp, .int ni, .int no])), (re, .inl (cI, 32, .inl (rg)))]) [1, 0] rfl
          have hD9 := hD.sub (ws' := [(m0, .inr (3, [.ref mk, .ref mt, .int kd, .ref wo, .int wn, .ref re, .int ((sp_Mo_isGone (pc + (sp_Mo_byBranch w)) pc sta).2.1), .int ((sp_Mo_isGone (pc + (sp_Mo_byBranch w)) pc sta).2.2), .int dn, .int th, .ref ro, .ref aa, .ref si, .ref so, .ref la, .int md, .int lq, .int tp, .int tr, .ref ip, .ref oq, .ref cp, .int ni, .int no])), (re, .inl (cI, 32, .inl (rg)))]) [1, 0] rfl rfl
          exact zretv hx hb hr hlocks hS () trivial rfl (by rw [hs]; exact hP9) (by rw [hs]; exact hD9) d_Mo_branch_133
        · refine lv_iload hx hb d_Mo_branch_89 (lv_at hl 0 rfl) ?_
          refine lv_if_ne (tgt := 98) hx hb d_Mo_branch_91 (by decide) (fun h29 => ?_) (fun h29 => (show False by revert h29; decide).elim)
          refine lv_iconst (v := 0) hx hb d_Mo_branch_98 (by decide) ?_
          refine lv_istore (lv' := [(7, .int 0), (5, .long ((rg (sp_Mo_bits w 20 5).toNatClampNeg : Int32).toInt64)), (3, .long ((rg (sp_Mo_bits w 15 5).toNatClampNeg : Int32).toInt64)), (0, .ref m0), (1, .int f), (2, .int w)]) hx hb d_Mo_branch_99 hl (by decide) rfl (fun ls hl => ?_)
          refine lv_iload hx hb d_Mo_branch_101 (lv_at hl 0 rfl) ?_
          refine lv_if_eq (tgt := 123) hx hb d_Mo_branch_103 (by decide) (fun h30 => ?_) (fun h30 => (show False by revert h30; decide).elim)
          refine lv_aload_n hx hb d_Mo_branch_123 rfl (lv_at hl 3 rfl) ?_
          refine lv_dup hx hb d_Mo_branch_124 rfl ?_
          refine zget hE hK hP 0 rfl fd_Mo_104 rfl d_Mo_branch_125 ?_
          refine lv_iconst (v := 4) hx hb d_Mo_branch_128 (by decide) ?_
          refine lv_iadd hx hb d_Mo_branch_129 ?_
          refine zput (v := .int (pc + 4)) hE hK hP hD hS 0 rfl fd_Mo_104 ft_Mo_6 rfl rfl (Nat.le_of_ble_eq_true rfl) d_Mo_branch_130 (fun H locs hP hD hS => ?_)
          have hP : va_P D zC [(m0, .inr (3, [.ref mk, .ref mt, .int kd, .ref wo, .int wn, .ref re, .int (pc + 4), .int sta, .int dn, .int th, .ref ro, .ref aa, .ref si, .ref so, .ref la, .int md, .int lq, .int tp, .int tr, .ref ip, .ref oq, .ref cp, .int ni, .int no])), (re, .inl (cI, 32, .inl (rg)))] H := hP
          have hD : va_D A [(m0, .inr (3, [.ref mk, .ref mt, .int kd, .ref wo, .int wn, .ref re, .int (pc + 4), .int sta, .int dn, .int th, .ref ro, .ref aa, .ref si, .ref so, .ref la, .int md, .int lq, .int tp, .int tr, .ref ip, .ref oq, .ref cp, .int ni, .int no])), (re, .inl (cI, 32, .inl (rg)))] := hD
          have hs : (sp_Mo_branch f w pc sta rg) = (pc + 4, sta) := by rw [sp_Mo_branch, if_pos h3, if_neg h4, if_pos h18, if_pos h25]
          have hP9 := hP.sub (ws' := [(m0, .inr (3, [.ref mk, .ref mt, .int kd, .ref wo, .int wn, .ref re, .int (pc + 4), .int sta, .int dn, .int th, .ref ro, .ref aa, .ref si, .ref so, .ref la, .int md, .int lq, .int tp, .int tr, .ref ip, .ref oq, .ref cp, .int ni, .int no])), (re, .inl (cI, 32, .inl (rg)))]) [0, 1] rfl
          have hD9 := hD.sub (ws' := [(m0, .inr (3, [.ref mk, .ref mt, .int kd, .ref wo, .int wn, .ref re, .int (pc + 4), .int sta, .int dn, .int th, .ref ro, .ref aa, .ref si, .ref so, .ref la, .int md, .int lq, .int tp, .int tr, .ref ip, .ref oq, .ref cp, .int ni, .int no])), (re, .inl (cI, 32, .inl (rg)))]) [0, 1] rfl rfl
          exact zretv hx hb hr hlocks hS () trivial rfl (by rw [hs]; exact hP9) (by rw [hs]; exact hD9) d_Mo_branch_133
  · refine lv_lload_n hx hb d_Mo_branch_34 rfl (lv_at hl 1 rfl) ?_
    refine lv_ldc2 (v := 4294967295) hx hb hown (hw _ kc_Mo_148) d_Mo_branch_35 ?_
    refine lv_land hx hb d_Mo_branch_38 ?_
    refine lv_lstore_n (lv' := [(3, .long (((rg (sp_Mo_bits w 15 5).toNatClampNeg : Int32).toInt64) &&& 4294967295)), (5, .long ((rg (sp_Mo_bits w 20 5).toNatClampNeg : Int32).toInt64)), (0, .ref m0), (1, .int f), (2, .int w)]) hx hb d_Mo_branch_39 rfl hl (by decide) rfl (fun ls hl => ?_)
    refine lv_lload hx hb d_Mo_branch_40 (lv_at hl 1 rfl) ?_
    refine lv_ldc2 (v := 4294967295) hx hb hown (hw _ kc_Mo_148) d_Mo_branch_42 ?_
    refine lv_land hx hb d_Mo_branch_45 ?_
    refine lv_lstore (lv' := [(5, .long (((rg (sp_Mo_bits w 20 5).toNatClampNeg : Int32).toInt64) &&& 4294967295)), (3, .long (((rg (sp_Mo_bits w 15 5).toNatClampNeg : Int32).toInt64) &&& 4294967295)), (0, .ref m0), (1, .int f), (2, .int w)]) hx hb d_Mo_branch_46 hl (by decide) rfl (fun ls hl => ?_)
    refine lv_iload_n hx hb d_Mo_branch_48 rfl (lv_at hl 3 rfl) ?_
    refine lv_iconst (v := 2) hx hb d_Mo_branch_49 (by decide) ?_
    refine lv_icmp_ge (tgt := 68) hx hb d_Mo_branch_50 (by decide) (fun h31 => ?_) (fun h31 => ?_)
    · refine lv_lload_n hx hb d_Mo_branch_68 rfl (lv_at hl 1 rfl) ?_
      refine lv_lload hx hb d_Mo_branch_69 (lv_at hl 0 rfl) ?_
      refine W.lcmp hx hb d_Mo_branch_71 ?_
      refine lv_if_ge (tgt := 79) hx hb d_Mo_branch_72 (by decide) (fun h32 => ?_) (fun h32 => ?_)
      · refine lv_iconst (v := 0) hx hb d_Mo_branch_79 (by decide) ?_
        refine lv_istore (lv' := [(7, .int 0), (5, .long (((rg (sp_Mo_bits w 20 5).toNatClampNeg : Int32).toInt64) &&& 4294967295)), (3, .long (((rg (sp_Mo_bits w 15 5).toNatClampNeg : Int32).toInt64) &&& 4294967295)), (0, .ref m0), (1, .int f), (2, .int w)]) hx hb d_Mo_branch_80 hl (by decide) rfl (fun ls hl => ?_)
        refine lv_iload_n hx hb d_Mo_branch_82 rfl (lv_at hl 4 rfl) ?_
        refine lv_iconst (v := 1) hx hb d_Mo_branch_83 (by decide) ?_
        refine lv_iand hx hb d_Mo_branch_84 ?_
        refine lv_iconst (v := 1) hx hb d_Mo_branch_85 (by decide) ?_
        refine lv_icmp_ne (tgt := 101) hx hb d_Mo_branch_86 (by decide) (fun h33 => ?_) (fun h33 => ?_)
        · refine lv_iload hx hb d_Mo_branch_101 (lv_at hl 0 rfl) ?_
          refine lv_if_eq (tgt := 123) hx hb d_Mo_branch_103 (by decide) (fun h34 => ?_) (fun h34 => (show False by revert h34; decide).elim)
          refine lv_aload_n hx hb d_Mo_branch_123 rfl (lv_at hl 3 rfl) ?_
          refine lv_dup hx hb d_Mo_branch_124 rfl ?_
          refine zget hE hK hP 0 rfl fd_Mo_104 rfl d_Mo_branch_125 ?_
          refine lv_iconst (v := 4) hx hb d_Mo_branch_128 (by decide) ?_
          refine lv_iadd hx hb d_Mo_branch_129 ?_
          refine zput (v := .int (pc + 4)) hE hK hP hD hS 0 rfl fd_Mo_104 ft_Mo_6 rfl rfl (Nat.le_of_ble_eq_true rfl) d_Mo_branch_130 (fun H locs hP hD hS => ?_)
          have hP : va_P D zC [(m0, .inr (3, [.ref mk, .ref mt, .int kd, .ref wo, .int wn, .ref re, .int (pc + 4), .int sta, .int dn, .int th, .ref ro, .ref aa, .ref si, .ref so, .ref la, .int md, .int lq, .int tp, .int tr, .ref ip, .ref oq, .ref cp, .int ni, .int no])), (re, .inl (cI, 32, .inl (rg)))] H := hP
          have hD : va_D A [(m0, .inr (3, [.ref mk, .ref mt, .int kd, .ref wo, .int wn, .ref re, .int (pc + 4), .int sta, .int dn, .int th, .ref ro, .ref aa, .ref si, .ref so, .ref la, .int md, .int lq, .int tp, .int tr, .ref ip, .ref oq, .ref cp, .int ni, .int no])), (re, .inl (cI, 32, .inl (rg)))] := hD
          have hs : (sp_Mo_branch f w pc sta rg) = (pc + 4, sta) := by rw [sp_Mo_branch, if_neg h3, if_pos h31, if_pos h32, if_neg h33]
          have hP9 := hP.sub (ws' := [(m0, .inr (3, [.ref mk, .ref mt, .int kd, .ref wo, .int wn, .ref re, .int (pc + 4), .int sta, .int dn, .int th, .ref ro, .ref aa, .ref si, .ref so, .ref la, .int md, .int lq, .int tp, .int tr, .ref ip, .ref oq, .ref cp, .int ni, .int no])), (re, .inl (cI, 32, .inl (rg)))]) [0, 1] rfl
          have hD9 := hD.sub (ws' := [(m0, .inr (3, [.ref mk, .ref mt, .int kd, .ref wo, .int wn, .ref re, .int (pc + 4), .int sta, .int dn, .int th, .ref ro, .ref aa, .ref si, .ref so, .ref la, .int md, .int lq, .int tp, .int tr, .ref ip, .ref oq, .ref cp, .int ni, .int no])), (re, .inl (cI, 32, .inl (rg)))]) [0, 1] rfl rfl
          exact zretv hx hb hr hlocks hS () trivial rfl (by rw [hs]; exact hP9) (by rw [hs]; exact hD9) d_Mo_branch_133
        · refine lv_iload hx hb d_Mo_branch_89 (lv_at hl 0 rfl) ?_
          refine lv_if_ne (tgt := 98) hx hb d_Mo_branch_91 (by decide) (fun h35 => (show False by revert h35; decide).elim) (fun h35 => ?_)
          refine lv_iconst (v := 1) hx hb d_Mo_branch_94 (by decide) ?_
          refine lv_goto (tgt := 99) hx hb d_Mo_branch_95 (by decide) ?_
          refine lv_istore (lv' := [(7, .int 1), (5, .long (((rg (sp_Mo_bits w 20 5).toNatClampNeg : Int32).toInt64) &&& 4294967295)), (3, .long (((rg (sp_Mo_bits w 15 5).toNatClampNeg : Int32).toInt64) &&& 4294967295)), (0, .ref m0), (1, .int f), (2, .int w)]) hx hb d_Mo_branch_99 hl (by decide) rfl (fun ls hl => ?_)
          refine lv_iload hx hb d_Mo_branch_101 (lv_at hl 0 rfl) ?_
          refine lv_if_eq (tgt := 123) hx hb d_Mo_branch_103 (by decide) (fun h36 => (show False by revert h36; decide).elim) (fun h36 => ?_)
          refine lv_aload_n hx hb d_Mo_branch_106 rfl (lv_at hl 3 rfl) ?_
          refine lv_aload_n hx hb d_Mo_branch_107 rfl (lv_at hl 3 rfl) ?_
          refine zget hE hK hP 0 rfl fd_Mo_104 rfl d_Mo_branch_108 ?_
          refine lv_iload_n hx hb d_Mo_branch_111 rfl (lv_at hl 5 rfl) ?_
          refine zgoi (wr := [(m0, .inr (3, [.ref mk, .ref mt, .int kd, .ref wo, .int wn, .ref re, .int pc, .int sta, .int dn, .int th, .ref ro, .ref aa, .ref si, .ref so, .ref la, .int md, .int lq, .int tp, .int tr, .ref ip, .ref oq, .ref cp, .int ni, .int no])), (re, .inl (cI, 32, .inl (rg)))]) (zrunS (n := 1) (As := [.int w]) (rest := [.int pc, .ref m0]) hE (c_Mo_byBranch l D _ _ w) cb_Mo_byBranch lk_Mo_150 st_Mo_byBranch (zpreS hK hP hD [] rfl rfl rfl) ⟨Nat.le_of_ble_eq_true rfl, Nat.le_of_ble_eq_true rfl, Nat.le_of_ble_eq_true rfl, Nat.le_of_ble_eq_true rfl⟩ rfl hl.1 rfl (Nat.le_of_ble_eq_true rfl) d_Mo_branch_112) hP hD hS hA [] [0, 1] rfl rfl rfl (by decide) (fun r u H locs hq37 hP hD hS => ?_)
          subst hq37
          have hP : va_P D zC [(m0, .inr (3, [.ref mk, .ref mt, .int kd, .ref wo, .int wn, .ref re, .int pc, .int sta, .int dn, .int th, .ref ro, .ref aa, .ref si, .ref so, .ref la, .int md, .int lq, .int tp, .int tr, .ref ip, .ref oq, .ref cp, .int ni, .int no])), (re, .inl (cI, 32, .inl (rg)))] H := hP
          have hD : va_D A [(m0, .inr (3, [.ref mk, .ref mt, .int kd, .ref wo, .int wn, .ref re, .int pc, .int sta, .int dn, .int th, .ref ro, .ref aa, .ref si, .ref so, .ref la, .int md, .int lq, .int tp, .int tr, .ref ip, .ref oq, .ref cp, .int ni, .int no])), (re, .inl (cI, 32, .inl (rg)))] := hD
          refine lv_iadd hx hb d_Mo_branch_115 ?_
          refine zgoi (wr := [(re, .inl (cI, 32, .inl (rg)))]) (zrunV (n := 1) (As := [.int (pc + (sp_Mo_byBranch w))]) (rest := []) hE (c_Mo_isGone l D cI cB cJ _ (pc + (sp_Mo_byBranch w)) m0 mk mt kd wo wn re pc sta dn th ro aa si so la md lq tp tr ip oq cp ni no) cb_Mo_isGone lk_Mo_144 in_Mo_isGone se_Mo_isGone (zpreV (q0 := 0) hK hP hD rfl rfl rfl [0] rfl rfl rfl) ⟨Nat.le_of_ble_eq_true rfl, Nat.le_of_ble_eq_true rfl, Nat.le_of_ble_eq_true rfl, Nat.le_of_ble_eq_true rfl⟩ rfl hl.1 rfl (Nat.le_of_ble_eq_true rfl) d_Mo_branch_116) hP hD hS hA [0] [1] rfl rfl rfl (by decide) (fun r u H locs hq38 hP hD hS => ?_)
          subst hq38
          have hP : va_P D zC [(re, .inl (cI, 32, .inl (rg))), (m0, .inr (3, [.ref mk, .ref mt, .int kd, .ref wo, .int wn, .ref re, .int ((sp_Mo_isGone (pc + (sp_Mo_byBranch w)) pc sta).2.1), .int ((sp_Mo_isGone (pc + (sp_Mo_byBranch w)) pc sta).2.2), .int dn, .int th, .ref ro, .ref aa, .ref si, .ref so, .ref la, .int md, .int lq, .int tp, .int tr, .ref ip, .ref oq, .ref cp, .int ni, .int no]))] H := hP
          have hD : va_D A [(re, .inl (cI, 32, .inl (rg))), (m0, .inr (3, [.ref mk, .ref mt, .int kd, .ref wo, .int wn, .ref re, .int ((sp_Mo_isGone (pc + (sp_Mo_byBranch w)) pc sta).2.1), .int ((sp_Mo_isGone (pc + (sp_Mo_byBranch w)) pc sta).2.2), .int dn, .int th, .ref ro, .ref aa, .ref si, .ref so, .ref la, .int md, .int lq, .int tp, .int tr, .ref ip, .ref oq, .ref cp, .int ni, .int no]))] := hD
          refine lv_pop hx hb d_Mo_branch_119 rfl ?_
          refine lv_goto (tgt := 133) hx hb d_Mo_branch_120 (by decide) ?_
          have hs : (sp_Mo_branch f w pc sta rg) = ((sp_Mo_isGone (pc + (sp_Mo_byBranch w)) pc sta).2.1, (sp_Mo_isGone (pc + (sp_Mo_byBranch w)) pc sta).2.2) := by rw [sp_Mo_branch, if_neg h3, if_pos h31, if_pos h32, if_pos h33]
          have hP9 := hP.sub (ws' := [(m0, .inr (3, [.ref mk, .ref mt, .int kd, .ref wo, .int wn, .ref re, .int ((sp_Mo_isGone (pc + (sp_Mo_byBranch w)) pc sta).2.1), .int ((sp_Mo_isGone (pc + (sp_Mo_byBranch w)) pc sta).2.2), .int dn, .int th, .ref ro, .ref aa, .ref si, .ref so, .ref la, .int md, .int lq, .int tp, .int tr, .ref ip, .ref oq, .ref cp, .int ni, .int no])), (re, .inl (cI, 32, .inl (rg)))]) [1, 0] rfl
          have hD9 := hD.sub (ws' := [(m0, .inr (3, [.ref mk, .ref mt, .int kd, .ref wo, .int wn, .ref re, .int ((sp_Mo_isGone (pc + (sp_Mo_byBranch w)) pc sta).2.1), .int ((sp_Mo_isGone (pc + (sp_Mo_byBranch w)) pc sta).2.2), .int dn, .int th, .ref ro, .ref aa, .ref si, .ref so, .ref la, .int md, .int lq, .int tp, .int tr, .ref ip, .ref oq, .ref cp, .int ni, .int no])), (re, .inl (cI, 32, .inl (rg)))]) [1, 0] rfl rfl
          exact zretv hx hb hr hlocks hS () trivial rfl (by rw [hs]; exact hP9) (by rw [hs]; exact hD9) d_Mo_branch_133
      · refine lv_iconst (v := 1) hx hb d_Mo_branch_75 (by decide) ?_
        refine lv_goto (tgt := 80) hx hb d_Mo_branch_76 (by decide) ?_
        refine lv_istore (lv' := [(7, .int 1), (5, .long (((rg (sp_Mo_bits w 20 5).toNatClampNeg : Int32).toInt64) &&& 4294967295)), (3, .long (((rg (sp_Mo_bits w 15 5).toNatClampNeg : Int32).toInt64) &&& 4294967295)), (0, .ref m0), (1, .int f), (2, .int w)]) hx hb d_Mo_branch_80 hl (by decide) rfl (fun ls hl => ?_)
        refine lv_iload_n hx hb d_Mo_branch_82 rfl (lv_at hl 4 rfl) ?_
        refine lv_iconst (v := 1) hx hb d_Mo_branch_83 (by decide) ?_
        refine lv_iand hx hb d_Mo_branch_84 ?_
        refine lv_iconst (v := 1) hx hb d_Mo_branch_85 (by decide) ?_
        refine lv_icmp_ne (tgt := 101) hx hb d_Mo_branch_86 (by decide) (fun h39 => ?_) (fun h39 => ?_)
        · refine lv_iload hx hb d_Mo_branch_101 (lv_at hl 0 rfl) ?_
          refine lv_if_eq (tgt := 123) hx hb d_Mo_branch_103 (by decide) (fun h40 => (show False by revert h40; decide).elim) (fun h40 => ?_)
          refine lv_aload_n hx hb d_Mo_branch_106 rfl (lv_at hl 3 rfl) ?_
          refine lv_aload_n hx hb d_Mo_branch_107 rfl (lv_at hl 3 rfl) ?_
          refine zget hE hK hP 0 rfl fd_Mo_104 rfl d_Mo_branch_108 ?_
          refine lv_iload_n hx hb d_Mo_branch_111 rfl (lv_at hl 5 rfl) ?_
          refine zgoi (wr := [(m0, .inr (3, [.ref mk, .ref mt, .int kd, .ref wo, .int wn, .ref re, .int pc, .int sta, .int dn, .int th, .ref ro, .ref aa, .ref si, .ref so, .ref la, .int md, .int lq, .int tp, .int tr, .ref ip, .ref oq, .ref cp, .int ni, .int no])), (re, .inl (cI, 32, .inl (rg)))]) (zrunS (n := 1) (As := [.int w]) (rest := [.int pc, .ref m0]) hE (c_Mo_byBranch l D _ _ w) cb_Mo_byBranch lk_Mo_150 st_Mo_byBranch (zpreS hK hP hD [] rfl rfl rfl) ⟨Nat.le_of_ble_eq_true rfl, Nat.le_of_ble_eq_true rfl, Nat.le_of_ble_eq_true rfl, Nat.le_of_ble_eq_true rfl⟩ rfl hl.1 rfl (Nat.le_of_ble_eq_true rfl) d_Mo_branch_112) hP hD hS hA [] [0, 1] rfl rfl rfl (by decide) (fun r u H locs hq41 hP hD hS => ?_)
          subst hq41
          have hP : va_P D zC [(m0, .inr (3, [.ref mk, .ref mt, .int kd, .ref wo, .int wn, .ref re, .int pc, .int sta, .int dn, .int th, .ref ro, .ref aa, .ref si, .ref so, .ref la, .int md, .int lq, .int tp, .int tr, .ref ip, .ref oq, .ref cp, .int ni, .int no])), (re, .inl (cI, 32, .inl (rg)))] H := hP
          have hD : va_D A [(m0, .inr (3, [.ref mk, .ref mt, .int kd, .ref wo, .int wn, .ref re, .int pc, .int sta, .int dn, .int th, .ref ro, .ref aa, .ref si, .ref so, .ref la, .int md, .int lq, .int tp, .int tr, .ref ip, .ref oq, .ref cp, .int ni, .int no])), (re, .inl (cI, 32, .inl (rg)))] := hD
          refine lv_iadd hx hb d_Mo_branch_115 ?_
          refine zgoi (wr := [(re, .inl (cI, 32, .inl (rg)))]) (zrunV (n := 1) (As := [.int (pc + (sp_Mo_byBranch w))]) (rest := []) hE (c_Mo_isGone l D cI cB cJ _ (pc + (sp_Mo_byBranch w)) m0 mk mt kd wo wn re pc sta dn th ro aa si so la md lq tp tr ip oq cp ni no) cb_Mo_isGone lk_Mo_144 in_Mo_isGone se_Mo_isGone (zpreV (q0 := 0) hK hP hD rfl rfl rfl [0] rfl rfl rfl) ⟨Nat.le_of_ble_eq_true rfl, Nat.le_of_ble_eq_true rfl, Nat.le_of_ble_eq_true rfl, Nat.le_of_ble_eq_true rfl⟩ rfl hl.1 rfl (Nat.le_of_ble_eq_true rfl) d_Mo_branch_116) hP hD hS hA [0] [1] rfl rfl rfl (by decide) (fun r u H locs hq42 hP hD hS => ?_)
          subst hq42
          have hP : va_P D zC [(re, .inl (cI, 32, .inl (rg))), (m0, .inr (3, [.ref mk, .ref mt, .int kd, .ref wo, .int wn, .ref re, .int ((sp_Mo_isGone (pc + (sp_Mo_byBranch w)) pc sta).2.1), .int ((sp_Mo_isGone (pc + (sp_Mo_byBranch w)) pc sta).2.2), .int dn, .int th, .ref ro, .ref aa, .ref si, .ref so, .ref la, .int md, .int lq, .int tp, .int tr, .ref ip, .ref oq, .ref cp, .int ni, .int no]))] H := hP
          have hD : va_D A [(re, .inl (cI, 32, .inl (rg))), (m0, .inr (3, [.ref mk, .ref mt, .int kd, .ref wo, .int wn, .ref re, .int ((sp_Mo_isGone (pc + (sp_Mo_byBranch w)) pc sta).2.1), .int ((sp_Mo_isGone (pc + (sp_Mo_byBranch w)) pc sta).2.2), .int dn, .int th, .ref ro, .ref aa, .ref si, .ref so, .ref la, .int md, .int lq, .int tp, .int tr, .ref ip, .ref oq, .ref cp, .int ni, .int no]))] := hD
          refine lv_pop hx hb d_Mo_branch_119 rfl ?_
          refine lv_goto (tgt := 133) hx hb d_Mo_branch_120 (by decide) ?_
          have hs : (sp_Mo_branch f w pc sta rg) = ((sp_Mo_isGone (pc + (sp_Mo_byBranch w)) pc sta).2.1, (sp_Mo_isGone (pc + (sp_Mo_byBranch w)) pc sta).2.2) := by rw [sp_Mo_branch, if_neg h3, if_pos h31, if_neg h32, if_neg h39]
          have hP9 := hP.sub (ws' := [(m0, .inr (3, [.ref mk, .ref mt, .int kd, .ref wo, .int wn, .ref re, .int ((sp_Mo_isGone (pc + (sp_Mo_byBranch w)) pc sta).2.1), .int ((sp_Mo_isGone (pc + (sp_Mo_byBranch w)) pc sta).2.2), .int dn, .int th, .ref ro, .ref aa, .ref si, .ref so, .ref la, .int md, .int lq, .int tp, .int tr, .ref ip, .ref oq, .ref cp, .int ni, .int no])), (re, .inl (cI, 32, .inl (rg)))]) [1, 0] rfl
          have hD9 := hD.sub (ws' := [(m0, .inr (3, [.ref mk, .ref mt, .int kd, .ref wo, .int wn, .ref re, .int ((sp_Mo_isGone (pc + (sp_Mo_byBranch w)) pc sta).2.1), .int ((sp_Mo_isGone (pc + (sp_Mo_byBranch w)) pc sta).2.2), .int dn, .int th, .ref ro, .ref aa, .ref si, .ref so, .ref la, .int md, .int lq, .int tp, .int tr, .ref ip, .ref oq, .ref cp, .int ni, .int no])), (re, .inl (cI, 32, .inl (rg)))]) [1, 0] rfl rfl
          exact zretv hx hb hr hlocks hS () trivial rfl (by rw [hs]; exact hP9) (by rw [hs]; exact hD9) d_Mo_branch_133
        · refine lv_iload hx hb d_Mo_branch_89 (lv_at hl 0 rfl) ?_
          refine lv_if_ne (tgt := 98) hx hb d_Mo_branch_91 (by decide) (fun h43 => ?_) (fun h43 => (show False by revert h43; decide).elim)
          refine lv_iconst (v := 0) hx hb d_Mo_branch_98 (by decide) ?_
          refine lv_istore (lv' := [(7, .int 0), (5, .long (((rg (sp_Mo_bits w 20 5).toNatClampNeg : Int32).toInt64) &&& 4294967295)), (3, .long (((rg (sp_Mo_bits w 15 5).toNatClampNeg : Int32).toInt64) &&& 4294967295)), (0, .ref m0), (1, .int f), (2, .int w)]) hx hb d_Mo_branch_99 hl (by decide) rfl (fun ls hl => ?_)
          refine lv_iload hx hb d_Mo_branch_101 (lv_at hl 0 rfl) ?_
          refine lv_if_eq (tgt := 123) hx hb d_Mo_branch_103 (by decide) (fun h44 => ?_) (fun h44 => (show False by revert h44; decide).elim)
          refine lv_aload_n hx hb d_Mo_branch_123 rfl (lv_at hl 3 rfl) ?_
          refine lv_dup hx hb d_Mo_branch_124 rfl ?_
          refine zget hE hK hP 0 rfl fd_Mo_104 rfl d_Mo_branch_125 ?_
          refine lv_iconst (v := 4) hx hb d_Mo_branch_128 (by decide) ?_
          refine lv_iadd hx hb d_Mo_branch_129 ?_
          refine zput (v := .int (pc + 4)) hE hK hP hD hS 0 rfl fd_Mo_104 ft_Mo_6 rfl rfl (Nat.le_of_ble_eq_true rfl) d_Mo_branch_130 (fun H locs hP hD hS => ?_)
          have hP : va_P D zC [(m0, .inr (3, [.ref mk, .ref mt, .int kd, .ref wo, .int wn, .ref re, .int (pc + 4), .int sta, .int dn, .int th, .ref ro, .ref aa, .ref si, .ref so, .ref la, .int md, .int lq, .int tp, .int tr, .ref ip, .ref oq, .ref cp, .int ni, .int no])), (re, .inl (cI, 32, .inl (rg)))] H := hP
          have hD : va_D A [(m0, .inr (3, [.ref mk, .ref mt, .int kd, .ref wo, .int wn, .ref re, .int (pc + 4), .int sta, .int dn, .int th, .ref ro, .ref aa, .ref si, .ref so, .ref la, .int md, .int lq, .int tp, .int tr, .ref ip, .ref oq, .ref cp, .int ni, .int no])), (re, .inl (cI, 32, .inl (rg)))] := hD
          have hs : (sp_Mo_branch f w pc sta rg) = (pc + 4, sta) := by rw [sp_Mo_branch, if_neg h3, if_pos h31, if_neg h32, if_pos h39]
          have hP9 := hP.sub (ws' := [(m0, .inr (3, [.ref mk, .ref mt, .int kd, .ref wo, .int wn, .ref re, .int (pc + 4), .int sta, .int dn, .int th, .ref ro, .ref aa, .ref si, .ref so, .ref la, .int md, .int lq, .int tp, .int tr, .ref ip, .ref oq, .ref cp, .int ni, .int no])), (re, .inl (cI, 32, .inl (rg)))]) [0, 1] rfl
          have hD9 := hD.sub (ws' := [(m0, .inr (3, [.ref mk, .ref mt, .int kd, .ref wo, .int wn, .ref re, .int (pc + 4), .int sta, .int dn, .int th, .ref ro, .ref aa, .ref si, .ref so, .ref la, .int md, .int lq, .int tp, .int tr, .ref ip, .ref oq, .ref cp, .int ni, .int no])), (re, .inl (cI, 32, .inl (rg)))]) [0, 1] rfl rfl
          exact zretv hx hb hr hlocks hS () trivial rfl (by rw [hs]; exact hP9) (by rw [hs]; exact hD9) d_Mo_branch_133
    · refine lv_lload_n hx hb d_Mo_branch_53 rfl (lv_at hl 1 rfl) ?_
      refine lv_lload hx hb d_Mo_branch_54 (lv_at hl 0 rfl) ?_
      refine W.lcmp hx hb d_Mo_branch_56 ?_
      refine lv_if_ne (tgt := 64) hx hb d_Mo_branch_57 (by decide) (fun h45 => ?_) (fun h45 => ?_)
      · refine lv_iconst (v := 0) hx hb d_Mo_branch_64 (by decide) ?_
        refine lv_goto (tgt := 80) hx hb d_Mo_branch_65 (by decide) ?_
        refine lv_istore (lv' := [(7, .int 0), (5, .long (((rg (sp_Mo_bits w 20 5).toNatClampNeg : Int32).toInt64) &&& 4294967295)), (3, .long (((rg (sp_Mo_bits w 15 5).toNatClampNeg : Int32).toInt64) &&& 4294967295)), (0, .ref m0), (1, .int f), (2, .int w)]) hx hb d_Mo_branch_80 hl (by decide) rfl (fun ls hl => ?_)
        refine lv_iload_n hx hb d_Mo_branch_82 rfl (lv_at hl 4 rfl) ?_
        refine lv_iconst (v := 1) hx hb d_Mo_branch_83 (by decide) ?_
        refine lv_iand hx hb d_Mo_branch_84 ?_
        refine lv_iconst (v := 1) hx hb d_Mo_branch_85 (by decide) ?_
        refine lv_icmp_ne (tgt := 101) hx hb d_Mo_branch_86 (by decide) (fun h46 => ?_) (fun h46 => ?_)
        · refine lv_iload hx hb d_Mo_branch_101 (lv_at hl 0 rfl) ?_
          refine lv_if_eq (tgt := 123) hx hb d_Mo_branch_103 (by decide) (fun h47 => ?_) (fun h47 => (show False by revert h47; decide).elim)
          refine lv_aload_n hx hb d_Mo_branch_123 rfl (lv_at hl 3 rfl) ?_
          refine lv_dup hx hb d_Mo_branch_124 rfl ?_
          refine zget hE hK hP 0 rfl fd_Mo_104 rfl d_Mo_branch_125 ?_
          refine lv_iconst (v := 4) hx hb d_Mo_branch_128 (by decide) ?_
          refine lv_iadd hx hb d_Mo_branch_129 ?_
          refine zput (v := .int (pc + 4)) hE hK hP hD hS 0 rfl fd_Mo_104 ft_Mo_6 rfl rfl (Nat.le_of_ble_eq_true rfl) d_Mo_branch_130 (fun H locs hP hD hS => ?_)
          have hP : va_P D zC [(m0, .inr (3, [.ref mk, .ref mt, .int kd, .ref wo, .int wn, .ref re, .int (pc + 4), .int sta, .int dn, .int th, .ref ro, .ref aa, .ref si, .ref so, .ref la, .int md, .int lq, .int tp, .int tr, .ref ip, .ref oq, .ref cp, .int ni, .int no])), (re, .inl (cI, 32, .inl (rg)))] H := hP
          have hD : va_D A [(m0, .inr (3, [.ref mk, .ref mt, .int kd, .ref wo, .int wn, .ref re, .int (pc + 4), .int sta, .int dn, .int th, .ref ro, .ref aa, .ref si, .ref so, .ref la, .int md, .int lq, .int tp, .int tr, .ref ip, .ref oq, .ref cp, .int ni, .int no])), (re, .inl (cI, 32, .inl (rg)))] := hD
          have hs : (sp_Mo_branch f w pc sta rg) = (pc + 4, sta) := by rw [sp_Mo_branch, if_neg h3, if_neg h31, if_neg h45, if_neg h46]
          have hP9 := hP.sub (ws' := [(m0, .inr (3, [.ref mk, .ref mt, .int kd, .ref wo, .int wn, .ref re, .int (pc + 4), .int sta, .int dn, .int th, .ref ro, .ref aa, .ref si, .ref so, .ref la, .int md, .int lq, .int tp, .int tr, .ref ip, .ref oq, .ref cp, .int ni, .int no])), (re, .inl (cI, 32, .inl (rg)))]) [0, 1] rfl
          have hD9 := hD.sub (ws' := [(m0, .inr (3, [.ref mk, .ref mt, .int kd, .ref wo, .int wn, .ref re, .int (pc + 4), .int sta, .int dn, .int th, .ref ro, .ref aa, .ref si, .ref so, .ref la, .int md, .int lq, .int tp, .int tr, .ref ip, .ref oq, .ref cp, .int ni, .int no])), (re, .inl (cI, 32, .inl (rg)))]) [0, 1] rfl rfl
          exact zretv hx hb hr hlocks hS () trivial rfl (by rw [hs]; exact hP9) (by rw [hs]; exact hD9) d_Mo_branch_133
        · refine lv_iload hx hb d_Mo_branch_89 (lv_at hl 0 rfl) ?_
          refine lv_if_ne (tgt := 98) hx hb d_Mo_branch_91 (by decide) (fun h48 => (show False by revert h48; decide).elim) (fun h48 => ?_)
          refine lv_iconst (v := 1) hx hb d_Mo_branch_94 (by decide) ?_
          refine lv_goto (tgt := 99) hx hb d_Mo_branch_95 (by decide) ?_
          refine lv_istore (lv' := [(7, .int 1), (5, .long (((rg (sp_Mo_bits w 20 5).toNatClampNeg : Int32).toInt64) &&& 4294967295)), (3, .long (((rg (sp_Mo_bits w 15 5).toNatClampNeg : Int32).toInt64) &&& 4294967295)), (0, .ref m0), (1, .int f), (2, .int w)]) hx hb d_Mo_branch_99 hl (by decide) rfl (fun ls hl => ?_)
          refine lv_iload hx hb d_Mo_branch_101 (lv_at hl 0 rfl) ?_
          refine lv_if_eq (tgt := 123) hx hb d_Mo_branch_103 (by decide) (fun h49 => (show False by revert h49; decide).elim) (fun h49 => ?_)
          refine lv_aload_n hx hb d_Mo_branch_106 rfl (lv_at hl 3 rfl) ?_
          refine lv_aload_n hx hb d_Mo_branch_107 rfl (lv_at hl 3 rfl) ?_
          refine zget hE hK hP 0 rfl fd_Mo_104 rfl d_Mo_branch_108 ?_
          refine lv_iload_n hx hb d_Mo_branch_111 rfl (lv_at hl 5 rfl) ?_
          refine zgoi (wr := [(m0, .inr (3, [.ref mk, .ref mt, .int kd, .ref wo, .int wn, .ref re, .int pc, .int sta, .int dn, .int th, .ref ro, .ref aa, .ref si, .ref so, .ref la, .int md, .int lq, .int tp, .int tr, .ref ip, .ref oq, .ref cp, .int ni, .int no])), (re, .inl (cI, 32, .inl (rg)))]) (zrunS (n := 1) (As := [.int w]) (rest := [.int pc, .ref m0]) hE (c_Mo_byBranch l D _ _ w) cb_Mo_byBranch lk_Mo_150 st_Mo_byBranch (zpreS hK hP hD [] rfl rfl rfl) ⟨Nat.le_of_ble_eq_true rfl, Nat.le_of_ble_eq_true rfl, Nat.le_of_ble_eq_true rfl, Nat.le_of_ble_eq_true rfl⟩ rfl hl.1 rfl (Nat.le_of_ble_eq_true rfl) d_Mo_branch_112) hP hD hS hA [] [0, 1] rfl rfl rfl (by decide) (fun r u H locs hq50 hP hD hS => ?_)
          subst hq50
          have hP : va_P D zC [(m0, .inr (3, [.ref mk, .ref mt, .int kd, .ref wo, .int wn, .ref re, .int pc, .int sta, .int dn, .int th, .ref ro, .ref aa, .ref si, .ref so, .ref la, .int md, .int lq, .int tp, .int tr, .ref ip, .ref oq, .ref cp, .int ni, .int no])), (re, .inl (cI, 32, .inl (rg)))] H := hP
          have hD : va_D A [(m0, .inr (3, [.ref mk, .ref mt, .int kd, .ref wo, .int wn, .ref re, .int pc, .int sta, .int dn, .int th, .ref ro, .ref aa, .ref si, .ref so, .ref la, .int md, .int lq, .int tp, .int tr, .ref ip, .ref oq, .ref cp, .int ni, .int no])), (re, .inl (cI, 32, .inl (rg)))] := hD
          refine lv_iadd hx hb d_Mo_branch_115 ?_
          refine zgoi (wr := [(re, .inl (cI, 32, .inl (rg)))]) (zrunV (n := 1) (As := [.int (pc + (sp_Mo_byBranch w))]) (rest := []) hE (c_Mo_isGone l D cI cB cJ _ (pc + (sp_Mo_byBranch w)) m0 mk mt kd wo wn re pc sta dn th ro aa si so la md lq tp tr ip oq cp ni no) cb_Mo_isGone lk_Mo_144 in_Mo_isGone se_Mo_isGone (zpreV (q0 := 0) hK hP hD rfl rfl rfl [0] rfl rfl rfl) ⟨Nat.le_of_ble_eq_true rfl, Nat.le_of_ble_eq_true rfl, Nat.le_of_ble_eq_true rfl, Nat.le_of_ble_eq_true rfl⟩ rfl hl.1 rfl (Nat.le_of_ble_eq_true rfl) d_Mo_branch_116) hP hD hS hA [0] [1] rfl rfl rfl (by decide) (fun r u H locs hq51 hP hD hS => ?_)
          subst hq51
          have hP : va_P D zC [(re, .inl (cI, 32, .inl (rg))), (m0, .inr (3, [.ref mk, .ref mt, .int kd, .ref wo, .int wn, .ref re, .int ((sp_Mo_isGone (pc + (sp_Mo_byBranch w)) pc sta).2.1), .int ((sp_Mo_isGone (pc + (sp_Mo_byBranch w)) pc sta).2.2), .int dn, .int th, .ref ro, .ref aa, .ref si, .ref so, .ref la, .int md, .int lq, .int tp, .int tr, .ref ip, .ref oq, .ref cp, .int ni, .int no]))] H := hP
          have hD : va_D A [(re, .inl (cI, 32, .inl (rg))), (m0, .inr (3, [.ref mk, .ref mt, .int kd, .ref wo, .int wn, .ref re, .int ((sp_Mo_isGone (pc + (sp_Mo_byBranch w)) pc sta).2.1), .int ((sp_Mo_isGone (pc + (sp_Mo_byBranch w)) pc sta).2.2), .int dn, .int th, .ref ro, .ref aa, .ref si, .ref so, .ref la, .int md, .int lq, .int tp, .int tr, .ref ip, .ref oq, .ref cp, .int ni, .int no]))] := hD
          refine lv_pop hx hb d_Mo_branch_119 rfl ?_
          refine lv_goto (tgt := 133) hx hb d_Mo_branch_120 (by decide) ?_
          have hs : (sp_Mo_branch f w pc sta rg) = ((sp_Mo_isGone (pc + (sp_Mo_byBranch w)) pc sta).2.1, (sp_Mo_isGone (pc + (sp_Mo_byBranch w)) pc sta).2.2) := by rw [sp_Mo_branch, if_neg h3, if_neg h31, if_neg h45, if_pos h46]
          have hP9 := hP.sub (ws' := [(m0, .inr (3, [.ref mk, .ref mt, .int kd, .ref wo, .int wn, .ref re, .int ((sp_Mo_isGone (pc + (sp_Mo_byBranch w)) pc sta).2.1), .int ((sp_Mo_isGone (pc + (sp_Mo_byBranch w)) pc sta).2.2), .int dn, .int th, .ref ro, .ref aa, .ref si, .ref so, .ref la, .int md, .int lq, .int tp, .int tr, .ref ip, .ref oq, .ref cp, .int ni, .int no])), (re, .inl (cI, 32, .inl (rg)))]) [1, 0] rfl
          have hD9 := hD.sub (ws' := [(m0, .inr (3, [.ref mk, .ref mt, .int kd, .ref wo, .int wn, .ref re, .int ((sp_Mo_isGone (pc + (sp_Mo_byBranch w)) pc sta).2.1), .int ((sp_Mo_isGone (pc + (sp_Mo_byBranch w)) pc sta).2.2), .int dn, .int th, .ref ro, .ref aa, .ref si, .ref so, .ref la, .int md, .int lq, .int tp, .int tr, .ref ip, .ref oq, .ref cp, .int ni, .int no])), (re, .inl (cI, 32, .inl (rg)))]) [1, 0] rfl rfl
          exact zretv hx hb hr hlocks hS () trivial rfl (by rw [hs]; exact hP9) (by rw [hs]; exact hD9) d_Mo_branch_133
      · refine lv_iconst (v := 1) hx hb d_Mo_branch_60 (by decide) ?_
        refine lv_goto (tgt := 80) hx hb d_Mo_branch_61 (by decide) ?_
        refine lv_istore (lv' := [(7, .int 1), (5, .long (((rg (sp_Mo_bits w 20 5).toNatClampNeg : Int32).toInt64) &&& 4294967295)), (3, .long (((rg (sp_Mo_bits w 15 5).toNatClampNeg : Int32).toInt64) &&& 4294967295)), (0, .ref m0), (1, .int f), (2, .int w)]) hx hb d_Mo_branch_80 hl (by decide) rfl (fun ls hl => ?_)
        refine lv_iload_n hx hb d_Mo_branch_82 rfl (lv_at hl 4 rfl) ?_
        refine lv_iconst (v := 1) hx hb d_Mo_branch_83 (by decide) ?_
        refine lv_iand hx hb d_Mo_branch_84 ?_
        refine lv_iconst (v := 1) hx hb d_Mo_branch_85 (by decide) ?_
        refine lv_icmp_ne (tgt := 101) hx hb d_Mo_branch_86 (by decide) (fun h52 => ?_) (fun h52 => ?_)
        · refine lv_iload hx hb d_Mo_branch_101 (lv_at hl 0 rfl) ?_
          refine lv_if_eq (tgt := 123) hx hb d_Mo_branch_103 (by decide) (fun h53 => (show False by revert h53; decide).elim) (fun h53 => ?_)
          refine lv_aload_n hx hb d_Mo_branch_106 rfl (lv_at hl 3 rfl) ?_
          refine lv_aload_n hx hb d_Mo_branch_107 rfl (lv_at hl 3 rfl) ?_
          refine zget hE hK hP 0 rfl fd_Mo_104 rfl d_Mo_branch_108 ?_
          refine lv_iload_n hx hb d_Mo_branch_111 rfl (lv_at hl 5 rfl) ?_
          refine zgoi (wr := [(m0, .inr (3, [.ref mk, .ref mt, .int kd, .ref wo, .int wn, .ref re, .int pc, .int sta, .int dn, .int th, .ref ro, .ref aa, .ref si, .ref so, .ref la, .int md, .int lq, .int tp, .int tr, .ref ip, .ref oq, .ref cp, .int ni, .int no])), (re, .inl (cI, 32, .inl (rg)))]) (zrunS (n := 1) (As := [.int w]) (rest := [.int pc, .ref m0]) hE (c_Mo_byBranch l D _ _ w) cb_Mo_byBranch lk_Mo_150 st_Mo_byBranch (zpreS hK hP hD [] rfl rfl rfl) ⟨Nat.le_of_ble_eq_true rfl, Nat.le_of_ble_eq_true rfl, Nat.le_of_ble_eq_true rfl, Nat.le_of_ble_eq_true rfl⟩ rfl hl.1 rfl (Nat.le_of_ble_eq_true rfl) d_Mo_branch_112) hP hD hS hA [] [0, 1] rfl rfl rfl (by decide) (fun r u H locs hq54 hP hD hS => ?_)
          subst hq54
          have hP : va_P D zC [(m0, .inr (3, [.ref mk, .ref mt, .int kd, .ref wo, .int wn, .ref re, .int pc, .int sta, .int dn, .int th, .ref ro, .ref aa, .ref si, .ref so, .ref la, .int md, .int lq, .int tp, .int tr, .ref ip, .ref oq, .ref cp, .int ni, .int no])), (re, .inl (cI, 32, .inl (rg)))] H := hP
          have hD : va_D A [(m0, .inr (3, [.ref mk, .ref mt, .int kd, .ref wo, .int wn, .ref re, .int pc, .int sta, .int dn, .int th, .ref ro, .ref aa, .ref si, .ref so, .ref la, .int md, .int lq, .int tp, .int tr, .ref ip, .ref oq, .ref cp, .int ni, .int no])), (re, .inl (cI, 32, .inl (rg)))] := hD
          refine lv_iadd hx hb d_Mo_branch_115 ?_
          refine zgoi (wr := [(re, .inl (cI, 32, .inl (rg)))]) (zrunV (n := 1) (As := [.int (pc + (sp_Mo_byBranch w))]) (rest := []) hE (c_Mo_isGone l D cI cB cJ _ (pc + (sp_Mo_byBranch w)) m0 mk mt kd wo wn re pc sta dn th ro aa si so la md lq tp tr ip oq cp ni no) cb_Mo_isGone lk_Mo_144 in_Mo_isGone se_Mo_isGone (zpreV (q0 := 0) hK hP hD rfl rfl rfl [0] rfl rfl rfl) ⟨Nat.le_of_ble_eq_true rfl, Nat.le_of_ble_eq_true rfl, Nat.le_of_ble_eq_true rfl, Nat.le_of_ble_eq_true rfl⟩ rfl hl.1 rfl (Nat.le_of_ble_eq_true rfl) d_Mo_branch_116) hP hD hS hA [0] [1] rfl rfl rfl (by decide) (fun r u H locs hq55 hP hD hS => ?_)
          subst hq55
          have hP : va_P D zC [(re, .inl (cI, 32, .inl (rg))), (m0, .inr (3, [.ref mk, .ref mt, .int kd, .ref wo, .int wn, .ref re, .int ((sp_Mo_isGone (pc + (sp_Mo_byBranch w)) pc sta).2.1), .int ((sp_Mo_isGone (pc + (sp_Mo_byBranch w)) pc sta).2.2), .int dn, .int th, .ref ro, .ref aa, .ref si, .ref so, .ref la, .int md, .int lq, .int tp, .int tr, .ref ip, .ref oq, .ref cp, .int ni, .int no]))] H := hP
          have hD : va_D A [(re, .inl (cI, 32, .inl (rg))), (m0, .inr (3, [.ref mk, .ref mt, .int kd, .ref wo, .int wn, .ref re, .int ((sp_Mo_isGone (pc + (sp_Mo_byBranch w)) pc sta).2.1), .int ((sp_Mo_isGone (pc + (sp_Mo_byBranch w)) pc sta).2.2), .int dn, .int th, .ref ro, .ref aa, .ref si, .ref so, .ref la, .int md, .int lq, .int tp, .int tr, .ref ip, .ref oq, .ref cp, .int ni, .int no]))] := hD
          refine lv_pop hx hb d_Mo_branch_119 rfl ?_
          refine lv_goto (tgt := 133) hx hb d_Mo_branch_120 (by decide) ?_
          have hs : (sp_Mo_branch f w pc sta rg) = ((sp_Mo_isGone (pc + (sp_Mo_byBranch w)) pc sta).2.1, (sp_Mo_isGone (pc + (sp_Mo_byBranch w)) pc sta).2.2) := by rw [sp_Mo_branch, if_neg h3, if_neg h31, if_pos h45, if_neg h52]
          have hP9 := hP.sub (ws' := [(m0, .inr (3, [.ref mk, .ref mt, .int kd, .ref wo, .int wn, .ref re, .int ((sp_Mo_isGone (pc + (sp_Mo_byBranch w)) pc sta).2.1), .int ((sp_Mo_isGone (pc + (sp_Mo_byBranch w)) pc sta).2.2), .int dn, .int th, .ref ro, .ref aa, .ref si, .ref so, .ref la, .int md, .int lq, .int tp, .int tr, .ref ip, .ref oq, .ref cp, .int ni, .int no])), (re, .inl (cI, 32, .inl (rg)))]) [1, 0] rfl
          have hD9 := hD.sub (ws' := [(m0, .inr (3, [.ref mk, .ref mt, .int kd, .ref wo, .int wn, .ref re, .int ((sp_Mo_isGone (pc + (sp_Mo_byBranch w)) pc sta).2.1), .int ((sp_Mo_isGone (pc + (sp_Mo_byBranch w)) pc sta).2.2), .int dn, .int th, .ref ro, .ref aa, .ref si, .ref so, .ref la, .int md, .int lq, .int tp, .int tr, .ref ip, .ref oq, .ref cp, .int ni, .int no])), (re, .inl (cI, 32, .inl (rg)))]) [1, 0] rfl rfl
          exact zretv hx hb hr hlocks hS () trivial rfl (by rw [hs]; exact hP9) (by rw [hs]; exact hD9) d_Mo_branch_133
        · refine lv_iload hx hb d_Mo_branch_89 (lv_at hl 0 rfl) ?_
          refine lv_if_ne (tgt := 98) hx hb d_Mo_branch_91 (by decide) (fun h56 => ?_) (fun h56 => (show False by revert h56; decide).elim)
          refine lv_iconst (v := 0) hx hb d_Mo_branch_98 (by decide) ?_
          refine lv_istore (lv' := [(7, .int 0), (5, .long (((rg (sp_Mo_bits w 20 5).toNatClampNeg : Int32).toInt64) &&& 4294967295)), (3, .long (((rg (sp_Mo_bits w 15 5).toNatClampNeg : Int32).toInt64) &&& 4294967295)), (0, .ref m0), (1, .int f), (2, .int w)]) hx hb d_Mo_branch_99 hl (by decide) rfl (fun ls hl => ?_)
          refine lv_iload hx hb d_Mo_branch_101 (lv_at hl 0 rfl) ?_
          refine lv_if_eq (tgt := 123) hx hb d_Mo_branch_103 (by decide) (fun h57 => ?_) (fun h57 => (show False by revert h57; decide).elim)
          refine lv_aload_n hx hb d_Mo_branch_123 rfl (lv_at hl 3 rfl) ?_
          refine lv_dup hx hb d_Mo_branch_124 rfl ?_
          refine zget hE hK hP 0 rfl fd_Mo_104 rfl d_Mo_branch_125 ?_
          refine lv_iconst (v := 4) hx hb d_Mo_branch_128 (by decide) ?_
          refine lv_iadd hx hb d_Mo_branch_129 ?_
          refine zput (v := .int (pc + 4)) hE hK hP hD hS 0 rfl fd_Mo_104 ft_Mo_6 rfl rfl (Nat.le_of_ble_eq_true rfl) d_Mo_branch_130 (fun H locs hP hD hS => ?_)
          have hP : va_P D zC [(m0, .inr (3, [.ref mk, .ref mt, .int kd, .ref wo, .int wn, .ref re, .int (pc + 4), .int sta, .int dn, .int th, .ref ro, .ref aa, .ref si, .ref so, .ref la, .int md, .int lq, .int tp, .int tr, .ref ip, .ref oq, .ref cp, .int ni, .int no])), (re, .inl (cI, 32, .inl (rg)))] H := hP
          have hD : va_D A [(m0, .inr (3, [.ref mk, .ref mt, .int kd, .ref wo, .int wn, .ref re, .int (pc + 4), .int sta, .int dn, .int th, .ref ro, .ref aa, .ref si, .ref so, .ref la, .int md, .int lq, .int tp, .int tr, .ref ip, .ref oq, .ref cp, .int ni, .int no])), (re, .inl (cI, 32, .inl (rg)))] := hD
          have hs : (sp_Mo_branch f w pc sta rg) = (pc + 4, sta) := by rw [sp_Mo_branch, if_neg h3, if_neg h31, if_pos h45, if_pos h52]
          have hP9 := hP.sub (ws' := [(m0, .inr (3, [.ref mk, .ref mt, .int kd, .ref wo, .int wn, .ref re, .int (pc + 4), .int sta, .int dn, .int th, .ref ro, .ref aa, .ref si, .ref so, .ref la, .int md, .int lq, .int tp, .int tr, .ref ip, .ref oq, .ref cp, .int ni, .int no])), (re, .inl (cI, 32, .inl (rg)))]) [0, 1] rfl
          have hD9 := hD.sub (ws' := [(m0, .inr (3, [.ref mk, .ref mt, .int kd, .ref wo, .int wn, .ref re, .int (pc + 4), .int sta, .int dn, .int th, .ref ro, .ref aa, .ref si, .ref so, .ref la, .int md, .int lq, .int tp, .int tr, .ref ip, .ref oq, .ref cp, .int ni, .int no])), (re, .inl (cI, 32, .inl (rg)))]) [0, 1] rfl rfl
          exact zretv hx hb hr hlocks hS () trivial rfl (by rw [hs]; exact hP9) (by rw [hs]; exact hD9) d_Mo_branch_133

def sp_Mo_state (sta : Int32) : Int32 × Int32 := (sta, 0)
set_option maxHeartbeats 4000000 in
theorem c_Mo_state (l : Launch) (D : va_G) (cI cB cJ : ClassId) (sz : Nat) (m0 : Nat) (mk : Nat) (mt : Nat) (kd : Int32) (wo : Nat) (wn : Int32) (re : Nat) (pc : Int32) (sta : Int32) (dn : Int32) (th : Int32) (ro : Nat) (aa : Nat) (si : Nat) (so : Nat) (la : Nat) (md : Int32) (lq : Int32) (tp : Int32) (tr : Int32) (ip : Nat) (oq : Nat) (cp : Nat) (ni : Int32) (no : Int32) : zMet l y_Mo_state (zWs y_Mo_state b_Mo_state 1 (some .int)) { frames := 0, cells := 0, slots := 0, locals := 0 } (zPc D (zT cI cB cJ) sz [(m0, .inr (3, [.ref mk, .ref mt, .int kd, .ref wo, .int wn, .ref re, .int pc, .int sta, .int dn, .int th, .ref ro, .ref aa, .ref si, .ref so, .ref la, .int md, .int lq, .int tp, .int tr, .ref ip, .ref oq, .ref cp, .int ni, .int no]))] [.ref m0]) (zQi D (va_A [(m0, .inr (3, [.ref mk, .ref mt, .int kd, .ref wo, .int wn, .ref re, .int pc, .int sta, .int dn, .int th, .ref ro, .ref aa, .ref si, .ref so, .ref la, .int md, .int lq, .int tp, .int tr, .ref ip, .ref oq, .ref cp, .int ni, .int no]))] sz) (fun r (_ : Unit) => r = (sp_Mo_state sta).1) (z0) (fun _ => [(m0, .inr (3, [.ref mk, .ref mt, .int kd, .ref wo, .int wn, .ref re, .int pc, .int sta, .int dn, .int ((sp_Mo_state sta).2), .ref ro, .ref aa, .ref si, .ref so, .ref la, .int md, .int lq, .int tp, .int tr, .ref ip, .ref oq, .ref cp, .int ni, .int no]))])) (va_A [(m0, .inr (3, [.ref mk, .ref mt, .int kd, .ref wo, .int wn, .ref re, .int pc, .int sta, .int dn, .int th, .ref ro, .ref aa, .ref si, .ref so, .ref la, .int md, .int lq, .int tp, .int tr, .ref ip, .ref oq, .ref cp, .int ni, .int no]))] sz) := by
  refine zstart (Qc := fun A => zQi D A (fun r (_ : Unit) => r = (sp_Mo_state sta).1) (z0) (fun _ => [(m0, .inr (3, [.ref mk, .ref mt, .int kd, .ref wo, .int wn, .ref re, .int pc, .int sta, .int dn, .int ((sp_Mo_state sta).2), .ref ro, .ref aa, .ref si, .ref so, .ref la, .int md, .int lq, .int tp, .int tr, .ref ip, .ref oq, .ref cp, .int ni, .int no]))])) (by decide) (Nat.le_of_ble_eq_true rfl) ?_
  intro p e s m below meth c ls A hE hr hlocks hin hsz hK hP hD hS hA hAe hl
  have hx := hE.1
  have hb := hE.2.1
  have hown := hE.2.2.2.1
  have hw := hE.2.2.2.2
  have hl : lv_has ls 1 [(0, .ref m0)] := hl
  refine lv_aload_n hx hb d_Mo_state_0 rfl (lv_at hl 0 rfl) ?_
  refine lv_iconst (v := 0) hx hb d_Mo_state_1 (by decide) ?_
  refine zput (v := .int 0) hE hK hP hD hS 0 rfl fd_Mo_62 ft_Mo_9 rfl rfl (Nat.le_of_ble_eq_true rfl) d_Mo_state_2 (fun H locs hP hD hS => ?_)
  have hP : va_P D zC [(m0, .inr (3, [.ref mk, .ref mt, .int kd, .ref wo, .int wn, .ref re, .int pc, .int sta, .int dn, .int 0, .ref ro, .ref aa, .ref si, .ref so, .ref la, .int md, .int lq, .int tp, .int tr, .ref ip, .ref oq, .ref cp, .int ni, .int no]))] H := hP
  have hD : va_D A [(m0, .inr (3, [.ref mk, .ref mt, .int kd, .ref wo, .int wn, .ref re, .int pc, .int sta, .int dn, .int 0, .ref ro, .ref aa, .ref si, .ref so, .ref la, .int md, .int lq, .int tp, .int tr, .ref ip, .ref oq, .ref cp, .int ni, .int no]))] := hD
  refine lv_aload_n hx hb d_Mo_state_5 rfl (lv_at hl 0 rfl) ?_
  refine zget hE hK hP 0 rfl fd_Mo_97 rfl d_Mo_state_6 ?_
  have hs : (sp_Mo_state sta) = (sta, 0) := rfl
  have hP9 := hP.sub (ws' := [(m0, .inr (3, [.ref mk, .ref mt, .int kd, .ref wo, .int wn, .ref re, .int pc, .int sta, .int dn, .int 0, .ref ro, .ref aa, .ref si, .ref so, .ref la, .int md, .int lq, .int tp, .int tr, .ref ip, .ref oq, .ref cp, .int ni, .int no]))]) [0] rfl
  have hD9 := hD.sub (ws' := [(m0, .inr (3, [.ref mk, .ref mt, .int kd, .ref wo, .int wn, .ref re, .int pc, .int sta, .int dn, .int 0, .ref ro, .ref aa, .ref si, .ref so, .ref la, .int md, .int lq, .int tp, .int tr, .ref ip, .ref oq, .ref cp, .int ni, .int no]))]) [0] rfl rfl
  exact zreti hx hb hr rfl hlocks hS () (by rw [hs]) rfl (by rw [hs]; exact hP9) (by rw [hs]; exact hD9) d_Mo_state_9

def sp_Mo_register (k : Int32) (pc : Int32) (rg : Nat → Int32) : Int32 × Int32 := if k < 0 then (0, 1) else if k ≤ 32 then
  if k = 32 then (pc, 0) else (rg k.toNatClampNeg, 0)
else (0, 1)
set_option maxHeartbeats 4000000 in
theorem c_Mo_register (l : Launch) (D : va_G) (cI cB cJ : ClassId) (sz : Nat) (k : Int32) (m0 : Nat) (mk : Nat) (mt : Nat) (kd : Int32) (wo : Nat) (wn : Int32) (re : Nat) (pc : Int32) (sta : Int32) (dn : Int32) (th : Int32) (ro : Nat) (aa : Nat) (si : Nat) (so : Nat) (la : Nat) (md : Int32) (lq : Int32) (tp : Int32) (tr : Int32) (ip : Nat) (oq : Nat) (cp : Nat) (ni : Int32) (no : Int32) (rg : Nat → Int32) : zMet l y_Mo_register (zWs y_Mo_register b_Mo_register 2 (some .int)) { frames := 0, cells := 0, slots := 0, locals := 0 } (zPc D (zT cI cB cJ) sz [(m0, .inr (3, [.ref mk, .ref mt, .int kd, .ref wo, .int wn, .ref re, .int pc, .int sta, .int dn, .int th, .ref ro, .ref aa, .ref si, .ref so, .ref la, .int md, .int lq, .int tp, .int tr, .ref ip, .ref oq, .ref cp, .int ni, .int no])), (re, .inl (cI, 32, .inl (rg)))] [.ref m0, .int k]) (zQi D (va_A [(m0, .inr (3, [.ref mk, .ref mt, .int kd, .ref wo, .int wn, .ref re, .int pc, .int sta, .int dn, .int th, .ref ro, .ref aa, .ref si, .ref so, .ref la, .int md, .int lq, .int tp, .int tr, .ref ip, .ref oq, .ref cp, .int ni, .int no])), (re, .inl (cI, 32, .inl (rg)))] sz) (fun r (_ : Unit) => r = (sp_Mo_register k pc rg).1) (z0) (fun _ => [(m0, .inr (3, [.ref mk, .ref mt, .int kd, .ref wo, .int wn, .ref re, .int pc, .int sta, .int dn, .int ((sp_Mo_register k pc rg).2), .ref ro, .ref aa, .ref si, .ref so, .ref la, .int md, .int lq, .int tp, .int tr, .ref ip, .ref oq, .ref cp, .int ni, .int no])), (re, .inl (cI, 32, .inl (rg)))])) (va_A [(m0, .inr (3, [.ref mk, .ref mt, .int kd, .ref wo, .int wn, .ref re, .int pc, .int sta, .int dn, .int th, .ref ro, .ref aa, .ref si, .ref so, .ref la, .int md, .int lq, .int tp, .int tr, .ref ip, .ref oq, .ref cp, .int ni, .int no])), (re, .inl (cI, 32, .inl (rg)))] sz) := by
  refine zstart (Qc := fun A => zQi D A (fun r (_ : Unit) => r = (sp_Mo_register k pc rg).1) (z0) (fun _ => [(m0, .inr (3, [.ref mk, .ref mt, .int kd, .ref wo, .int wn, .ref re, .int pc, .int sta, .int dn, .int ((sp_Mo_register k pc rg).2), .ref ro, .ref aa, .ref si, .ref so, .ref la, .int md, .int lq, .int tp, .int tr, .ref ip, .ref oq, .ref cp, .int ni, .int no])), (re, .inl (cI, 32, .inl (rg)))])) (by decide) (Nat.le_of_ble_eq_true rfl) ?_
  intro p e s m below meth c ls A hE hr hlocks hin hsz hK hP hD hS hA hAe hl
  have hx := hE.1
  have hb := hE.2.1
  have hown := hE.2.2.2.1
  have hw := hE.2.2.2.2
  have hl : lv_has ls 2 [(0, .ref m0), (1, .int k)] := hl
  refine lv_aload_n hx hb d_Mo_register_0 rfl (lv_at hl 0 rfl) ?_
  refine lv_iload_n hx hb d_Mo_register_1 rfl (lv_at hl 1 rfl) ?_
  refine lv_if_lt (tgt := 11) hx hb d_Mo_register_2 (by decide) (fun h1 => ?_) (fun h1 => ?_)
  · refine lv_iconst (v := 1) hx hb d_Mo_register_11 (by decide) ?_
    refine lv_goto (tgt := 16) hx hb d_Mo_register_12 (by decide) ?_
    refine zput (v := .int 1) hE hK hP hD hS 0 rfl fd_Mo_62 ft_Mo_9 rfl rfl (Nat.le_of_ble_eq_true rfl) d_Mo_register_16 (fun H locs hP hD hS => ?_)
    have hP : va_P D zC [(m0, .inr (3, [.ref mk, .ref mt, .int kd, .ref wo, .int wn, .ref re, .int pc, .int sta, .int dn, .int 1, .ref ro, .ref aa, .ref si, .ref so, .ref la, .int md, .int lq, .int tp, .int tr, .ref ip, .ref oq, .ref cp, .int ni, .int no])), (re, .inl (cI, 32, .inl (rg)))] H := hP
    have hD : va_D A [(m0, .inr (3, [.ref mk, .ref mt, .int kd, .ref wo, .int wn, .ref re, .int pc, .int sta, .int dn, .int 1, .ref ro, .ref aa, .ref si, .ref so, .ref la, .int md, .int lq, .int tp, .int tr, .ref ip, .ref oq, .ref cp, .int ni, .int no])), (re, .inl (cI, 32, .inl (rg)))] := hD
    refine lv_aload_n hx hb d_Mo_register_19 rfl (lv_at hl 0 rfl) ?_
    refine zget hE hK hP 0 rfl fd_Mo_62 rfl d_Mo_register_20 ?_
    refine lv_if_le (tgt := 28) hx hb d_Mo_register_23 (by decide) (fun h2 => (show False by revert h2; decide).elim) (fun h2 => ?_)
    refine lv_iconst (v := 0) hx hb d_Mo_register_26 (by decide) ?_
    have hs : (sp_Mo_register k pc rg) = (0, 1) := by rw [sp_Mo_register, if_pos h1]
    have hP9 := hP.sub (ws' := [(m0, .inr (3, [.ref mk, .ref mt, .int kd, .ref wo, .int wn, .ref re, .int pc, .int sta, .int dn, .int 1, .ref ro, .ref aa, .ref si, .ref so, .ref la, .int md, .int lq, .int tp, .int tr, .ref ip, .ref oq, .ref cp, .int ni, .int no])), (re, .inl (cI, 32, .inl (rg)))]) [0, 1] rfl
    have hD9 := hD.sub (ws' := [(m0, .inr (3, [.ref mk, .ref mt, .int kd, .ref wo, .int wn, .ref re, .int pc, .int sta, .int dn, .int 1, .ref ro, .ref aa, .ref si, .ref so, .ref la, .int md, .int lq, .int tp, .int tr, .ref ip, .ref oq, .ref cp, .int ni, .int no])), (re, .inl (cI, 32, .inl (rg)))]) [0, 1] rfl rfl
    exact zreti hx hb hr rfl hlocks hS () (by rw [hs]) rfl (by rw [hs]; exact hP9) (by rw [hs]; exact hD9) d_Mo_register_27
  · refine lv_iload_n hx hb d_Mo_register_5 rfl (lv_at hl 1 rfl) ?_
    refine lv_bipush (v := 32) hx hb d_Mo_register_6 (by decide) ?_
    refine lv_icmp_le (tgt := 15) hx hb d_Mo_register_8 (by decide) (fun h3 => ?_) (fun h3 => ?_)
    · refine lv_iconst (v := 0) hx hb d_Mo_register_15 (by decide) ?_
      refine zput (v := .int 0) hE hK hP hD hS 0 rfl fd_Mo_62 ft_Mo_9 rfl rfl (Nat.le_of_ble_eq_true rfl) d_Mo_register_16 (fun H locs hP hD hS => ?_)
      have hP : va_P D zC [(m0, .inr (3, [.ref mk, .ref mt, .int kd, .ref wo, .int wn, .ref re, .int pc, .int sta, .int dn, .int 0, .ref ro, .ref aa, .ref si, .ref so, .ref la, .int md, .int lq, .int tp, .int tr, .ref ip, .ref oq, .ref cp, .int ni, .int no])), (re, .inl (cI, 32, .inl (rg)))] H := hP
      have hD : va_D A [(m0, .inr (3, [.ref mk, .ref mt, .int kd, .ref wo, .int wn, .ref re, .int pc, .int sta, .int dn, .int 0, .ref ro, .ref aa, .ref si, .ref so, .ref la, .int md, .int lq, .int tp, .int tr, .ref ip, .ref oq, .ref cp, .int ni, .int no])), (re, .inl (cI, 32, .inl (rg)))] := hD
      refine lv_aload_n hx hb d_Mo_register_19 rfl (lv_at hl 0 rfl) ?_
      refine zget hE hK hP 0 rfl fd_Mo_62 rfl d_Mo_register_20 ?_
      refine lv_if_le (tgt := 28) hx hb d_Mo_register_23 (by decide) (fun h4 => ?_) (fun h4 => (show False by revert h4; decide).elim)
      refine lv_iload_n hx hb d_Mo_register_28 rfl (lv_at hl 1 rfl) ?_
      refine lv_bipush (v := 32) hx hb d_Mo_register_29 (by decide) ?_
      refine lv_icmp_ne (tgt := 41) hx hb d_Mo_register_31 (by decide) (fun h5 => ?_) (fun h5 => ?_)
      · refine lv_aload_n hx hb d_Mo_register_41 rfl (lv_at hl 0 rfl) ?_
        refine zget hE hK hP 0 rfl fd_Mo_19 rfl d_Mo_register_42 ?_
        refine lv_iload_n hx hb d_Mo_register_45 rfl (lv_at hl 1 rfl) ?_
        refine va_iald hx hb hK hP 1 0 rfl rfl (z_in (by have q1 := z_nlt h1; have q2 := z_le h3; have q3 := z_neq h5; have k0 : ((0) : Int32).toInt = 0 := (by decide); have k32 : ((32) : Int32).toInt = 32 := (by decide); omega)) d_Mo_register_46 ?_
        have hs : (sp_Mo_register k pc rg) = (rg k.toNatClampNeg, 0) := by rw [sp_Mo_register, if_neg h1, if_pos h3, if_neg h5]
        have hP9 := hP.sub (ws' := [(m0, .inr (3, [.ref mk, .ref mt, .int kd, .ref wo, .int wn, .ref re, .int pc, .int sta, .int dn, .int 0, .ref ro, .ref aa, .ref si, .ref so, .ref la, .int md, .int lq, .int tp, .int tr, .ref ip, .ref oq, .ref cp, .int ni, .int no])), (re, .inl (cI, 32, .inl (rg)))]) [0, 1] rfl
        have hD9 := hD.sub (ws' := [(m0, .inr (3, [.ref mk, .ref mt, .int kd, .ref wo, .int wn, .ref re, .int pc, .int sta, .int dn, .int 0, .ref ro, .ref aa, .ref si, .ref so, .ref la, .int md, .int lq, .int tp, .int tr, .ref ip, .ref oq, .ref cp, .int ni, .int no])), (re, .inl (cI, 32, .inl (rg)))]) [0, 1] rfl rfl
        exact zreti hx hb hr rfl hlocks hS () (by rw [hs]) rfl (by rw [hs]; exact hP9) (by rw [hs]; exact hD9) d_Mo_register_47
      · refine lv_aload_n hx hb d_Mo_register_34 rfl (lv_at hl 0 rfl) ?_
        refine zget hE hK hP 0 rfl fd_Mo_104 rfl d_Mo_register_35 ?_
        refine lv_goto (tgt := 47) hx hb d_Mo_register_38 (by decide) ?_
        have hs : (sp_Mo_register k pc rg) = (pc, 0) := by rw [sp_Mo_register, if_neg h1, if_pos h3, if_pos h5]
        have hP9 := hP.sub (ws' := [(m0, .inr (3, [.ref mk, .ref mt, .int kd, .ref wo, .int wn, .ref re, .int pc, .int sta, .int dn, .int 0, .ref ro, .ref aa, .ref si, .ref so, .ref la, .int md, .int lq, .int tp, .int tr, .ref ip, .ref oq, .ref cp, .int ni, .int no])), (re, .inl (cI, 32, .inl (rg)))]) [0, 1] rfl
        have hD9 := hD.sub (ws' := [(m0, .inr (3, [.ref mk, .ref mt, .int kd, .ref wo, .int wn, .ref re, .int pc, .int sta, .int dn, .int 0, .ref ro, .ref aa, .ref si, .ref so, .ref la, .int md, .int lq, .int tp, .int tr, .ref ip, .ref oq, .ref cp, .int ni, .int no])), (re, .inl (cI, 32, .inl (rg)))]) [0, 1] rfl rfl
        exact zreti hx hb hr rfl hlocks hS () (by rw [hs]) rfl (by rw [hs]; exact hP9) (by rw [hs]; exact hD9) d_Mo_register_47
    · refine lv_iconst (v := 1) hx hb d_Mo_register_11 (by decide) ?_
      refine lv_goto (tgt := 16) hx hb d_Mo_register_12 (by decide) ?_
      refine zput (v := .int 1) hE hK hP hD hS 0 rfl fd_Mo_62 ft_Mo_9 rfl rfl (Nat.le_of_ble_eq_true rfl) d_Mo_register_16 (fun H locs hP hD hS => ?_)
      have hP : va_P D zC [(m0, .inr (3, [.ref mk, .ref mt, .int kd, .ref wo, .int wn, .ref re, .int pc, .int sta, .int dn, .int 1, .ref ro, .ref aa, .ref si, .ref so, .ref la, .int md, .int lq, .int tp, .int tr, .ref ip, .ref oq, .ref cp, .int ni, .int no])), (re, .inl (cI, 32, .inl (rg)))] H := hP
      have hD : va_D A [(m0, .inr (3, [.ref mk, .ref mt, .int kd, .ref wo, .int wn, .ref re, .int pc, .int sta, .int dn, .int 1, .ref ro, .ref aa, .ref si, .ref so, .ref la, .int md, .int lq, .int tp, .int tr, .ref ip, .ref oq, .ref cp, .int ni, .int no])), (re, .inl (cI, 32, .inl (rg)))] := hD
      refine lv_aload_n hx hb d_Mo_register_19 rfl (lv_at hl 0 rfl) ?_
      refine zget hE hK hP 0 rfl fd_Mo_62 rfl d_Mo_register_20 ?_
      refine lv_if_le (tgt := 28) hx hb d_Mo_register_23 (by decide) (fun h6 => (show False by revert h6; decide).elim) (fun h6 => ?_)
      refine lv_iconst (v := 0) hx hb d_Mo_register_26 (by decide) ?_
      have hs : (sp_Mo_register k pc rg) = (0, 1) := by rw [sp_Mo_register, if_neg h1, if_neg h3]
      have hP9 := hP.sub (ws' := [(m0, .inr (3, [.ref mk, .ref mt, .int kd, .ref wo, .int wn, .ref re, .int pc, .int sta, .int dn, .int 1, .ref ro, .ref aa, .ref si, .ref so, .ref la, .int md, .int lq, .int tp, .int tr, .ref ip, .ref oq, .ref cp, .int ni, .int no])), (re, .inl (cI, 32, .inl (rg)))]) [0, 1] rfl
      have hD9 := hD.sub (ws' := [(m0, .inr (3, [.ref mk, .ref mt, .int kd, .ref wo, .int wn, .ref re, .int pc, .int sta, .int dn, .int 1, .ref ro, .ref aa, .ref si, .ref so, .ref la, .int md, .int lq, .int tp, .int tr, .ref ip, .ref oq, .ref cp, .int ni, .int no])), (re, .inl (cI, 32, .inl (rg)))]) [0, 1] rfl rfl
      exact zreti hx hb hr rfl hlocks hS () (by rw [hs]) rfl (by rw [hs]; exact hP9) (by rw [hs]; exact hD9) d_Mo_register_27

def sp_Mo_set (k : Int32) (v : Int32) (rg : Nat → Int32) : Int32 × Int32 × (Nat → Int32) := if k < 1 then (0, 1, rg) else if k ≤ 31 then (rg k.toNatClampNeg, 0, upd rg k.toNatClampNeg v) else (0, 1, rg)
set_option maxHeartbeats 4000000 in
theorem c_Mo_set (l : Launch) (D : va_G) (cI cB cJ : ClassId) (sz : Nat) (k : Int32) (v : Int32) (m0 : Nat) (mk : Nat) (mt : Nat) (kd : Int32) (wo : Nat) (wn : Int32) (re : Nat) (pc : Int32) (sta : Int32) (dn : Int32) (th : Int32) (ro : Nat) (aa : Nat) (si : Nat) (so : Nat) (la : Nat) (md : Int32) (lq : Int32) (tp : Int32) (tr : Int32) (ip : Nat) (oq : Nat) (cp : Nat) (ni : Int32) (no : Int32) (rg : Nat → Int32) : zMet l y_Mo_set (zWs y_Mo_set b_Mo_set 4 (some .int)) { frames := 0, cells := 0, slots := 0, locals := 0 } (zPc D (zT cI cB cJ) sz [(m0, .inr (3, [.ref mk, .ref mt, .int kd, .ref wo, .int wn, .ref re, .int pc, .int sta, .int dn, .int th, .ref ro, .ref aa, .ref si, .ref so, .ref la, .int md, .int lq, .int tp, .int tr, .ref ip, .ref oq, .ref cp, .int ni, .int no])), (re, .inl (cI, 32, .inl (rg)))] [.ref m0, .int k, .int v]) (zQi D (va_A [(m0, .inr (3, [.ref mk, .ref mt, .int kd, .ref wo, .int wn, .ref re, .int pc, .int sta, .int dn, .int th, .ref ro, .ref aa, .ref si, .ref so, .ref la, .int md, .int lq, .int tp, .int tr, .ref ip, .ref oq, .ref cp, .int ni, .int no])), (re, .inl (cI, 32, .inl (rg)))] sz) (fun r (_ : Unit) => r = (sp_Mo_set k v rg).1) (z0) (fun _ => [(m0, .inr (3, [.ref mk, .ref mt, .int kd, .ref wo, .int wn, .ref re, .int pc, .int sta, .int dn, .int ((sp_Mo_set k v rg).2.1), .ref ro, .ref aa, .ref si, .ref so, .ref la, .int md, .int lq, .int tp, .int tr, .ref ip, .ref oq, .ref cp, .int ni, .int no])), (re, .inl (cI, 32, .inl ((sp_Mo_set k v rg).2.2)))])) (va_A [(m0, .inr (3, [.ref mk, .ref mt, .int kd, .ref wo, .int wn, .ref re, .int pc, .int sta, .int dn, .int th, .ref ro, .ref aa, .ref si, .ref so, .ref la, .int md, .int lq, .int tp, .int tr, .ref ip, .ref oq, .ref cp, .int ni, .int no])), (re, .inl (cI, 32, .inl (rg)))] sz) := by
  refine zstart (Qc := fun A => zQi D A (fun r (_ : Unit) => r = (sp_Mo_set k v rg).1) (z0) (fun _ => [(m0, .inr (3, [.ref mk, .ref mt, .int kd, .ref wo, .int wn, .ref re, .int pc, .int sta, .int dn, .int ((sp_Mo_set k v rg).2.1), .ref ro, .ref aa, .ref si, .ref so, .ref la, .int md, .int lq, .int tp, .int tr, .ref ip, .ref oq, .ref cp, .int ni, .int no])), (re, .inl (cI, 32, .inl ((sp_Mo_set k v rg).2.2)))])) (by decide) (Nat.le_of_ble_eq_true rfl) ?_
  intro p e s m below meth c ls A hE hr hlocks hin hsz hK hP hD hS hA hAe hl
  have hx := hE.1
  have hb := hE.2.1
  have hown := hE.2.2.2.1
  have hw := hE.2.2.2.2
  have hl : lv_has ls 4 [(0, .ref m0), (1, .int k), (2, .int v)] := hl
  refine lv_aload_n hx hb d_Mo_set_0 rfl (lv_at hl 0 rfl) ?_
  refine lv_iload_n hx hb d_Mo_set_1 rfl (lv_at hl 1 rfl) ?_
  refine lv_iconst (v := 1) hx hb d_Mo_set_2 (by decide) ?_
  refine lv_icmp_lt (tgt := 12) hx hb d_Mo_set_3 (by decide) (fun h1 => ?_) (fun h1 => ?_)
  · refine lv_iconst (v := 1) hx hb d_Mo_set_12 (by decide) ?_
    refine lv_goto (tgt := 17) hx hb d_Mo_set_13 (by decide) ?_
    refine zput (v := .int 1) hE hK hP hD hS 0 rfl fd_Mo_62 ft_Mo_9 rfl rfl (Nat.le_of_ble_eq_true rfl) d_Mo_set_17 (fun H locs hP hD hS => ?_)
    have hP : va_P D zC [(m0, .inr (3, [.ref mk, .ref mt, .int kd, .ref wo, .int wn, .ref re, .int pc, .int sta, .int dn, .int 1, .ref ro, .ref aa, .ref si, .ref so, .ref la, .int md, .int lq, .int tp, .int tr, .ref ip, .ref oq, .ref cp, .int ni, .int no])), (re, .inl (cI, 32, .inl (rg)))] H := hP
    have hD : va_D A [(m0, .inr (3, [.ref mk, .ref mt, .int kd, .ref wo, .int wn, .ref re, .int pc, .int sta, .int dn, .int 1, .ref ro, .ref aa, .ref si, .ref so, .ref la, .int md, .int lq, .int tp, .int tr, .ref ip, .ref oq, .ref cp, .int ni, .int no])), (re, .inl (cI, 32, .inl (rg)))] := hD
    refine lv_aload_n hx hb d_Mo_set_20 rfl (lv_at hl 0 rfl) ?_
    refine zget hE hK hP 0 rfl fd_Mo_62 rfl d_Mo_set_21 ?_
    refine lv_if_le (tgt := 29) hx hb d_Mo_set_24 (by decide) (fun h2 => (show False by revert h2; decide).elim) (fun h2 => ?_)
    refine lv_iconst (v := 0) hx hb d_Mo_set_27 (by decide) ?_
    have hs : (sp_Mo_set k v rg) = (0, 1, rg) := by rw [sp_Mo_set, if_pos h1]
    have hP9 := hP.sub (ws' := [(m0, .inr (3, [.ref mk, .ref mt, .int kd, .ref wo, .int wn, .ref re, .int pc, .int sta, .int dn, .int 1, .ref ro, .ref aa, .ref si, .ref so, .ref la, .int md, .int lq, .int tp, .int tr, .ref ip, .ref oq, .ref cp, .int ni, .int no])), (re, .inl (cI, 32, .inl (rg)))]) [0, 1] rfl
    have hD9 := hD.sub (ws' := [(m0, .inr (3, [.ref mk, .ref mt, .int kd, .ref wo, .int wn, .ref re, .int pc, .int sta, .int dn, .int 1, .ref ro, .ref aa, .ref si, .ref so, .ref la, .int md, .int lq, .int tp, .int tr, .ref ip, .ref oq, .ref cp, .int ni, .int no])), (re, .inl (cI, 32, .inl (rg)))]) [0, 1] rfl rfl
    exact zreti hx hb hr rfl hlocks hS () (by rw [hs]) rfl (by rw [hs]; exact hP9) (by rw [hs]; exact hD9) d_Mo_set_28
  · refine lv_iload_n hx hb d_Mo_set_6 rfl (lv_at hl 1 rfl) ?_
    refine lv_bipush (v := 31) hx hb d_Mo_set_7 (by decide) ?_
    refine lv_icmp_le (tgt := 16) hx hb d_Mo_set_9 (by decide) (fun h3 => ?_) (fun h3 => ?_)
    · refine lv_iconst (v := 0) hx hb d_Mo_set_16 (by decide) ?_
      refine zput (v := .int 0) hE hK hP hD hS 0 rfl fd_Mo_62 ft_Mo_9 rfl rfl (Nat.le_of_ble_eq_true rfl) d_Mo_set_17 (fun H locs hP hD hS => ?_)
      have hP : va_P D zC [(m0, .inr (3, [.ref mk, .ref mt, .int kd, .ref wo, .int wn, .ref re, .int pc, .int sta, .int dn, .int 0, .ref ro, .ref aa, .ref si, .ref so, .ref la, .int md, .int lq, .int tp, .int tr, .ref ip, .ref oq, .ref cp, .int ni, .int no])), (re, .inl (cI, 32, .inl (rg)))] H := hP
      have hD : va_D A [(m0, .inr (3, [.ref mk, .ref mt, .int kd, .ref wo, .int wn, .ref re, .int pc, .int sta, .int dn, .int 0, .ref ro, .ref aa, .ref si, .ref so, .ref la, .int md, .int lq, .int tp, .int tr, .ref ip, .ref oq, .ref cp, .int ni, .int no])), (re, .inl (cI, 32, .inl (rg)))] := hD
      refine lv_aload_n hx hb d_Mo_set_20 rfl (lv_at hl 0 rfl) ?_
      refine zget hE hK hP 0 rfl fd_Mo_62 rfl d_Mo_set_21 ?_
      refine lv_if_le (tgt := 29) hx hb d_Mo_set_24 (by decide) (fun h4 => ?_) (fun h4 => (show False by revert h4; decide).elim)
      refine lv_aload_n hx hb d_Mo_set_29 rfl (lv_at hl 0 rfl) ?_
      refine zget hE hK hP 0 rfl fd_Mo_19 rfl d_Mo_set_30 ?_
      refine lv_iload_n hx hb d_Mo_set_33 rfl (lv_at hl 1 rfl) ?_
      refine va_iald hx hb hK hP 1 0 rfl rfl (z_in (by have q1 := z_nlt h1; have q2 := z_le h3; have k1 : ((1) : Int32).toInt = 1 := (by decide); have k31 : ((31) : Int32).toInt = 31 := (by decide); omega)) d_Mo_set_34 ?_
      refine lv_istore_n (lv' := [(3, .int (rg k.toNatClampNeg)), (0, .ref m0), (1, .int k), (2, .int v)]) hx hb d_Mo_set_35 rfl hl (by decide) rfl (fun ls hl => ?_)
      refine lv_aload_n hx hb d_Mo_set_36 rfl (lv_at hl 1 rfl) ?_
      refine zget hE hK hP 0 rfl fd_Mo_19 rfl d_Mo_set_37 ?_
      refine lv_iload_n hx hb d_Mo_set_40 rfl (lv_at hl 2 rfl) ?_
      refine lv_iload_n hx hb d_Mo_set_41 rfl (lv_at hl 3 rfl) ?_
      refine va_iast hx hb hK hP hD hS 1 0 rfl rfl (z_in (by have q1 := z_nlt h1; have q2 := z_le h3; have k1 : ((1) : Int32).toInt = 1 := (by decide); have k31 : ((31) : Int32).toInt = 31 := (by decide); omega)) d_Mo_set_42 (fun H locs hP hD hS => ?_)
      have hP : va_P D zC [(m0, .inr (3, [.ref mk, .ref mt, .int kd, .ref wo, .int wn, .ref re, .int pc, .int sta, .int dn, .int 0, .ref ro, .ref aa, .ref si, .ref so, .ref la, .int md, .int lq, .int tp, .int tr, .ref ip, .ref oq, .ref cp, .int ni, .int no])), (re, .inl (cI, 32, .inl (upd rg k.toNatClampNeg v)))] H := hP
      have hD : va_D A [(m0, .inr (3, [.ref mk, .ref mt, .int kd, .ref wo, .int wn, .ref re, .int pc, .int sta, .int dn, .int 0, .ref ro, .ref aa, .ref si, .ref so, .ref la, .int md, .int lq, .int tp, .int tr, .ref ip, .ref oq, .ref cp, .int ni, .int no])), (re, .inl (cI, 32, .inl (upd rg k.toNatClampNeg v)))] := hD
      refine lv_iload_n hx hb d_Mo_set_43 rfl (lv_at hl 0 rfl) ?_
      have hs : (sp_Mo_set k v rg) = (rg k.toNatClampNeg, 0, upd rg k.toNatClampNeg v) := by rw [sp_Mo_set, if_neg h1, if_pos h3]
      have hP9 := hP.sub (ws' := [(m0, .inr (3, [.ref mk, .ref mt, .int kd, .ref wo, .int wn, .ref re, .int pc, .int sta, .int dn, .int 0, .ref ro, .ref aa, .ref si, .ref so, .ref la, .int md, .int lq, .int tp, .int tr, .ref ip, .ref oq, .ref cp, .int ni, .int no])), (re, .inl (cI, 32, .inl (upd rg k.toNatClampNeg v)))]) [0, 1] rfl
      have hD9 := hD.sub (ws' := [(m0, .inr (3, [.ref mk, .ref mt, .int kd, .ref wo, .int wn, .ref re, .int pc, .int sta, .int dn, .int 0, .ref ro, .ref aa, .ref si, .ref so, .ref la, .int md, .int lq, .int tp, .int tr, .ref ip, .ref oq, .ref cp, .int ni, .int no])), (re, .inl (cI, 32, .inl (upd rg k.toNatClampNeg v)))]) [0, 1] rfl rfl
      exact zreti hx hb hr rfl hlocks hS () (by rw [hs]) rfl (by rw [hs]; exact hP9) (by rw [hs]; exact hD9) d_Mo_set_44
    · refine lv_iconst (v := 1) hx hb d_Mo_set_12 (by decide) ?_
      refine lv_goto (tgt := 17) hx hb d_Mo_set_13 (by decide) ?_
      refine zput (v := .int 1) hE hK hP hD hS 0 rfl fd_Mo_62 ft_Mo_9 rfl rfl (Nat.le_of_ble_eq_true rfl) d_Mo_set_17 (fun H locs hP hD hS => ?_)
      have hP : va_P D zC [(m0, .inr (3, [.ref mk, .ref mt, .int kd, .ref wo, .int wn, .ref re, .int pc, .int sta, .int dn, .int 1, .ref ro, .ref aa, .ref si, .ref so, .ref la, .int md, .int lq, .int tp, .int tr, .ref ip, .ref oq, .ref cp, .int ni, .int no])), (re, .inl (cI, 32, .inl (rg)))] H := hP
      have hD : va_D A [(m0, .inr (3, [.ref mk, .ref mt, .int kd, .ref wo, .int wn, .ref re, .int pc, .int sta, .int dn, .int 1, .ref ro, .ref aa, .ref si, .ref so, .ref la, .int md, .int lq, .int tp, .int tr, .ref ip, .ref oq, .ref cp, .int ni, .int no])), (re, .inl (cI, 32, .inl (rg)))] := hD
      refine lv_aload_n hx hb d_Mo_set_20 rfl (lv_at hl 0 rfl) ?_
      refine zget hE hK hP 0 rfl fd_Mo_62 rfl d_Mo_set_21 ?_
      refine lv_if_le (tgt := 29) hx hb d_Mo_set_24 (by decide) (fun h5 => (show False by revert h5; decide).elim) (fun h5 => ?_)
      refine lv_iconst (v := 0) hx hb d_Mo_set_27 (by decide) ?_
      have hs : (sp_Mo_set k v rg) = (0, 1, rg) := by rw [sp_Mo_set, if_neg h1, if_neg h3]
      have hP9 := hP.sub (ws' := [(m0, .inr (3, [.ref mk, .ref mt, .int kd, .ref wo, .int wn, .ref re, .int pc, .int sta, .int dn, .int 1, .ref ro, .ref aa, .ref si, .ref so, .ref la, .int md, .int lq, .int tp, .int tr, .ref ip, .ref oq, .ref cp, .int ni, .int no])), (re, .inl (cI, 32, .inl (rg)))]) [0, 1] rfl
      have hD9 := hD.sub (ws' := [(m0, .inr (3, [.ref mk, .ref mt, .int kd, .ref wo, .int wn, .ref re, .int pc, .int sta, .int dn, .int 1, .ref ro, .ref aa, .ref si, .ref so, .ref la, .int md, .int lq, .int tp, .int tr, .ref ip, .ref oq, .ref cp, .int ni, .int no])), (re, .inl (cI, 32, .inl (rg)))]) [0, 1] rfl rfl
      exact zreti hx hb hr rfl hlocks hS () (by rw [hs]) rfl (by rw [hs]; exact hP9) (by rw [hs]; exact hD9) d_Mo_set_28

def sp_Mo_count (k : Int32) (wn : Int32) (dn : Int32) (md : Int32) (lq : Int32) (tr : Int32) (ni : Int32) (no : Int32) : Int32 × Int32 := if k < 0 then (0, 1) else if k ≤ 6 then
  if k = 0 then (wn, 0) else if k = 1 then (md, 0) else if k = 2 then (tr, 0) else if k = 3 then (lq, 0) else if k = 4 then (dn, 0) else if k = 5 then (no, 0) else (ni, 0)
else (0, 1)
set_option maxHeartbeats 4000000 in
theorem c_Mo_count (l : Launch) (D : va_G) (cI cB cJ : ClassId) (sz : Nat) (k : Int32) (m0 : Nat) (mk : Nat) (mt : Nat) (kd : Int32) (wo : Nat) (wn : Int32) (re : Nat) (pc : Int32) (sta : Int32) (dn : Int32) (th : Int32) (ro : Nat) (aa : Nat) (si : Nat) (so : Nat) (la : Nat) (md : Int32) (lq : Int32) (tp : Int32) (tr : Int32) (ip : Nat) (oq : Nat) (cp : Nat) (ni : Int32) (no : Int32) : zMet l y_Mo_count (zWs y_Mo_count b_Mo_count 2 (some .int)) { frames := 0, cells := 0, slots := 0, locals := 0 } (zPc D (zT cI cB cJ) sz [(m0, .inr (3, [.ref mk, .ref mt, .int kd, .ref wo, .int wn, .ref re, .int pc, .int sta, .int dn, .int th, .ref ro, .ref aa, .ref si, .ref so, .ref la, .int md, .int lq, .int tp, .int tr, .ref ip, .ref oq, .ref cp, .int ni, .int no]))] [.ref m0, .int k]) (zQi D (va_A [(m0, .inr (3, [.ref mk, .ref mt, .int kd, .ref wo, .int wn, .ref re, .int pc, .int sta, .int dn, .int th, .ref ro, .ref aa, .ref si, .ref so, .ref la, .int md, .int lq, .int tp, .int tr, .ref ip, .ref oq, .ref cp, .int ni, .int no]))] sz) (fun r (_ : Unit) => r = (sp_Mo_count k wn dn md lq tr ni no).1) (z0) (fun _ => [(m0, .inr (3, [.ref mk, .ref mt, .int kd, .ref wo, .int wn, .ref re, .int pc, .int sta, .int dn, .int ((sp_Mo_count k wn dn md lq tr ni no).2), .ref ro, .ref aa, .ref si, .ref so, .ref la, .int md, .int lq, .int tp, .int tr, .ref ip, .ref oq, .ref cp, .int ni, .int no]))])) (va_A [(m0, .inr (3, [.ref mk, .ref mt, .int kd, .ref wo, .int wn, .ref re, .int pc, .int sta, .int dn, .int th, .ref ro, .ref aa, .ref si, .ref so, .ref la, .int md, .int lq, .int tp, .int tr, .ref ip, .ref oq, .ref cp, .int ni, .int no]))] sz) := by
  refine zstart (Qc := fun A => zQi D A (fun r (_ : Unit) => r = (sp_Mo_count k wn dn md lq tr ni no).1) (z0) (fun _ => [(m0, .inr (3, [.ref mk, .ref mt, .int kd, .ref wo, .int wn, .ref re, .int pc, .int sta, .int dn, .int ((sp_Mo_count k wn dn md lq tr ni no).2), .ref ro, .ref aa, .ref si, .ref so, .ref la, .int md, .int lq, .int tp, .int tr, .ref ip, .ref oq, .ref cp, .int ni, .int no]))])) (by decide) (Nat.le_of_ble_eq_true rfl) ?_
  intro p e s m below meth c ls A hE hr hlocks hin hsz hK hP hD hS hA hAe hl
  have hx := hE.1
  have hb := hE.2.1
  have hown := hE.2.2.2.1
  have hw := hE.2.2.2.2
  have hl : lv_has ls 2 [(0, .ref m0), (1, .int k)] := hl
  refine lv_aload_n hx hb d_Mo_count_0 rfl (lv_at hl 0 rfl) ?_
  refine lv_iload_n hx hb d_Mo_count_1 rfl (lv_at hl 1 rfl) ?_
  refine lv_if_lt (tgt := 11) hx hb d_Mo_count_2 (by decide) (fun h1 => ?_) (fun h1 => ?_)
  · refine lv_iconst (v := 1) hx hb d_Mo_count_11 (by decide) ?_
    refine lv_goto (tgt := 16) hx hb d_Mo_count_12 (by decide) ?_
    refine zput (v := .int 1) hE hK hP hD hS 0 rfl fd_Mo_62 ft_Mo_9 rfl rfl (Nat.le_of_ble_eq_true rfl) d_Mo_count_16 (fun H locs hP hD hS => ?_)
    have hP : va_P D zC [(m0, .inr (3, [.ref mk, .ref mt, .int kd, .ref wo, .int wn, .ref re, .int pc, .int sta, .int dn, .int 1, .ref ro, .ref aa, .ref si, .ref so, .ref la, .int md, .int lq, .int tp, .int tr, .ref ip, .ref oq, .ref cp, .int ni, .int no]))] H := hP
    have hD : va_D A [(m0, .inr (3, [.ref mk, .ref mt, .int kd, .ref wo, .int wn, .ref re, .int pc, .int sta, .int dn, .int 1, .ref ro, .ref aa, .ref si, .ref so, .ref la, .int md, .int lq, .int tp, .int tr, .ref ip, .ref oq, .ref cp, .int ni, .int no]))] := hD
    refine lv_aload_n hx hb d_Mo_count_19 rfl (lv_at hl 0 rfl) ?_
    refine zget hE hK hP 0 rfl fd_Mo_62 rfl d_Mo_count_20 ?_
    refine lv_if_le (tgt := 28) hx hb d_Mo_count_23 (by decide) (fun h2 => (show False by revert h2; decide).elim) (fun h2 => ?_)
    refine lv_iconst (v := 0) hx hb d_Mo_count_26 (by decide) ?_
    have hs : (sp_Mo_count k wn dn md lq tr ni no) = (0, 1) := by rw [sp_Mo_count, if_pos h1]
    have hP9 := hP.sub (ws' := [(m0, .inr (3, [.ref mk, .ref mt, .int kd, .ref wo, .int wn, .ref re, .int pc, .int sta, .int dn, .int 1, .ref ro, .ref aa, .ref si, .ref so, .ref la, .int md, .int lq, .int tp, .int tr, .ref ip, .ref oq, .ref cp, .int ni, .int no]))]) [0] rfl
    have hD9 := hD.sub (ws' := [(m0, .inr (3, [.ref mk, .ref mt, .int kd, .ref wo, .int wn, .ref re, .int pc, .int sta, .int dn, .int 1, .ref ro, .ref aa, .ref si, .ref so, .ref la, .int md, .int lq, .int tp, .int tr, .ref ip, .ref oq, .ref cp, .int ni, .int no]))]) [0] rfl rfl
    exact zreti hx hb hr rfl hlocks hS () (by rw [hs]) rfl (by rw [hs]; exact hP9) (by rw [hs]; exact hD9) d_Mo_count_27
  · refine lv_iload_n hx hb d_Mo_count_5 rfl (lv_at hl 1 rfl) ?_
    refine lv_bipush (v := 6) hx hb d_Mo_count_6 (by decide) ?_
    refine lv_icmp_le (tgt := 15) hx hb d_Mo_count_8 (by decide) (fun h3 => ?_) (fun h3 => ?_)
    · refine lv_iconst (v := 0) hx hb d_Mo_count_15 (by decide) ?_
      refine zput (v := .int 0) hE hK hP hD hS 0 rfl fd_Mo_62 ft_Mo_9 rfl rfl (Nat.le_of_ble_eq_true rfl) d_Mo_count_16 (fun H locs hP hD hS => ?_)
      have hP : va_P D zC [(m0, .inr (3, [.ref mk, .ref mt, .int kd, .ref wo, .int wn, .ref re, .int pc, .int sta, .int dn, .int 0, .ref ro, .ref aa, .ref si, .ref so, .ref la, .int md, .int lq, .int tp, .int tr, .ref ip, .ref oq, .ref cp, .int ni, .int no]))] H := hP
      have hD : va_D A [(m0, .inr (3, [.ref mk, .ref mt, .int kd, .ref wo, .int wn, .ref re, .int pc, .int sta, .int dn, .int 0, .ref ro, .ref aa, .ref si, .ref so, .ref la, .int md, .int lq, .int tp, .int tr, .ref ip, .ref oq, .ref cp, .int ni, .int no]))] := hD
      refine lv_aload_n hx hb d_Mo_count_19 rfl (lv_at hl 0 rfl) ?_
      refine zget hE hK hP 0 rfl fd_Mo_62 rfl d_Mo_count_20 ?_
      refine lv_if_le (tgt := 28) hx hb d_Mo_count_23 (by decide) (fun h4 => ?_) (fun h4 => (show False by revert h4; decide).elim)
      refine lv_iload_n hx hb d_Mo_count_28 rfl (lv_at hl 1 rfl) ?_
      rcases Decidable.em (k = 0) with h5 | h5
      · refine lv_tableIn (tgt := 68) hx hb d_Mo_count_29 (by rw [h5]; decide) (by rw [h5]; decide) (by rw [h5]; rfl) (by decide) ?_
        refine lv_aload_n hx hb d_Mo_count_68 rfl (lv_at hl 0 rfl) ?_
        refine zget hE hK hP 0 rfl fd_Mo_107 rfl d_Mo_count_69 ?_
        have hs : (sp_Mo_count k wn dn md lq tr ni no) = (wn, 0) := by rw [sp_Mo_count, if_neg h1, if_pos h3, if_pos h5]
        have hP9 := hP.sub (ws' := [(m0, .inr (3, [.ref mk, .ref mt, .int kd, .ref wo, .int wn, .ref re, .int pc, .int sta, .int dn, .int 0, .ref ro, .ref aa, .ref si, .ref so, .ref la, .int md, .int lq, .int tp, .int tr, .ref ip, .ref oq, .ref cp, .int ni, .int no]))]) [0] rfl
        have hD9 := hD.sub (ws' := [(m0, .inr (3, [.ref mk, .ref mt, .int kd, .ref wo, .int wn, .ref re, .int pc, .int sta, .int dn, .int 0, .ref ro, .ref aa, .ref si, .ref so, .ref la, .int md, .int lq, .int tp, .int tr, .ref ip, .ref oq, .ref cp, .int ni, .int no]))]) [0] rfl rfl
        exact zreti hx hb hr rfl hlocks hS () (by rw [hs]) rfl (by rw [hs]; exact hP9) (by rw [hs]; exact hD9) d_Mo_count_72
      · rcases Decidable.em (k = 1) with h6 | h6
        · refine lv_tableIn (tgt := 73) hx hb d_Mo_count_29 (by rw [h6]; decide) (by rw [h6]; decide) (by rw [h6]; rfl) (by decide) ?_
          refine lv_aload_n hx hb d_Mo_count_73 rfl (lv_at hl 0 rfl) ?_
          refine zget hE hK hP 0 rfl fd_Mo_74 rfl d_Mo_count_74 ?_
          have hs : (sp_Mo_count k wn dn md lq tr ni no) = (md, 0) := by rw [sp_Mo_count, if_neg h1, if_pos h3, if_neg h5, if_pos h6]
          have hP9 := hP.sub (ws' := [(m0, .inr (3, [.ref mk, .ref mt, .int kd, .ref wo, .int wn, .ref re, .int pc, .int sta, .int dn, .int 0, .ref ro, .ref aa, .ref si, .ref so, .ref la, .int md, .int lq, .int tp, .int tr, .ref ip, .ref oq, .ref cp, .int ni, .int no]))]) [0] rfl
          have hD9 := hD.sub (ws' := [(m0, .inr (3, [.ref mk, .ref mt, .int kd, .ref wo, .int wn, .ref re, .int pc, .int sta, .int dn, .int 0, .ref ro, .ref aa, .ref si, .ref so, .ref la, .int md, .int lq, .int tp, .int tr, .ref ip, .ref oq, .ref cp, .int ni, .int no]))]) [0] rfl rfl
          exact zreti hx hb hr rfl hlocks hS () (by rw [hs]) rfl (by rw [hs]; exact hP9) (by rw [hs]; exact hD9) d_Mo_count_77
        · rcases Decidable.em (k = 2) with h7 | h7
          · refine lv_tableIn (tgt := 78) hx hb d_Mo_count_29 (by rw [h7]; decide) (by rw [h7]; decide) (by rw [h7]; rfl) (by decide) ?_
            refine lv_aload_n hx hb d_Mo_count_78 rfl (lv_at hl 0 rfl) ?_
            refine zget hE hK hP 0 rfl fd_Mo_77 rfl d_Mo_count_79 ?_
            have hs : (sp_Mo_count k wn dn md lq tr ni no) = (tr, 0) := by rw [sp_Mo_count, if_neg h1, if_pos h3, if_neg h5, if_neg h6, if_pos h7]
            have hP9 := hP.sub (ws' := [(m0, .inr (3, [.ref mk, .ref mt, .int kd, .ref wo, .int wn, .ref re, .int pc, .int sta, .int dn, .int 0, .ref ro, .ref aa, .ref si, .ref so, .ref la, .int md, .int lq, .int tp, .int tr, .ref ip, .ref oq, .ref cp, .int ni, .int no]))]) [0] rfl
            have hD9 := hD.sub (ws' := [(m0, .inr (3, [.ref mk, .ref mt, .int kd, .ref wo, .int wn, .ref re, .int pc, .int sta, .int dn, .int 0, .ref ro, .ref aa, .ref si, .ref so, .ref la, .int md, .int lq, .int tp, .int tr, .ref ip, .ref oq, .ref cp, .int ni, .int no]))]) [0] rfl rfl
            exact zreti hx hb hr rfl hlocks hS () (by rw [hs]) rfl (by rw [hs]; exact hP9) (by rw [hs]; exact hD9) d_Mo_count_82
          · rcases Decidable.em (k = 3) with h8 | h8
            · refine lv_tableIn (tgt := 83) hx hb d_Mo_count_29 (by rw [h8]; decide) (by rw [h8]; decide) (by rw [h8]; rfl) (by decide) ?_
              refine lv_aload_n hx hb d_Mo_count_83 rfl (lv_at hl 0 rfl) ?_
              refine zget hE hK hP 0 rfl fd_Mo_165 rfl d_Mo_count_84 ?_
              have hs : (sp_Mo_count k wn dn md lq tr ni no) = (lq, 0) := by rw [sp_Mo_count, if_neg h1, if_pos h3, if_neg h5, if_neg h6, if_neg h7, if_pos h8]
              have hP9 := hP.sub (ws' := [(m0, .inr (3, [.ref mk, .ref mt, .int kd, .ref wo, .int wn, .ref re, .int pc, .int sta, .int dn, .int 0, .ref ro, .ref aa, .ref si, .ref so, .ref la, .int md, .int lq, .int tp, .int tr, .ref ip, .ref oq, .ref cp, .int ni, .int no]))]) [0] rfl
              have hD9 := hD.sub (ws' := [(m0, .inr (3, [.ref mk, .ref mt, .int kd, .ref wo, .int wn, .ref re, .int pc, .int sta, .int dn, .int 0, .ref ro, .ref aa, .ref si, .ref so, .ref la, .int md, .int lq, .int tp, .int tr, .ref ip, .ref oq, .ref cp, .int ni, .int no]))]) [0] rfl rfl
              exact zreti hx hb hr rfl hlocks hS () (by rw [hs]) rfl (by rw [hs]; exact hP9) (by rw [hs]; exact hD9) d_Mo_count_87
            · rcases Decidable.em (k = 4) with h9 | h9
              · refine lv_tableIn (tgt := 88) hx hb d_Mo_count_29 (by rw [h9]; decide) (by rw [h9]; decide) (by rw [h9]; rfl) (by decide) ?_
                refine lv_aload_n hx hb d_Mo_count_88 rfl (lv_at hl 0 rfl) ?_
                refine zget hE hK hP 0 rfl fd_Mo_177 rfl d_Mo_count_89 ?_
                have hs : (sp_Mo_count k wn dn md lq tr ni no) = (dn, 0) := by rw [sp_Mo_count, if_neg h1, if_pos h3, if_neg h5, if_neg h6, if_neg h7, if_neg h8, if_pos h9]
                have hP9 := hP.sub (ws' := [(m0, .inr (3, [.ref mk, .ref mt, .int kd, .ref wo, .int wn, .ref re, .int pc, .int sta, .int dn, .int 0, .ref ro, .ref aa, .ref si, .ref so, .ref la, .int md, .int lq, .int tp, .int tr, .ref ip, .ref oq, .ref cp, .int ni, .int no]))]) [0] rfl
                have hD9 := hD.sub (ws' := [(m0, .inr (3, [.ref mk, .ref mt, .int kd, .ref wo, .int wn, .ref re, .int pc, .int sta, .int dn, .int 0, .ref ro, .ref aa, .ref si, .ref so, .ref la, .int md, .int lq, .int tp, .int tr, .ref ip, .ref oq, .ref cp, .int ni, .int no]))]) [0] rfl rfl
                exact zreti hx hb hr rfl hlocks hS () (by rw [hs]) rfl (by rw [hs]; exact hP9) (by rw [hs]; exact hD9) d_Mo_count_92
              · rcases Decidable.em (k = 5) with h10 | h10
                · refine lv_tableIn (tgt := 93) hx hb d_Mo_count_29 (by rw [h10]; decide) (by rw [h10]; decide) (by rw [h10]; rfl) (by decide) ?_
                  refine lv_aload_n hx hb d_Mo_count_93 rfl (lv_at hl 0 rfl) ?_
                  refine zget hE hK hP 0 rfl fd_Mo_171 rfl d_Mo_count_94 ?_
                  have hs : (sp_Mo_count k wn dn md lq tr ni no) = (no, 0) := by rw [sp_Mo_count, if_neg h1, if_pos h3, if_neg h5, if_neg h6, if_neg h7, if_neg h8, if_neg h9, if_pos h10]
                  have hP9 := hP.sub (ws' := [(m0, .inr (3, [.ref mk, .ref mt, .int kd, .ref wo, .int wn, .ref re, .int pc, .int sta, .int dn, .int 0, .ref ro, .ref aa, .ref si, .ref so, .ref la, .int md, .int lq, .int tp, .int tr, .ref ip, .ref oq, .ref cp, .int ni, .int no]))]) [0] rfl
                  have hD9 := hD.sub (ws' := [(m0, .inr (3, [.ref mk, .ref mt, .int kd, .ref wo, .int wn, .ref re, .int pc, .int sta, .int dn, .int 0, .ref ro, .ref aa, .ref si, .ref so, .ref la, .int md, .int lq, .int tp, .int tr, .ref ip, .ref oq, .ref cp, .int ni, .int no]))]) [0] rfl rfl
                  exact zreti hx hb hr rfl hlocks hS () (by rw [hs]) rfl (by rw [hs]; exact hP9) (by rw [hs]; exact hD9) d_Mo_count_97
                · refine lv_tableOut (tgt := 98) hx hb d_Mo_count_29 (by have q0 := z_ne h5 (n := 0) (by decide); have q1 := z_ne h6 (n := 1) (by decide); have q2 := z_ne h7 (n := 2) (by decide); have q3 := z_ne h8 (n := 3) (by decide); have q4 := z_ne h9 (n := 4) (by decide); have q5 := z_ne h10 (n := 5) (by decide); omega) (by decide) ?_
                  refine lv_aload_n hx hb d_Mo_count_98 rfl (lv_at hl 0 rfl) ?_
                  refine zget hE hK hP 0 rfl fd_Mo_174 rfl d_Mo_count_99 ?_
                  have hs : (sp_Mo_count k wn dn md lq tr ni no) = (ni, 0) := by rw [sp_Mo_count, if_neg h1, if_pos h3, if_neg h5, if_neg h6, if_neg h7, if_neg h8, if_neg h9, if_neg h10]
                  have hP9 := hP.sub (ws' := [(m0, .inr (3, [.ref mk, .ref mt, .int kd, .ref wo, .int wn, .ref re, .int pc, .int sta, .int dn, .int 0, .ref ro, .ref aa, .ref si, .ref so, .ref la, .int md, .int lq, .int tp, .int tr, .ref ip, .ref oq, .ref cp, .int ni, .int no]))]) [0] rfl
                  have hD9 := hD.sub (ws' := [(m0, .inr (3, [.ref mk, .ref mt, .int kd, .ref wo, .int wn, .ref re, .int pc, .int sta, .int dn, .int 0, .ref ro, .ref aa, .ref si, .ref so, .ref la, .int md, .int lq, .int tp, .int tr, .ref ip, .ref oq, .ref cp, .int ni, .int no]))]) [0] rfl rfl
                  exact zreti hx hb hr rfl hlocks hS () (by rw [hs]) rfl (by rw [hs]; exact hP9) (by rw [hs]; exact hD9) d_Mo_count_102
    · refine lv_iconst (v := 1) hx hb d_Mo_count_11 (by decide) ?_
      refine lv_goto (tgt := 16) hx hb d_Mo_count_12 (by decide) ?_
      refine zput (v := .int 1) hE hK hP hD hS 0 rfl fd_Mo_62 ft_Mo_9 rfl rfl (Nat.le_of_ble_eq_true rfl) d_Mo_count_16 (fun H locs hP hD hS => ?_)
      have hP : va_P D zC [(m0, .inr (3, [.ref mk, .ref mt, .int kd, .ref wo, .int wn, .ref re, .int pc, .int sta, .int dn, .int 1, .ref ro, .ref aa, .ref si, .ref so, .ref la, .int md, .int lq, .int tp, .int tr, .ref ip, .ref oq, .ref cp, .int ni, .int no]))] H := hP
      have hD : va_D A [(m0, .inr (3, [.ref mk, .ref mt, .int kd, .ref wo, .int wn, .ref re, .int pc, .int sta, .int dn, .int 1, .ref ro, .ref aa, .ref si, .ref so, .ref la, .int md, .int lq, .int tp, .int tr, .ref ip, .ref oq, .ref cp, .int ni, .int no]))] := hD
      refine lv_aload_n hx hb d_Mo_count_19 rfl (lv_at hl 0 rfl) ?_
      refine zget hE hK hP 0 rfl fd_Mo_62 rfl d_Mo_count_20 ?_
      refine lv_if_le (tgt := 28) hx hb d_Mo_count_23 (by decide) (fun h11 => (show False by revert h11; decide).elim) (fun h11 => ?_)
      refine lv_iconst (v := 0) hx hb d_Mo_count_26 (by decide) ?_
      have hs : (sp_Mo_count k wn dn md lq tr ni no) = (0, 1) := by rw [sp_Mo_count, if_neg h1, if_neg h3]
      have hP9 := hP.sub (ws' := [(m0, .inr (3, [.ref mk, .ref mt, .int kd, .ref wo, .int wn, .ref re, .int pc, .int sta, .int dn, .int 1, .ref ro, .ref aa, .ref si, .ref so, .ref la, .int md, .int lq, .int tp, .int tr, .ref ip, .ref oq, .ref cp, .int ni, .int no]))]) [0] rfl
      have hD9 := hD.sub (ws' := [(m0, .inr (3, [.ref mk, .ref mt, .int kd, .ref wo, .int wn, .ref re, .int pc, .int sta, .int dn, .int 1, .ref ro, .ref aa, .ref si, .ref so, .ref la, .int md, .int lq, .int tp, .int tr, .ref ip, .ref oq, .ref cp, .int ni, .int no]))]) [0] rfl rfl
      exact zreti hx hb hr rfl hlocks hS () (by rw [hs]) rfl (by rw [hs]; exact hP9) (by rw [hs]; exact hD9) d_Mo_count_27

def sp_Mo_word (w : Int32) (wn : Int32) (wf : Nat → Int32) : Int32 × Int32 × Int32 × (Nat → Int32) := if wn = 4000 then (0, 1, wn, wf) else (wn + 1, 0, wn + 1, upd wf wn.toNatClampNeg w)
set_option maxHeartbeats 4000000 in
theorem c_Mo_word (l : Launch) (D : va_G) (cI cB cJ : ClassId) (sz : Nat) (w : Int32) (m0 : Nat) (mk : Nat) (mt : Nat) (kd : Int32) (wo : Nat) (wn : Int32) (re : Nat) (pc : Int32) (sta : Int32) (dn : Int32) (th : Int32) (ro : Nat) (aa : Nat) (si : Nat) (so : Nat) (la : Nat) (md : Int32) (lq : Int32) (tp : Int32) (tr : Int32) (ip : Nat) (oq : Nat) (cp : Nat) (ni : Int32) (no : Int32) (wf : Nat → Int32) (hwn : 0 ≤ wn.toInt ∧ wn.toInt ≤ 4000) : zMet l y_Mo_word (zWs y_Mo_word b_Mo_word 2 (some .int)) { frames := 0, cells := 0, slots := 0, locals := 0 } (zPc D (zT cI cB cJ) sz [(m0, .inr (3, [.ref mk, .ref mt, .int kd, .ref wo, .int wn, .ref re, .int pc, .int sta, .int dn, .int th, .ref ro, .ref aa, .ref si, .ref so, .ref la, .int md, .int lq, .int tp, .int tr, .ref ip, .ref oq, .ref cp, .int ni, .int no])), (wo, .inl (cI, 4000, .inl (wf)))] [.ref m0, .int w]) (zQi D (va_A [(m0, .inr (3, [.ref mk, .ref mt, .int kd, .ref wo, .int wn, .ref re, .int pc, .int sta, .int dn, .int th, .ref ro, .ref aa, .ref si, .ref so, .ref la, .int md, .int lq, .int tp, .int tr, .ref ip, .ref oq, .ref cp, .int ni, .int no])), (wo, .inl (cI, 4000, .inl (wf)))] sz) (fun r (_ : Unit) => r = (sp_Mo_word w wn wf).1) (z0) (fun _ => [(m0, .inr (3, [.ref mk, .ref mt, .int kd, .ref wo, .int ((sp_Mo_word w wn wf).2.2.1), .ref re, .int pc, .int sta, .int dn, .int ((sp_Mo_word w wn wf).2.1), .ref ro, .ref aa, .ref si, .ref so, .ref la, .int md, .int lq, .int tp, .int tr, .ref ip, .ref oq, .ref cp, .int ni, .int no])), (wo, .inl (cI, 4000, .inl ((sp_Mo_word w wn wf).2.2.2)))])) (va_A [(m0, .inr (3, [.ref mk, .ref mt, .int kd, .ref wo, .int wn, .ref re, .int pc, .int sta, .int dn, .int th, .ref ro, .ref aa, .ref si, .ref so, .ref la, .int md, .int lq, .int tp, .int tr, .ref ip, .ref oq, .ref cp, .int ni, .int no])), (wo, .inl (cI, 4000, .inl (wf)))] sz) := by
  refine zstart (Qc := fun A => zQi D A (fun r (_ : Unit) => r = (sp_Mo_word w wn wf).1) (z0) (fun _ => [(m0, .inr (3, [.ref mk, .ref mt, .int kd, .ref wo, .int ((sp_Mo_word w wn wf).2.2.1), .ref re, .int pc, .int sta, .int dn, .int ((sp_Mo_word w wn wf).2.1), .ref ro, .ref aa, .ref si, .ref so, .ref la, .int md, .int lq, .int tp, .int tr, .ref ip, .ref oq, .ref cp, .int ni, .int no])), (wo, .inl (cI, 4000, .inl ((sp_Mo_word w wn wf).2.2.2)))])) (by decide) (Nat.le_of_ble_eq_true rfl) ?_
  intro p e s m below meth c ls A hE hr hlocks hin hsz hK hP hD hS hA hAe hl
  have hx := hE.1
  have hb := hE.2.1
  have hown := hE.2.2.2.1
  have hw := hE.2.2.2.2
  have hl : lv_has ls 2 [(0, .ref m0), (1, .int w)] := hl
  refine lv_aload_n hx hb d_Mo_word_0 rfl (lv_at hl 0 rfl) ?_
  refine lv_aload_n hx hb d_Mo_word_1 rfl (lv_at hl 0 rfl) ?_
  refine zget hE hK hP 0 rfl fd_Mo_107 rfl d_Mo_word_2 ?_
  refine lv_sipush (v := 4000) hx hb d_Mo_word_5 (by decide) ?_
  refine lv_icmp_ne (tgt := 15) hx hb d_Mo_word_8 (by decide) (fun h1 => ?_) (fun h1 => ?_)
  · refine lv_iconst (v := 0) hx hb d_Mo_word_15 (by decide) ?_
    refine zput (v := .int 0) hE hK hP hD hS 0 rfl fd_Mo_62 ft_Mo_9 rfl rfl (Nat.le_of_ble_eq_true rfl) d_Mo_word_16 (fun H locs hP hD hS => ?_)
    have hP : va_P D zC [(m0, .inr (3, [.ref mk, .ref mt, .int kd, .ref wo, .int wn, .ref re, .int pc, .int sta, .int dn, .int 0, .ref ro, .ref aa, .ref si, .ref so, .ref la, .int md, .int lq, .int tp, .int tr, .ref ip, .ref oq, .ref cp, .int ni, .int no])), (wo, .inl (cI, 4000, .inl (wf)))] H := hP
    have hD : va_D A [(m0, .inr (3, [.ref mk, .ref mt, .int kd, .ref wo, .int wn, .ref re, .int pc, .int sta, .int dn, .int 0, .ref ro, .ref aa, .ref si, .ref so, .ref la, .int md, .int lq, .int tp, .int tr, .ref ip, .ref oq, .ref cp, .int ni, .int no])), (wo, .inl (cI, 4000, .inl (wf)))] := hD
    refine lv_aload_n hx hb d_Mo_word_19 rfl (lv_at hl 0 rfl) ?_
    refine zget hE hK hP 0 rfl fd_Mo_62 rfl d_Mo_word_20 ?_
    refine lv_if_le (tgt := 28) hx hb d_Mo_word_23 (by decide) (fun h2 => ?_) (fun h2 => (show False by revert h2; decide).elim)
    refine lv_aload_n hx hb d_Mo_word_28 rfl (lv_at hl 0 rfl) ?_
    refine zget hE hK hP 0 rfl fd_Mo_16 rfl d_Mo_word_29 ?_
    refine lv_aload_n hx hb d_Mo_word_32 rfl (lv_at hl 0 rfl) ?_
    refine zget hE hK hP 0 rfl fd_Mo_107 rfl d_Mo_word_33 ?_
    refine lv_iload_n hx hb d_Mo_word_36 rfl (lv_at hl 1 rfl) ?_
    refine va_iast hx hb hK hP hD hS 1 0 rfl rfl (z_in (by have q1 := z_neq h1; have k4000 : ((4000) : Int32).toInt = 4000 := (by decide); omega)) d_Mo_word_37 (fun H locs hP hD hS => ?_)
    have hP : va_P D zC [(m0, .inr (3, [.ref mk, .ref mt, .int kd, .ref wo, .int wn, .ref re, .int pc, .int sta, .int dn, .int 0, .ref ro, .ref aa, .ref si, .ref so, .ref la, .int md, .int lq, .int tp, .int tr, .ref ip, .ref oq, .ref cp, .int ni, .int no])), (wo, .inl (cI, 4000, .inl (upd wf wn.toNatClampNeg w)))] H := hP
    have hD : va_D A [(m0, .inr (3, [.ref mk, .ref mt, .int kd, .ref wo, .int wn, .ref re, .int pc, .int sta, .int dn, .int 0, .ref ro, .ref aa, .ref si, .ref so, .ref la, .int md, .int lq, .int tp, .int tr, .ref ip, .ref oq, .ref cp, .int ni, .int no])), (wo, .inl (cI, 4000, .inl (upd wf wn.toNatClampNeg w)))] := hD
    refine lv_aload_n hx hb d_Mo_word_38 rfl (lv_at hl 0 rfl) ?_
    refine lv_dup hx hb d_Mo_word_39 rfl ?_
    refine zget hE hK hP 0 rfl fd_Mo_107 rfl d_Mo_word_40 ?_
    refine lv_iconst (v := 1) hx hb d_Mo_word_43 (by decide) ?_
    refine lv_iadd hx hb d_Mo_word_44 ?_
    refine zput (v := .int (wn + 1)) hE hK hP hD hS 0 rfl fd_Mo_107 ft_Mo_4 rfl rfl (Nat.le_of_ble_eq_true rfl) d_Mo_word_45 (fun H locs hP hD hS => ?_)
    have hP : va_P D zC [(m0, .inr (3, [.ref mk, .ref mt, .int kd, .ref wo, .int (wn + 1), .ref re, .int pc, .int sta, .int dn, .int 0, .ref ro, .ref aa, .ref si, .ref so, .ref la, .int md, .int lq, .int tp, .int tr, .ref ip, .ref oq, .ref cp, .int ni, .int no])), (wo, .inl (cI, 4000, .inl (upd wf wn.toNatClampNeg w)))] H := hP
    have hD : va_D A [(m0, .inr (3, [.ref mk, .ref mt, .int kd, .ref wo, .int (wn + 1), .ref re, .int pc, .int sta, .int dn, .int 0, .ref ro, .ref aa, .ref si, .ref so, .ref la, .int md, .int lq, .int tp, .int tr, .ref ip, .ref oq, .ref cp, .int ni, .int no])), (wo, .inl (cI, 4000, .inl (upd wf wn.toNatClampNeg w)))] := hD
    refine lv_aload_n hx hb d_Mo_word_48 rfl (lv_at hl 0 rfl) ?_
    refine zget hE hK hP 0 rfl fd_Mo_107 rfl d_Mo_word_49 ?_
    have hs : (sp_Mo_word w wn wf) = (wn + 1, 0, wn + 1, upd wf wn.toNatClampNeg w) := by rw [sp_Mo_word, if_neg h1]
    have hP9 := hP.sub (ws' := [(m0, .inr (3, [.ref mk, .ref mt, .int kd, .ref wo, .int (wn + 1), .ref re, .int pc, .int sta, .int dn, .int 0, .ref ro, .ref aa, .ref si, .ref so, .ref la, .int md, .int lq, .int tp, .int tr, .ref ip, .ref oq, .ref cp, .int ni, .int no])), (wo, .inl (cI, 4000, .inl (upd wf wn.toNatClampNeg w)))]) [0, 1] rfl
    have hD9 := hD.sub (ws' := [(m0, .inr (3, [.ref mk, .ref mt, .int kd, .ref wo, .int (wn + 1), .ref re, .int pc, .int sta, .int dn, .int 0, .ref ro, .ref aa, .ref si, .ref so, .ref la, .int md, .int lq, .int tp, .int tr, .ref ip, .ref oq, .ref cp, .int ni, .int no])), (wo, .inl (cI, 4000, .inl (upd wf wn.toNatClampNeg w)))]) [0, 1] rfl rfl
    exact zreti hx hb hr rfl hlocks hS () (by rw [hs]) rfl (by rw [hs]; exact hP9) (by rw [hs]; exact hD9) d_Mo_word_52
  · refine lv_iconst (v := 1) hx hb d_Mo_word_11 (by decide) ?_
    refine lv_goto (tgt := 16) hx hb d_Mo_word_12 (by decide) ?_
    refine zput (v := .int 1) hE hK hP hD hS 0 rfl fd_Mo_62 ft_Mo_9 rfl rfl (Nat.le_of_ble_eq_true rfl) d_Mo_word_16 (fun H locs hP hD hS => ?_)
    have hP : va_P D zC [(m0, .inr (3, [.ref mk, .ref mt, .int kd, .ref wo, .int wn, .ref re, .int pc, .int sta, .int dn, .int 1, .ref ro, .ref aa, .ref si, .ref so, .ref la, .int md, .int lq, .int tp, .int tr, .ref ip, .ref oq, .ref cp, .int ni, .int no])), (wo, .inl (cI, 4000, .inl (wf)))] H := hP
    have hD : va_D A [(m0, .inr (3, [.ref mk, .ref mt, .int kd, .ref wo, .int wn, .ref re, .int pc, .int sta, .int dn, .int 1, .ref ro, .ref aa, .ref si, .ref so, .ref la, .int md, .int lq, .int tp, .int tr, .ref ip, .ref oq, .ref cp, .int ni, .int no])), (wo, .inl (cI, 4000, .inl (wf)))] := hD
    refine lv_aload_n hx hb d_Mo_word_19 rfl (lv_at hl 0 rfl) ?_
    refine zget hE hK hP 0 rfl fd_Mo_62 rfl d_Mo_word_20 ?_
    refine lv_if_le (tgt := 28) hx hb d_Mo_word_23 (by decide) (fun h3 => (show False by revert h3; decide).elim) (fun h3 => ?_)
    refine lv_iconst (v := 0) hx hb d_Mo_word_26 (by decide) ?_
    have hs : (sp_Mo_word w wn wf) = (0, 1, wn, wf) := by rw [sp_Mo_word, if_pos h1]
    have hP9 := hP.sub (ws' := [(m0, .inr (3, [.ref mk, .ref mt, .int kd, .ref wo, .int wn, .ref re, .int pc, .int sta, .int dn, .int 1, .ref ro, .ref aa, .ref si, .ref so, .ref la, .int md, .int lq, .int tp, .int tr, .ref ip, .ref oq, .ref cp, .int ni, .int no])), (wo, .inl (cI, 4000, .inl (wf)))]) [0, 1] rfl
    have hD9 := hD.sub (ws' := [(m0, .inr (3, [.ref mk, .ref mt, .int kd, .ref wo, .int wn, .ref re, .int pc, .int sta, .int dn, .int 1, .ref ro, .ref aa, .ref si, .ref so, .ref la, .int md, .int lq, .int tp, .int tr, .ref ip, .ref oq, .ref cp, .int ni, .int no])), (wo, .inl (cI, 4000, .inl (wf)))]) [0, 1] rfl rfl
    exact zreti hx hb hr rfl hlocks hS () (by rw [hs]) rfl (by rw [hs]; exact hP9) (by rw [hs]; exact hD9) d_Mo_word_27

def sp_Mo_place (ad : Int32) (n : Int32) (md : Int32) (af : Nat → Int32) (zf : Nat → Int32) (of : Nat → Int32) : Int32 := if (zushr ad 16) = 0 then (-1) else if md < (zushr ad 16) then (-1) else if (of (zushr ad 16).toNatClampNeg) = 0 then (-1) else if (zf (zushr ad 16).toNatClampNeg) < ((ad &&& 65535) + n) then (-1) else if (((ad &&& 65535) / n) * n) = (ad &&& 65535) then (af (zushr ad 16).toNatClampNeg) + (ad &&& 65535) else (-1)
set_option maxHeartbeats 4000000 in
theorem c_Mo_place (l : Launch) (D : va_G) (cI cB cJ : ClassId) (sz : Nat) (ad : Int32) (n : Int32) (m0 : Nat) (mk : Nat) (mt : Nat) (kd : Int32) (wo : Nat) (wn : Int32) (re : Nat) (pc : Int32) (sta : Int32) (dn : Int32) (th : Int32) (ro : Nat) (aa : Nat) (si : Nat) (so : Nat) (la : Nat) (md : Int32) (lq : Int32) (tp : Int32) (tr : Int32) (ip : Nat) (oq : Nat) (cp : Nat) (ni : Int32) (no : Int32) (af : Nat → Int32) (zf : Nat → Int32) (of : Nat → Int32) (hmd : 0 ≤ md.toInt ∧ md.toInt ≤ 8000) (hn0 : ¬ n = 0) : zMet l y_Mo_place (zWs y_Mo_place b_Mo_place 5 (some .int)) { frames := 0, cells := 0, slots := 0, locals := 0 } (zPc D (zT cI cB cJ) sz [(m0, .inr (3, [.ref mk, .ref mt, .int kd, .ref wo, .int wn, .ref re, .int pc, .int sta, .int dn, .int th, .ref ro, .ref aa, .ref si, .ref so, .ref la, .int md, .int lq, .int tp, .int tr, .ref ip, .ref oq, .ref cp, .int ni, .int no])), (aa, .inl (cI, 8001, .inl (af))), (si, .inl (cI, 8001, .inl (zf))), (so, .inl (cI, 8001, .inl (of)))] [.ref m0, .int ad, .int n]) (zQi D (va_A [(m0, .inr (3, [.ref mk, .ref mt, .int kd, .ref wo, .int wn, .ref re, .int pc, .int sta, .int dn, .int th, .ref ro, .ref aa, .ref si, .ref so, .ref la, .int md, .int lq, .int tp, .int tr, .ref ip, .ref oq, .ref cp, .int ni, .int no])), (aa, .inl (cI, 8001, .inl (af))), (si, .inl (cI, 8001, .inl (zf))), (so, .inl (cI, 8001, .inl (of)))] sz) (fun r (_ : Unit) => r = (sp_Mo_place ad n md af zf of)) (z0) (fun _ => [(m0, .inr (3, [.ref mk, .ref mt, .int kd, .ref wo, .int wn, .ref re, .int pc, .int sta, .int dn, .int th, .ref ro, .ref aa, .ref si, .ref so, .ref la, .int md, .int lq, .int tp, .int tr, .ref ip, .ref oq, .ref cp, .int ni, .int no])), (aa, .inl (cI, 8001, .inl (af))), (si, .inl (cI, 8001, .inl (zf))), (so, .inl (cI, 8001, .inl (of)))])) (va_A [(m0, .inr (3, [.ref mk, .ref mt, .int kd, .ref wo, .int wn, .ref re, .int pc, .int sta, .int dn, .int th, .ref ro, .ref aa, .ref si, .ref so, .ref la, .int md, .int lq, .int tp, .int tr, .ref ip, .ref oq, .ref cp, .int ni, .int no])), (aa, .inl (cI, 8001, .inl (af))), (si, .inl (cI, 8001, .inl (zf))), (so, .inl (cI, 8001, .inl (of)))] sz) := by
  refine zstart (Qc := fun A => zQi D A (fun r (_ : Unit) => r = (sp_Mo_place ad n md af zf of)) (z0) (fun _ => [(m0, .inr (3, [.ref mk, .ref mt, .int kd, .ref wo, .int wn, .ref re, .int pc, .int sta, .int dn, .int th, .ref ro, .ref aa, .ref si, .ref so, .ref la, .int md, .int lq, .int tp, .int tr, .ref ip, .ref oq, .ref cp, .int ni, .int no])), (aa, .inl (cI, 8001, .inl (af))), (si, .inl (cI, 8001, .inl (zf))), (so, .inl (cI, 8001, .inl (of)))])) (by decide) (Nat.le_of_ble_eq_true rfl) ?_
  intro p e s m below meth c ls A hE hr hlocks hin hsz hK hP hD hS hA hAe hl
  have hx := hE.1
  have hb := hE.2.1
  have hown := hE.2.2.2.1
  have hw := hE.2.2.2.2
  have hl : lv_has ls 5 [(0, .ref m0), (1, .int ad), (2, .int n)] := hl
  refine lv_iload_n hx hb d_Mo_place_0 rfl (lv_at hl 1 rfl) ?_
  refine lv_bipush (v := 16) hx hb d_Mo_place_1 (by decide) ?_
  refine lv_iushr (v := zushr ad 16) hx hb d_Mo_place_3 rfl ?_
  refine lv_istore_n (lv' := [(3, .int (zushr ad 16)), (0, .ref m0), (1, .int ad), (2, .int n)]) hx hb d_Mo_place_4 rfl hl (by decide) rfl (fun ls hl => ?_)
  refine lv_iload_n hx hb d_Mo_place_5 rfl (lv_at hl 2 rfl) ?_
  refine lv_ldc (v := 65535) hx hb hown (hw _ kc_Mo_73) d_Mo_place_6 ?_
  refine lv_iand hx hb d_Mo_place_8 ?_
  refine lv_istore (lv' := [(4, .int (ad &&& 65535)), (3, .int (zushr ad 16)), (0, .ref m0), (1, .int ad), (2, .int n)]) hx hb d_Mo_place_9 hl (by decide) rfl (fun ls hl => ?_)
  refine lv_iload_n hx hb d_Mo_place_11 rfl (lv_at hl 1 rfl) ?_
  refine lv_if_eq (tgt := 56) hx hb d_Mo_place_12 (by decide) (fun h1 => ?_) (fun h1 => ?_)
  · refine lv_iconst (v := (-1)) hx hb d_Mo_place_56 (by decide) ?_
    have hs : (sp_Mo_place ad n md af zf of) = (-1) := by rw [sp_Mo_place, if_pos h1]
    have hP9 := hP.sub (ws' := [(m0, .inr (3, [.ref mk, .ref mt, .int kd, .ref wo, .int wn, .ref re, .int pc, .int sta, .int dn, .int th, .ref ro, .ref aa, .ref si, .ref so, .ref la, .int md, .int lq, .int tp, .int tr, .ref ip, .ref oq, .ref cp, .int ni, .int no])), (aa, .inl (cI, 8001, .inl (af))), (si, .inl (cI, 8001, .inl (zf))), (so, .inl (cI, 8001, .inl (of)))]) [0, 1, 2, 3] rfl
    have hD9 := hD.sub (ws' := [(m0, .inr (3, [.ref mk, .ref mt, .int kd, .ref wo, .int wn, .ref re, .int pc, .int sta, .int dn, .int th, .ref ro, .ref aa, .ref si, .ref so, .ref la, .int md, .int lq, .int tp, .int tr, .ref ip, .ref oq, .ref cp, .int ni, .int no])), (aa, .inl (cI, 8001, .inl (af))), (si, .inl (cI, 8001, .inl (zf))), (so, .inl (cI, 8001, .inl (of)))]) [0, 1, 2, 3] rfl rfl
    exact zreti hx hb hr rfl hlocks hS () (by rw [hs]) rfl (by exact hP9) (by exact hD9) d_Mo_place_57
  · refine lv_iload_n hx hb d_Mo_place_15 rfl (lv_at hl 1 rfl) ?_
    refine lv_aload_n hx hb d_Mo_place_16 rfl (lv_at hl 2 rfl) ?_
    refine zget hE hK hP 0 rfl fd_Mo_74 rfl d_Mo_place_17 ?_
    refine lv_icmp_gt (tgt := 56) hx hb d_Mo_place_20 (by decide) (fun h2 => ?_) (fun h2 => ?_)
    · refine lv_iconst (v := (-1)) hx hb d_Mo_place_56 (by decide) ?_
      have hs : (sp_Mo_place ad n md af zf of) = (-1) := by rw [sp_Mo_place, if_neg h1, if_pos h2]
      have hP9 := hP.sub (ws' := [(m0, .inr (3, [.ref mk, .ref mt, .int kd, .ref wo, .int wn, .ref re, .int pc, .int sta, .int dn, .int th, .ref ro, .ref aa, .ref si, .ref so, .ref la, .int md, .int lq, .int tp, .int tr, .ref ip, .ref oq, .ref cp, .int ni, .int no])), (aa, .inl (cI, 8001, .inl (af))), (si, .inl (cI, 8001, .inl (zf))), (so, .inl (cI, 8001, .inl (of)))]) [0, 1, 2, 3] rfl
      have hD9 := hD.sub (ws' := [(m0, .inr (3, [.ref mk, .ref mt, .int kd, .ref wo, .int wn, .ref re, .int pc, .int sta, .int dn, .int th, .ref ro, .ref aa, .ref si, .ref so, .ref la, .int md, .int lq, .int tp, .int tr, .ref ip, .ref oq, .ref cp, .int ni, .int no])), (aa, .inl (cI, 8001, .inl (af))), (si, .inl (cI, 8001, .inl (zf))), (so, .inl (cI, 8001, .inl (of)))]) [0, 1, 2, 3] rfl rfl
      exact zreti hx hb hr rfl hlocks hS () (by rw [hs]) rfl (by exact hP9) (by exact hD9) d_Mo_place_57
    · refine lv_aload_n hx hb d_Mo_place_23 rfl (lv_at hl 2 rfl) ?_
      refine zget hE hK hP 0 rfl fd_Mo_33 rfl d_Mo_place_24 ?_
      refine lv_iload_n hx hb d_Mo_place_27 rfl (lv_at hl 1 rfl) ?_
      refine va_iald hx hb hK hP 3 0 rfl rfl (z_in (by have q1 := z_neq h1; have q2 := z_nlt h2; have k0 : ((0) : Int32).toInt = 0 := (by decide); have us := zus16 ad; omega)) d_Mo_place_28 ?_
      refine lv_if_eq (tgt := 56) hx hb d_Mo_place_29 (by decide) (fun h3 => ?_) (fun h3 => ?_)
      · refine lv_iconst (v := (-1)) hx hb d_Mo_place_56 (by decide) ?_
        have hs : (sp_Mo_place ad n md af zf of) = (-1) := by rw [sp_Mo_place, if_neg h1, if_neg h2, if_pos h3]
        have hP9 := hP.sub (ws' := [(m0, .inr (3, [.ref mk, .ref mt, .int kd, .ref wo, .int wn, .ref re, .int pc, .int sta, .int dn, .int th, .ref ro, .ref aa, .ref si, .ref so, .ref la, .int md, .int lq, .int tp, .int tr, .ref ip, .ref oq, .ref cp, .int ni, .int no])), (aa, .inl (cI, 8001, .inl (af))), (si, .inl (cI, 8001, .inl (zf))), (so, .inl (cI, 8001, .inl (of)))]) [0, 1, 2, 3] rfl
        have hD9 := hD.sub (ws' := [(m0, .inr (3, [.ref mk, .ref mt, .int kd, .ref wo, .int wn, .ref re, .int pc, .int sta, .int dn, .int th, .ref ro, .ref aa, .ref si, .ref so, .ref la, .int md, .int lq, .int tp, .int tr, .ref ip, .ref oq, .ref cp, .int ni, .int no])), (aa, .inl (cI, 8001, .inl (af))), (si, .inl (cI, 8001, .inl (zf))), (so, .inl (cI, 8001, .inl (of)))]) [0, 1, 2, 3] rfl rfl
        exact zreti hx hb hr rfl hlocks hS () (by rw [hs]) rfl (by exact hP9) (by exact hD9) d_Mo_place_57
      · refine lv_iload hx hb d_Mo_place_32 (lv_at hl 0 rfl) ?_
        refine lv_iload_n hx hb d_Mo_place_34 rfl (lv_at hl 4 rfl) ?_
        refine lv_iadd hx hb d_Mo_place_35 ?_
        refine lv_aload_n hx hb d_Mo_place_36 rfl (lv_at hl 2 rfl) ?_
        refine zget hE hK hP 0 rfl fd_Mo_30 rfl d_Mo_place_37 ?_
        refine lv_iload_n hx hb d_Mo_place_40 rfl (lv_at hl 1 rfl) ?_
        refine va_iald hx hb hK hP 2 0 rfl rfl (z_in (by have q1 := z_neq h1; have q2 := z_nlt h2; have q3 := z_neq h3; have k0 : ((0) : Int32).toInt = 0 := (by decide); have us := zus16 ad; omega)) d_Mo_place_41 ?_
        refine lv_icmp_gt (tgt := 56) hx hb d_Mo_place_42 (by decide) (fun h4 => ?_) (fun h4 => ?_)
        · refine lv_iconst (v := (-1)) hx hb d_Mo_place_56 (by decide) ?_
          have hs : (sp_Mo_place ad n md af zf of) = (-1) := by rw [sp_Mo_place, if_neg h1, if_neg h2, if_neg h3, if_pos h4]
          have hP9 := hP.sub (ws' := [(m0, .inr (3, [.ref mk, .ref mt, .int kd, .ref wo, .int wn, .ref re, .int pc, .int sta, .int dn, .int th, .ref ro, .ref aa, .ref si, .ref so, .ref la, .int md, .int lq, .int tp, .int tr, .ref ip, .ref oq, .ref cp, .int ni, .int no])), (aa, .inl (cI, 8001, .inl (af))), (si, .inl (cI, 8001, .inl (zf))), (so, .inl (cI, 8001, .inl (of)))]) [0, 1, 2, 3] rfl
          have hD9 := hD.sub (ws' := [(m0, .inr (3, [.ref mk, .ref mt, .int kd, .ref wo, .int wn, .ref re, .int pc, .int sta, .int dn, .int th, .ref ro, .ref aa, .ref si, .ref so, .ref la, .int md, .int lq, .int tp, .int tr, .ref ip, .ref oq, .ref cp, .int ni, .int no])), (aa, .inl (cI, 8001, .inl (af))), (si, .inl (cI, 8001, .inl (zf))), (so, .inl (cI, 8001, .inl (of)))]) [0, 1, 2, 3] rfl rfl
          exact zreti hx hb hr rfl hlocks hS () (by rw [hs]) rfl (by exact hP9) (by exact hD9) d_Mo_place_57
        · refine lv_iload hx hb d_Mo_place_45 (lv_at hl 0 rfl) ?_
          refine lv_iload_n hx hb d_Mo_place_47 rfl (lv_at hl 4 rfl) ?_
          refine lv_idiv hx hb d_Mo_place_48 hn0 ?_
          refine lv_iload_n hx hb d_Mo_place_49 rfl (lv_at hl 4 rfl) ?_
          refine lv_imul hx hb d_Mo_place_50 ?_
          refine lv_iload hx hb d_Mo_place_51 (lv_at hl 0 rfl) ?_
          refine lv_icmp_eq (tgt := 58) hx hb d_Mo_place_53 (by decide) (fun h5 => ?_) (fun h5 => ?_)
          · refine lv_aload_n hx hb d_Mo_place_58 rfl (lv_at hl 2 rfl) ?_
            refine zget hE hK hP 0 rfl fd_Mo_27 rfl d_Mo_place_59 ?_
            refine lv_iload_n hx hb d_Mo_place_62 rfl (lv_at hl 1 rfl) ?_
            refine va_iald hx hb hK hP 1 0 rfl rfl (z_in (by have q1 := z_neq h1; have q2 := z_nlt h2; have q3 := z_neq h3; have q4 := z_nlt h4; have q5 := z_eq h5; have k0 : ((0) : Int32).toInt = 0 := (by decide); have us := zus16 ad; omega)) d_Mo_place_63 ?_
            refine lv_iload hx hb d_Mo_place_64 (lv_at hl 0 rfl) ?_
            refine lv_iadd hx hb d_Mo_place_66 ?_
            have hs : (sp_Mo_place ad n md af zf of) = (af (zushr ad 16).toNatClampNeg) + (ad &&& 65535) := by rw [sp_Mo_place, if_neg h1, if_neg h2, if_neg h3, if_neg h4, if_pos h5]
            have hP9 := hP.sub (ws' := [(m0, .inr (3, [.ref mk, .ref mt, .int kd, .ref wo, .int wn, .ref re, .int pc, .int sta, .int dn, .int th, .ref ro, .ref aa, .ref si, .ref so, .ref la, .int md, .int lq, .int tp, .int tr, .ref ip, .ref oq, .ref cp, .int ni, .int no])), (aa, .inl (cI, 8001, .inl (af))), (si, .inl (cI, 8001, .inl (zf))), (so, .inl (cI, 8001, .inl (of)))]) [0, 1, 2, 3] rfl
            have hD9 := hD.sub (ws' := [(m0, .inr (3, [.ref mk, .ref mt, .int kd, .ref wo, .int wn, .ref re, .int pc, .int sta, .int dn, .int th, .ref ro, .ref aa, .ref si, .ref so, .ref la, .int md, .int lq, .int tp, .int tr, .ref ip, .ref oq, .ref cp, .int ni, .int no])), (aa, .inl (cI, 8001, .inl (af))), (si, .inl (cI, 8001, .inl (zf))), (so, .inl (cI, 8001, .inl (of)))]) [0, 1, 2, 3] rfl rfl
            exact zreti hx hb hr rfl hlocks hS () (by rw [hs]) rfl (by exact hP9) (by exact hD9) d_Mo_place_67
          · refine lv_iconst (v := (-1)) hx hb d_Mo_place_56 (by decide) ?_
            have hs : (sp_Mo_place ad n md af zf of) = (-1) := by rw [sp_Mo_place, if_neg h1, if_neg h2, if_neg h3, if_neg h4, if_neg h5]
            have hP9 := hP.sub (ws' := [(m0, .inr (3, [.ref mk, .ref mt, .int kd, .ref wo, .int wn, .ref re, .int pc, .int sta, .int dn, .int th, .ref ro, .ref aa, .ref si, .ref so, .ref la, .int md, .int lq, .int tp, .int tr, .ref ip, .ref oq, .ref cp, .int ni, .int no])), (aa, .inl (cI, 8001, .inl (af))), (si, .inl (cI, 8001, .inl (zf))), (so, .inl (cI, 8001, .inl (of)))]) [0, 1, 2, 3] rfl
            have hD9 := hD.sub (ws' := [(m0, .inr (3, [.ref mk, .ref mt, .int kd, .ref wo, .int wn, .ref re, .int pc, .int sta, .int dn, .int th, .ref ro, .ref aa, .ref si, .ref so, .ref la, .int md, .int lq, .int tp, .int tr, .ref ip, .ref oq, .ref cp, .int ni, .int no])), (aa, .inl (cI, 8001, .inl (af))), (si, .inl (cI, 8001, .inl (zf))), (so, .inl (cI, 8001, .inl (of)))]) [0, 1, 2, 3] rfl rfl
            exact zreti hx hb hr rfl hlocks hS () (by rw [hs]) rfl (by exact hP9) (by exact hD9) d_Mo_place_57

def sp_Mo_gone (o : Int32) (tr : Int32) (zf : Nat → Int32) (of : Nat → Int32) : Int32 × (Nat → Int32) := (tr - (sp_Mo_up (zf o.toNatClampNeg)), upd of o.toNatClampNeg 0)
set_option maxHeartbeats 4000000 in
theorem c_Mo_gone (l : Launch) (D : va_G) (cI cB cJ : ClassId) (sz : Nat) (o : Int32) (m0 : Nat) (mk : Nat) (mt : Nat) (kd : Int32) (wo : Nat) (wn : Int32) (re : Nat) (pc : Int32) (sta : Int32) (dn : Int32) (th : Int32) (ro : Nat) (aa : Nat) (si : Nat) (so : Nat) (la : Nat) (md : Int32) (lq : Int32) (tp : Int32) (tr : Int32) (ip : Nat) (oq : Nat) (cp : Nat) (ni : Int32) (no : Int32) (zf : Nat → Int32) (of : Nat → Int32) (ho : 0 ≤ o.toInt ∧ o.toInt ≤ 8000) : zMet l y_Mo_gone (zWs y_Mo_gone b_Mo_gone 2 (none)) { frames := 1, cells := 0, slots := 0, locals := 20 } (zPc D (zT cI cB cJ) sz [(m0, .inr (3, [.ref mk, .ref mt, .int kd, .ref wo, .int wn, .ref re, .int pc, .int sta, .int dn, .int th, .ref ro, .ref aa, .ref si, .ref so, .ref la, .int md, .int lq, .int tp, .int tr, .ref ip, .ref oq, .ref cp, .int ni, .int no])), (si, .inl (cI, 8001, .inl (zf))), (so, .inl (cI, 8001, .inl (of)))] [.ref m0, .int o]) (zQv D (va_A [(m0, .inr (3, [.ref mk, .ref mt, .int kd, .ref wo, .int wn, .ref re, .int pc, .int sta, .int dn, .int th, .ref ro, .ref aa, .ref si, .ref so, .ref la, .int md, .int lq, .int tp, .int tr, .ref ip, .ref oq, .ref cp, .int ni, .int no])), (si, .inl (cI, 8001, .inl (zf))), (so, .inl (cI, 8001, .inl (of)))] sz) (fun (_ : Unit) => True) (z0) (fun _ => [(m0, .inr (3, [.ref mk, .ref mt, .int kd, .ref wo, .int wn, .ref re, .int pc, .int sta, .int dn, .int th, .ref ro, .ref aa, .ref si, .ref so, .ref la, .int md, .int lq, .int tp, .int ((sp_Mo_gone o tr zf of).1), .ref ip, .ref oq, .ref cp, .int ni, .int no])), (si, .inl (cI, 8001, .inl (zf))), (so, .inl (cI, 8001, .inl ((sp_Mo_gone o tr zf of).2)))])) (va_A [(m0, .inr (3, [.ref mk, .ref mt, .int kd, .ref wo, .int wn, .ref re, .int pc, .int sta, .int dn, .int th, .ref ro, .ref aa, .ref si, .ref so, .ref la, .int md, .int lq, .int tp, .int tr, .ref ip, .ref oq, .ref cp, .int ni, .int no])), (si, .inl (cI, 8001, .inl (zf))), (so, .inl (cI, 8001, .inl (of)))] sz) := by
  refine zstart (Qc := fun A => zQv D A (fun (_ : Unit) => True) (z0) (fun _ => [(m0, .inr (3, [.ref mk, .ref mt, .int kd, .ref wo, .int wn, .ref re, .int pc, .int sta, .int dn, .int th, .ref ro, .ref aa, .ref si, .ref so, .ref la, .int md, .int lq, .int tp, .int ((sp_Mo_gone o tr zf of).1), .ref ip, .ref oq, .ref cp, .int ni, .int no])), (si, .inl (cI, 8001, .inl (zf))), (so, .inl (cI, 8001, .inl ((sp_Mo_gone o tr zf of).2)))])) (by decide) (Nat.le_of_ble_eq_true rfl) ?_
  intro p e s m below meth c ls A hE hr hlocks hin hsz hK hP hD hS hA hAe hl
  have hx := hE.1
  have hb := hE.2.1
  have hown := hE.2.2.2.1
  have hw := hE.2.2.2.2
  have hl : lv_has ls 2 [(0, .ref m0), (1, .int o)] := hl
  refine lv_aload_n hx hb d_Mo_gone_0 rfl (lv_at hl 0 rfl) ?_
  refine zget hE hK hP 0 rfl fd_Mo_33 rfl d_Mo_gone_1 ?_
  refine lv_iload_n hx hb d_Mo_gone_4 rfl (lv_at hl 1 rfl) ?_
  refine lv_iconst (v := 0) hx hb d_Mo_gone_5 (by decide) ?_
  refine va_iast hx hb hK hP hD hS 2 0 rfl rfl (z_in (by omega)) d_Mo_gone_6 (fun H locs hP hD hS => ?_)
  have hP : va_P D zC [(m0, .inr (3, [.ref mk, .ref mt, .int kd, .ref wo, .int wn, .ref re, .int pc, .int sta, .int dn, .int th, .ref ro, .ref aa, .ref si, .ref so, .ref la, .int md, .int lq, .int tp, .int tr, .ref ip, .ref oq, .ref cp, .int ni, .int no])), (si, .inl (cI, 8001, .inl (zf))), (so, .inl (cI, 8001, .inl (upd of o.toNatClampNeg 0)))] H := hP
  have hD : va_D A [(m0, .inr (3, [.ref mk, .ref mt, .int kd, .ref wo, .int wn, .ref re, .int pc, .int sta, .int dn, .int th, .ref ro, .ref aa, .ref si, .ref so, .ref la, .int md, .int lq, .int tp, .int tr, .ref ip, .ref oq, .ref cp, .int ni, .int no])), (si, .inl (cI, 8001, .inl (zf))), (so, .inl (cI, 8001, .inl (upd of o.toNatClampNeg 0)))] := hD
  refine lv_aload_n hx hb d_Mo_gone_7 rfl (lv_at hl 0 rfl) ?_
  refine lv_dup hx hb d_Mo_gone_8 rfl ?_
  refine zget hE hK hP 0 rfl fd_Mo_77 rfl d_Mo_gone_9 ?_
  refine lv_aload_n hx hb d_Mo_gone_12 rfl (lv_at hl 0 rfl) ?_
  refine zget hE hK hP 0 rfl fd_Mo_30 rfl d_Mo_gone_13 ?_
  refine lv_iload_n hx hb d_Mo_gone_16 rfl (lv_at hl 1 rfl) ?_
  refine va_iald hx hb hK hP 1 0 rfl rfl (z_in (by omega)) d_Mo_gone_17 ?_
  refine zgoi (wr := [(m0, .inr (3, [.ref mk, .ref mt, .int kd, .ref wo, .int wn, .ref re, .int pc, .int sta, .int dn, .int th, .ref ro, .ref aa, .ref si, .ref so, .ref la, .int md, .int lq, .int tp, .int tr, .ref ip, .ref oq, .ref cp, .int ni, .int no])), (si, .inl (cI, 8001, .inl (zf))), (so, .inl (cI, 8001, .inl (upd of o.toNatClampNeg 0)))]) (zrunS (n := 1) (As := [.int (zf o.toNatClampNeg)]) (rest := [.int tr, .ref m0]) hE (c_Mo_up l D _ _ (zf o.toNatClampNeg)) cb_Mo_up lk_Mo_80 st_Mo_up (zpreS hK hP hD [] rfl rfl rfl) ⟨Nat.le_of_ble_eq_true rfl, Nat.le_of_ble_eq_true rfl, Nat.le_of_ble_eq_true rfl, Nat.le_of_ble_eq_true rfl⟩ rfl hl.1 rfl (Nat.le_of_ble_eq_true rfl) d_Mo_gone_18) hP hD hS hA [] [0, 1, 2] rfl rfl rfl (by decide) (fun r u H locs hq1 hP hD hS => ?_)
  subst hq1
  have hP : va_P D zC [(m0, .inr (3, [.ref mk, .ref mt, .int kd, .ref wo, .int wn, .ref re, .int pc, .int sta, .int dn, .int th, .ref ro, .ref aa, .ref si, .ref so, .ref la, .int md, .int lq, .int tp, .int tr, .ref ip, .ref oq, .ref cp, .int ni, .int no])), (si, .inl (cI, 8001, .inl (zf))), (so, .inl (cI, 8001, .inl (upd of o.toNatClampNeg 0)))] H := hP
  have hD : va_D A [(m0, .inr (3, [.ref mk, .ref mt, .int kd, .ref wo, .int wn, .ref re, .int pc, .int sta, .int dn, .int th, .ref ro, .ref aa, .ref si, .ref so, .ref la, .int md, .int lq, .int tp, .int tr, .ref ip, .ref oq, .ref cp, .int ni, .int no])), (si, .inl (cI, 8001, .inl (zf))), (so, .inl (cI, 8001, .inl (upd of o.toNatClampNeg 0)))] := hD
  refine lv_isub hx hb d_Mo_gone_21 ?_
  refine zput (v := .int (tr - (sp_Mo_up (zf o.toNatClampNeg)))) hE hK hP hD hS 0 rfl fd_Mo_77 ft_Mo_18 rfl rfl (Nat.le_of_ble_eq_true rfl) d_Mo_gone_22 (fun H locs hP hD hS => ?_)
  have hP : va_P D zC [(m0, .inr (3, [.ref mk, .ref mt, .int kd, .ref wo, .int wn, .ref re, .int pc, .int sta, .int dn, .int th, .ref ro, .ref aa, .ref si, .ref so, .ref la, .int md, .int lq, .int tp, .int (tr - (sp_Mo_up (zf o.toNatClampNeg))), .ref ip, .ref oq, .ref cp, .int ni, .int no])), (si, .inl (cI, 8001, .inl (zf))), (so, .inl (cI, 8001, .inl (upd of o.toNatClampNeg 0)))] H := hP
  have hD : va_D A [(m0, .inr (3, [.ref mk, .ref mt, .int kd, .ref wo, .int wn, .ref re, .int pc, .int sta, .int dn, .int th, .ref ro, .ref aa, .ref si, .ref so, .ref la, .int md, .int lq, .int tp, .int (tr - (sp_Mo_up (zf o.toNatClampNeg))), .ref ip, .ref oq, .ref cp, .int ni, .int no])), (si, .inl (cI, 8001, .inl (zf))), (so, .inl (cI, 8001, .inl (upd of o.toNatClampNeg 0)))] := hD
  have hs : (sp_Mo_gone o tr zf of) = (tr - (sp_Mo_up (zf o.toNatClampNeg)), upd of o.toNatClampNeg 0) := rfl
  have hP9 := hP.sub (ws' := [(m0, .inr (3, [.ref mk, .ref mt, .int kd, .ref wo, .int wn, .ref re, .int pc, .int sta, .int dn, .int th, .ref ro, .ref aa, .ref si, .ref so, .ref la, .int md, .int lq, .int tp, .int (tr - (sp_Mo_up (zf o.toNatClampNeg))), .ref ip, .ref oq, .ref cp, .int ni, .int no])), (si, .inl (cI, 8001, .inl (zf))), (so, .inl (cI, 8001, .inl (upd of o.toNatClampNeg 0)))]) [0, 1, 2] rfl
  have hD9 := hD.sub (ws' := [(m0, .inr (3, [.ref mk, .ref mt, .int kd, .ref wo, .int wn, .ref re, .int pc, .int sta, .int dn, .int th, .ref ro, .ref aa, .ref si, .ref so, .ref la, .int md, .int lq, .int tp, .int (tr - (sp_Mo_up (zf o.toNatClampNeg))), .ref ip, .ref oq, .ref cp, .int ni, .int no])), (si, .inl (cI, 8001, .inl (zf))), (so, .inl (cI, 8001, .inl (upd of o.toNatClampNeg 0)))]) [0, 1, 2] rfl rfl
  exact zretv hx hb hr hlocks hS () trivial rfl (by rw [hs]; exact hP9) (by rw [hs]; exact hD9) d_Mo_gone_25

def sp_Mo_change (k : Int32) (w : Int32) (wn : Int32) (wf : Nat → Int32) : Int32 × Int32 × (Nat → Int32) := if k < 0 then (0, 1, wf) else if k < wn then (wf k.toNatClampNeg, 0, upd wf k.toNatClampNeg w) else (0, 1, wf)
set_option maxHeartbeats 4000000 in
theorem c_Mo_change (l : Launch) (D : va_G) (cI cB cJ : ClassId) (sz : Nat) (k : Int32) (w : Int32) (m0 : Nat) (mk : Nat) (mt : Nat) (kd : Int32) (wo : Nat) (wn : Int32) (re : Nat) (pc : Int32) (sta : Int32) (dn : Int32) (th : Int32) (ro : Nat) (aa : Nat) (si : Nat) (so : Nat) (la : Nat) (md : Int32) (lq : Int32) (tp : Int32) (tr : Int32) (ip : Nat) (oq : Nat) (cp : Nat) (ni : Int32) (no : Int32) (wf : Nat → Int32) (hwn : 0 ≤ wn.toInt ∧ wn.toInt ≤ 4000) : zMet l y_Mo_change (zWs y_Mo_change b_Mo_change 4 (some .int)) { frames := 0, cells := 0, slots := 0, locals := 0 } (zPc D (zT cI cB cJ) sz [(m0, .inr (3, [.ref mk, .ref mt, .int kd, .ref wo, .int wn, .ref re, .int pc, .int sta, .int dn, .int th, .ref ro, .ref aa, .ref si, .ref so, .ref la, .int md, .int lq, .int tp, .int tr, .ref ip, .ref oq, .ref cp, .int ni, .int no])), (wo, .inl (cI, 4000, .inl (wf)))] [.ref m0, .int k, .int w]) (zQi D (va_A [(m0, .inr (3, [.ref mk, .ref mt, .int kd, .ref wo, .int wn, .ref re, .int pc, .int sta, .int dn, .int th, .ref ro, .ref aa, .ref si, .ref so, .ref la, .int md, .int lq, .int tp, .int tr, .ref ip, .ref oq, .ref cp, .int ni, .int no])), (wo, .inl (cI, 4000, .inl (wf)))] sz) (fun r (_ : Unit) => r = (sp_Mo_change k w wn wf).1) (z0) (fun _ => [(m0, .inr (3, [.ref mk, .ref mt, .int kd, .ref wo, .int wn, .ref re, .int pc, .int sta, .int dn, .int ((sp_Mo_change k w wn wf).2.1), .ref ro, .ref aa, .ref si, .ref so, .ref la, .int md, .int lq, .int tp, .int tr, .ref ip, .ref oq, .ref cp, .int ni, .int no])), (wo, .inl (cI, 4000, .inl ((sp_Mo_change k w wn wf).2.2)))])) (va_A [(m0, .inr (3, [.ref mk, .ref mt, .int kd, .ref wo, .int wn, .ref re, .int pc, .int sta, .int dn, .int th, .ref ro, .ref aa, .ref si, .ref so, .ref la, .int md, .int lq, .int tp, .int tr, .ref ip, .ref oq, .ref cp, .int ni, .int no])), (wo, .inl (cI, 4000, .inl (wf)))] sz) := by
  refine zstart (Qc := fun A => zQi D A (fun r (_ : Unit) => r = (sp_Mo_change k w wn wf).1) (z0) (fun _ => [(m0, .inr (3, [.ref mk, .ref mt, .int kd, .ref wo, .int wn, .ref re, .int pc, .int sta, .int dn, .int ((sp_Mo_change k w wn wf).2.1), .ref ro, .ref aa, .ref si, .ref so, .ref la, .int md, .int lq, .int tp, .int tr, .ref ip, .ref oq, .ref cp, .int ni, .int no])), (wo, .inl (cI, 4000, .inl ((sp_Mo_change k w wn wf).2.2)))])) (by decide) (Nat.le_of_ble_eq_true rfl) ?_
  intro p e s m below meth c ls A hE hr hlocks hin hsz hK hP hD hS hA hAe hl
  have hx := hE.1
  have hb := hE.2.1
  have hown := hE.2.2.2.1
  have hw := hE.2.2.2.2
  have hl : lv_has ls 4 [(0, .ref m0), (1, .int k), (2, .int w)] := hl
  refine lv_aload_n hx hb d_Mo_change_0 rfl (lv_at hl 0 rfl) ?_
  refine lv_iload_n hx hb d_Mo_change_1 rfl (lv_at hl 1 rfl) ?_
  refine lv_if_lt (tgt := 13) hx hb d_Mo_change_2 (by decide) (fun h1 => ?_) (fun h1 => ?_)
  · refine lv_iconst (v := 1) hx hb d_Mo_change_13 (by decide) ?_
    refine lv_goto (tgt := 18) hx hb d_Mo_change_14 (by decide) ?_
    refine zput (v := .int 1) hE hK hP hD hS 0 rfl fd_Mo_62 ft_Mo_9 rfl rfl (Nat.le_of_ble_eq_true rfl) d_Mo_change_18 (fun H locs hP hD hS => ?_)
    have hP : va_P D zC [(m0, .inr (3, [.ref mk, .ref mt, .int kd, .ref wo, .int wn, .ref re, .int pc, .int sta, .int dn, .int 1, .ref ro, .ref aa, .ref si, .ref so, .ref la, .int md, .int lq, .int tp, .int tr, .ref ip, .ref oq, .ref cp, .int ni, .int no])), (wo, .inl (cI, 4000, .inl (wf)))] H := hP
    have hD : va_D A [(m0, .inr (3, [.ref mk, .ref mt, .int kd, .ref wo, .int wn, .ref re, .int pc, .int sta, .int dn, .int 1, .ref ro, .ref aa, .ref si, .ref so, .ref la, .int md, .int lq, .int tp, .int tr, .ref ip, .ref oq, .ref cp, .int ni, .int no])), (wo, .inl (cI, 4000, .inl (wf)))] := hD
    refine lv_aload_n hx hb d_Mo_change_21 rfl (lv_at hl 0 rfl) ?_
    refine zget hE hK hP 0 rfl fd_Mo_62 rfl d_Mo_change_22 ?_
    refine lv_if_le (tgt := 30) hx hb d_Mo_change_25 (by decide) (fun h2 => (show False by revert h2; decide).elim) (fun h2 => ?_)
    refine lv_iconst (v := 0) hx hb d_Mo_change_28 (by decide) ?_
    have hs : (sp_Mo_change k w wn wf) = (0, 1, wf) := by rw [sp_Mo_change, if_pos h1]
    have hP9 := hP.sub (ws' := [(m0, .inr (3, [.ref mk, .ref mt, .int kd, .ref wo, .int wn, .ref re, .int pc, .int sta, .int dn, .int 1, .ref ro, .ref aa, .ref si, .ref so, .ref la, .int md, .int lq, .int tp, .int tr, .ref ip, .ref oq, .ref cp, .int ni, .int no])), (wo, .inl (cI, 4000, .inl (wf)))]) [0, 1] rfl
    have hD9 := hD.sub (ws' := [(m0, .inr (3, [.ref mk, .ref mt, .int kd, .ref wo, .int wn, .ref re, .int pc, .int sta, .int dn, .int 1, .ref ro, .ref aa, .ref si, .ref so, .ref la, .int md, .int lq, .int tp, .int tr, .ref ip, .ref oq, .ref cp, .int ni, .int no])), (wo, .inl (cI, 4000, .inl (wf)))]) [0, 1] rfl rfl
    exact zreti hx hb hr rfl hlocks hS () (by rw [hs]) rfl (by rw [hs]; exact hP9) (by rw [hs]; exact hD9) d_Mo_change_29
  · refine lv_iload_n hx hb d_Mo_change_5 rfl (lv_at hl 1 rfl) ?_
    refine lv_aload_n hx hb d_Mo_change_6 rfl (lv_at hl 0 rfl) ?_
    refine zget hE hK hP 0 rfl fd_Mo_107 rfl d_Mo_change_7 ?_
    refine lv_icmp_lt (tgt := 17) hx hb d_Mo_change_10 (by decide) (fun h3 => ?_) (fun h3 => ?_)
    · refine lv_iconst (v := 0) hx hb d_Mo_change_17 (by decide) ?_
      refine zput (v := .int 0) hE hK hP hD hS 0 rfl fd_Mo_62 ft_Mo_9 rfl rfl (Nat.le_of_ble_eq_true rfl) d_Mo_change_18 (fun H locs hP hD hS => ?_)
      have hP : va_P D zC [(m0, .inr (3, [.ref mk, .ref mt, .int kd, .ref wo, .int wn, .ref re, .int pc, .int sta, .int dn, .int 0, .ref ro, .ref aa, .ref si, .ref so, .ref la, .int md, .int lq, .int tp, .int tr, .ref ip, .ref oq, .ref cp, .int ni, .int no])), (wo, .inl (cI, 4000, .inl (wf)))] H := hP
      have hD : va_D A [(m0, .inr (3, [.ref mk, .ref mt, .int kd, .ref wo, .int wn, .ref re, .int pc, .int sta, .int dn, .int 0, .ref ro, .ref aa, .ref si, .ref so, .ref la, .int md, .int lq, .int tp, .int tr, .ref ip, .ref oq, .ref cp, .int ni, .int no])), (wo, .inl (cI, 4000, .inl (wf)))] := hD
      refine lv_aload_n hx hb d_Mo_change_21 rfl (lv_at hl 0 rfl) ?_
      refine zget hE hK hP 0 rfl fd_Mo_62 rfl d_Mo_change_22 ?_
      refine lv_if_le (tgt := 30) hx hb d_Mo_change_25 (by decide) (fun h4 => ?_) (fun h4 => (show False by revert h4; decide).elim)
      refine lv_aload_n hx hb d_Mo_change_30 rfl (lv_at hl 0 rfl) ?_
      refine zget hE hK hP 0 rfl fd_Mo_16 rfl d_Mo_change_31 ?_
      refine lv_iload_n hx hb d_Mo_change_34 rfl (lv_at hl 1 rfl) ?_
      refine va_iald hx hb hK hP 1 0 rfl rfl (z_in (by have q1 := z_nlt h1; have q2 := z_lt h3; have k0 : ((0) : Int32).toInt = 0 := (by decide); omega)) d_Mo_change_35 ?_
      refine lv_istore_n (lv' := [(3, .int (wf k.toNatClampNeg)), (0, .ref m0), (1, .int k), (2, .int w)]) hx hb d_Mo_change_36 rfl hl (by decide) rfl (fun ls hl => ?_)
      refine lv_aload_n hx hb d_Mo_change_37 rfl (lv_at hl 1 rfl) ?_
      refine zget hE hK hP 0 rfl fd_Mo_16 rfl d_Mo_change_38 ?_
      refine lv_iload_n hx hb d_Mo_change_41 rfl (lv_at hl 2 rfl) ?_
      refine lv_iload_n hx hb d_Mo_change_42 rfl (lv_at hl 3 rfl) ?_
      refine va_iast hx hb hK hP hD hS 1 0 rfl rfl (z_in (by have q1 := z_nlt h1; have q2 := z_lt h3; have k0 : ((0) : Int32).toInt = 0 := (by decide); omega)) d_Mo_change_43 (fun H locs hP hD hS => ?_)
      have hP : va_P D zC [(m0, .inr (3, [.ref mk, .ref mt, .int kd, .ref wo, .int wn, .ref re, .int pc, .int sta, .int dn, .int 0, .ref ro, .ref aa, .ref si, .ref so, .ref la, .int md, .int lq, .int tp, .int tr, .ref ip, .ref oq, .ref cp, .int ni, .int no])), (wo, .inl (cI, 4000, .inl (upd wf k.toNatClampNeg w)))] H := hP
      have hD : va_D A [(m0, .inr (3, [.ref mk, .ref mt, .int kd, .ref wo, .int wn, .ref re, .int pc, .int sta, .int dn, .int 0, .ref ro, .ref aa, .ref si, .ref so, .ref la, .int md, .int lq, .int tp, .int tr, .ref ip, .ref oq, .ref cp, .int ni, .int no])), (wo, .inl (cI, 4000, .inl (upd wf k.toNatClampNeg w)))] := hD
      refine lv_iload_n hx hb d_Mo_change_44 rfl (lv_at hl 0 rfl) ?_
      have hs : (sp_Mo_change k w wn wf) = (wf k.toNatClampNeg, 0, upd wf k.toNatClampNeg w) := by rw [sp_Mo_change, if_neg h1, if_pos h3]
      have hP9 := hP.sub (ws' := [(m0, .inr (3, [.ref mk, .ref mt, .int kd, .ref wo, .int wn, .ref re, .int pc, .int sta, .int dn, .int 0, .ref ro, .ref aa, .ref si, .ref so, .ref la, .int md, .int lq, .int tp, .int tr, .ref ip, .ref oq, .ref cp, .int ni, .int no])), (wo, .inl (cI, 4000, .inl (upd wf k.toNatClampNeg w)))]) [0, 1] rfl
      have hD9 := hD.sub (ws' := [(m0, .inr (3, [.ref mk, .ref mt, .int kd, .ref wo, .int wn, .ref re, .int pc, .int sta, .int dn, .int 0, .ref ro, .ref aa, .ref si, .ref so, .ref la, .int md, .int lq, .int tp, .int tr, .ref ip, .ref oq, .ref cp, .int ni, .int no])), (wo, .inl (cI, 4000, .inl (upd wf k.toNatClampNeg w)))]) [0, 1] rfl rfl
      exact zreti hx hb hr rfl hlocks hS () (by rw [hs]) rfl (by rw [hs]; exact hP9) (by rw [hs]; exact hD9) d_Mo_change_45
    · refine lv_iconst (v := 1) hx hb d_Mo_change_13 (by decide) ?_
      refine lv_goto (tgt := 18) hx hb d_Mo_change_14 (by decide) ?_
      refine zput (v := .int 1) hE hK hP hD hS 0 rfl fd_Mo_62 ft_Mo_9 rfl rfl (Nat.le_of_ble_eq_true rfl) d_Mo_change_18 (fun H locs hP hD hS => ?_)
      have hP : va_P D zC [(m0, .inr (3, [.ref mk, .ref mt, .int kd, .ref wo, .int wn, .ref re, .int pc, .int sta, .int dn, .int 1, .ref ro, .ref aa, .ref si, .ref so, .ref la, .int md, .int lq, .int tp, .int tr, .ref ip, .ref oq, .ref cp, .int ni, .int no])), (wo, .inl (cI, 4000, .inl (wf)))] H := hP
      have hD : va_D A [(m0, .inr (3, [.ref mk, .ref mt, .int kd, .ref wo, .int wn, .ref re, .int pc, .int sta, .int dn, .int 1, .ref ro, .ref aa, .ref si, .ref so, .ref la, .int md, .int lq, .int tp, .int tr, .ref ip, .ref oq, .ref cp, .int ni, .int no])), (wo, .inl (cI, 4000, .inl (wf)))] := hD
      refine lv_aload_n hx hb d_Mo_change_21 rfl (lv_at hl 0 rfl) ?_
      refine zget hE hK hP 0 rfl fd_Mo_62 rfl d_Mo_change_22 ?_
      refine lv_if_le (tgt := 30) hx hb d_Mo_change_25 (by decide) (fun h5 => (show False by revert h5; decide).elim) (fun h5 => ?_)
      refine lv_iconst (v := 0) hx hb d_Mo_change_28 (by decide) ?_
      have hs : (sp_Mo_change k w wn wf) = (0, 1, wf) := by rw [sp_Mo_change, if_neg h1, if_neg h3]
      have hP9 := hP.sub (ws' := [(m0, .inr (3, [.ref mk, .ref mt, .int kd, .ref wo, .int wn, .ref re, .int pc, .int sta, .int dn, .int 1, .ref ro, .ref aa, .ref si, .ref so, .ref la, .int md, .int lq, .int tp, .int tr, .ref ip, .ref oq, .ref cp, .int ni, .int no])), (wo, .inl (cI, 4000, .inl (wf)))]) [0, 1] rfl
      have hD9 := hD.sub (ws' := [(m0, .inr (3, [.ref mk, .ref mt, .int kd, .ref wo, .int wn, .ref re, .int pc, .int sta, .int dn, .int 1, .ref ro, .ref aa, .ref si, .ref so, .ref la, .int md, .int lq, .int tp, .int tr, .ref ip, .ref oq, .ref cp, .int ni, .int no])), (wo, .inl (cI, 4000, .inl (wf)))]) [0, 1] rfl rfl
      exact zreti hx hb hr rfl hlocks hS () (by rw [hs]) rfl (by rw [hs]; exact hP9) (by rw [hs]; exact hD9) d_Mo_change_29
