/-! decode rows -/
theorem d_Mo_bits_0 : decode b_Mo_bits 0 = .ok (.iload_n 0, 1) := by decide +kernel
theorem d_Mo_bits_1 : decode b_Mo_bits 1 = .ok (.iload_n 1, 1) := by decide +kernel
theorem d_Mo_bits_2 : decode b_Mo_bits 2 = .ok (.iushr, 1) := by decide +kernel
theorem d_Mo_bits_3 : decode b_Mo_bits 3 = .ok (.iconst 1, 1) := by decide +kernel
theorem d_Mo_bits_4 : decode b_Mo_bits 4 = .ok (.iload_n 2, 1) := by decide +kernel
theorem d_Mo_bits_5 : decode b_Mo_bits 5 = .ok (.ishl, 1) := by decide +kernel
theorem d_Mo_bits_6 : decode b_Mo_bits 6 = .ok (.iconst 1, 1) := by decide +kernel
theorem d_Mo_bits_7 : decode b_Mo_bits 7 = .ok (.isub, 1) := by decide +kernel
theorem d_Mo_bits_8 : decode b_Mo_bits 8 = .ok (.iand, 1) := by decide +kernel
theorem d_Mo_bits_9 : decode b_Mo_bits 9 = .ok (.ireturn, 1) := by decide +kernel
theorem d_Mo_signed_0 : decode b_Mo_signed 0 = .ok (.iload_n 0, 1) := by decide +kernel
theorem d_Mo_signed_1 : decode b_Mo_signed 1 = .ok (.bipush 32, 2) := by decide +kernel
theorem d_Mo_signed_3 : decode b_Mo_signed 3 = .ok (.iload_n 1, 1) := by decide +kernel
theorem d_Mo_signed_4 : decode b_Mo_signed 4 = .ok (.isub, 1) := by decide +kernel
theorem d_Mo_signed_5 : decode b_Mo_signed 5 = .ok (.ishl, 1) := by decide +kernel
theorem d_Mo_signed_6 : decode b_Mo_signed 6 = .ok (.bipush 32, 2) := by decide +kernel
theorem d_Mo_signed_8 : decode b_Mo_signed 8 = .ok (.iload_n 1, 1) := by decide +kernel
theorem d_Mo_signed_9 : decode b_Mo_signed 9 = .ok (.isub, 1) := by decide +kernel
theorem d_Mo_signed_10 : decode b_Mo_signed 10 = .ok (.ishr, 1) := by decide +kernel
theorem d_Mo_signed_11 : decode b_Mo_signed 11 = .ok (.ireturn, 1) := by decide +kernel
theorem d_Mo_byUpper_0 : decode b_Mo_byUpper 0 = .ok (.iload_n 0, 1) := by decide +kernel
theorem d_Mo_byUpper_1 : decode b_Mo_byUpper 1 = .ok (.bipush 20, 2) := by decide +kernel
theorem d_Mo_byUpper_3 : decode b_Mo_byUpper 3 = .ok (.bipush 12, 2) := by decide +kernel
theorem d_Mo_byUpper_5 : decode b_Mo_byUpper 5 = .ok (.invokestatic 65, 3) := by decide +kernel
theorem d_Mo_byUpper_8 : decode b_Mo_byUpper 8 = .ok (.bipush 12, 2) := by decide +kernel
theorem d_Mo_byUpper_10 : decode b_Mo_byUpper 10 = .ok (.invokestatic 69, 3) := by decide +kernel
theorem d_Mo_byUpper_13 : decode b_Mo_byUpper 13 = .ok (.ireturn, 1) := by decide +kernel
theorem d_Mo_byStore_0 : decode b_Mo_byStore 0 = .ok (.iload_n 0, 1) := by decide +kernel
theorem d_Mo_byStore_1 : decode b_Mo_byStore 1 = .ok (.bipush 25, 2) := by decide +kernel
theorem d_Mo_byStore_3 : decode b_Mo_byStore 3 = .ok (.bipush 7, 2) := by decide +kernel
theorem d_Mo_byStore_5 : decode b_Mo_byStore 5 = .ok (.invokestatic 65, 3) := by decide +kernel
theorem d_Mo_byStore_8 : decode b_Mo_byStore 8 = .ok (.iconst 5, 1) := by decide +kernel
theorem d_Mo_byStore_9 : decode b_Mo_byStore 9 = .ok (.ishl, 1) := by decide +kernel
theorem d_Mo_byStore_10 : decode b_Mo_byStore 10 = .ok (.iload_n 0, 1) := by decide +kernel
theorem d_Mo_byStore_11 : decode b_Mo_byStore 11 = .ok (.bipush 7, 2) := by decide +kernel
theorem d_Mo_byStore_13 : decode b_Mo_byStore 13 = .ok (.iconst 5, 1) := by decide +kernel
theorem d_Mo_byStore_14 : decode b_Mo_byStore 14 = .ok (.invokestatic 65, 3) := by decide +kernel
theorem d_Mo_byStore_17 : decode b_Mo_byStore 17 = .ok (.ior, 1) := by decide +kernel
theorem d_Mo_byStore_18 : decode b_Mo_byStore 18 = .ok (.bipush 12, 2) := by decide +kernel
theorem d_Mo_byStore_20 : decode b_Mo_byStore 20 = .ok (.invokestatic 69, 3) := by decide +kernel
theorem d_Mo_byStore_23 : decode b_Mo_byStore 23 = .ok (.ireturn, 1) := by decide +kernel
theorem d_Mo_byBranch_0 : decode b_Mo_byBranch 0 = .ok (.iload_n 0, 1) := by decide +kernel
theorem d_Mo_byBranch_1 : decode b_Mo_byBranch 1 = .ok (.bipush 31, 2) := by decide +kernel
theorem d_Mo_byBranch_3 : decode b_Mo_byBranch 3 = .ok (.iconst 1, 1) := by decide +kernel
theorem d_Mo_byBranch_4 : decode b_Mo_byBranch 4 = .ok (.invokestatic 65, 3) := by decide +kernel
theorem d_Mo_byBranch_7 : decode b_Mo_byBranch 7 = .ok (.bipush 12, 2) := by decide +kernel
theorem d_Mo_byBranch_9 : decode b_Mo_byBranch 9 = .ok (.ishl, 1) := by decide +kernel
theorem d_Mo_byBranch_10 : decode b_Mo_byBranch 10 = .ok (.iload_n 0, 1) := by decide +kernel
theorem d_Mo_byBranch_11 : decode b_Mo_byBranch 11 = .ok (.bipush 7, 2) := by decide +kernel
theorem d_Mo_byBranch_13 : decode b_Mo_byBranch 13 = .ok (.iconst 1, 1) := by decide +kernel
theorem d_Mo_byBranch_14 : decode b_Mo_byBranch 14 = .ok (.invokestatic 65, 3) := by decide +kernel
theorem d_Mo_byBranch_17 : decode b_Mo_byBranch 17 = .ok (.bipush 11, 2) := by decide +kernel
theorem d_Mo_byBranch_19 : decode b_Mo_byBranch 19 = .ok (.ishl, 1) := by decide +kernel
theorem d_Mo_byBranch_20 : decode b_Mo_byBranch 20 = .ok (.ior, 1) := by decide +kernel
theorem d_Mo_byBranch_21 : decode b_Mo_byBranch 21 = .ok (.iload_n 0, 1) := by decide +kernel
theorem d_Mo_byBranch_22 : decode b_Mo_byBranch 22 = .ok (.bipush 25, 2) := by decide +kernel
theorem d_Mo_byBranch_24 : decode b_Mo_byBranch 24 = .ok (.bipush 6, 2) := by decide +kernel
theorem d_Mo_byBranch_26 : decode b_Mo_byBranch 26 = .ok (.invokestatic 65, 3) := by decide +kernel
theorem d_Mo_byBranch_29 : decode b_Mo_byBranch 29 = .ok (.iconst 5, 1) := by decide +kernel
theorem d_Mo_byBranch_30 : decode b_Mo_byBranch 30 = .ok (.ishl, 1) := by decide +kernel
theorem d_Mo_byBranch_31 : decode b_Mo_byBranch 31 = .ok (.ior, 1) := by decide +kernel
theorem d_Mo_byBranch_32 : decode b_Mo_byBranch 32 = .ok (.iload_n 0, 1) := by decide +kernel
theorem d_Mo_byBranch_33 : decode b_Mo_byBranch 33 = .ok (.bipush 8, 2) := by decide +kernel
theorem d_Mo_byBranch_35 : decode b_Mo_byBranch 35 = .ok (.iconst 4, 1) := by decide +kernel
theorem d_Mo_byBranch_36 : decode b_Mo_byBranch 36 = .ok (.invokestatic 65, 3) := by decide +kernel
theorem d_Mo_byBranch_39 : decode b_Mo_byBranch 39 = .ok (.iconst 1, 1) := by decide +kernel
theorem d_Mo_byBranch_40 : decode b_Mo_byBranch 40 = .ok (.ishl, 1) := by decide +kernel
theorem d_Mo_byBranch_41 : decode b_Mo_byBranch 41 = .ok (.ior, 1) := by decide +kernel
theorem d_Mo_byBranch_42 : decode b_Mo_byBranch 42 = .ok (.bipush 13, 2) := by decide +kernel
theorem d_Mo_byBranch_44 : decode b_Mo_byBranch 44 = .ok (.invokestatic 69, 3) := by decide +kernel
theorem d_Mo_byBranch_47 : decode b_Mo_byBranch 47 = .ok (.ireturn, 1) := by decide +kernel
theorem d_Mo_byJump_0 : decode b_Mo_byJump 0 = .ok (.iload_n 0, 1) := by decide +kernel
theorem d_Mo_byJump_1 : decode b_Mo_byJump 1 = .ok (.bipush 31, 2) := by decide +kernel
theorem d_Mo_byJump_3 : decode b_Mo_byJump 3 = .ok (.iconst 1, 1) := by decide +kernel
theorem d_Mo_byJump_4 : decode b_Mo_byJump 4 = .ok (.invokestatic 65, 3) := by decide +kernel
theorem d_Mo_byJump_7 : decode b_Mo_byJump 7 = .ok (.bipush 20, 2) := by decide +kernel
theorem d_Mo_byJump_9 : decode b_Mo_byJump 9 = .ok (.ishl, 1) := by decide +kernel
theorem d_Mo_byJump_10 : decode b_Mo_byJump 10 = .ok (.iload_n 0, 1) := by decide +kernel
theorem d_Mo_byJump_11 : decode b_Mo_byJump 11 = .ok (.bipush 12, 2) := by decide +kernel
theorem d_Mo_byJump_13 : decode b_Mo_byJump 13 = .ok (.bipush 8, 2) := by decide +kernel
theorem d_Mo_byJump_15 : decode b_Mo_byJump 15 = .ok (.invokestatic 65, 3) := by decide +kernel
theorem d_Mo_byJump_18 : decode b_Mo_byJump 18 = .ok (.bipush 12, 2) := by decide +kernel
theorem d_Mo_byJump_20 : decode b_Mo_byJump 20 = .ok (.ishl, 1) := by decide +kernel
theorem d_Mo_byJump_21 : decode b_Mo_byJump 21 = .ok (.ior, 1) := by decide +kernel
theorem d_Mo_byJump_22 : decode b_Mo_byJump 22 = .ok (.iload_n 0, 1) := by decide +kernel
theorem d_Mo_byJump_23 : decode b_Mo_byJump 23 = .ok (.bipush 20, 2) := by decide +kernel
theorem d_Mo_byJump_25 : decode b_Mo_byJump 25 = .ok (.iconst 1, 1) := by decide +kernel
theorem d_Mo_byJump_26 : decode b_Mo_byJump 26 = .ok (.invokestatic 65, 3) := by decide +kernel
theorem d_Mo_byJump_29 : decode b_Mo_byJump 29 = .ok (.bipush 11, 2) := by decide +kernel
theorem d_Mo_byJump_31 : decode b_Mo_byJump 31 = .ok (.ishl, 1) := by decide +kernel
theorem d_Mo_byJump_32 : decode b_Mo_byJump 32 = .ok (.ior, 1) := by decide +kernel
theorem d_Mo_byJump_33 : decode b_Mo_byJump 33 = .ok (.iload_n 0, 1) := by decide +kernel
theorem d_Mo_byJump_34 : decode b_Mo_byJump 34 = .ok (.bipush 21, 2) := by decide +kernel
theorem d_Mo_byJump_36 : decode b_Mo_byJump 36 = .ok (.bipush 10, 2) := by decide +kernel
theorem d_Mo_byJump_38 : decode b_Mo_byJump 38 = .ok (.invokestatic 65, 3) := by decide +kernel
theorem d_Mo_byJump_41 : decode b_Mo_byJump 41 = .ok (.iconst 1, 1) := by decide +kernel
theorem d_Mo_byJump_42 : decode b_Mo_byJump 42 = .ok (.ishl, 1) := by decide +kernel
theorem d_Mo_byJump_43 : decode b_Mo_byJump 43 = .ok (.ior, 1) := by decide +kernel
theorem d_Mo_byJump_44 : decode b_Mo_byJump 44 = .ok (.bipush 21, 2) := by decide +kernel
theorem d_Mo_byJump_46 : decode b_Mo_byJump 46 = .ok (.invokestatic 69, 3) := by decide +kernel
theorem d_Mo_byJump_49 : decode b_Mo_byJump 49 = .ok (.ireturn, 1) := by decide +kernel
theorem d_Mo_up_0 : decode b_Mo_up 0 = .ok (.iload_n 0, 1) := by decide +kernel
theorem d_Mo_up_1 : decode b_Mo_up 1 = .ok (.iconst 3, 1) := by decide +kernel
theorem d_Mo_up_2 : decode b_Mo_up 2 = .ok (.iadd, 1) := by decide +kernel
theorem d_Mo_up_3 : decode b_Mo_up 3 = .ok (.iconst 4, 1) := by decide +kernel
theorem d_Mo_up_4 : decode b_Mo_up 4 = .ok (.idiv, 1) := by decide +kernel
theorem d_Mo_up_5 : decode b_Mo_up 5 = .ok (.iconst 4, 1) := by decide +kernel
theorem d_Mo_up_6 : decode b_Mo_up 6 = .ok (.imul, 1) := by decide +kernel
theorem d_Mo_up_7 : decode b_Mo_up 7 = .ok (.ireturn, 1) := by decide +kernel
theorem d_Mo_plain_0 : decode b_Mo_plain 0 = .ok (.iload_n 0, 1) := by decide +kernel
theorem d_Mo_plain_1 : decode b_Mo_plain 1 = .ok (.tableswitch 125 0 6 #[43, 57, 64, 75, 97, 101, 121], 43) := by decide +kernel
theorem d_Mo_plain_44 : decode b_Mo_plain 44 = .ok (.iload_n 1, 1) := by decide +kernel
theorem d_Mo_plain_45 : decode b_Mo_plain 45 = .ok (.ifCond .eq 9, 3) := by decide +kernel
theorem d_Mo_plain_48 : decode b_Mo_plain 48 = .ok (.iload_n 2, 1) := by decide +kernel
theorem d_Mo_plain_49 : decode b_Mo_plain 49 = .ok (.iload_n 3, 1) := by decide +kernel
theorem d_Mo_plain_50 : decode b_Mo_plain 50 = .ok (.isub, 1) := by decide +kernel
theorem d_Mo_plain_51 : decode b_Mo_plain 51 = .ok (.goto 6, 3) := by decide +kernel
theorem d_Mo_plain_54 : decode b_Mo_plain 54 = .ok (.iload_n 2, 1) := by decide +kernel
theorem d_Mo_plain_55 : decode b_Mo_plain 55 = .ok (.iload_n 3, 1) := by decide +kernel
theorem d_Mo_plain_56 : decode b_Mo_plain 56 = .ok (.iadd, 1) := by decide +kernel
theorem d_Mo_plain_57 : decode b_Mo_plain 57 = .ok (.ireturn, 1) := by decide +kernel
theorem d_Mo_plain_58 : decode b_Mo_plain 58 = .ok (.iload_n 2, 1) := by decide +kernel
theorem d_Mo_plain_59 : decode b_Mo_plain 59 = .ok (.iload_n 3, 1) := by decide +kernel
theorem d_Mo_plain_60 : decode b_Mo_plain 60 = .ok (.bipush 31, 2) := by decide +kernel
theorem d_Mo_plain_62 : decode b_Mo_plain 62 = .ok (.iand, 1) := by decide +kernel
theorem d_Mo_plain_63 : decode b_Mo_plain 63 = .ok (.ishl, 1) := by decide +kernel
theorem d_Mo_plain_64 : decode b_Mo_plain 64 = .ok (.ireturn, 1) := by decide +kernel
theorem d_Mo_plain_65 : decode b_Mo_plain 65 = .ok (.iload_n 2, 1) := by decide +kernel
theorem d_Mo_plain_66 : decode b_Mo_plain 66 = .ok (.iload_n 3, 1) := by decide +kernel
theorem d_Mo_plain_67 : decode b_Mo_plain 67 = .ok (.if_icmp .ge 7, 3) := by decide +kernel
theorem d_Mo_plain_70 : decode b_Mo_plain 70 = .ok (.iconst 1, 1) := by decide +kernel
theorem d_Mo_plain_71 : decode b_Mo_plain 71 = .ok (.goto 4, 3) := by decide +kernel
theorem d_Mo_plain_74 : decode b_Mo_plain 74 = .ok (.iconst 0, 1) := by decide +kernel
theorem d_Mo_plain_75 : decode b_Mo_plain 75 = .ok (.ireturn, 1) := by decide +kernel
theorem d_Mo_plain_76 : decode b_Mo_plain 76 = .ok (.iload_n 2, 1) := by decide +kernel
theorem d_Mo_plain_77 : decode b_Mo_plain 77 = .ok (.i2l, 1) := by decide +kernel
theorem d_Mo_plain_78 : decode b_Mo_plain 78 = .ok (.ldc2_w 148, 3) := by decide +kernel
theorem d_Mo_plain_81 : decode b_Mo_plain 81 = .ok (.land, 1) := by decide +kernel
theorem d_Mo_plain_82 : decode b_Mo_plain 82 = .ok (.iload_n 3, 1) := by decide +kernel
theorem d_Mo_plain_83 : decode b_Mo_plain 83 = .ok (.i2l, 1) := by decide +kernel
theorem d_Mo_plain_84 : decode b_Mo_plain 84 = .ok (.ldc2_w 148, 3) := by decide +kernel
theorem d_Mo_plain_87 : decode b_Mo_plain 87 = .ok (.land, 1) := by decide +kernel
theorem d_Mo_plain_88 : decode b_Mo_plain 88 = .ok (.lcmp, 1) := by decide +kernel
theorem d_Mo_plain_89 : decode b_Mo_plain 89 = .ok (.ifCond .ge 7, 3) := by decide +kernel
theorem d_Mo_plain_92 : decode b_Mo_plain 92 = .ok (.iconst 1, 1) := by decide +kernel
theorem d_Mo_plain_93 : decode b_Mo_plain 93 = .ok (.goto 4, 3) := by decide +kernel
theorem d_Mo_plain_96 : decode b_Mo_plain 96 = .ok (.iconst 0, 1) := by decide +kernel
theorem d_Mo_plain_97 : decode b_Mo_plain 97 = .ok (.ireturn, 1) := by decide +kernel
theorem d_Mo_plain_98 : decode b_Mo_plain 98 = .ok (.iload_n 2, 1) := by decide +kernel
theorem d_Mo_plain_99 : decode b_Mo_plain 99 = .ok (.iload_n 3, 1) := by decide +kernel
theorem d_Mo_plain_100 : decode b_Mo_plain 100 = .ok (.ixor, 1) := by decide +kernel
theorem d_Mo_plain_101 : decode b_Mo_plain 101 = .ok (.ireturn, 1) := by decide +kernel
theorem d_Mo_plain_102 : decode b_Mo_plain 102 = .ok (.iload_n 1, 1) := by decide +kernel
theorem d_Mo_plain_103 : decode b_Mo_plain 103 = .ok (.ifCond .eq 12, 3) := by decide +kernel
theorem d_Mo_plain_106 : decode b_Mo_plain 106 = .ok (.iload_n 2, 1) := by decide +kernel
theorem d_Mo_plain_107 : decode b_Mo_plain 107 = .ok (.iload_n 3, 1) := by decide +kernel
theorem d_Mo_plain_108 : decode b_Mo_plain 108 = .ok (.bipush 31, 2) := by decide +kernel
theorem d_Mo_plain_110 : decode b_Mo_plain 110 = .ok (.iand, 1) := by decide +kernel
theorem d_Mo_plain_111 : decode b_Mo_plain 111 = .ok (.ishr, 1) := by decide +kernel
theorem d_Mo_plain_112 : decode b_Mo_plain 112 = .ok (.goto 9, 3) := by decide +kernel
theorem d_Mo_plain_115 : decode b_Mo_plain 115 = .ok (.iload_n 2, 1) := by decide +kernel
theorem d_Mo_plain_116 : decode b_Mo_plain 116 = .ok (.iload_n 3, 1) := by decide +kernel
theorem d_Mo_plain_117 : decode b_Mo_plain 117 = .ok (.bipush 31, 2) := by decide +kernel
theorem d_Mo_plain_119 : decode b_Mo_plain 119 = .ok (.iand, 1) := by decide +kernel
theorem d_Mo_plain_120 : decode b_Mo_plain 120 = .ok (.iushr, 1) := by decide +kernel
theorem d_Mo_plain_121 : decode b_Mo_plain 121 = .ok (.ireturn, 1) := by decide +kernel
theorem d_Mo_plain_122 : decode b_Mo_plain 122 = .ok (.iload_n 2, 1) := by decide +kernel
theorem d_Mo_plain_123 : decode b_Mo_plain 123 = .ok (.iload_n 3, 1) := by decide +kernel
theorem d_Mo_plain_124 : decode b_Mo_plain 124 = .ok (.ior, 1) := by decide +kernel
theorem d_Mo_plain_125 : decode b_Mo_plain 125 = .ok (.ireturn, 1) := by decide +kernel
theorem d_Mo_plain_126 : decode b_Mo_plain 126 = .ok (.iload_n 2, 1) := by decide +kernel
theorem d_Mo_plain_127 : decode b_Mo_plain 127 = .ok (.iload_n 3, 1) := by decide +kernel
theorem d_Mo_plain_128 : decode b_Mo_plain 128 = .ok (.iand, 1) := by decide +kernel
theorem d_Mo_plain_129 : decode b_Mo_plain 129 = .ok (.ireturn, 1) := by decide +kernel
theorem d_Mo_more_0 : decode b_Mo_more 0 = .ok (.iload_n 1, 1) := by decide +kernel
theorem d_Mo_more_1 : decode b_Mo_more 1 = .ok (.i2l, 1) := by decide +kernel
theorem d_Mo_more_2 : decode b_Mo_more 2 = .ok (.ldc2_w 148, 3) := by decide +kernel
theorem d_Mo_more_5 : decode b_Mo_more 5 = .ok (.land, 1) := by decide +kernel
theorem d_Mo_more_6 : decode b_Mo_more 6 = .ok (.lstore_n 3, 1) := by decide +kernel
theorem d_Mo_more_7 : decode b_Mo_more 7 = .ok (.iload_n 2, 1) := by decide +kernel
theorem d_Mo_more_8 : decode b_Mo_more 8 = .ok (.i2l, 1) := by decide +kernel
theorem d_Mo_more_9 : decode b_Mo_more 9 = .ok (.ldc2_w 148, 3) := by decide +kernel
theorem d_Mo_more_12 : decode b_Mo_more 12 = .ok (.land, 1) := by decide +kernel
theorem d_Mo_more_13 : decode b_Mo_more 13 = .ok (.lstore 5, 2) := by decide +kernel
theorem d_Mo_more_15 : decode b_Mo_more 15 = .ok (.iload_n 1, 1) := by decide +kernel
theorem d_Mo_more_16 : decode b_Mo_more 16 = .ok (.i2l, 1) := by decide +kernel
theorem d_Mo_more_17 : decode b_Mo_more 17 = .ok (.lstore 7, 2) := by decide +kernel
theorem d_Mo_more_19 : decode b_Mo_more 19 = .ok (.iload_n 2, 1) := by decide +kernel
theorem d_Mo_more_20 : decode b_Mo_more 20 = .ok (.i2l, 1) := by decide +kernel
theorem d_Mo_more_21 : decode b_Mo_more 21 = .ok (.lstore 9, 2) := by decide +kernel
theorem d_Mo_more_23 : decode b_Mo_more 23 = .ok (.iload_n 0, 1) := by decide +kernel
theorem d_Mo_more_24 : decode b_Mo_more 24 = .ok (.tableswitch 130 0 6 #[44, 51, 61, 71, 80, 95, 109], 44) := by decide +kernel
theorem d_Mo_more_68 : decode b_Mo_more 68 = .ok (.lload 7, 2) := by decide +kernel
theorem d_Mo_more_70 : decode b_Mo_more 70 = .ok (.lload 9, 2) := by decide +kernel
theorem d_Mo_more_72 : decode b_Mo_more 72 = .ok (.lmul, 1) := by decide +kernel
theorem d_Mo_more_73 : decode b_Mo_more 73 = .ok (.l2i, 1) := by decide +kernel
theorem d_Mo_more_74 : decode b_Mo_more 74 = .ok (.ireturn, 1) := by decide +kernel
theorem d_Mo_more_75 : decode b_Mo_more 75 = .ok (.lload 7, 2) := by decide +kernel
theorem d_Mo_more_77 : decode b_Mo_more 77 = .ok (.lload 9, 2) := by decide +kernel
theorem d_Mo_more_79 : decode b_Mo_more 79 = .ok (.lmul, 1) := by decide +kernel
theorem d_Mo_more_80 : decode b_Mo_more 80 = .ok (.bipush 32, 2) := by decide +kernel
theorem d_Mo_more_82 : decode b_Mo_more 82 = .ok (.lshr, 1) := by decide +kernel
theorem d_Mo_more_83 : decode b_Mo_more 83 = .ok (.l2i, 1) := by decide +kernel
theorem d_Mo_more_84 : decode b_Mo_more 84 = .ok (.ireturn, 1) := by decide +kernel
theorem d_Mo_more_85 : decode b_Mo_more 85 = .ok (.lload 7, 2) := by decide +kernel
theorem d_Mo_more_87 : decode b_Mo_more 87 = .ok (.lload 5, 2) := by decide +kernel
theorem d_Mo_more_89 : decode b_Mo_more 89 = .ok (.lmul, 1) := by decide +kernel
theorem d_Mo_more_90 : decode b_Mo_more 90 = .ok (.bipush 32, 2) := by decide +kernel
theorem d_Mo_more_92 : decode b_Mo_more 92 = .ok (.lshr, 1) := by decide +kernel
theorem d_Mo_more_93 : decode b_Mo_more 93 = .ok (.l2i, 1) := by decide +kernel
theorem d_Mo_more_94 : decode b_Mo_more 94 = .ok (.ireturn, 1) := by decide +kernel
theorem d_Mo_more_95 : decode b_Mo_more 95 = .ok (.lload_n 3, 1) := by decide +kernel
theorem d_Mo_more_96 : decode b_Mo_more 96 = .ok (.lload 5, 2) := by decide +kernel
theorem d_Mo_more_98 : decode b_Mo_more 98 = .ok (.lmul, 1) := by decide +kernel
theorem d_Mo_more_99 : decode b_Mo_more 99 = .ok (.bipush 32, 2) := by decide +kernel
theorem d_Mo_more_101 : decode b_Mo_more 101 = .ok (.lushr, 1) := by decide +kernel
theorem d_Mo_more_102 : decode b_Mo_more 102 = .ok (.l2i, 1) := by decide +kernel
theorem d_Mo_more_103 : decode b_Mo_more 103 = .ok (.ireturn, 1) := by decide +kernel
theorem d_Mo_more_104 : decode b_Mo_more 104 = .ok (.iload_n 2, 1) := by decide +kernel
theorem d_Mo_more_105 : decode b_Mo_more 105 = .ok (.ifCond .ne 7, 3) := by decide +kernel
theorem d_Mo_more_108 : decode b_Mo_more 108 = .ok (.iconst (-1), 1) := by decide +kernel
theorem d_Mo_more_109 : decode b_Mo_more 109 = .ok (.goto 9, 3) := by decide +kernel
theorem d_Mo_more_112 : decode b_Mo_more 112 = .ok (.lload 7, 2) := by decide +kernel
theorem d_Mo_more_114 : decode b_Mo_more 114 = .ok (.lload 9, 2) := by decide +kernel
theorem d_Mo_more_116 : decode b_Mo_more 116 = .ok (.ldiv, 1) := by decide +kernel
theorem d_Mo_more_117 : decode b_Mo_more 117 = .ok (.l2i, 1) := by decide +kernel
theorem d_Mo_more_118 : decode b_Mo_more 118 = .ok (.ireturn, 1) := by decide +kernel
theorem d_Mo_more_119 : decode b_Mo_more 119 = .ok (.iload_n 2, 1) := by decide +kernel
theorem d_Mo_more_120 : decode b_Mo_more 120 = .ok (.ifCond .ne 7, 3) := by decide +kernel
theorem d_Mo_more_123 : decode b_Mo_more 123 = .ok (.iconst (-1), 1) := by decide +kernel
theorem d_Mo_more_124 : decode b_Mo_more 124 = .ok (.goto 8, 3) := by decide +kernel
theorem d_Mo_more_127 : decode b_Mo_more 127 = .ok (.lload_n 3, 1) := by decide +kernel
theorem d_Mo_more_128 : decode b_Mo_more 128 = .ok (.lload 5, 2) := by decide +kernel
theorem d_Mo_more_130 : decode b_Mo_more 130 = .ok (.ldiv, 1) := by decide +kernel
theorem d_Mo_more_131 : decode b_Mo_more 131 = .ok (.l2i, 1) := by decide +kernel
theorem d_Mo_more_132 : decode b_Mo_more 132 = .ok (.ireturn, 1) := by decide +kernel
theorem d_Mo_more_133 : decode b_Mo_more 133 = .ok (.iload_n 2, 1) := by decide +kernel
theorem d_Mo_more_134 : decode b_Mo_more 134 = .ok (.ifCond .ne 7, 3) := by decide +kernel
theorem d_Mo_more_137 : decode b_Mo_more 137 = .ok (.iload_n 1, 1) := by decide +kernel
theorem d_Mo_more_138 : decode b_Mo_more 138 = .ok (.goto 15, 3) := by decide +kernel
theorem d_Mo_more_141 : decode b_Mo_more 141 = .ok (.lload 7, 2) := by decide +kernel
theorem d_Mo_more_143 : decode b_Mo_more 143 = .ok (.lload 7, 2) := by decide +kernel
theorem d_Mo_more_145 : decode b_Mo_more 145 = .ok (.lload 9, 2) := by decide +kernel
theorem d_Mo_more_147 : decode b_Mo_more 147 = .ok (.ldiv, 1) := by decide +kernel
theorem d_Mo_more_148 : decode b_Mo_more 148 = .ok (.lload 9, 2) := by decide +kernel
theorem d_Mo_more_150 : decode b_Mo_more 150 = .ok (.lmul, 1) := by decide +kernel
theorem d_Mo_more_151 : decode b_Mo_more 151 = .ok (.lsub, 1) := by decide +kernel
theorem d_Mo_more_152 : decode b_Mo_more 152 = .ok (.l2i, 1) := by decide +kernel
theorem d_Mo_more_153 : decode b_Mo_more 153 = .ok (.ireturn, 1) := by decide +kernel
theorem d_Mo_more_154 : decode b_Mo_more 154 = .ok (.iload_n 2, 1) := by decide +kernel
theorem d_Mo_more_155 : decode b_Mo_more 155 = .ok (.ifCond .ne 7, 3) := by decide +kernel
theorem d_Mo_more_158 : decode b_Mo_more 158 = .ok (.iload_n 1, 1) := by decide +kernel
theorem d_Mo_more_159 : decode b_Mo_more 159 = .ok (.goto 13, 3) := by decide +kernel
theorem d_Mo_more_162 : decode b_Mo_more 162 = .ok (.lload_n 3, 1) := by decide +kernel
theorem d_Mo_more_163 : decode b_Mo_more 163 = .ok (.lload_n 3, 1) := by decide +kernel
theorem d_Mo_more_164 : decode b_Mo_more 164 = .ok (.lload 5, 2) := by decide +kernel
theorem d_Mo_more_166 : decode b_Mo_more 166 = .ok (.ldiv, 1) := by decide +kernel
theorem d_Mo_more_167 : decode b_Mo_more 167 = .ok (.lload 5, 2) := by decide +kernel
theorem d_Mo_more_169 : decode b_Mo_more 169 = .ok (.lmul, 1) := by decide +kernel
theorem d_Mo_more_170 : decode b_Mo_more 170 = .ok (.lsub, 1) := by decide +kernel
theorem d_Mo_more_171 : decode b_Mo_more 171 = .ok (.l2i, 1) := by decide +kernel
theorem d_Mo_more_172 : decode b_Mo_more 172 = .ok (.ireturn, 1) := by decide +kernel
def sp_Mo_bits (w : Int32) (i : Int32) (n : Int32) : Int32 := (zushr w i) &&& (((1 : Int32) <<< ((n : Int32) &&& 31)) - 1)
set_option maxHeartbeats 4000000 in
theorem c_Mo_bits (l : Launch) (D : va_G) (T : List (ClassId × FieldType)) (sz : Nat) (w : Int32) (i : Int32) (n : Int32) : zMet l y_Mo_bits (zWs y_Mo_bits b_Mo_bits 3 (some .int)) { frames := 0, cells := 0, slots := 0, locals := 0 } (zPc D T sz [] [.int w, .int i, .int n]) (zQi D (va_A [] sz) (fun r (_ : Unit) => r = sp_Mo_bits w i n) (z0) (fun _ => [])) (va_A [] sz) := by
  refine zstart (Qc := fun A => zQi D A (fun r (_ : Unit) => r = sp_Mo_bits w i n) (z0) (fun _ => [])) (by decide) (Nat.le_of_ble_eq_true rfl) ?_
  intro p e s m below meth c ls A hE hr hlocks hin hsz hK hP hD hS hA hAe hl
  have hx := hE.1
  have hb := hE.2.1
  have hown := hE.2.2.2.1
  have hw := hE.2.2.2.2
  have hl : lv_has ls 3 [(0, .int w), (1, .int i), (2, .int n)] := hl
  refine lv_iload_n hx hb d_Mo_bits_0 rfl (lv_at hl 0 rfl) ?_
  refine lv_iload_n hx hb d_Mo_bits_1 rfl (lv_at hl 1 rfl) ?_
  refine lv_iushr (v := zushr w i) hx hb d_Mo_bits_2 rfl ?_
  refine lv_iconst (v := 1) hx hb d_Mo_bits_3 (by decide) ?_
  refine lv_iload_n hx hb d_Mo_bits_4 rfl (lv_at hl 2 rfl) ?_
  refine lv_ishl hx hb d_Mo_bits_5 ?_
  refine lv_iconst (v := 1) hx hb d_Mo_bits_6 (by decide) ?_
  refine lv_isub hx hb d_Mo_bits_7 ?_
  refine lv_iand hx hb d_Mo_bits_8 ?_
  exact zreti hx hb hr rfl hlocks hS () rfl rfl hP hD d_Mo_bits_9

def sp_Mo_signed (v : Int32) (n : Int32) : Int32 := ((v : Int32) <<< ((32 - n : Int32) &&& 31) : Int32) >>> ((32 - n : Int32) &&& 31)
set_option maxHeartbeats 4000000 in
theorem c_Mo_signed (l : Launch) (D : va_G) (T : List (ClassId × FieldType)) (sz : Nat) (v : Int32) (n : Int32) : zMet l y_Mo_signed (zWs y_Mo_signed b_Mo_signed 2 (some .int)) { frames := 0, cells := 0, slots := 0, locals := 0 } (zPc D T sz [] [.int v, .int n]) (zQi D (va_A [] sz) (fun r (_ : Unit) => r = sp_Mo_signed v n) (z0) (fun _ => [])) (va_A [] sz) := by
  refine zstart (Qc := fun A => zQi D A (fun r (_ : Unit) => r = sp_Mo_signed v n) (z0) (fun _ => [])) (by decide) (Nat.le_of_ble_eq_true rfl) ?_
  intro p e s m below meth c ls A hE hr hlocks hin hsz hK hP hD hS hA hAe hl
  have hx := hE.1
  have hb := hE.2.1
  have hown := hE.2.2.2.1
  have hw := hE.2.2.2.2
  have hl : lv_has ls 2 [(0, .int v), (1, .int n)] := hl
  refine lv_iload_n hx hb d_Mo_signed_0 rfl (lv_at hl 0 rfl) ?_
  refine lv_bipush (v := 32) hx hb d_Mo_signed_1 (by decide) ?_
  refine lv_iload_n hx hb d_Mo_signed_3 rfl (lv_at hl 1 rfl) ?_
  refine lv_isub hx hb d_Mo_signed_4 ?_
  refine lv_ishl hx hb d_Mo_signed_5 ?_
  refine lv_bipush (v := 32) hx hb d_Mo_signed_6 (by decide) ?_
  refine lv_iload_n hx hb d_Mo_signed_8 rfl (lv_at hl 1 rfl) ?_
  refine lv_isub hx hb d_Mo_signed_9 ?_
  refine lv_ishr hx hb d_Mo_signed_10 ?_
  exact zreti hx hb hr rfl hlocks hS () rfl rfl hP hD d_Mo_signed_11

def sp_Mo_byUpper (w : Int32) : Int32 := sp_Mo_signed (sp_Mo_bits w 20 12) 12
set_option maxHeartbeats 4000000 in
theorem c_Mo_byUpper (l : Launch) (D : va_G) (T : List (ClassId × FieldType)) (sz : Nat) (w : Int32) : zMet l y_Mo_byUpper (zWs y_Mo_byUpper b_Mo_byUpper 1 (some .int)) { frames := 1, cells := 0, slots := 0, locals := 22 } (zPc D T sz [] [.int w]) (zQi D (va_A [] sz) (fun r (_ : Unit) => r = sp_Mo_byUpper w) (z0) (fun _ => [])) (va_A [] sz) := by
  refine zstart (Qc := fun A => zQi D A (fun r (_ : Unit) => r = sp_Mo_byUpper w) (z0) (fun _ => [])) (by decide) (Nat.le_of_ble_eq_true rfl) ?_
  intro p e s m below meth c ls A hE hr hlocks hin hsz hK hP hD hS hA hAe hl
  have hx := hE.1
  have hb := hE.2.1
  have hown := hE.2.2.2.1
  have hw := hE.2.2.2.2
  have hl : lv_has ls 1 [(0, .int w)] := hl
  refine lv_iload_n hx hb d_Mo_byUpper_0 rfl (lv_at hl 0 rfl) ?_
  refine lv_bipush (v := 20) hx hb d_Mo_byUpper_1 (by decide) ?_
  refine lv_bipush (v := 12) hx hb d_Mo_byUpper_3 (by decide) ?_
  refine zgoi (wr := []) (zrunS (n := 3) (As := [.int w, .int 20, .int 12]) (rest := []) hE (c_Mo_bits l D _ _ w 20 12) cb_Mo_bits lk_Mo_65 st_Mo_bits (zpreS hK hP hD [] rfl rfl rfl) ⟨Nat.le_of_ble_eq_true rfl, Nat.le_of_ble_eq_true rfl, Nat.le_of_ble_eq_true rfl, Nat.le_of_ble_eq_true rfl⟩ rfl hl.1 rfl (Nat.le_of_ble_eq_true rfl) d_Mo_byUpper_5) hP hD hS hA [] [] rfl rfl rfl (by decide) (fun r u H locs hq1 hP hD hS => ?_)
  subst hq1
  have hP : va_P D zC [] H := hP
  have hD : va_D A [] := hD
  refine lv_bipush (v := 12) hx hb d_Mo_byUpper_8 (by decide) ?_
  refine zgoi (wr := []) (zrunS (n := 2) (As := [.int (sp_Mo_bits w 20 12), .int 12]) (rest := []) hE (c_Mo_signed l D _ _ (sp_Mo_bits w 20 12) 12) cb_Mo_signed lk_Mo_69 st_Mo_signed (zpreS hK hP hD [] rfl rfl rfl) ⟨Nat.le_of_ble_eq_true rfl, Nat.le_of_ble_eq_true rfl, Nat.le_of_ble_eq_true rfl, Nat.le_of_ble_eq_true rfl⟩ rfl hl.1 rfl (Nat.le_of_ble_eq_true rfl) d_Mo_byUpper_10) hP hD hS hA [] [] rfl rfl rfl (by decide) (fun r u H locs hq2 hP hD hS => ?_)
  subst hq2
  have hP : va_P D zC [] H := hP
  have hD : va_D A [] := hD
  exact zreti hx hb hr rfl hlocks hS () rfl rfl hP hD d_Mo_byUpper_13

def sp_Mo_byStore (w : Int32) : Int32 := sp_Mo_signed (((sp_Mo_bits w 25 7 : Int32) <<< ((5 : Int32) &&& 31)) ||| (sp_Mo_bits w 7 5)) 12
set_option maxHeartbeats 4000000 in
theorem c_Mo_byStore (l : Launch) (D : va_G) (T : List (ClassId × FieldType)) (sz : Nat) (w : Int32) : zMet l y_Mo_byStore (zWs y_Mo_byStore b_Mo_byStore 1 (some .int)) { frames := 1, cells := 0, slots := 0, locals := 22 } (zPc D T sz [] [.int w]) (zQi D (va_A [] sz) (fun r (_ : Unit) => r = sp_Mo_byStore w) (z0) (fun _ => [])) (va_A [] sz) := by
  refine zstart (Qc := fun A => zQi D A (fun r (_ : Unit) => r = sp_Mo_byStore w) (z0) (fun _ => [])) (by decide) (Nat.le_of_ble_eq_true rfl) ?_
  intro p e s m below meth c ls A hE hr hlocks hin hsz hK hP hD hS hA hAe hl
  have hx := hE.1
  have hb := hE.2.1
  have hown := hE.2.2.2.1
  have hw := hE.2.2.2.2
  have hl : lv_has ls 1 [(0, .int w)] := hl
  refine lv_iload_n hx hb d_Mo_byStore_0 rfl (lv_at hl 0 rfl) ?_
  refine lv_bipush (v := 25) hx hb d_Mo_byStore_1 (by decide) ?_
  refine lv_bipush (v := 7) hx hb d_Mo_byStore_3 (by decide) ?_
  refine zgoi (wr := []) (zrunS (n := 3) (As := [.int w, .int 25, .int 7]) (rest := []) hE (c_Mo_bits l D _ _ w 25 7) cb_Mo_bits lk_Mo_65 st_Mo_bits (zpreS hK hP hD [] rfl rfl rfl) ⟨Nat.le_of_ble_eq_true rfl, Nat.le_of_ble_eq_true rfl, Nat.le_of_ble_eq_true rfl, Nat.le_of_ble_eq_true rfl⟩ rfl hl.1 rfl (Nat.le_of_ble_eq_true rfl) d_Mo_byStore_5) hP hD hS hA [] [] rfl rfl rfl (by decide) (fun r u H locs hq1 hP hD hS => ?_)
  subst hq1
  have hP : va_P D zC [] H := hP
  have hD : va_D A [] := hD
  refine lv_iconst (v := 5) hx hb d_Mo_byStore_8 (by decide) ?_
  refine lv_ishl hx hb d_Mo_byStore_9 ?_
  refine lv_iload_n hx hb d_Mo_byStore_10 rfl (lv_at hl 0 rfl) ?_
  refine lv_bipush (v := 7) hx hb d_Mo_byStore_11 (by decide) ?_
  refine lv_iconst (v := 5) hx hb d_Mo_byStore_13 (by decide) ?_
  refine zgoi (wr := []) (zrunS (n := 3) (As := [.int w, .int 7, .int 5]) (rest := [.int ((sp_Mo_bits w 25 7 : Int32) <<< ((5 : Int32) &&& 31))]) hE (c_Mo_bits l D _ _ w 7 5) cb_Mo_bits lk_Mo_65 st_Mo_bits (zpreS hK hP hD [] rfl rfl rfl) ⟨Nat.le_of_ble_eq_true rfl, Nat.le_of_ble_eq_true rfl, Nat.le_of_ble_eq_true rfl, Nat.le_of_ble_eq_true rfl⟩ rfl hl.1 rfl (Nat.le_of_ble_eq_true rfl) d_Mo_byStore_14) hP hD hS hA [] [] rfl rfl rfl (by decide) (fun r u H locs hq2 hP hD hS => ?_)
  subst hq2
  have hP : va_P D zC [] H := hP
  have hD : va_D A [] := hD
  refine lv_ior hx hb d_Mo_byStore_17 ?_
  refine lv_bipush (v := 12) hx hb d_Mo_byStore_18 (by decide) ?_
  refine zgoi (wr := []) (zrunS (n := 2) (As := [.int (((sp_Mo_bits w 25 7 : Int32) <<< ((5 : Int32) &&& 31)) ||| (sp_Mo_bits w 7 5)), .int 12]) (rest := []) hE (c_Mo_signed l D _ _ (((sp_Mo_bits w 25 7 : Int32) <<< ((5 : Int32) &&& 31)) ||| (sp_Mo_bits w 7 5)) 12) cb_Mo_signed lk_Mo_69 st_Mo_signed (zpreS hK hP hD [] rfl rfl rfl) ⟨Nat.le_of_ble_eq_true rfl, Nat.le_of_ble_eq_true rfl, Nat.le_of_ble_eq_true rfl, Nat.le_of_ble_eq_true rfl⟩ rfl hl.1 rfl (Nat.le_of_ble_eq_true rfl) d_Mo_byStore_20) hP hD hS hA [] [] rfl rfl rfl (by decide) (fun r u H locs hq3 hP hD hS => ?_)
  subst hq3
  have hP : va_P D zC [] H := hP
  have hD : va_D A [] := hD
  exact zreti hx hb hr rfl hlocks hS () rfl rfl hP hD d_Mo_byStore_23

def sp_Mo_byBranch (w : Int32) : Int32 := sp_Mo_signed (((((sp_Mo_bits w 31 1 : Int32) <<< ((12 : Int32) &&& 31)) ||| ((sp_Mo_bits w 7 1 : Int32) <<< ((11 : Int32) &&& 31))) ||| ((sp_Mo_bits w 25 6 : Int32) <<< ((5 : Int32) &&& 31))) ||| ((sp_Mo_bits w 8 4 : Int32) <<< ((1 : Int32) &&& 31))) 13
set_option maxHeartbeats 4000000 in
theorem c_Mo_byBranch (l : Launch) (D : va_G) (T : List (ClassId × FieldType)) (sz : Nat) (w : Int32) : zMet l y_Mo_byBranch (zWs y_Mo_byBranch b_Mo_byBranch 1 (some .int)) { frames := 1, cells := 0, slots := 0, locals := 22 } (zPc D T sz [] [.int w]) (zQi D (va_A [] sz) (fun r (_ : Unit) => r = sp_Mo_byBranch w) (z0) (fun _ => [])) (va_A [] sz) := by
  refine zstart (Qc := fun A => zQi D A (fun r (_ : Unit) => r = sp_Mo_byBranch w) (z0) (fun _ => [])) (by decide) (Nat.le_of_ble_eq_true rfl) ?_
  intro p e s m below meth c ls A hE hr hlocks hin hsz hK hP hD hS hA hAe hl
  have hx := hE.1
  have hb := hE.2.1
  have hown := hE.2.2.2.1
  have hw := hE.2.2.2.2
  have hl : lv_has ls 1 [(0, .int w)] := hl
  refine lv_iload_n hx hb d_Mo_byBranch_0 rfl (lv_at hl 0 rfl) ?_
  refine lv_bipush (v := 31) hx hb d_Mo_byBranch_1 (by decide) ?_
  refine lv_iconst (v := 1) hx hb d_Mo_byBranch_3 (by decide) ?_
  refine zgoi (wr := []) (zrunS (n := 3) (As := [.int w, .int 31, .int 1]) (rest := []) hE (c_Mo_bits l D _ _ w 31 1) cb_Mo_bits lk_Mo_65 st_Mo_bits (zpreS hK hP hD [] rfl rfl rfl) ⟨Nat.le_of_ble_eq_true rfl, Nat.le_of_ble_eq_true rfl, Nat.le_of_ble_eq_true rfl, Nat.le_of_ble_eq_true rfl⟩ rfl hl.1 rfl (Nat.le_of_ble_eq_true rfl) d_Mo_byBranch_4) hP hD hS hA [] [] rfl rfl rfl (by decide) (fun r u H locs hq1 hP hD hS => ?_)
  subst hq1
  have hP : va_P D zC [] H := hP
  have hD : va_D A [] := hD
  refine lv_bipush (v := 12) hx hb d_Mo_byBranch_7 (by decide) ?_
  refine lv_ishl hx hb d_Mo_byBranch_9 ?_
  refine lv_iload_n hx hb d_Mo_byBranch_10 rfl (lv_at hl 0 rfl) ?_
  refine lv_bipush (v := 7) hx hb d_Mo_byBranch_11 (by decide) ?_
  refine lv_iconst (v := 1) hx hb d_Mo_byBranch_13 (by decide) ?_
  refine zgoi (wr := []) (zrunS (n := 3) (As := [.int w, .int 7, .int 1]) (rest := [.int ((sp_Mo_bits w 31 1 : Int32) <<< ((12 : Int32) &&& 31))]) hE (c_Mo_bits l D _ _ w 7 1) cb_Mo_bits lk_Mo_65 st_Mo_bits (zpreS hK hP hD [] rfl rfl rfl) ⟨Nat.le_of_ble_eq_true rfl, Nat.le_of_ble_eq_true rfl, Nat.le_of_ble_eq_true rfl, Nat.le_of_ble_eq_true rfl⟩ rfl hl.1 rfl (Nat.le_of_ble_eq_true rfl) d_Mo_byBranch_14) hP hD hS hA [] [] rfl rfl rfl (by decide) (fun r u H locs hq2 hP hD hS => ?_)
  subst hq2
  have hP : va_P D zC [] H := hP
  have hD : va_D A [] := hD
  refine lv_bipush (v := 11) hx hb d_Mo_byBranch_17 (by decide) ?_
  refine lv_ishl hx hb d_Mo_byBranch_19 ?_
  refine lv_ior hx hb d_Mo_byBranch_20 ?_
  refine lv_iload_n hx hb d_Mo_byBranch_21 rfl (lv_at hl 0 rfl) ?_
  refine lv_bipush (v := 25) hx hb d_Mo_byBranch_22 (by decide) ?_
  refine lv_bipush (v := 6) hx hb d_Mo_byBranch_24 (by decide) ?_
  refine zgoi (wr := []) (zrunS (n := 3) (As := [.int w, .int 25, .int 6]) (rest := [.int (((sp_Mo_bits w 31 1 : Int32) <<< ((12 : Int32) &&& 31)) ||| ((sp_Mo_bits w 7 1 : Int32) <<< ((11 : Int32) &&& 31)))]) hE (c_Mo_bits l D _ _ w 25 6) cb_Mo_bits lk_Mo_65 st_Mo_bits (zpreS hK hP hD [] rfl rfl rfl) ⟨Nat.le_of_ble_eq_true rfl, Nat.le_of_ble_eq_true rfl, Nat.le_of_ble_eq_true rfl, Nat.le_of_ble_eq_true rfl⟩ rfl hl.1 rfl (Nat.le_of_ble_eq_true rfl) d_Mo_byBranch_26) hP hD hS hA [] [] rfl rfl rfl (by decide) (fun r u H locs hq3 hP hD hS => ?_)
  subst hq3
  have hP : va_P D zC [] H := hP
  have hD : va_D A [] := hD
  refine lv_iconst (v := 5) hx hb d_Mo_byBranch_29 (by decide) ?_
  refine lv_ishl hx hb d_Mo_byBranch_30 ?_
  refine lv_ior hx hb d_Mo_byBranch_31 ?_
  refine lv_iload_n hx hb d_Mo_byBranch_32 rfl (lv_at hl 0 rfl) ?_
  refine lv_bipush (v := 8) hx hb d_Mo_byBranch_33 (by decide) ?_
  refine lv_iconst (v := 4) hx hb d_Mo_byBranch_35 (by decide) ?_
  refine zgoi (wr := []) (zrunS (n := 3) (As := [.int w, .int 8, .int 4]) (rest := [.int ((((sp_Mo_bits w 31 1 : Int32) <<< ((12 : Int32) &&& 31)) ||| ((sp_Mo_bits w 7 1 : Int32) <<< ((11 : Int32) &&& 31))) ||| ((sp_Mo_bits w 25 6 : Int32) <<< ((5 : Int32) &&& 31)))]) hE (c_Mo_bits l D _ _ w 8 4) cb_Mo_bits lk_Mo_65 st_Mo_bits (zpreS hK hP hD [] rfl rfl rfl) ⟨Nat.le_of_ble_eq_true rfl, Nat.le_of_ble_eq_true rfl, Nat.le_of_ble_eq_true rfl, Nat.le_of_ble_eq_true rfl⟩ rfl hl.1 rfl (Nat.le_of_ble_eq_true rfl) d_Mo_byBranch_36) hP hD hS hA [] [] rfl rfl rfl (by decide) (fun r u H locs hq4 hP hD hS => ?_)
  subst hq4
  have hP : va_P D zC [] H := hP
  have hD : va_D A [] := hD
  refine lv_iconst (v := 1) hx hb d_Mo_byBranch_39 (by decide) ?_
  refine lv_ishl hx hb d_Mo_byBranch_40 ?_
  refine lv_ior hx hb d_Mo_byBranch_41 ?_
  refine lv_bipush (v := 13) hx hb d_Mo_byBranch_42 (by decide) ?_
  refine zgoi (wr := []) (zrunS (n := 2) (As := [.int (((((sp_Mo_bits w 31 1 : Int32) <<< ((12 : Int32) &&& 31)) ||| ((sp_Mo_bits w 7 1 : Int32) <<< ((11 : Int32) &&& 31))) ||| ((sp_Mo_bits w 25 6 : Int32) <<< ((5 : Int32) &&& 31))) ||| ((sp_Mo_bits w 8 4 : Int32) <<< ((1 : Int32) &&& 31))), .int 13]) (rest := []) hE (c_Mo_signed l D _ _ (((((sp_Mo_bits w 31 1 : Int32) <<< ((12 : Int32) &&& 31)) ||| ((sp_Mo_bits w 7 1 : Int32) <<< ((11 : Int32) &&& 31))) ||| ((sp_Mo_bits w 25 6 : Int32) <<< ((5 : Int32) &&& 31))) ||| ((sp_Mo_bits w 8 4 : Int32) <<< ((1 : Int32) &&& 31))) 13) cb_Mo_signed lk_Mo_69 st_Mo_signed (zpreS hK hP hD [] rfl rfl rfl) ⟨Nat.le_of_ble_eq_true rfl, Nat.le_of_ble_eq_true rfl, Nat.le_of_ble_eq_true rfl, Nat.le_of_ble_eq_true rfl⟩ rfl hl.1 rfl (Nat.le_of_ble_eq_true rfl) d_Mo_byBranch_44) hP hD hS hA [] [] rfl rfl rfl (by decide) (fun r u H locs hq5 hP hD hS => ?_)
  subst hq5
  have hP : va_P D zC [] H := hP
  have hD : va_D A [] := hD
  exact zreti hx hb hr rfl hlocks hS () rfl rfl hP hD d_Mo_byBranch_47

def sp_Mo_byJump (w : Int32) : Int32 := sp_Mo_signed (((((sp_Mo_bits w 31 1 : Int32) <<< ((20 : Int32) &&& 31)) ||| ((sp_Mo_bits w 12 8 : Int32) <<< ((12 : Int32) &&& 31))) ||| ((sp_Mo_bits w 20 1 : Int32) <<< ((11 : Int32) &&& 31))) ||| ((sp_Mo_bits w 21 10 : Int32) <<< ((1 : Int32) &&& 31))) 21
set_option maxHeartbeats 4000000 in
theorem c_Mo_byJump (l : Launch) (D : va_G) (T : List (ClassId × FieldType)) (sz : Nat) (w : Int32) : zMet l y_Mo_byJump (zWs y_Mo_byJump b_Mo_byJump 1 (some .int)) { frames := 1, cells := 0, slots := 0, locals := 22 } (zPc D T sz [] [.int w]) (zQi D (va_A [] sz) (fun r (_ : Unit) => r = sp_Mo_byJump w) (z0) (fun _ => [])) (va_A [] sz) := by
  refine zstart (Qc := fun A => zQi D A (fun r (_ : Unit) => r = sp_Mo_byJump w) (z0) (fun _ => [])) (by decide) (Nat.le_of_ble_eq_true rfl) ?_
  intro p e s m below meth c ls A hE hr hlocks hin hsz hK hP hD hS hA hAe hl
  have hx := hE.1
  have hb := hE.2.1
  have hown := hE.2.2.2.1
  have hw := hE.2.2.2.2
  have hl : lv_has ls 1 [(0, .int w)] := hl
  refine lv_iload_n hx hb d_Mo_byJump_0 rfl (lv_at hl 0 rfl) ?_
  refine lv_bipush (v := 31) hx hb d_Mo_byJump_1 (by decide) ?_
  refine lv_iconst (v := 1) hx hb d_Mo_byJump_3 (by decide) ?_
  refine zgoi (wr := []) (zrunS (n := 3) (As := [.int w, .int 31, .int 1]) (rest := []) hE (c_Mo_bits l D _ _ w 31 1) cb_Mo_bits lk_Mo_65 st_Mo_bits (zpreS hK hP hD [] rfl rfl rfl) ⟨Nat.le_of_ble_eq_true rfl, Nat.le_of_ble_eq_true rfl, Nat.le_of_ble_eq_true rfl, Nat.le_of_ble_eq_true rfl⟩ rfl hl.1 rfl (Nat.le_of_ble_eq_true rfl) d_Mo_byJump_4) hP hD hS hA [] [] rfl rfl rfl (by decide) (fun r u H locs hq1 hP hD hS => ?_)
  subst hq1
  have hP : va_P D zC [] H := hP
  have hD : va_D A [] := hD
  refine lv_bipush (v := 20) hx hb d_Mo_byJump_7 (by decide) ?_
  refine lv_ishl hx hb d_Mo_byJump_9 ?_
  refine lv_iload_n hx hb d_Mo_byJump_10 rfl (lv_at hl 0 rfl) ?_
  refine lv_bipush (v := 12) hx hb d_Mo_byJump_11 (by decide) ?_
  refine lv_bipush (v := 8) hx hb d_Mo_byJump_13 (by decide) ?_
  refine zgoi (wr := []) (zrunS (n := 3) (As := [.int w, .int 12, .int 8]) (rest := [.int ((sp_Mo_bits w 31 1 : Int32) <<< ((20 : Int32) &&& 31))]) hE (c_Mo_bits l D _ _ w 12 8) cb_Mo_bits lk_Mo_65 st_Mo_bits (zpreS hK hP hD [] rfl rfl rfl) ⟨Nat.le_of_ble_eq_true rfl, Nat.le_of_ble_eq_true rfl, Nat.le_of_ble_eq_true rfl, Nat.le_of_ble_eq_true rfl⟩ rfl hl.1 rfl (Nat.le_of_ble_eq_true rfl) d_Mo_byJump_15) hP hD hS hA [] [] rfl rfl rfl (by decide) (fun r u H locs hq2 hP hD hS => ?_)
  subst hq2
  have hP : va_P D zC [] H := hP
  have hD : va_D A [] := hD
  refine lv_bipush (v := 12) hx hb d_Mo_byJump_18 (by decide) ?_
  refine lv_ishl hx hb d_Mo_byJump_20 ?_
  refine lv_ior hx hb d_Mo_byJump_21 ?_
  refine lv_iload_n hx hb d_Mo_byJump_22 rfl (lv_at hl 0 rfl) ?_
  refine lv_bipush (v := 20) hx hb d_Mo_byJump_23 (by decide) ?_
  refine lv_iconst (v := 1) hx hb d_Mo_byJump_25 (by decide) ?_
  refine zgoi (wr := []) (zrunS (n := 3) (As := [.int w, .int 20, .int 1]) (rest := [.int (((sp_Mo_bits w 31 1 : Int32) <<< ((20 : Int32) &&& 31)) ||| ((sp_Mo_bits w 12 8 : Int32) <<< ((12 : Int32) &&& 31)))]) hE (c_Mo_bits l D _ _ w 20 1) cb_Mo_bits lk_Mo_65 st_Mo_bits (zpreS hK hP hD [] rfl rfl rfl) ⟨Nat.le_of_ble_eq_true rfl, Nat.le_of_ble_eq_true rfl, Nat.le_of_ble_eq_true rfl, Nat.le_of_ble_eq_true rfl⟩ rfl hl.1 rfl (Nat.le_of_ble_eq_true rfl) d_Mo_byJump_26) hP hD hS hA [] [] rfl rfl rfl (by decide) (fun r u H locs hq3 hP hD hS => ?_)
  subst hq3
  have hP : va_P D zC [] H := hP
  have hD : va_D A [] := hD
  refine lv_bipush (v := 11) hx hb d_Mo_byJump_29 (by decide) ?_
  refine lv_ishl hx hb d_Mo_byJump_31 ?_
  refine lv_ior hx hb d_Mo_byJump_32 ?_
  refine lv_iload_n hx hb d_Mo_byJump_33 rfl (lv_at hl 0 rfl) ?_
  refine lv_bipush (v := 21) hx hb d_Mo_byJump_34 (by decide) ?_
  refine lv_bipush (v := 10) hx hb d_Mo_byJump_36 (by decide) ?_
  refine zgoi (wr := []) (zrunS (n := 3) (As := [.int w, .int 21, .int 10]) (rest := [.int ((((sp_Mo_bits w 31 1 : Int32) <<< ((20 : Int32) &&& 31)) ||| ((sp_Mo_bits w 12 8 : Int32) <<< ((12 : Int32) &&& 31))) ||| ((sp_Mo_bits w 20 1 : Int32) <<< ((11 : Int32) &&& 31)))]) hE (c_Mo_bits l D _ _ w 21 10) cb_Mo_bits lk_Mo_65 st_Mo_bits (zpreS hK hP hD [] rfl rfl rfl) ⟨Nat.le_of_ble_eq_true rfl, Nat.le_of_ble_eq_true rfl, Nat.le_of_ble_eq_true rfl, Nat.le_of_ble_eq_true rfl⟩ rfl hl.1 rfl (Nat.le_of_ble_eq_true rfl) d_Mo_byJump_38) hP hD hS hA [] [] rfl rfl rfl (by decide) (fun r u H locs hq4 hP hD hS => ?_)
  subst hq4
  have hP : va_P D zC [] H := hP
  have hD : va_D A [] := hD
  refine lv_iconst (v := 1) hx hb d_Mo_byJump_41 (by decide) ?_
  refine lv_ishl hx hb d_Mo_byJump_42 ?_
  refine lv_ior hx hb d_Mo_byJump_43 ?_
  refine lv_bipush (v := 21) hx hb d_Mo_byJump_44 (by decide) ?_
  refine zgoi (wr := []) (zrunS (n := 2) (As := [.int (((((sp_Mo_bits w 31 1 : Int32) <<< ((20 : Int32) &&& 31)) ||| ((sp_Mo_bits w 12 8 : Int32) <<< ((12 : Int32) &&& 31))) ||| ((sp_Mo_bits w 20 1 : Int32) <<< ((11 : Int32) &&& 31))) ||| ((sp_Mo_bits w 21 10 : Int32) <<< ((1 : Int32) &&& 31))), .int 21]) (rest := []) hE (c_Mo_signed l D _ _ (((((sp_Mo_bits w 31 1 : Int32) <<< ((20 : Int32) &&& 31)) ||| ((sp_Mo_bits w 12 8 : Int32) <<< ((12 : Int32) &&& 31))) ||| ((sp_Mo_bits w 20 1 : Int32) <<< ((11 : Int32) &&& 31))) ||| ((sp_Mo_bits w 21 10 : Int32) <<< ((1 : Int32) &&& 31))) 21) cb_Mo_signed lk_Mo_69 st_Mo_signed (zpreS hK hP hD [] rfl rfl rfl) ⟨Nat.le_of_ble_eq_true rfl, Nat.le_of_ble_eq_true rfl, Nat.le_of_ble_eq_true rfl, Nat.le_of_ble_eq_true rfl⟩ rfl hl.1 rfl (Nat.le_of_ble_eq_true rfl) d_Mo_byJump_46) hP hD hS hA [] [] rfl rfl rfl (by decide) (fun r u H locs hq5 hP hD hS => ?_)
  subst hq5
  have hP : va_P D zC [] H := hP
  have hD : va_D A [] := hD
  exact zreti hx hb hr rfl hlocks hS () rfl rfl hP hD d_Mo_byJump_49

def sp_Mo_up (n : Int32) : Int32 := ((n + 3) / 4) * 4
set_option maxHeartbeats 4000000 in
theorem c_Mo_up (l : Launch) (D : va_G) (T : List (ClassId × FieldType)) (sz : Nat) (n : Int32) : zMet l y_Mo_up (zWs y_Mo_up b_Mo_up 1 (some .int)) { frames := 0, cells := 0, slots := 0, locals := 0 } (zPc D T sz [] [.int n]) (zQi D (va_A [] sz) (fun r (_ : Unit) => r = sp_Mo_up n) (z0) (fun _ => [])) (va_A [] sz) := by
  refine zstart (Qc := fun A => zQi D A (fun r (_ : Unit) => r = sp_Mo_up n) (z0) (fun _ => [])) (by decide) (Nat.le_of_ble_eq_true rfl) ?_
  intro p e s m below meth c ls A hE hr hlocks hin hsz hK hP hD hS hA hAe hl
  have hx := hE.1
  have hb := hE.2.1
  have hown := hE.2.2.2.1
  have hw := hE.2.2.2.2
  have hl : lv_has ls 1 [(0, .int n)] := hl
  refine lv_iload_n hx hb d_Mo_up_0 rfl (lv_at hl 0 rfl) ?_
  refine lv_iconst (v := 3) hx hb d_Mo_up_1 (by decide) ?_
  refine lv_iadd hx hb d_Mo_up_2 ?_
  refine lv_iconst (v := 4) hx hb d_Mo_up_3 (by decide) ?_
  refine lv_idiv hx hb d_Mo_up_4 (by decide) ?_
  refine lv_iconst (v := 4) hx hb d_Mo_up_5 (by decide) ?_
  refine lv_imul hx hb d_Mo_up_6 ?_
  exact zreti hx hb hr rfl hlocks hS () rfl rfl hP hD d_Mo_up_7

def sp_Mo_plain (f : Int32) (o : Int32) (x : Int32) (y : Int32) : Int32 := if f = 0 then
  if o = 0 then x + y else x - y
else if f = 1 then (x : Int32) <<< ((y &&& 31 : Int32) &&& 31) else if f = 2 then
  if y ≤ x then 0 else 1
else if f = 3 then
  if 0 ≤ (lg_cmp (((x : Int32).toInt64) &&& 4294967295) (((y : Int32).toInt64) &&& 4294967295)) then 0 else 1
else if f = 4 then x ^^^ y else if f = 5 then
  if o = 0 then zushr x (y &&& 31) else (x : Int32) >>> ((y &&& 31 : Int32) &&& 31)
else if f = 6 then x ||| y else x &&& y
set_option maxHeartbeats 4000000 in
theorem c_Mo_plain (l : Launch) (D : va_G) (T : List (ClassId × FieldType)) (sz : Nat) (f : Int32) (o : Int32) (x : Int32) (y : Int32) : zMet l y_Mo_plain (zWs y_Mo_plain b_Mo_plain 4 (some .int)) { frames := 0, cells := 0, slots := 0, locals := 0 } (zPc D T sz [] [.int f, .int o, .int x, .int y]) (zQi D (va_A [] sz) (fun r (_ : Unit) => r = sp_Mo_plain f o x y) (z0) (fun _ => [])) (va_A [] sz) := by
  refine zstart (Qc := fun A => zQi D A (fun r (_ : Unit) => r = sp_Mo_plain f o x y) (z0) (fun _ => [])) (by decide) (Nat.le_of_ble_eq_true rfl) ?_
  intro p e s m below meth c ls A hE hr hlocks hin hsz hK hP hD hS hA hAe hl
  have hx := hE.1
  have hb := hE.2.1
  have hown := hE.2.2.2.1
  have hw := hE.2.2.2.2
  have hl : lv_has ls 4 [(0, .int f), (1, .int o), (2, .int x), (3, .int y)] := hl
  refine lv_iload_n hx hb d_Mo_plain_0 rfl (lv_at hl 0 rfl) ?_
  rcases Decidable.em (f = 0) with h1 | h1
  · refine lv_tableIn (tgt := 44) hx hb d_Mo_plain_1 (by rw [h1]; decide) (by rw [h1]; decide) (by rw [h1]; rfl) (by decide) ?_
    refine lv_iload_n hx hb d_Mo_plain_44 rfl (lv_at hl 1 rfl) ?_
    refine lv_if_eq (tgt := 54) hx hb d_Mo_plain_45 (by decide) (fun h2 => ?_) (fun h2 => ?_)
    · refine lv_iload_n hx hb d_Mo_plain_54 rfl (lv_at hl 2 rfl) ?_
      refine lv_iload_n hx hb d_Mo_plain_55 rfl (lv_at hl 3 rfl) ?_
      refine lv_iadd hx hb d_Mo_plain_56 ?_
      exact zreti hx hb hr rfl hlocks hS () (by rw [sp_Mo_plain, if_pos h1, if_pos h2]) rfl hP hD d_Mo_plain_57
    · refine lv_iload_n hx hb d_Mo_plain_48 rfl (lv_at hl 2 rfl) ?_
      refine lv_iload_n hx hb d_Mo_plain_49 rfl (lv_at hl 3 rfl) ?_
      refine lv_isub hx hb d_Mo_plain_50 ?_
      refine lv_goto (tgt := 57) hx hb d_Mo_plain_51 (by decide) ?_
      exact zreti hx hb hr rfl hlocks hS () (by rw [sp_Mo_plain, if_pos h1, if_neg h2]) rfl hP hD d_Mo_plain_57
  · rcases Decidable.em (f = 1) with h3 | h3
    · refine lv_tableIn (tgt := 58) hx hb d_Mo_plain_1 (by rw [h3]; decide) (by rw [h3]; decide) (by rw [h3]; rfl) (by decide) ?_
      refine lv_iload_n hx hb d_Mo_plain_58 rfl (lv_at hl 2 rfl) ?_
      refine lv_iload_n hx hb d_Mo_plain_59 rfl (lv_at hl 3 rfl) ?_
      refine lv_bipush (v := 31) hx hb d_Mo_plain_60 (by decide) ?_
      refine lv_iand hx hb d_Mo_plain_62 ?_
      refine lv_ishl hx hb d_Mo_plain_63 ?_
      exact zreti hx hb hr rfl hlocks hS () (by rw [sp_Mo_plain, if_neg h1, if_pos h3]) rfl hP hD d_Mo_plain_64
    · rcases Decidable.em (f = 2) with h4 | h4
      · refine lv_tableIn (tgt := 65) hx hb d_Mo_plain_1 (by rw [h4]; decide) (by rw [h4]; decide) (by rw [h4]; rfl) (by decide) ?_
        refine lv_iload_n hx hb d_Mo_plain_65 rfl (lv_at hl 2 rfl) ?_
        refine lv_iload_n hx hb d_Mo_plain_66 rfl (lv_at hl 3 rfl) ?_
        refine lv_icmp_ge (tgt := 74) hx hb d_Mo_plain_67 (by decide) (fun h5 => ?_) (fun h5 => ?_)
        · refine lv_iconst (v := 0) hx hb d_Mo_plain_74 (by decide) ?_
          exact zreti hx hb hr rfl hlocks hS () (by rw [sp_Mo_plain, if_neg h1, if_neg h3, if_pos h4, if_pos h5]) rfl hP hD d_Mo_plain_75
        · refine lv_iconst (v := 1) hx hb d_Mo_plain_70 (by decide) ?_
          refine lv_goto (tgt := 75) hx hb d_Mo_plain_71 (by decide) ?_
          exact zreti hx hb hr rfl hlocks hS () (by rw [sp_Mo_plain, if_neg h1, if_neg h3, if_pos h4, if_neg h5]) rfl hP hD d_Mo_plain_75
      · rcases Decidable.em (f = 3) with h6 | h6
        · refine lv_tableIn (tgt := 76) hx hb d_Mo_plain_1 (by rw [h6]; decide) (by rw [h6]; decide) (by rw [h6]; rfl) (by decide) ?_
          refine lv_iload_n hx hb d_Mo_plain_76 rfl (lv_at hl 2 rfl) ?_
          refine lv_i2l (v := (x : Int32).toInt64) hx hb d_Mo_plain_77 rfl ?_
          refine lv_ldc2 (v := 4294967295) hx hb hown (hw _ kc_Mo_148) d_Mo_plain_78 ?_
          refine lv_land hx hb d_Mo_plain_81 ?_
          refine lv_iload_n hx hb d_Mo_plain_82 rfl (lv_at hl 3 rfl) ?_
          refine lv_i2l (v := (y : Int32).toInt64) hx hb d_Mo_plain_83 rfl ?_
          refine lv_ldc2 (v := 4294967295) hx hb hown (hw _ kc_Mo_148) d_Mo_plain_84 ?_
          refine lv_land hx hb d_Mo_plain_87 ?_
          refine W.lcmp hx hb d_Mo_plain_88 ?_
          refine lv_if_ge (tgt := 96) hx hb d_Mo_plain_89 (by decide) (fun h7 => ?_) (fun h7 => ?_)
          · refine lv_iconst (v := 0) hx hb d_Mo_plain_96 (by decide) ?_
            exact zreti hx hb hr rfl hlocks hS () (by rw [sp_Mo_plain, if_neg h1, if_neg h3, if_neg h4, if_pos h6, if_pos h7]) rfl hP hD d_Mo_plain_97
          · refine lv_iconst (v := 1) hx hb d_Mo_plain_92 (by decide) ?_
            refine lv_goto (tgt := 97) hx hb d_Mo_plain_93 (by decide) ?_
            exact zreti hx hb hr rfl hlocks hS () (by rw [sp_Mo_plain, if_neg h1, if_neg h3, if_neg h4, if_pos h6, if_neg h7]) rfl hP hD d_Mo_plain_97
        · rcases Decidable.em (f = 4) with h8 | h8
          · refine lv_tableIn (tgt := 98) hx hb d_Mo_plain_1 (by rw [h8]; decide) (by rw [h8]; decide) (by rw [h8]; rfl) (by decide) ?_
            refine lv_iload_n hx hb d_Mo_plain_98 rfl (lv_at hl 2 rfl) ?_
            refine lv_iload_n hx hb d_Mo_plain_99 rfl (lv_at hl 3 rfl) ?_
            refine lv_ixor hx hb d_Mo_plain_100 ?_
            exact zreti hx hb hr rfl hlocks hS () (by rw [sp_Mo_plain, if_neg h1, if_neg h3, if_neg h4, if_neg h6, if_pos h8]) rfl hP hD d_Mo_plain_101
          · rcases Decidable.em (f = 5) with h9 | h9
            · refine lv_tableIn (tgt := 102) hx hb d_Mo_plain_1 (by rw [h9]; decide) (by rw [h9]; decide) (by rw [h9]; rfl) (by decide) ?_
              refine lv_iload_n hx hb d_Mo_plain_102 rfl (lv_at hl 1 rfl) ?_
              refine lv_if_eq (tgt := 115) hx hb d_Mo_plain_103 (by decide) (fun h10 => ?_) (fun h10 => ?_)
              · refine lv_iload_n hx hb d_Mo_plain_115 rfl (lv_at hl 2 rfl) ?_
                refine lv_iload_n hx hb d_Mo_plain_116 rfl (lv_at hl 3 rfl) ?_
                refine lv_bipush (v := 31) hx hb d_Mo_plain_117 (by decide) ?_
                refine lv_iand hx hb d_Mo_plain_119 ?_
                refine lv_iushr (v := zushr x (y &&& 31)) hx hb d_Mo_plain_120 rfl ?_
                exact zreti hx hb hr rfl hlocks hS () (by rw [sp_Mo_plain, if_neg h1, if_neg h3, if_neg h4, if_neg h6, if_neg h8, if_pos h9, if_pos h10]) rfl hP hD d_Mo_plain_121
              · refine lv_iload_n hx hb d_Mo_plain_106 rfl (lv_at hl 2 rfl) ?_
                refine lv_iload_n hx hb d_Mo_plain_107 rfl (lv_at hl 3 rfl) ?_
                refine lv_bipush (v := 31) hx hb d_Mo_plain_108 (by decide) ?_
                refine lv_iand hx hb d_Mo_plain_110 ?_
                refine lv_ishr hx hb d_Mo_plain_111 ?_
                refine lv_goto (tgt := 121) hx hb d_Mo_plain_112 (by decide) ?_
                exact zreti hx hb hr rfl hlocks hS () (by rw [sp_Mo_plain, if_neg h1, if_neg h3, if_neg h4, if_neg h6, if_neg h8, if_pos h9, if_neg h10]) rfl hP hD d_Mo_plain_121
            · rcases Decidable.em (f = 6) with h11 | h11
              · refine lv_tableIn (tgt := 122) hx hb d_Mo_plain_1 (by rw [h11]; decide) (by rw [h11]; decide) (by rw [h11]; rfl) (by decide) ?_
                refine lv_iload_n hx hb d_Mo_plain_122 rfl (lv_at hl 2 rfl) ?_
                refine lv_iload_n hx hb d_Mo_plain_123 rfl (lv_at hl 3 rfl) ?_
                refine lv_ior hx hb d_Mo_plain_124 ?_
                exact zreti hx hb hr rfl hlocks hS () (by rw [sp_Mo_plain, if_neg h1, if_neg h3, if_neg h4, if_neg h6, if_neg h8, if_neg h9, if_pos h11]) rfl hP hD d_Mo_plain_125
              · refine lv_tableOut (tgt := 126) hx hb d_Mo_plain_1 (by have q0 := z_ne h1 (n := 0) (by decide); have q1 := z_ne h3 (n := 1) (by decide); have q2 := z_ne h4 (n := 2) (by decide); have q3 := z_ne h6 (n := 3) (by decide); have q4 := z_ne h8 (n := 4) (by decide); have q5 := z_ne h9 (n := 5) (by decide); have q6 := z_ne h11 (n := 6) (by decide); omega) (by decide) ?_
                refine lv_iload_n hx hb d_Mo_plain_126 rfl (lv_at hl 2 rfl) ?_
                refine lv_iload_n hx hb d_Mo_plain_127 rfl (lv_at hl 3 rfl) ?_
                refine lv_iand hx hb d_Mo_plain_128 ?_
                exact zreti hx hb hr rfl hlocks hS () (by rw [sp_Mo_plain, if_neg h1, if_neg h3, if_neg h4, if_neg h6, if_neg h8, if_neg h9, if_neg h11]) rfl hP hD d_Mo_plain_129

def sp_Mo_more (f : Int32) (x : Int32) (y : Int32) : Int32 := if f = 0 then (((x : Int32).toInt64) * ((y : Int32).toInt64) : Int64).toInt32 else if f = 1 then (zlshr (((x : Int32).toInt64) * ((y : Int32).toInt64)) 32 : Int64).toInt32 else if f = 2 then (zlshr (((x : Int32).toInt64) * (((y : Int32).toInt64) &&& 4294967295)) 32 : Int64).toInt32 else if f = 3 then (zlushr ((((x : Int32).toInt64) &&& 4294967295) * (((y : Int32).toInt64) &&& 4294967295)) 32 : Int64).toInt32 else if f = 4 then
  if y = 0 then (-1) else (((x : Int32).toInt64) / ((y : Int32).toInt64) : Int64).toInt32
else if f = 5 then
  if y = 0 then (-1) else ((((x : Int32).toInt64) &&& 4294967295) / (((y : Int32).toInt64) &&& 4294967295) : Int64).toInt32
else if f = 6 then
  if y = 0 then x else (((x : Int32).toInt64) - ((((x : Int32).toInt64) / ((y : Int32).toInt64)) * ((y : Int32).toInt64)) : Int64).toInt32
else if y = 0 then x else ((((x : Int32).toInt64) &&& 4294967295) - (((((x : Int32).toInt64) &&& 4294967295) / (((y : Int32).toInt64) &&& 4294967295)) * (((y : Int32).toInt64) &&& 4294967295)) : Int64).toInt32
set_option maxHeartbeats 4000000 in
theorem c_Mo_more (l : Launch) (D : va_G) (T : List (ClassId × FieldType)) (sz : Nat) (f : Int32) (x : Int32) (y : Int32) : zMet l y_Mo_more (zWs y_Mo_more b_Mo_more 11 (some .int)) { frames := 0, cells := 0, slots := 0, locals := 0 } (zPc D T sz [] [.int f, .int x, .int y]) (zQi D (va_A [] sz) (fun r (_ : Unit) => r = sp_Mo_more f x y) (z0) (fun _ => [])) (va_A [] sz) := by
  refine zstart (Qc := fun A => zQi D A (fun r (_ : Unit) => r = sp_Mo_more f x y) (z0) (fun _ => [])) (by decide) (Nat.le_of_ble_eq_true rfl) ?_
  intro p e s m below meth c ls A hE hr hlocks hin hsz hK hP hD hS hA hAe hl
  have hx := hE.1
  have hb := hE.2.1
  have hown := hE.2.2.2.1
  have hw := hE.2.2.2.2
  have hl : lv_has ls 11 [(0, .int f), (1, .int x), (2, .int y)] := hl
  refine lv_iload_n hx hb d_Mo_more_0 rfl (lv_at hl 1 rfl) ?_
  refine lv_i2l (v := (x : Int32).toInt64) hx hb d_Mo_more_1 rfl ?_
  refine lv_ldc2 (v := 4294967295) hx hb hown (hw _ kc_Mo_148) d_Mo_more_2 ?_
  refine lv_land hx hb d_Mo_more_5 ?_
  refine lv_lstore_n (lv' := [(3, .long (((x : Int32).toInt64) &&& 4294967295)), (0, .int f), (1, .int x), (2, .int y)]) hx hb d_Mo_more_6 rfl hl (by decide) rfl (fun ls hl => ?_)
  refine lv_iload_n hx hb d_Mo_more_7 rfl (lv_at hl 3 rfl) ?_
  refine lv_i2l (v := (y : Int32).toInt64) hx hb d_Mo_more_8 rfl ?_
  refine lv_ldc2 (v := 4294967295) hx hb hown (hw _ kc_Mo_148) d_Mo_more_9 ?_
  refine lv_land hx hb d_Mo_more_12 ?_
  refine lv_lstore (lv' := [(5, .long (((y : Int32).toInt64) &&& 4294967295)), (3, .long (((x : Int32).toInt64) &&& 4294967295)), (0, .int f), (1, .int x), (2, .int y)]) hx hb d_Mo_more_13 hl (by decide) rfl (fun ls hl => ?_)
  refine lv_iload_n hx hb d_Mo_more_15 rfl (lv_at hl 3 rfl) ?_
  refine lv_i2l (v := (x : Int32).toInt64) hx hb d_Mo_more_16 rfl ?_
  refine lv_lstore (lv' := [(7, .long ((x : Int32).toInt64)), (5, .long (((y : Int32).toInt64) &&& 4294967295)), (3, .long (((x : Int32).toInt64) &&& 4294967295)), (0, .int f), (1, .int x), (2, .int y)]) hx hb d_Mo_more_17 hl (by decide) rfl (fun ls hl => ?_)
  refine lv_iload_n hx hb d_Mo_more_19 rfl (lv_at hl 5 rfl) ?_
  refine lv_i2l (v := (y : Int32).toInt64) hx hb d_Mo_more_20 rfl ?_
  refine lv_lstore (lv' := [(9, .long ((y : Int32).toInt64)), (7, .long ((x : Int32).toInt64)), (5, .long (((y : Int32).toInt64) &&& 4294967295)), (3, .long (((x : Int32).toInt64) &&& 4294967295)), (0, .int f), (1, .int x), (2, .int y)]) hx hb d_Mo_more_21 hl (by decide) rfl (fun ls hl => ?_)
  refine lv_iload_n hx hb d_Mo_more_23 rfl (lv_at hl 4 rfl) ?_
  rcases Decidable.em (f = 0) with h1 | h1
  · refine lv_tableIn (tgt := 68) hx hb d_Mo_more_24 (by rw [h1]; decide) (by rw [h1]; decide) (by rw [h1]; rfl) (by decide) ?_
    refine lv_lload hx hb d_Mo_more_68 (lv_at hl 1 rfl) ?_
    refine lv_lload hx hb d_Mo_more_70 (lv_at hl 0 rfl) ?_
    refine lv_lmul hx hb d_Mo_more_72 ?_
    refine lv_l2i (v := (((x : Int32).toInt64) * ((y : Int32).toInt64) : Int64).toInt32) hx hb d_Mo_more_73 rfl ?_
    exact zreti hx hb hr rfl hlocks hS () (by rw [sp_Mo_more, if_pos h1]) rfl hP hD d_Mo_more_74
  · rcases Decidable.em (f = 1) with h2 | h2
    · refine lv_tableIn (tgt := 75) hx hb d_Mo_more_24 (by rw [h2]; decide) (by rw [h2]; decide) (by rw [h2]; rfl) (by decide) ?_
      refine lv_lload hx hb d_Mo_more_75 (lv_at hl 1 rfl) ?_
      refine lv_lload hx hb d_Mo_more_77 (lv_at hl 0 rfl) ?_
      refine lv_lmul hx hb d_Mo_more_79 ?_
      refine lv_bipush (v := 32) hx hb d_Mo_more_80 (by decide) ?_
      refine lv_lshr (v := zlshr (((x : Int32).toInt64) * ((y : Int32).toInt64)) 32) hx hb d_Mo_more_82 rfl ?_
      refine lv_l2i (v := (zlshr (((x : Int32).toInt64) * ((y : Int32).toInt64)) 32 : Int64).toInt32) hx hb d_Mo_more_83 rfl ?_
      exact zreti hx hb hr rfl hlocks hS () (by rw [sp_Mo_more, if_neg h1, if_pos h2]) rfl hP hD d_Mo_more_84
    · rcases Decidable.em (f = 2) with h3 | h3
      · refine lv_tableIn (tgt := 85) hx hb d_Mo_more_24 (by rw [h3]; decide) (by rw [h3]; decide) (by rw [h3]; rfl) (by decide) ?_
        refine lv_lload hx hb d_Mo_more_85 (lv_at hl 1 rfl) ?_
        refine lv_lload hx hb d_Mo_more_87 (lv_at hl 2 rfl) ?_
        refine lv_lmul hx hb d_Mo_more_89 ?_
        refine lv_bipush (v := 32) hx hb d_Mo_more_90 (by decide) ?_
        refine lv_lshr (v := zlshr (((x : Int32).toInt64) * (((y : Int32).toInt64) &&& 4294967295)) 32) hx hb d_Mo_more_92 rfl ?_
        refine lv_l2i (v := (zlshr (((x : Int32).toInt64) * (((y : Int32).toInt64) &&& 4294967295)) 32 : Int64).toInt32) hx hb d_Mo_more_93 rfl ?_
        exact zreti hx hb hr rfl hlocks hS () (by rw [sp_Mo_more, if_neg h1, if_neg h2, if_pos h3]) rfl hP hD d_Mo_more_94
      · rcases Decidable.em (f = 3) with h4 | h4
        · refine lv_tableIn (tgt := 95) hx hb d_Mo_more_24 (by rw [h4]; decide) (by rw [h4]; decide) (by rw [h4]; rfl) (by decide) ?_
          refine lv_lload_n hx hb d_Mo_more_95 rfl (lv_at hl 3 rfl) ?_
          refine lv_lload hx hb d_Mo_more_96 (lv_at hl 2 rfl) ?_
          refine lv_lmul hx hb d_Mo_more_98 ?_
          refine lv_bipush (v := 32) hx hb d_Mo_more_99 (by decide) ?_
          refine lv_lushr (v := zlushr ((((x : Int32).toInt64) &&& 4294967295) * (((y : Int32).toInt64) &&& 4294967295)) 32) hx hb d_Mo_more_101 rfl ?_
          refine lv_l2i (v := (zlushr ((((x : Int32).toInt64) &&& 4294967295) * (((y : Int32).toInt64) &&& 4294967295)) 32 : Int64).toInt32) hx hb d_Mo_more_102 rfl ?_
          exact zreti hx hb hr rfl hlocks hS () (by rw [sp_Mo_more, if_neg h1, if_neg h2, if_neg h3, if_pos h4]) rfl hP hD d_Mo_more_103
        · rcases Decidable.em (f = 4) with h5 | h5
          · refine lv_tableIn (tgt := 104) hx hb d_Mo_more_24 (by rw [h5]; decide) (by rw [h5]; decide) (by rw [h5]; rfl) (by decide) ?_
            refine lv_iload_n hx hb d_Mo_more_104 rfl (lv_at hl 6 rfl) ?_
            refine lv_if_ne (tgt := 112) hx hb d_Mo_more_105 (by decide) (fun h6 => ?_) (fun h6 => ?_)
            · refine lv_lload hx hb d_Mo_more_112 (lv_at hl 1 rfl) ?_
              refine lv_lload hx hb d_Mo_more_114 (lv_at hl 0 rfl) ?_
              refine lv_ldiv hx hb d_Mo_more_116 (z_nz1 h6) ?_
              refine lv_l2i (v := (((x : Int32).toInt64) / ((y : Int32).toInt64) : Int64).toInt32) hx hb d_Mo_more_117 rfl ?_
              exact zreti hx hb hr rfl hlocks hS () (by rw [sp_Mo_more, if_neg h1, if_neg h2, if_neg h3, if_neg h4, if_pos h5, if_neg h6]) rfl hP hD d_Mo_more_118
            · refine lv_iconst (v := (-1)) hx hb d_Mo_more_108 (by decide) ?_
              refine lv_goto (tgt := 118) hx hb d_Mo_more_109 (by decide) ?_
              exact zreti hx hb hr rfl hlocks hS () (by rw [sp_Mo_more, if_neg h1, if_neg h2, if_neg h3, if_neg h4, if_pos h5, if_pos h6]) rfl hP hD d_Mo_more_118
          · rcases Decidable.em (f = 5) with h7 | h7
            · refine lv_tableIn (tgt := 119) hx hb d_Mo_more_24 (by rw [h7]; decide) (by rw [h7]; decide) (by rw [h7]; rfl) (by decide) ?_
              refine lv_iload_n hx hb d_Mo_more_119 rfl (lv_at hl 6 rfl) ?_
              refine lv_if_ne (tgt := 127) hx hb d_Mo_more_120 (by decide) (fun h8 => ?_) (fun h8 => ?_)
              · refine lv_lload_n hx hb d_Mo_more_127 rfl (lv_at hl 3 rfl) ?_
                refine lv_lload hx hb d_Mo_more_128 (lv_at hl 2 rfl) ?_
                refine lv_ldiv hx hb d_Mo_more_130 (z_nz2 h8) ?_
                refine lv_l2i (v := ((((x : Int32).toInt64) &&& 4294967295) / (((y : Int32).toInt64) &&& 4294967295) : Int64).toInt32) hx hb d_Mo_more_131 rfl ?_
                exact zreti hx hb hr rfl hlocks hS () (by rw [sp_Mo_more, if_neg h1, if_neg h2, if_neg h3, if_neg h4, if_neg h5, if_pos h7, if_neg h8]) rfl hP hD d_Mo_more_132
              · refine lv_iconst (v := (-1)) hx hb d_Mo_more_123 (by decide) ?_
                refine lv_goto (tgt := 132) hx hb d_Mo_more_124 (by decide) ?_
                exact zreti hx hb hr rfl hlocks hS () (by rw [sp_Mo_more, if_neg h1, if_neg h2, if_neg h3, if_neg h4, if_neg h5, if_pos h7, if_pos h8]) rfl hP hD d_Mo_more_132
            · rcases Decidable.em (f = 6) with h9 | h9
              · refine lv_tableIn (tgt := 133) hx hb d_Mo_more_24 (by rw [h9]; decide) (by rw [h9]; decide) (by rw [h9]; rfl) (by decide) ?_
                refine lv_iload_n hx hb d_Mo_more_133 rfl (lv_at hl 6 rfl) ?_
                refine lv_if_ne (tgt := 141) hx hb d_Mo_more_134 (by decide) (fun h10 => ?_) (fun h10 => ?_)
                · refine lv_lload hx hb d_Mo_more_141 (lv_at hl 1 rfl) ?_
                  refine lv_lload hx hb d_Mo_more_143 (lv_at hl 1 rfl) ?_
                  refine lv_lload hx hb d_Mo_more_145 (lv_at hl 0 rfl) ?_
                  refine lv_ldiv hx hb d_Mo_more_147 (z_nz1 h10) ?_
                  refine lv_lload hx hb d_Mo_more_148 (lv_at hl 0 rfl) ?_
                  refine lv_lmul hx hb d_Mo_more_150 ?_
                  refine lv_lsub hx hb d_Mo_more_151 ?_
                  refine lv_l2i (v := (((x : Int32).toInt64) - ((((x : Int32).toInt64) / ((y : Int32).toInt64)) * ((y : Int32).toInt64)) : Int64).toInt32) hx hb d_Mo_more_152 rfl ?_
                  exact zreti hx hb hr rfl hlocks hS () (by rw [sp_Mo_more, if_neg h1, if_neg h2, if_neg h3, if_neg h4, if_neg h5, if_neg h7, if_pos h9, if_neg h10]) rfl hP hD d_Mo_more_153
                · refine lv_iload_n hx hb d_Mo_more_137 rfl (lv_at hl 5 rfl) ?_
                  refine lv_goto (tgt := 153) hx hb d_Mo_more_138 (by decide) ?_
                  exact zreti hx hb hr rfl hlocks hS () (by rw [sp_Mo_more, if_neg h1, if_neg h2, if_neg h3, if_neg h4, if_neg h5, if_neg h7, if_pos h9, if_pos h10]) rfl hP hD d_Mo_more_153
              · refine lv_tableOut (tgt := 154) hx hb d_Mo_more_24 (by have q0 := z_ne h1 (n := 0) (by decide); have q1 := z_ne h2 (n := 1) (by decide); have q2 := z_ne h3 (n := 2) (by decide); have q3 := z_ne h4 (n := 3) (by decide); have q4 := z_ne h5 (n := 4) (by decide); have q5 := z_ne h7 (n := 5) (by decide); have q6 := z_ne h9 (n := 6) (by decide); omega) (by decide) ?_
                refine lv_iload_n hx hb d_Mo_more_154 rfl (lv_at hl 6 rfl) ?_
                refine lv_if_ne (tgt := 162) hx hb d_Mo_more_155 (by decide) (fun h11 => ?_) (fun h11 => ?_)
                · refine lv_lload_n hx hb d_Mo_more_162 rfl (lv_at hl 3 rfl) ?_
                  refine lv_lload_n hx hb d_Mo_more_163 rfl (lv_at hl 3 rfl) ?_
                  refine lv_lload hx hb d_Mo_more_164 (lv_at hl 2 rfl) ?_
                  refine lv_ldiv hx hb d_Mo_more_166 (z_nz2 h11) ?_
                  refine lv_lload hx hb d_Mo_more_167 (lv_at hl 2 rfl) ?_
                  refine lv_lmul hx hb d_Mo_more_169 ?_
                  refine lv_lsub hx hb d_Mo_more_170 ?_
                  refine lv_l2i (v := ((((x : Int32).toInt64) &&& 4294967295) - (((((x : Int32).toInt64) &&& 4294967295) / (((y : Int32).toInt64) &&& 4294967295)) * (((y : Int32).toInt64) &&& 4294967295)) : Int64).toInt32) hx hb d_Mo_more_171 rfl ?_
                  exact zreti hx hb hr rfl hlocks hS () (by rw [sp_Mo_more, if_neg h1, if_neg h2, if_neg h3, if_neg h4, if_neg h5, if_neg h7, if_neg h9, if_neg h11]) rfl hP hD d_Mo_more_172
                · refine lv_iload_n hx hb d_Mo_more_158 rfl (lv_at hl 5 rfl) ?_
                  refine lv_goto (tgt := 172) hx hb d_Mo_more_159 (by decide) ?_
                  exact zreti hx hb hr rfl hlocks hS () (by rw [sp_Mo_more, if_neg h1, if_neg h2, if_neg h3, if_neg h4, if_neg h5, if_neg h7, if_neg h9, if_pos h11]) rfl hP hD d_Mo_more_172
