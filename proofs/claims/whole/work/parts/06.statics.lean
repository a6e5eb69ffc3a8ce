/-! decode rows -/
theorem d_Rv_middle_0 : decode b_Rv_middle 0 = .ok (.iload_n 0, 1) := by decide +kernel
theorem d_Rv_middle_1 : decode b_Rv_middle 1 = .ok (.bipush 12, 2) := by decide +kernel
theorem d_Rv_middle_3 : decode b_Rv_middle 3 = .ok (.iushr, 1) := by decide +kernel
theorem d_Rv_middle_4 : decode b_Rv_middle 4 = .ok (.bipush 7, 2) := by decide +kernel
theorem d_Rv_middle_6 : decode b_Rv_middle 6 = .ok (.iand, 1) := by decide +kernel
theorem d_Rv_middle_7 : decode b_Rv_middle 7 = .ok (.ireturn, 1) := by decide +kernel
theorem d_Rv_top_0 : decode b_Rv_top 0 = .ok (.iload_n 0, 1) := by decide +kernel
theorem d_Rv_top_1 : decode b_Rv_top 1 = .ok (.bipush 25, 2) := by decide +kernel
theorem d_Rv_top_3 : decode b_Rv_top 3 = .ok (.iushr, 1) := by decide +kernel
theorem d_Rv_top_4 : decode b_Rv_top 4 = .ok (.ireturn, 1) := by decide +kernel
theorem d_Rv_jumpOffset_0 : decode b_Rv_jumpOffset 0 = .ok (.iload_n 0, 1) := by decide +kernel
theorem d_Rv_jumpOffset_1 : decode b_Rv_jumpOffset 1 = .ok (.bipush 31, 2) := by decide +kernel
theorem d_Rv_jumpOffset_3 : decode b_Rv_jumpOffset 3 = .ok (.ishr, 1) := by decide +kernel
theorem d_Rv_jumpOffset_4 : decode b_Rv_jumpOffset 4 = .ok (.bipush 20, 2) := by decide +kernel
theorem d_Rv_jumpOffset_6 : decode b_Rv_jumpOffset 6 = .ok (.ishl, 1) := by decide +kernel
theorem d_Rv_jumpOffset_7 : decode b_Rv_jumpOffset 7 = .ok (.iload_n 0, 1) := by decide +kernel
theorem d_Rv_jumpOffset_8 : decode b_Rv_jumpOffset 8 = .ok (.ldc 154, 2) := by decide +kernel
theorem d_Rv_jumpOffset_10 : decode b_Rv_jumpOffset 10 = .ok (.iand, 1) := by decide +kernel
theorem d_Rv_jumpOffset_11 : decode b_Rv_jumpOffset 11 = .ok (.ior, 1) := by decide +kernel
theorem d_Rv_jumpOffset_12 : decode b_Rv_jumpOffset 12 = .ok (.iload_n 0, 1) := by decide +kernel
theorem d_Rv_jumpOffset_13 : decode b_Rv_jumpOffset 13 = .ok (.bipush 9, 2) := by decide +kernel
theorem d_Rv_jumpOffset_15 : decode b_Rv_jumpOffset 15 = .ok (.ishr, 1) := by decide +kernel
theorem d_Rv_jumpOffset_16 : decode b_Rv_jumpOffset 16 = .ok (.sipush 2048, 3) := by decide +kernel
theorem d_Rv_jumpOffset_19 : decode b_Rv_jumpOffset 19 = .ok (.iand, 1) := by decide +kernel
theorem d_Rv_jumpOffset_20 : decode b_Rv_jumpOffset 20 = .ok (.ior, 1) := by decide +kernel
theorem d_Rv_jumpOffset_21 : decode b_Rv_jumpOffset 21 = .ok (.iload_n 0, 1) := by decide +kernel
theorem d_Rv_jumpOffset_22 : decode b_Rv_jumpOffset 22 = .ok (.bipush 20, 2) := by decide +kernel
theorem d_Rv_jumpOffset_24 : decode b_Rv_jumpOffset 24 = .ok (.ishr, 1) := by decide +kernel
theorem d_Rv_jumpOffset_25 : decode b_Rv_jumpOffset 25 = .ok (.sipush 2046, 3) := by decide +kernel
theorem d_Rv_jumpOffset_28 : decode b_Rv_jumpOffset 28 = .ok (.iand, 1) := by decide +kernel
theorem d_Rv_jumpOffset_29 : decode b_Rv_jumpOffset 29 = .ok (.ior, 1) := by decide +kernel
theorem d_Rv_jumpOffset_30 : decode b_Rv_jumpOffset 30 = .ok (.ireturn, 1) := by decide +kernel
theorem d_Rv_branchOffset_0 : decode b_Rv_branchOffset 0 = .ok (.iload_n 0, 1) := by decide +kernel
theorem d_Rv_branchOffset_1 : decode b_Rv_branchOffset 1 = .ok (.bipush 31, 2) := by decide +kernel
theorem d_Rv_branchOffset_3 : decode b_Rv_branchOffset 3 = .ok (.ishr, 1) := by decide +kernel
theorem d_Rv_branchOffset_4 : decode b_Rv_branchOffset 4 = .ok (.bipush 12, 2) := by decide +kernel
theorem d_Rv_branchOffset_6 : decode b_Rv_branchOffset 6 = .ok (.ishl, 1) := by decide +kernel
theorem d_Rv_branchOffset_7 : decode b_Rv_branchOffset 7 = .ok (.iload_n 0, 1) := by decide +kernel
theorem d_Rv_branchOffset_8 : decode b_Rv_branchOffset 8 = .ok (.iconst 4, 1) := by decide +kernel
theorem d_Rv_branchOffset_9 : decode b_Rv_branchOffset 9 = .ok (.ishl, 1) := by decide +kernel
theorem d_Rv_branchOffset_10 : decode b_Rv_branchOffset 10 = .ok (.sipush 2048, 3) := by decide +kernel
theorem d_Rv_branchOffset_13 : decode b_Rv_branchOffset 13 = .ok (.iand, 1) := by decide +kernel
theorem d_Rv_branchOffset_14 : decode b_Rv_branchOffset 14 = .ok (.ior, 1) := by decide +kernel
theorem d_Rv_branchOffset_15 : decode b_Rv_branchOffset 15 = .ok (.iload_n 0, 1) := by decide +kernel
theorem d_Rv_branchOffset_16 : decode b_Rv_branchOffset 16 = .ok (.bipush 20, 2) := by decide +kernel
theorem d_Rv_branchOffset_18 : decode b_Rv_branchOffset 18 = .ok (.ishr, 1) := by decide +kernel
theorem d_Rv_branchOffset_19 : decode b_Rv_branchOffset 19 = .ok (.sipush 2016, 3) := by decide +kernel
theorem d_Rv_branchOffset_22 : decode b_Rv_branchOffset 22 = .ok (.iand, 1) := by decide +kernel
theorem d_Rv_branchOffset_23 : decode b_Rv_branchOffset 23 = .ok (.ior, 1) := by decide +kernel
theorem d_Rv_branchOffset_24 : decode b_Rv_branchOffset 24 = .ok (.iload_n 0, 1) := by decide +kernel
theorem d_Rv_branchOffset_25 : decode b_Rv_branchOffset 25 = .ok (.bipush 7, 2) := by decide +kernel
theorem d_Rv_branchOffset_27 : decode b_Rv_branchOffset 27 = .ok (.ishr, 1) := by decide +kernel
theorem d_Rv_branchOffset_28 : decode b_Rv_branchOffset 28 = .ok (.bipush 30, 2) := by decide +kernel
theorem d_Rv_branchOffset_30 : decode b_Rv_branchOffset 30 = .ok (.iand, 1) := by decide +kernel
theorem d_Rv_branchOffset_31 : decode b_Rv_branchOffset 31 = .ok (.ior, 1) := by decide +kernel
theorem d_Rv_branchOffset_32 : decode b_Rv_branchOffset 32 = .ok (.ireturn, 1) := by decide +kernel
theorem d_Rv_storeOffset_0 : decode b_Rv_storeOffset 0 = .ok (.iload_n 0, 1) := by decide +kernel
theorem d_Rv_storeOffset_1 : decode b_Rv_storeOffset 1 = .ok (.bipush 25, 2) := by decide +kernel
theorem d_Rv_storeOffset_3 : decode b_Rv_storeOffset 3 = .ok (.ishr, 1) := by decide +kernel
theorem d_Rv_storeOffset_4 : decode b_Rv_storeOffset 4 = .ok (.iconst 5, 1) := by decide +kernel
theorem d_Rv_storeOffset_5 : decode b_Rv_storeOffset 5 = .ok (.ishl, 1) := by decide +kernel
theorem d_Rv_storeOffset_6 : decode b_Rv_storeOffset 6 = .ok (.iload_n 0, 1) := by decide +kernel
theorem d_Rv_storeOffset_7 : decode b_Rv_storeOffset 7 = .ok (.bipush 7, 2) := by decide +kernel
theorem d_Rv_storeOffset_9 : decode b_Rv_storeOffset 9 = .ok (.ishr, 1) := by decide +kernel
theorem d_Rv_storeOffset_10 : decode b_Rv_storeOffset 10 = .ok (.bipush 31, 2) := by decide +kernel
theorem d_Rv_storeOffset_12 : decode b_Rv_storeOffset 12 = .ok (.iand, 1) := by decide +kernel
theorem d_Rv_storeOffset_13 : decode b_Rv_storeOffset 13 = .ok (.ior, 1) := by decide +kernel
theorem d_Rv_storeOffset_14 : decode b_Rv_storeOffset 14 = .ok (.ireturn, 1) := by decide +kernel
theorem d_Rv_unsigned_0 : decode b_Rv_unsigned 0 = .ok (.iload_n 0, 1) := by decide +kernel
theorem d_Rv_unsigned_1 : decode b_Rv_unsigned 1 = .ok (.i2l, 1) := by decide +kernel
theorem d_Rv_unsigned_2 : decode b_Rv_unsigned 2 = .ok (.ldc2_w 197, 3) := by decide +kernel
theorem d_Rv_unsigned_5 : decode b_Rv_unsigned 5 = .ok (.land, 1) := by decide +kernel
theorem d_Rv_unsigned_6 : decode b_Rv_unsigned 6 = .ok (.lreturn, 1) := by decide +kernel
theorem d_Rv_isBelow_0 : decode b_Rv_isBelow 0 = .ok (.iload_n 0, 1) := by decide +kernel
theorem d_Rv_isBelow_1 : decode b_Rv_isBelow 1 = .ok (.invokestatic 193, 3) := by decide +kernel
theorem d_Rv_isBelow_4 : decode b_Rv_isBelow 4 = .ok (.iload_n 1, 1) := by decide +kernel
theorem d_Rv_isBelow_5 : decode b_Rv_isBelow 5 = .ok (.invokestatic 193, 3) := by decide +kernel
theorem d_Rv_isBelow_8 : decode b_Rv_isBelow 8 = .ok (.lcmp, 1) := by decide +kernel
theorem d_Rv_isBelow_9 : decode b_Rv_isBelow 9 = .ok (.ifCond .ge 7, 3) := by decide +kernel
theorem d_Rv_isBelow_12 : decode b_Rv_isBelow 12 = .ok (.iconst 1, 1) := by decide +kernel
theorem d_Rv_isBelow_13 : decode b_Rv_isBelow 13 = .ok (.goto 4, 3) := by decide +kernel
theorem d_Rv_isBelow_16 : decode b_Rv_isBelow 16 = .ok (.iconst 0, 1) := by decide +kernel
theorem d_Rv_isBelow_17 : decode b_Rv_isBelow 17 = .ok (.ireturn, 1) := by decide +kernel
theorem d_Rv_plainResult_0 : decode b_Rv_plainResult 0 = .ok (.iload_n 0, 1) := by decide +kernel
theorem d_Rv_plainResult_1 : decode b_Rv_plainResult 1 = .ok (.tableswitch 94 0 6 #[43, 47, 54, 65, 79, 83, 90], 43) := by decide +kernel
theorem d_Rv_plainResult_44 : decode b_Rv_plainResult 44 = .ok (.iload_n 1, 1) := by decide +kernel
theorem d_Rv_plainResult_45 : decode b_Rv_plainResult 45 = .ok (.iload_n 2, 1) := by decide +kernel
theorem d_Rv_plainResult_46 : decode b_Rv_plainResult 46 = .ok (.iadd, 1) := by decide +kernel
theorem d_Rv_plainResult_47 : decode b_Rv_plainResult 47 = .ok (.ireturn, 1) := by decide +kernel
theorem d_Rv_plainResult_48 : decode b_Rv_plainResult 48 = .ok (.iload_n 1, 1) := by decide +kernel
theorem d_Rv_plainResult_49 : decode b_Rv_plainResult 49 = .ok (.iload_n 2, 1) := by decide +kernel
theorem d_Rv_plainResult_50 : decode b_Rv_plainResult 50 = .ok (.bipush 31, 2) := by decide +kernel
theorem d_Rv_plainResult_52 : decode b_Rv_plainResult 52 = .ok (.iand, 1) := by decide +kernel
theorem d_Rv_plainResult_53 : decode b_Rv_plainResult 53 = .ok (.ishl, 1) := by decide +kernel
theorem d_Rv_plainResult_54 : decode b_Rv_plainResult 54 = .ok (.ireturn, 1) := by decide +kernel
theorem d_Rv_plainResult_55 : decode b_Rv_plainResult 55 = .ok (.iload_n 1, 1) := by decide +kernel
theorem d_Rv_plainResult_56 : decode b_Rv_plainResult 56 = .ok (.iload_n 2, 1) := by decide +kernel
theorem d_Rv_plainResult_57 : decode b_Rv_plainResult 57 = .ok (.if_icmp .ge 7, 3) := by decide +kernel
theorem d_Rv_plainResult_60 : decode b_Rv_plainResult 60 = .ok (.iconst 1, 1) := by decide +kernel
theorem d_Rv_plainResult_61 : decode b_Rv_plainResult 61 = .ok (.goto 4, 3) := by decide +kernel
theorem d_Rv_plainResult_64 : decode b_Rv_plainResult 64 = .ok (.iconst 0, 1) := by decide +kernel
theorem d_Rv_plainResult_65 : decode b_Rv_plainResult 65 = .ok (.ireturn, 1) := by decide +kernel
theorem d_Rv_plainResult_66 : decode b_Rv_plainResult 66 = .ok (.iload_n 1, 1) := by decide +kernel
theorem d_Rv_plainResult_67 : decode b_Rv_plainResult 67 = .ok (.iload_n 2, 1) := by decide +kernel
theorem d_Rv_plainResult_68 : decode b_Rv_plainResult 68 = .ok (.invokestatic 164, 3) := by decide +kernel
theorem d_Rv_plainResult_71 : decode b_Rv_plainResult 71 = .ok (.ifCond .eq 7, 3) := by decide +kernel
theorem d_Rv_plainResult_74 : decode b_Rv_plainResult 74 = .ok (.iconst 1, 1) := by decide +kernel
theorem d_Rv_plainResult_75 : decode b_Rv_plainResult 75 = .ok (.goto 4, 3) := by decide +kernel
theorem d_Rv_plainResult_78 : decode b_Rv_plainResult 78 = .ok (.iconst 0, 1) := by decide +kernel
theorem d_Rv_plainResult_79 : decode b_Rv_plainResult 79 = .ok (.ireturn, 1) := by decide +kernel
theorem d_Rv_plainResult_80 : decode b_Rv_plainResult 80 = .ok (.iload_n 1, 1) := by decide +kernel
theorem d_Rv_plainResult_81 : decode b_Rv_plainResult 81 = .ok (.iload_n 2, 1) := by decide +kernel
theorem d_Rv_plainResult_82 : decode b_Rv_plainResult 82 = .ok (.ixor, 1) := by decide +kernel
theorem d_Rv_plainResult_83 : decode b_Rv_plainResult 83 = .ok (.ireturn, 1) := by decide +kernel
theorem d_Rv_plainResult_84 : decode b_Rv_plainResult 84 = .ok (.iload_n 1, 1) := by decide +kernel
theorem d_Rv_plainResult_85 : decode b_Rv_plainResult 85 = .ok (.iload_n 2, 1) := by decide +kernel
theorem d_Rv_plainResult_86 : decode b_Rv_plainResult 86 = .ok (.bipush 31, 2) := by decide +kernel
theorem d_Rv_plainResult_88 : decode b_Rv_plainResult 88 = .ok (.iand, 1) := by decide +kernel
theorem d_Rv_plainResult_89 : decode b_Rv_plainResult 89 = .ok (.iushr, 1) := by decide +kernel
theorem d_Rv_plainResult_90 : decode b_Rv_plainResult 90 = .ok (.ireturn, 1) := by decide +kernel
theorem d_Rv_plainResult_91 : decode b_Rv_plainResult 91 = .ok (.iload_n 1, 1) := by decide +kernel
theorem d_Rv_plainResult_92 : decode b_Rv_plainResult 92 = .ok (.iload_n 2, 1) := by decide +kernel
theorem d_Rv_plainResult_93 : decode b_Rv_plainResult 93 = .ok (.ior, 1) := by decide +kernel
theorem d_Rv_plainResult_94 : decode b_Rv_plainResult 94 = .ok (.ireturn, 1) := by decide +kernel
theorem d_Rv_plainResult_95 : decode b_Rv_plainResult 95 = .ok (.iload_n 1, 1) := by decide +kernel
theorem d_Rv_plainResult_96 : decode b_Rv_plainResult 96 = .ok (.iload_n 2, 1) := by decide +kernel
theorem d_Rv_plainResult_97 : decode b_Rv_plainResult 97 = .ok (.iand, 1) := by decide +kernel
theorem d_Rv_plainResult_98 : decode b_Rv_plainResult 98 = .ok (.ireturn, 1) := by decide +kernel
theorem d_Rv_product_0 : decode b_Rv_product 0 = .ok (.iload_n 0, 1) := by decide +kernel
theorem d_Rv_product_1 : decode b_Rv_product 1 = .ok (.tableswitch 53 0 2 #[27, 31, 41], 27) := by decide +kernel
theorem d_Rv_product_28 : decode b_Rv_product 28 = .ok (.iload_n 1, 1) := by decide +kernel
theorem d_Rv_product_29 : decode b_Rv_product 29 = .ok (.iload_n 2, 1) := by decide +kernel
theorem d_Rv_product_30 : decode b_Rv_product 30 = .ok (.imul, 1) := by decide +kernel
theorem d_Rv_product_31 : decode b_Rv_product 31 = .ok (.ireturn, 1) := by decide +kernel
theorem d_Rv_product_32 : decode b_Rv_product 32 = .ok (.iload_n 1, 1) := by decide +kernel
theorem d_Rv_product_33 : decode b_Rv_product 33 = .ok (.i2l, 1) := by decide +kernel
theorem d_Rv_product_34 : decode b_Rv_product 34 = .ok (.iload_n 2, 1) := by decide +kernel
theorem d_Rv_product_35 : decode b_Rv_product 35 = .ok (.i2l, 1) := by decide +kernel
theorem d_Rv_product_36 : decode b_Rv_product 36 = .ok (.lmul, 1) := by decide +kernel
theorem d_Rv_product_37 : decode b_Rv_product 37 = .ok (.bipush 32, 2) := by decide +kernel
theorem d_Rv_product_39 : decode b_Rv_product 39 = .ok (.lshr, 1) := by decide +kernel
theorem d_Rv_product_40 : decode b_Rv_product 40 = .ok (.l2i, 1) := by decide +kernel
theorem d_Rv_product_41 : decode b_Rv_product 41 = .ok (.ireturn, 1) := by decide +kernel
theorem d_Rv_product_42 : decode b_Rv_product 42 = .ok (.iload_n 1, 1) := by decide +kernel
theorem d_Rv_product_43 : decode b_Rv_product 43 = .ok (.i2l, 1) := by decide +kernel
theorem d_Rv_product_44 : decode b_Rv_product 44 = .ok (.iload_n 2, 1) := by decide +kernel
theorem d_Rv_product_45 : decode b_Rv_product 45 = .ok (.invokestatic 193, 3) := by decide +kernel
theorem d_Rv_product_48 : decode b_Rv_product 48 = .ok (.lmul, 1) := by decide +kernel
theorem d_Rv_product_49 : decode b_Rv_product 49 = .ok (.bipush 32, 2) := by decide +kernel
theorem d_Rv_product_51 : decode b_Rv_product 51 = .ok (.lshr, 1) := by decide +kernel
theorem d_Rv_product_52 : decode b_Rv_product 52 = .ok (.l2i, 1) := by decide +kernel
theorem d_Rv_product_53 : decode b_Rv_product 53 = .ok (.ireturn, 1) := by decide +kernel
theorem d_Rv_product_54 : decode b_Rv_product 54 = .ok (.iload_n 1, 1) := by decide +kernel
theorem d_Rv_product_55 : decode b_Rv_product 55 = .ok (.invokestatic 193, 3) := by decide +kernel
theorem d_Rv_product_58 : decode b_Rv_product 58 = .ok (.iload_n 2, 1) := by decide +kernel
theorem d_Rv_product_59 : decode b_Rv_product 59 = .ok (.invokestatic 193, 3) := by decide +kernel
theorem d_Rv_product_62 : decode b_Rv_product 62 = .ok (.lmul, 1) := by decide +kernel
theorem d_Rv_product_63 : decode b_Rv_product 63 = .ok (.bipush 32, 2) := by decide +kernel
theorem d_Rv_product_65 : decode b_Rv_product 65 = .ok (.lushr, 1) := by decide +kernel
theorem d_Rv_product_66 : decode b_Rv_product 66 = .ok (.l2i, 1) := by decide +kernel
theorem d_Rv_product_67 : decode b_Rv_product 67 = .ok (.ireturn, 1) := by decide +kernel
theorem d_Rv_quotient_0 : decode b_Rv_quotient 0 = .ok (.iload_n 2, 1) := by decide +kernel
theorem d_Rv_quotient_1 : decode b_Rv_quotient 1 = .ok (.ifCond .ne 15, 3) := by decide +kernel
theorem d_Rv_quotient_4 : decode b_Rv_quotient 4 = .ok (.iload_n 0, 1) := by decide +kernel
theorem d_Rv_quotient_5 : decode b_Rv_quotient 5 = .ok (.bipush 6, 2) := by decide +kernel
theorem d_Rv_quotient_7 : decode b_Rv_quotient 7 = .ok (.if_icmp .ge 7, 3) := by decide +kernel
theorem d_Rv_quotient_10 : decode b_Rv_quotient 10 = .ok (.iconst (-1), 1) := by decide +kernel
theorem d_Rv_quotient_11 : decode b_Rv_quotient 11 = .ok (.goto 4, 3) := by decide +kernel
theorem d_Rv_quotient_14 : decode b_Rv_quotient 14 = .ok (.iload_n 1, 1) := by decide +kernel
theorem d_Rv_quotient_15 : decode b_Rv_quotient 15 = .ok (.ireturn, 1) := by decide +kernel
theorem d_Rv_quotient_16 : decode b_Rv_quotient 16 = .ok (.iload_n 0, 1) := by decide +kernel
theorem d_Rv_quotient_17 : decode b_Rv_quotient 17 = .ok (.tableswitch 52 4 6 #[27, 34, 45], 27) := by decide +kernel
theorem d_Rv_quotient_44 : decode b_Rv_quotient 44 = .ok (.iload_n 1, 1) := by decide +kernel
theorem d_Rv_quotient_45 : decode b_Rv_quotient 45 = .ok (.i2l, 1) := by decide +kernel
theorem d_Rv_quotient_46 : decode b_Rv_quotient 46 = .ok (.iload_n 2, 1) := by decide +kernel
theorem d_Rv_quotient_47 : decode b_Rv_quotient 47 = .ok (.i2l, 1) := by decide +kernel
theorem d_Rv_quotient_48 : decode b_Rv_quotient 48 = .ok (.ldiv, 1) := by decide +kernel
theorem d_Rv_quotient_49 : decode b_Rv_quotient 49 = .ok (.l2i, 1) := by decide +kernel
theorem d_Rv_quotient_50 : decode b_Rv_quotient 50 = .ok (.ireturn, 1) := by decide +kernel
theorem d_Rv_quotient_51 : decode b_Rv_quotient 51 = .ok (.iload_n 1, 1) := by decide +kernel
theorem d_Rv_quotient_52 : decode b_Rv_quotient 52 = .ok (.invokestatic 193, 3) := by decide +kernel
theorem d_Rv_quotient_55 : decode b_Rv_quotient 55 = .ok (.iload_n 2, 1) := by decide +kernel
theorem d_Rv_quotient_56 : decode b_Rv_quotient 56 = .ok (.invokestatic 193, 3) := by decide +kernel
theorem d_Rv_quotient_59 : decode b_Rv_quotient 59 = .ok (.ldiv, 1) := by decide +kernel
theorem d_Rv_quotient_60 : decode b_Rv_quotient 60 = .ok (.l2i, 1) := by decide +kernel
theorem d_Rv_quotient_61 : decode b_Rv_quotient 61 = .ok (.ireturn, 1) := by decide +kernel
theorem d_Rv_quotient_62 : decode b_Rv_quotient 62 = .ok (.iload_n 1, 1) := by decide +kernel
theorem d_Rv_quotient_63 : decode b_Rv_quotient 63 = .ok (.i2l, 1) := by decide +kernel
theorem d_Rv_quotient_64 : decode b_Rv_quotient 64 = .ok (.iload_n 2, 1) := by decide +kernel
theorem d_Rv_quotient_65 : decode b_Rv_quotient 65 = .ok (.i2l, 1) := by decide +kernel
theorem d_Rv_quotient_66 : decode b_Rv_quotient 66 = .ok (.lrem, 1) := by decide +kernel
theorem d_Rv_quotient_67 : decode b_Rv_quotient 67 = .ok (.l2i, 1) := by decide +kernel
theorem d_Rv_quotient_68 : decode b_Rv_quotient 68 = .ok (.ireturn, 1) := by decide +kernel
theorem d_Rv_quotient_69 : decode b_Rv_quotient 69 = .ok (.iload_n 1, 1) := by decide +kernel
theorem d_Rv_quotient_70 : decode b_Rv_quotient 70 = .ok (.invokestatic 193, 3) := by decide +kernel
theorem d_Rv_quotient_73 : decode b_Rv_quotient 73 = .ok (.iload_n 2, 1) := by decide +kernel
theorem d_Rv_quotient_74 : decode b_Rv_quotient 74 = .ok (.invokestatic 193, 3) := by decide +kernel
theorem d_Rv_quotient_77 : decode b_Rv_quotient 77 = .ok (.lrem, 1) := by decide +kernel
theorem d_Rv_quotient_78 : decode b_Rv_quotient 78 = .ok (.l2i, 1) := by decide +kernel
theorem d_Rv_quotient_79 : decode b_Rv_quotient 79 = .ok (.ireturn, 1) := by decide +kernel
theorem d_Rv_doneIf_0 : decode b_Rv_doneIf 0 = .ok (.iload_n 0, 1) := by decide +kernel
theorem d_Rv_doneIf_1 : decode b_Rv_doneIf 1 = .ok (.ifCond .eq 7, 3) := by decide +kernel
theorem d_Rv_doneIf_4 : decode b_Rv_doneIf 4 = .ok (.iconst 0, 1) := by decide +kernel
theorem d_Rv_doneIf_5 : decode b_Rv_doneIf 5 = .ok (.goto 4, 3) := by decide +kernel
theorem d_Rv_doneIf_8 : decode b_Rv_doneIf 8 = .ok (.iconst 4, 1) := by decide +kernel
theorem d_Rv_doneIf_9 : decode b_Rv_doneIf 9 = .ok (.ireturn, 1) := by decide +kernel
theorem d_Me_roundedUp_0 : decode b_Me_roundedUp 0 = .ok (.iload_n 0, 1) := by decide +kernel
theorem d_Me_roundedUp_1 : decode b_Me_roundedUp 1 = .ok (.iconst 3, 1) := by decide +kernel
theorem d_Me_roundedUp_2 : decode b_Me_roundedUp 2 = .ok (.iadd, 1) := by decide +kernel
theorem d_Me_roundedUp_3 : decode b_Me_roundedUp 3 = .ok (.bipush (-4), 2) := by decide +kernel
theorem d_Me_roundedUp_5 : decode b_Me_roundedUp 5 = .ok (.iand, 1) := by decide +kernel
theorem d_Me_roundedUp_6 : decode b_Me_roundedUp 6 = .ok (.ireturn, 1) := by decide +kernel
def sp_Rv_middle (w : Int32) : Int32 := (zushr w 12) &&& 7
set_option maxHeartbeats 4000000 in
theorem c_Rv_middle (l : Launch) (D : va_G) (T : List (ClassId × FieldType)) (sz : Nat) (w : Int32) : zMet l y_Rv_middle (zWs y_Rv_middle b_Rv_middle 1 (some .int)) { frames := 0, cells := 0, slots := 0, locals := 0 } (zPc D T sz [] [.int w]) (zQi D (va_A [] sz) (fun r (_ : Unit) => r = sp_Rv_middle w) (z0) (fun _ => [])) (va_A [] sz) := by
  refine zstart (Qc := fun A => zQi D A (fun r (_ : Unit) => r = sp_Rv_middle w) (z0) (fun _ => [])) (by decide) (Nat.le_of_ble_eq_true rfl) ?_
  intro p e s m below meth c ls A hE hr hlocks hin hsz hK hP hD hS hA hAe hl
  have hx := hE.1
  have hb := hE.2.1
  have hown := hE.2.2.2.1
  have hw := hE.2.2.2.2
  have hl : lv_has ls 1 [(0, .int w)] := hl
  refine lv_iload_n hx hb d_Rv_middle_0 rfl (lv_at hl 0 rfl) ?_
  refine lv_bipush (v := 12) hx hb d_Rv_middle_1 (by decide) ?_
  refine lv_iushr (v := zushr w 12) hx hb d_Rv_middle_3 rfl ?_
  refine lv_bipush (v := 7) hx hb d_Rv_middle_4 (by decide) ?_
  refine lv_iand hx hb d_Rv_middle_6 ?_
  exact zreti hx hb hr rfl hlocks hS () rfl rfl hP hD d_Rv_middle_7

def sp_Rv_top (w : Int32) : Int32 := zushr w 25
set_option maxHeartbeats 4000000 in
theorem c_Rv_top (l : Launch) (D : va_G) (T : List (ClassId × FieldType)) (sz : Nat) (w : Int32) : zMet l y_Rv_top (zWs y_Rv_top b_Rv_top 1 (some .int)) { frames := 0, cells := 0, slots := 0, locals := 0 } (zPc D T sz [] [.int w]) (zQi D (va_A [] sz) (fun r (_ : Unit) => r = sp_Rv_top w) (z0) (fun _ => [])) (va_A [] sz) := by
  refine zstart (Qc := fun A => zQi D A (fun r (_ : Unit) => r = sp_Rv_top w) (z0) (fun _ => [])) (by decide) (Nat.le_of_ble_eq_true rfl) ?_
  intro p e s m below meth c ls A hE hr hlocks hin hsz hK hP hD hS hA hAe hl
  have hx := hE.1
  have hb := hE.2.1
  have hown := hE.2.2.2.1
  have hw := hE.2.2.2.2
  have hl : lv_has ls 1 [(0, .int w)] := hl
  refine lv_iload_n hx hb d_Rv_top_0 rfl (lv_at hl 0 rfl) ?_
  refine lv_bipush (v := 25) hx hb d_Rv_top_1 (by decide) ?_
  refine lv_iushr (v := zushr w 25) hx hb d_Rv_top_3 rfl ?_
  exact zreti hx hb hr rfl hlocks hS () rfl rfl hP hD d_Rv_top_4

def sp_Rv_jumpOffset (w : Int32) : Int32 := (((((w : Int32) >>> ((31 : Int32) &&& 31) : Int32) <<< ((20 : Int32) &&& 31)) ||| (w &&& 1044480)) ||| (((w : Int32) >>> ((9 : Int32) &&& 31)) &&& 2048)) ||| (((w : Int32) >>> ((20 : Int32) &&& 31)) &&& 2046)
set_option maxHeartbeats 4000000 in
theorem c_Rv_jumpOffset (l : Launch) (D : va_G) (T : List (ClassId × FieldType)) (sz : Nat) (w : Int32) : zMet l y_Rv_jumpOffset (zWs y_Rv_jumpOffset b_Rv_jumpOffset 1 (some .int)) { frames := 0, cells := 0, slots := 0, locals := 0 } (zPc D T sz [] [.int w]) (zQi D (va_A [] sz) (fun r (_ : Unit) => r = sp_Rv_jumpOffset w) (z0) (fun _ => [])) (va_A [] sz) := by
  refine zstart (Qc := fun A => zQi D A (fun r (_ : Unit) => r = sp_Rv_jumpOffset w) (z0) (fun _ => [])) (by decide) (Nat.le_of_ble_eq_true rfl) ?_
  intro p e s m below meth c ls A hE hr hlocks hin hsz hK hP hD hS hA hAe hl
  have hx := hE.1
  have hb := hE.2.1
  have hown := hE.2.2.2.1
  have hw := hE.2.2.2.2
  have hl : lv_has ls 1 [(0, .int w)] := hl
  refine lv_iload_n hx hb d_Rv_jumpOffset_0 rfl (lv_at hl 0 rfl) ?_
  refine lv_bipush (v := 31) hx hb d_Rv_jumpOffset_1 (by decide) ?_
  refine lv_ishr hx hb d_Rv_jumpOffset_3 ?_
  refine lv_bipush (v := 20) hx hb d_Rv_jumpOffset_4 (by decide) ?_
  refine lv_ishl hx hb d_Rv_jumpOffset_6 ?_
  refine lv_iload_n hx hb d_Rv_jumpOffset_7 rfl (lv_at hl 0 rfl) ?_
  refine lv_ldc (v := 1044480) hx hb hown (hw _ kc_Rv_154) d_Rv_jumpOffset_8 ?_
  refine lv_iand hx hb d_Rv_jumpOffset_10 ?_
  refine lv_ior hx hb d_Rv_jumpOffset_11 ?_
  refine lv_iload_n hx hb d_Rv_jumpOffset_12 rfl (lv_at hl 0 rfl) ?_
  refine lv_bipush (v := 9) hx hb d_Rv_jumpOffset_13 (by decide) ?_
  refine lv_ishr hx hb d_Rv_jumpOffset_15 ?_
  refine lv_sipush (v := 2048) hx hb d_Rv_jumpOffset_16 (by decide) ?_
  refine lv_iand hx hb d_Rv_jumpOffset_19 ?_
  refine lv_ior hx hb d_Rv_jumpOffset_20 ?_
  refine lv_iload_n hx hb d_Rv_jumpOffset_21 rfl (lv_at hl 0 rfl) ?_
  refine lv_bipush (v := 20) hx hb d_Rv_jumpOffset_22 (by decide) ?_
  refine lv_ishr hx hb d_Rv_jumpOffset_24 ?_
  refine lv_sipush (v := 2046) hx hb d_Rv_jumpOffset_25 (by decide) ?_
  refine lv_iand hx hb d_Rv_jumpOffset_28 ?_
  refine lv_ior hx hb d_Rv_jumpOffset_29 ?_
  exact zreti hx hb hr rfl hlocks hS () rfl rfl hP hD d_Rv_jumpOffset_30

def sp_Rv_branchOffset (w : Int32) : Int32 := (((((w : Int32) >>> ((31 : Int32) &&& 31) : Int32) <<< ((12 : Int32) &&& 31)) ||| (((w : Int32) <<< ((4 : Int32) &&& 31)) &&& 2048)) ||| (((w : Int32) >>> ((20 : Int32) &&& 31)) &&& 2016)) ||| (((w : Int32) >>> ((7 : Int32) &&& 31)) &&& 30)
set_option maxHeartbeats 4000000 in
theorem c_Rv_branchOffset (l : Launch) (D : va_G) (T : List (ClassId × FieldType)) (sz : Nat) (w : Int32) : zMet l y_Rv_branchOffset (zWs y_Rv_branchOffset b_Rv_branchOffset 1 (some .int)) { frames := 0, cells := 0, slots := 0, locals := 0 } (zPc D T sz [] [.int w]) (zQi D (va_A [] sz) (fun r (_ : Unit) => r = sp_Rv_branchOffset w) (z0) (fun _ => [])) (va_A [] sz) := by
  refine zstart (Qc := fun A => zQi D A (fun r (_ : Unit) => r = sp_Rv_branchOffset w) (z0) (fun _ => [])) (by decide) (Nat.le_of_ble_eq_true rfl) ?_
  intro p e s m below meth c ls A hE hr hlocks hin hsz hK hP hD hS hA hAe hl
  have hx := hE.1
  have hb := hE.2.1
  have hown := hE.2.2.2.1
  have hw := hE.2.2.2.2
  have hl : lv_has ls 1 [(0, .int w)] := hl
  refine lv_iload_n hx hb d_Rv_branchOffset_0 rfl (lv_at hl 0 rfl) ?_
  refine lv_bipush (v := 31) hx hb d_Rv_branchOffset_1 (by decide) ?_
  refine lv_ishr hx hb d_Rv_branchOffset_3 ?_
  refine lv_bipush (v := 12) hx hb d_Rv_branchOffset_4 (by decide) ?_
  refine lv_ishl hx hb d_Rv_branchOffset_6 ?_
  refine lv_iload_n hx hb d_Rv_branchOffset_7 rfl (lv_at hl 0 rfl) ?_
  refine lv_iconst (v := 4) hx hb d_Rv_branchOffset_8 (by decide) ?_
  refine lv_ishl hx hb d_Rv_branchOffset_9 ?_
  refine lv_sipush (v := 2048) hx hb d_Rv_branchOffset_10 (by decide) ?_
  refine lv_iand hx hb d_Rv_branchOffset_13 ?_
  refine lv_ior hx hb d_Rv_branchOffset_14 ?_
  refine lv_iload_n hx hb d_Rv_branchOffset_15 rfl (lv_at hl 0 rfl) ?_
  refine lv_bipush (v := 20) hx hb d_Rv_branchOffset_16 (by decide) ?_
  refine lv_ishr hx hb d_Rv_branchOffset_18 ?_
  refine lv_sipush (v := 2016) hx hb d_Rv_branchOffset_19 (by decide) ?_
  refine lv_iand hx hb d_Rv_branchOffset_22 ?_
  refine lv_ior hx hb d_Rv_branchOffset_23 ?_
  refine lv_iload_n hx hb d_Rv_branchOffset_24 rfl (lv_at hl 0 rfl) ?_
  refine lv_bipush (v := 7) hx hb d_Rv_branchOffset_25 (by decide) ?_
  refine lv_ishr hx hb d_Rv_branchOffset_27 ?_
  refine lv_bipush (v := 30) hx hb d_Rv_branchOffset_28 (by decide) ?_
  refine lv_iand hx hb d_Rv_branchOffset_30 ?_
  refine lv_ior hx hb d_Rv_branchOffset_31 ?_
  exact zreti hx hb hr rfl hlocks hS () rfl rfl hP hD d_Rv_branchOffset_32

def sp_Rv_storeOffset (w : Int32) : Int32 := (((w : Int32) >>> ((25 : Int32) &&& 31) : Int32) <<< ((5 : Int32) &&& 31)) ||| (((w : Int32) >>> ((7 : Int32) &&& 31)) &&& 31)
set_option maxHeartbeats 4000000 in
theorem c_Rv_storeOffset (l : Launch) (D : va_G) (T : List (ClassId × FieldType)) (sz : Nat) (w : Int32) : zMet l y_Rv_storeOffset (zWs y_Rv_storeOffset b_Rv_storeOffset 1 (some .int)) { frames := 0, cells := 0, slots := 0, locals := 0 } (zPc D T sz [] [.int w]) (zQi D (va_A [] sz) (fun r (_ : Unit) => r = sp_Rv_storeOffset w) (z0) (fun _ => [])) (va_A [] sz) := by
  refine zstart (Qc := fun A => zQi D A (fun r (_ : Unit) => r = sp_Rv_storeOffset w) (z0) (fun _ => [])) (by decide) (Nat.le_of_ble_eq_true rfl) ?_
  intro p e s m below meth c ls A hE hr hlocks hin hsz hK hP hD hS hA hAe hl
  have hx := hE.1
  have hb := hE.2.1
  have hown := hE.2.2.2.1
  have hw := hE.2.2.2.2
  have hl : lv_has ls 1 [(0, .int w)] := hl
  refine lv_iload_n hx hb d_Rv_storeOffset_0 rfl (lv_at hl 0 rfl) ?_
  refine lv_bipush (v := 25) hx hb d_Rv_storeOffset_1 (by decide) ?_
  refine lv_ishr hx hb d_Rv_storeOffset_3 ?_
  refine lv_iconst (v := 5) hx hb d_Rv_storeOffset_4 (by decide) ?_
  refine lv_ishl hx hb d_Rv_storeOffset_5 ?_
  refine lv_iload_n hx hb d_Rv_storeOffset_6 rfl (lv_at hl 0 rfl) ?_
  refine lv_bipush (v := 7) hx hb d_Rv_storeOffset_7 (by decide) ?_
  refine lv_ishr hx hb d_Rv_storeOffset_9 ?_
  refine lv_bipush (v := 31) hx hb d_Rv_storeOffset_10 (by decide) ?_
  refine lv_iand hx hb d_Rv_storeOffset_12 ?_
  refine lv_ior hx hb d_Rv_storeOffset_13 ?_
  exact zreti hx hb hr rfl hlocks hS () rfl rfl hP hD d_Rv_storeOffset_14

def sp_Rv_unsigned (x : Int32) : Int64 := ((x : Int32).toInt64) &&& 4294967295
set_option maxHeartbeats 4000000 in
theorem c_Rv_unsigned (l : Launch) (D : va_G) (T : List (ClassId × FieldType)) (sz : Nat) (x : Int32) : zMet l y_Rv_unsigned (zWs y_Rv_unsigned b_Rv_unsigned 1 (some .long)) { frames := 0, cells := 0, slots := 0, locals := 0 } (zPc D T sz [] [.int x]) (zQl D (va_A [] sz) (fun r (_ : Unit) => r = sp_Rv_unsigned x) (z0) (fun _ => [])) (va_A [] sz) := by
  refine zstart (Qc := fun A => zQl D A (fun r (_ : Unit) => r = sp_Rv_unsigned x) (z0) (fun _ => [])) (by decide) (Nat.le_of_ble_eq_true rfl) ?_
  intro p e s m below meth c ls A hE hr hlocks hin hsz hK hP hD hS hA hAe hl
  have hx := hE.1
  have hb := hE.2.1
  have hown := hE.2.2.2.1
  have hw := hE.2.2.2.2
  have hl : lv_has ls 1 [(0, .int x)] := hl
  refine lv_iload_n hx hb d_Rv_unsigned_0 rfl (lv_at hl 0 rfl) ?_
  refine lv_i2l (v := (x : Int32).toInt64) hx hb d_Rv_unsigned_1 rfl ?_
  refine lv_ldc2 (v := 4294967295) hx hb hown (hw _ kc_Rv_197) d_Rv_unsigned_2 ?_
  refine lv_land hx hb d_Rv_unsigned_5 ?_
  exact zretl hx hb hr hlocks hS () rfl rfl hP hD d_Rv_unsigned_6

def sp_Rv_isBelow (x : Int32) (y : Int32) : Int32 := if 0 ≤ (lg_cmp (sp_Rv_unsigned x) (sp_Rv_unsigned y)) then 0 else 1
set_option maxHeartbeats 4000000 in
theorem c_Rv_isBelow (l : Launch) (D : va_G) (T : List (ClassId × FieldType)) (sz : Nat) (x : Int32) (y : Int32) : zMet l y_Rv_isBelow (zWs y_Rv_isBelow b_Rv_isBelow 2 (some .boolean)) { frames := 1, cells := 0, slots := 0, locals := 20 } (zPc D T sz [] [.int x, .int y]) (zQi D (va_A [] sz) (fun r (_ : Unit) => r = sp_Rv_isBelow x y) (z0) (fun _ => [])) (va_A [] sz) := by
  refine zstart (Qc := fun A => zQi D A (fun r (_ : Unit) => r = sp_Rv_isBelow x y) (z0) (fun _ => [])) (by decide) (Nat.le_of_ble_eq_true rfl) ?_
  intro p e s m below meth c ls A hE hr hlocks hin hsz hK hP hD hS hA hAe hl
  have hx := hE.1
  have hb := hE.2.1
  have hown := hE.2.2.2.1
  have hw := hE.2.2.2.2
  have hl : lv_has ls 2 [(0, .int x), (1, .int y)] := hl
  refine lv_iload_n hx hb d_Rv_isBelow_0 rfl (lv_at hl 0 rfl) ?_
  refine zgol (wr := []) (zrunS (n := 1) (As := [.int x]) (rest := []) hE (c_Rv_unsigned l D _ _ x) cb_Rv_unsigned lk_Rv_193 st_Rv_unsigned (zpreS hK hP hD [] rfl rfl rfl) ⟨Nat.le_of_ble_eq_true rfl, Nat.le_of_ble_eq_true rfl, Nat.le_of_ble_eq_true rfl, Nat.le_of_ble_eq_true rfl⟩ rfl hl.1 rfl (Nat.le_of_ble_eq_true rfl) d_Rv_isBelow_1) hP hD hS hA [] [] rfl rfl rfl (by decide) (fun r u H locs hq1 hP hD hS => ?_)
  subst hq1
  have hP : va_P D zC [] H := hP
  have hD : va_D A [] := hD
  refine lv_iload_n hx hb d_Rv_isBelow_4 rfl (lv_at hl 1 rfl) ?_
  refine zgol (wr := []) (zrunS (n := 1) (As := [.int y]) (rest := [.long (sp_Rv_unsigned x)]) hE (c_Rv_unsigned l D _ _ y) cb_Rv_unsigned lk_Rv_193 st_Rv_unsigned (zpreS hK hP hD [] rfl rfl rfl) ⟨Nat.le_of_ble_eq_true rfl, Nat.le_of_ble_eq_true rfl, Nat.le_of_ble_eq_true rfl, Nat.le_of_ble_eq_true rfl⟩ rfl hl.1 rfl (Nat.le_of_ble_eq_true rfl) d_Rv_isBelow_5) hP hD hS hA [] [] rfl rfl rfl (by decide) (fun r u H locs hq2 hP hD hS => ?_)
  subst hq2
  have hP : va_P D zC [] H := hP
  have hD : va_D A [] := hD
  refine W.lcmp hx hb d_Rv_isBelow_8 ?_
  refine lv_if_ge (tgt := 16) hx hb d_Rv_isBelow_9 (by decide) (fun h3 => ?_) (fun h3 => ?_)
  · refine lv_iconst (v := 0) hx hb d_Rv_isBelow_16 (by decide) ?_
    exact zreti hx hb hr rfl hlocks hS () (by rw [sp_Rv_isBelow, if_pos h3]) rfl hP hD d_Rv_isBelow_17
  · refine lv_iconst (v := 1) hx hb d_Rv_isBelow_12 (by decide) ?_
    refine lv_goto (tgt := 17) hx hb d_Rv_isBelow_13 (by decide) ?_
    exact zreti hx hb hr rfl hlocks hS () (by rw [sp_Rv_isBelow, if_neg h3]) rfl hP hD d_Rv_isBelow_17

def sp_Rv_plainResult (f : Int32) (x : Int32) (y : Int32) : Int32 := if f = 0 then x + y else if f = 1 then (x : Int32) <<< ((y &&& 31 : Int32) &&& 31) else if f = 2 then
  if y ≤ x then 0 else 1
else if f = 3 then
  if (sp_Rv_isBelow x y) = 0 then 0 else 1
else if f = 4 then x ^^^ y else if f = 5 then zushr x (y &&& 31) else if f = 6 then x ||| y else x &&& y
set_option maxHeartbeats 4000000 in
theorem c_Rv_plainResult (l : Launch) (D : va_G) (T : List (ClassId × FieldType)) (sz : Nat) (f : Int32) (x : Int32) (y : Int32) : zMet l y_Rv_plainResult (zWs y_Rv_plainResult b_Rv_plainResult 3 (some .int)) { frames := 2, cells := 0, slots := 0, locals := 41 } (zPc D T sz [] [.int f, .int x, .int y]) (zQi D (va_A [] sz) (fun r (_ : Unit) => r = sp_Rv_plainResult f x y) (z0) (fun _ => [])) (va_A [] sz) := by
  refine zstart (Qc := fun A => zQi D A (fun r (_ : Unit) => r = sp_Rv_plainResult f x y) (z0) (fun _ => [])) (by decide) (Nat.le_of_ble_eq_true rfl) ?_
  intro p e s m below meth c ls A hE hr hlocks hin hsz hK hP hD hS hA hAe hl
  have hx := hE.1
  have hb := hE.2.1
  have hown := hE.2.2.2.1
  have hw := hE.2.2.2.2
  have hl : lv_has ls 3 [(0, .int f), (1, .int x), (2, .int y)] := hl
  refine lv_iload_n hx hb d_Rv_plainResult_0 rfl (lv_at hl 0 rfl) ?_
  rcases Decidable.em (f = 0) with h1 | h1
  · refine lv_tableIn (tgt := 44) hx hb d_Rv_plainResult_1 (by rw [h1]; decide) (by rw [h1]; decide) (by rw [h1]; rfl) (by decide) ?_
    refine lv_iload_n hx hb d_Rv_plainResult_44 rfl (lv_at hl 1 rfl) ?_
    refine lv_iload_n hx hb d_Rv_plainResult_45 rfl (lv_at hl 2 rfl) ?_
    refine lv_iadd hx hb d_Rv_plainResult_46 ?_
    exact zreti hx hb hr rfl hlocks hS () (by rw [sp_Rv_plainResult, if_pos h1]) rfl hP hD d_Rv_plainResult_47
  · rcases Decidable.em (f = 1) with h2 | h2
    · refine lv_tableIn (tgt := 48) hx hb d_Rv_plainResult_1 (by rw [h2]; decide) (by rw [h2]; decide) (by rw [h2]; rfl) (by decide) ?_
      refine lv_iload_n hx hb d_Rv_plainResult_48 rfl (lv_at hl 1 rfl) ?_
      refine lv_iload_n hx hb d_Rv_plainResult_49 rfl (lv_at hl 2 rfl) ?_
      refine lv_bipush (v := 31) hx hb d_Rv_plainResult_50 (by decide) ?_
      refine lv_iand hx hb d_Rv_plainResult_52 ?_
      refine lv_ishl hx hb d_Rv_plainResult_53 ?_
      exact zreti hx hb hr rfl hlocks hS () (by rw [sp_Rv_plainResult, if_neg h1, if_pos h2]) rfl hP hD d_Rv_plainResult_54
    · rcases Decidable.em (f = 2) with h3 | h3
      · refine lv_tableIn (tgt := 55) hx hb d_Rv_plainResult_1 (by rw [h3]; decide) (by rw [h3]; decide) (by rw [h3]; rfl) (by decide) ?_
        refine lv_iload_n hx hb d_Rv_plainResult_55 rfl (lv_at hl 1 rfl) ?_
        refine lv_iload_n hx hb d_Rv_plainResult_56 rfl (lv_at hl 2 rfl) ?_
        refine lv_icmp_ge (tgt := 64) hx hb d_Rv_plainResult_57 (by decide) (fun h4 => ?_) (fun h4 => ?_)
        · refine lv_iconst (v := 0) hx hb d_Rv_plainResult_64 (by decide) ?_
          exact zreti hx hb hr rfl hlocks hS () (by rw [sp_Rv_plainResult, if_neg h1, if_neg h2, if_pos h3, if_pos h4]) rfl hP hD d_Rv_plainResult_65
        · refine lv_iconst (v := 1) hx hb d_Rv_plainResult_60 (by decide) ?_
          refine lv_goto (tgt := 65) hx hb d_Rv_plainResult_61 (by decide) ?_
          exact zreti hx hb hr rfl hlocks hS () (by rw [sp_Rv_plainResult, if_neg h1, if_neg h2, if_pos h3, if_neg h4]) rfl hP hD d_Rv_plainResult_65
      · rcases Decidable.em (f = 3) with h5 | h5
        · refine lv_tableIn (tgt := 66) hx hb d_Rv_plainResult_1 (by rw [h5]; decide) (by rw [h5]; decide) (by rw [h5]; rfl) (by decide) ?_
          refine lv_iload_n hx hb d_Rv_plainResult_66 rfl (lv_at hl 1 rfl) ?_
          refine lv_iload_n hx hb d_Rv_plainResult_67 rfl (lv_at hl 2 rfl) ?_
          refine zgoi (wr := []) (zrunS (n := 2) (As := [.int x, .int y]) (rest := []) hE (c_Rv_isBelow l D _ _ x y) cb_Rv_isBelow lk_Rv_164 st_Rv_isBelow (zpreS hK hP hD [] rfl rfl rfl) ⟨Nat.le_of_ble_eq_true rfl, Nat.le_of_ble_eq_true rfl, Nat.le_of_ble_eq_true rfl, Nat.le_of_ble_eq_true rfl⟩ rfl hl.1 rfl (Nat.le_of_ble_eq_true rfl) d_Rv_plainResult_68) hP hD hS hA [] [] rfl rfl rfl (by decide) (fun r u H locs hq6 hP hD hS => ?_)
          subst hq6
          have hP : va_P D zC [] H := hP
          have hD : va_D A [] := hD
          refine lv_if_eq (tgt := 78) hx hb d_Rv_plainResult_71 (by decide) (fun h7 => ?_) (fun h7 => ?_)
          · refine lv_iconst (v := 0) hx hb d_Rv_plainResult_78 (by decide) ?_
            exact zreti hx hb hr rfl hlocks hS () (by rw [sp_Rv_plainResult, if_neg h1, if_neg h2, if_neg h3, if_pos h5, if_pos h7]) rfl hP hD d_Rv_plainResult_79
          · refine lv_iconst (v := 1) hx hb d_Rv_plainResult_74 (by decide) ?_
            refine lv_goto (tgt := 79) hx hb d_Rv_plainResult_75 (by decide) ?_
            exact zreti hx hb hr rfl hlocks hS () (by rw [sp_Rv_plainResult, if_neg h1, if_neg h2, if_neg h3, if_pos h5, if_neg h7]) rfl hP hD d_Rv_plainResult_79
        · rcases Decidable.em (f = 4) with h8 | h8
          · refine lv_tableIn (tgt := 80) hx hb d_Rv_plainResult_1 (by rw [h8]; decide) (by rw [h8]; decide) (by rw [h8]; rfl) (by decide) ?_
            refine lv_iload_n hx hb d_Rv_plainResult_80 rfl (lv_at hl 1 rfl) ?_
            refine lv_iload_n hx hb d_Rv_plainResult_81 rfl (lv_at hl 2 rfl) ?_
            refine lv_ixor hx hb d_Rv_plainResult_82 ?_
            exact zreti hx hb hr rfl hlocks hS () (by rw [sp_Rv_plainResult, if_neg h1, if_neg h2, if_neg h3, if_neg h5, if_pos h8]) rfl hP hD d_Rv_plainResult_83
          · rcases Decidable.em (f = 5) with h9 | h9
            · refine lv_tableIn (tgt := 84) hx hb d_Rv_plainResult_1 (by rw [h9]; decide) (by rw [h9]; decide) (by rw [h9]; rfl) (by decide) ?_
              refine lv_iload_n hx hb d_Rv_plainResult_84 rfl (lv_at hl 1 rfl) ?_
              refine lv_iload_n hx hb d_Rv_plainResult_85 rfl (lv_at hl 2 rfl) ?_
              refine lv_bipush (v := 31) hx hb d_Rv_plainResult_86 (by decide) ?_
              refine lv_iand hx hb d_Rv_plainResult_88 ?_
              refine lv_iushr (v := zushr x (y &&& 31)) hx hb d_Rv_plainResult_89 rfl ?_
              exact zreti hx hb hr rfl hlocks hS () (by rw [sp_Rv_plainResult, if_neg h1, if_neg h2, if_neg h3, if_neg h5, if_neg h8, if_pos h9]) rfl hP hD d_Rv_plainResult_90
            · rcases Decidable.em (f = 6) with h10 | h10
              · refine lv_tableIn (tgt := 91) hx hb d_Rv_plainResult_1 (by rw [h10]; decide) (by rw [h10]; decide) (by rw [h10]; rfl) (by decide) ?_
                refine lv_iload_n hx hb d_Rv_plainResult_91 rfl (lv_at hl 1 rfl) ?_
                refine lv_iload_n hx hb d_Rv_plainResult_92 rfl (lv_at hl 2 rfl) ?_
                refine lv_ior hx hb d_Rv_plainResult_93 ?_
                exact zreti hx hb hr rfl hlocks hS () (by rw [sp_Rv_plainResult, if_neg h1, if_neg h2, if_neg h3, if_neg h5, if_neg h8, if_neg h9, if_pos h10]) rfl hP hD d_Rv_plainResult_94
              · refine lv_tableOut (tgt := 95) hx hb d_Rv_plainResult_1 (by have q0 := z_ne h1 (n := 0) (by decide); have q1 := z_ne h2 (n := 1) (by decide); have q2 := z_ne h3 (n := 2) (by decide); have q3 := z_ne h5 (n := 3) (by decide); have q4 := z_ne h8 (n := 4) (by decide); have q5 := z_ne h9 (n := 5) (by decide); have q6 := z_ne h10 (n := 6) (by decide); omega) (by decide) ?_
                refine lv_iload_n hx hb d_Rv_plainResult_95 rfl (lv_at hl 1 rfl) ?_
                refine lv_iload_n hx hb d_Rv_plainResult_96 rfl (lv_at hl 2 rfl) ?_
                refine lv_iand hx hb d_Rv_plainResult_97 ?_
                exact zreti hx hb hr rfl hlocks hS () (by rw [sp_Rv_plainResult, if_neg h1, if_neg h2, if_neg h3, if_neg h5, if_neg h8, if_neg h9, if_neg h10]) rfl hP hD d_Rv_plainResult_98

def sp_Rv_product (f : Int32) (x : Int32) (y : Int32) : Int32 := if f = 0 then x * y else if f = 1 then (zlshr (((x : Int32).toInt64) * ((y : Int32).toInt64)) 32 : Int64).toInt32 else if f = 2 then (zlshr (((x : Int32).toInt64) * (sp_Rv_unsigned y)) 32 : Int64).toInt32 else (zlushr ((sp_Rv_unsigned x) * (sp_Rv_unsigned y)) 32 : Int64).toInt32
set_option maxHeartbeats 4000000 in
theorem c_Rv_product (l : Launch) (D : va_G) (T : List (ClassId × FieldType)) (sz : Nat) (f : Int32) (x : Int32) (y : Int32) : zMet l y_Rv_product (zWs y_Rv_product b_Rv_product 3 (some .int)) { frames := 1, cells := 0, slots := 0, locals := 20 } (zPc D T sz [] [.int f, .int x, .int y]) (zQi D (va_A [] sz) (fun r (_ : Unit) => r = sp_Rv_product f x y) (z0) (fun _ => [])) (va_A [] sz) := by
  refine zstart (Qc := fun A => zQi D A (fun r (_ : Unit) => r = sp_Rv_product f x y) (z0) (fun _ => [])) (by decide) (Nat.le_of_ble_eq_true rfl) ?_
  intro p e s m below meth c ls A hE hr hlocks hin hsz hK hP hD hS hA hAe hl
  have hx := hE.1
  have hb := hE.2.1
  have hown := hE.2.2.2.1
  have hw := hE.2.2.2.2
  have hl : lv_has ls 3 [(0, .int f), (1, .int x), (2, .int y)] := hl
  refine lv_iload_n hx hb d_Rv_product_0 rfl (lv_at hl 0 rfl) ?_
  rcases Decidable.em (f = 0) with h1 | h1
  · refine lv_tableIn (tgt := 28) hx hb d_Rv_product_1 (by rw [h1]; decide) (by rw [h1]; decide) (by rw [h1]; rfl) (by decide) ?_
    refine lv_iload_n hx hb d_Rv_product_28 rfl (lv_at hl 1 rfl) ?_
    refine lv_iload_n hx hb d_Rv_product_29 rfl (lv_at hl 2 rfl) ?_
    refine lv_imul hx hb d_Rv_product_30 ?_
    exact zreti hx hb hr rfl hlocks hS () (by rw [sp_Rv_product, if_pos h1]) rfl hP hD d_Rv_product_31
  · rcases Decidable.em (f = 1) with h2 | h2
    · refine lv_tableIn (tgt := 32) hx hb d_Rv_product_1 (by rw [h2]; decide) (by rw [h2]; decide) (by rw [h2]; rfl) (by decide) ?_
      refine lv_iload_n hx hb d_Rv_product_32 rfl (lv_at hl 1 rfl) ?_
      refine lv_i2l (v := (x : Int32).toInt64) hx hb d_Rv_product_33 rfl ?_
      refine lv_iload_n hx hb d_Rv_product_34 rfl (lv_at hl 2 rfl) ?_
      refine lv_i2l (v := (y : Int32).toInt64) hx hb d_Rv_product_35 rfl ?_
      refine lv_lmul hx hb d_Rv_product_36 ?_
      refine lv_bipush (v := 32) hx hb d_Rv_product_37 (by decide) ?_
      refine lv_lshr (v := zlshr (((x : Int32).toInt64) * ((y : Int32).toInt64)) 32) hx hb d_Rv_product_39 rfl ?_
      refine lv_l2i (v := (zlshr (((x : Int32).toInt64) * ((y : Int32).toInt64)) 32 : Int64).toInt32) hx hb d_Rv_product_40 rfl ?_
      exact zreti hx hb hr rfl hlocks hS () (by rw [sp_Rv_product, if_neg h1, if_pos h2]) rfl hP hD d_Rv_product_41
    · rcases Decidable.em (f = 2) with h3 | h3
      · refine lv_tableIn (tgt := 42) hx hb d_Rv_product_1 (by rw [h3]; decide) (by rw [h3]; decide) (by rw [h3]; rfl) (by decide) ?_
        refine lv_iload_n hx hb d_Rv_product_42 rfl (lv_at hl 1 rfl) ?_
        refine lv_i2l (v := (x : Int32).toInt64) hx hb d_Rv_product_43 rfl ?_
        refine lv_iload_n hx hb d_Rv_product_44 rfl (lv_at hl 2 rfl) ?_
        refine zgol (wr := []) (zrunS (n := 1) (As := [.int y]) (rest := [.long ((x : Int32).toInt64)]) hE (c_Rv_unsigned l D _ _ y) cb_Rv_unsigned lk_Rv_193 st_Rv_unsigned (zpreS hK hP hD [] rfl rfl rfl) ⟨Nat.le_of_ble_eq_true rfl, Nat.le_of_ble_eq_true rfl, Nat.le_of_ble_eq_true rfl, Nat.le_of_ble_eq_true rfl⟩ rfl hl.1 rfl (Nat.le_of_ble_eq_true rfl) d_Rv_product_45) hP hD hS hA [] [] rfl rfl rfl (by decide) (fun r u H locs hq4 hP hD hS => ?_)
        subst hq4
        have hP : va_P D zC [] H := hP
        have hD : va_D A [] := hD
        refine lv_lmul hx hb d_Rv_product_48 ?_
        refine lv_bipush (v := 32) hx hb d_Rv_product_49 (by decide) ?_
        refine lv_lshr (v := zlshr (((x : Int32).toInt64) * (sp_Rv_unsigned y)) 32) hx hb d_Rv_product_51 rfl ?_
        refine lv_l2i (v := (zlshr (((x : Int32).toInt64) * (sp_Rv_unsigned y)) 32 : Int64).toInt32) hx hb d_Rv_product_52 rfl ?_
        exact zreti hx hb hr rfl hlocks hS () (by rw [sp_Rv_product, if_neg h1, if_neg h2, if_pos h3]) rfl hP hD d_Rv_product_53
      · refine lv_tableOut (tgt := 54) hx hb d_Rv_product_1 (by have q0 := z_ne h1 (n := 0) (by decide); have q1 := z_ne h2 (n := 1) (by decide); have q2 := z_ne h3 (n := 2) (by decide); omega) (by decide) ?_
        refine lv_iload_n hx hb d_Rv_product_54 rfl (lv_at hl 1 rfl) ?_
        refine zgol (wr := []) (zrunS (n := 1) (As := [.int x]) (rest := []) hE (c_Rv_unsigned l D _ _ x) cb_Rv_unsigned lk_Rv_193 st_Rv_unsigned (zpreS hK hP hD [] rfl rfl rfl) ⟨Nat.le_of_ble_eq_true rfl, Nat.le_of_ble_eq_true rfl, Nat.le_of_ble_eq_true rfl, Nat.le_of_ble_eq_true rfl⟩ rfl hl.1 rfl (Nat.le_of_ble_eq_true rfl) d_Rv_product_55) hP hD hS hA [] [] rfl rfl rfl (by decide) (fun r u H locs hq5 hP hD hS => ?_)
        subst hq5
        have hP : va_P D zC [] H := hP
        have hD : va_D A [] := hD
        refine lv_iload_n hx hb d_Rv_product_58 rfl (lv_at hl 2 rfl) ?_
        refine zgol (wr := []) (zrunS (n := 1) (As := [.int y]) (rest := [.long (sp_Rv_unsigned x)]) hE (c_Rv_unsigned l D _ _ y) cb_Rv_unsigned lk_Rv_193 st_Rv_unsigned (zpreS hK hP hD [] rfl rfl rfl) ⟨Nat.le_of_ble_eq_true rfl, Nat.le_of_ble_eq_true rfl, Nat.le_of_ble_eq_true rfl, Nat.le_of_ble_eq_true rfl⟩ rfl hl.1 rfl (Nat.le_of_ble_eq_true rfl) d_Rv_product_59) hP hD hS hA [] [] rfl rfl rfl (by decide) (fun r u H locs hq6 hP hD hS => ?_)
        subst hq6
        have hP : va_P D zC [] H := hP
        have hD : va_D A [] := hD
        refine lv_lmul hx hb d_Rv_product_62 ?_
        refine lv_bipush (v := 32) hx hb d_Rv_product_63 (by decide) ?_
        refine lv_lushr (v := zlushr ((sp_Rv_unsigned x) * (sp_Rv_unsigned y)) 32) hx hb d_Rv_product_65 rfl ?_
        refine lv_l2i (v := (zlushr ((sp_Rv_unsigned x) * (sp_Rv_unsigned y)) 32 : Int64).toInt32) hx hb d_Rv_product_66 rfl ?_
        exact zreti hx hb hr rfl hlocks hS () (by rw [sp_Rv_product, if_neg h1, if_neg h2, if_neg h3]) rfl hP hD d_Rv_product_67

def sp_Rv_quotient (f : Int32) (x : Int32) (y : Int32) : Int32 := if y = 0 then
  if 6 ≤ f then x else (-1)
else if f = 4 then (((x : Int32).toInt64) / ((y : Int32).toInt64) : Int64).toInt32 else if f = 5 then ((sp_Rv_unsigned x) / (sp_Rv_unsigned y) : Int64).toInt32 else if f = 6 then (((x : Int32).toInt64) - ((x : Int32).toInt64) / ((y : Int32).toInt64) * ((y : Int32).toInt64) : Int64).toInt32 else ((sp_Rv_unsigned x) - (sp_Rv_unsigned x) / (sp_Rv_unsigned y) * (sp_Rv_unsigned y) : Int64).toInt32
set_option maxHeartbeats 4000000 in
theorem c_Rv_quotient (l : Launch) (D : va_G) (T : List (ClassId × FieldType)) (sz : Nat) (f : Int32) (x : Int32) (y : Int32) : zMet l y_Rv_quotient (zWs y_Rv_quotient b_Rv_quotient 3 (some .int)) { frames := 1, cells := 0, slots := 0, locals := 20 } (zPc D T sz [] [.int f, .int x, .int y]) (zQi D (va_A [] sz) (fun r (_ : Unit) => r = sp_Rv_quotient f x y) (z0) (fun _ => [])) (va_A [] sz) := by
  refine zstart (Qc := fun A => zQi D A (fun r (_ : Unit) => r = sp_Rv_quotient f x y) (z0) (fun _ => [])) (by decide) (Nat.le_of_ble_eq_true rfl) ?_
  intro p e s m below meth c ls A hE hr hlocks hin hsz hK hP hD hS hA hAe hl
  have hx := hE.1
  have hb := hE.2.1
  have hown := hE.2.2.2.1
  have hw := hE.2.2.2.2
  have hl : lv_has ls 3 [(0, .int f), (1, .int x), (2, .int y)] := hl
  refine lv_iload_n hx hb d_Rv_quotient_0 rfl (lv_at hl 2 rfl) ?_
  refine lv_if_ne (tgt := 16) hx hb d_Rv_quotient_1 (by decide) (fun h1 => ?_) (fun h1 => ?_)
  · refine lv_iload_n hx hb d_Rv_quotient_16 rfl (lv_at hl 0 rfl) ?_
    rcases Decidable.em (f = 4) with h2 | h2
    · refine lv_tableIn (tgt := 44) hx hb d_Rv_quotient_17 (by rw [h2]; decide) (by rw [h2]; decide) (by rw [h2]; rfl) (by decide) ?_
      refine lv_iload_n hx hb d_Rv_quotient_44 rfl (lv_at hl 1 rfl) ?_
      refine lv_i2l (v := (x : Int32).toInt64) hx hb d_Rv_quotient_45 rfl ?_
      refine lv_iload_n hx hb d_Rv_quotient_46 rfl (lv_at hl 2 rfl) ?_
      refine lv_i2l (v := (y : Int32).toInt64) hx hb d_Rv_quotient_47 rfl ?_
      refine lv_ldiv hx hb d_Rv_quotient_48 (z_nz1 h1) ?_
      refine lv_l2i (v := (((x : Int32).toInt64) / ((y : Int32).toInt64) : Int64).toInt32) hx hb d_Rv_quotient_49 rfl ?_
      exact zreti hx hb hr rfl hlocks hS () (by rw [sp_Rv_quotient, if_neg h1, if_pos h2]) rfl hP hD d_Rv_quotient_50
    · rcases Decidable.em (f = 5) with h3 | h3
      · refine lv_tableIn (tgt := 51) hx hb d_Rv_quotient_17 (by rw [h3]; decide) (by rw [h3]; decide) (by rw [h3]; rfl) (by decide) ?_
        refine lv_iload_n hx hb d_Rv_quotient_51 rfl (lv_at hl 1 rfl) ?_
        refine zgol (wr := []) (zrunS (n := 1) (As := [.int x]) (rest := []) hE (c_Rv_unsigned l D _ _ x) cb_Rv_unsigned lk_Rv_193 st_Rv_unsigned (zpreS hK hP hD [] rfl rfl rfl) ⟨Nat.le_of_ble_eq_true rfl, Nat.le_of_ble_eq_true rfl, Nat.le_of_ble_eq_true rfl, Nat.le_of_ble_eq_true rfl⟩ rfl hl.1 rfl (Nat.le_of_ble_eq_true rfl) d_Rv_quotient_52) hP hD hS hA [] [] rfl rfl rfl (by decide) (fun r u H locs hq4 hP hD hS => ?_)
        subst hq4
        have hP : va_P D zC [] H := hP
        have hD : va_D A [] := hD
        refine lv_iload_n hx hb d_Rv_quotient_55 rfl (lv_at hl 2 rfl) ?_
        refine zgol (wr := []) (zrunS (n := 1) (As := [.int y]) (rest := [.long (sp_Rv_unsigned x)]) hE (c_Rv_unsigned l D _ _ y) cb_Rv_unsigned lk_Rv_193 st_Rv_unsigned (zpreS hK hP hD [] rfl rfl rfl) ⟨Nat.le_of_ble_eq_true rfl, Nat.le_of_ble_eq_true rfl, Nat.le_of_ble_eq_true rfl, Nat.le_of_ble_eq_true rfl⟩ rfl hl.1 rfl (Nat.le_of_ble_eq_true rfl) d_Rv_quotient_56) hP hD hS hA [] [] rfl rfl rfl (by decide) (fun r u H locs hq5 hP hD hS => ?_)
        subst hq5
        have hP : va_P D zC [] H := hP
        have hD : va_D A [] := hD
        refine lv_ldiv hx hb d_Rv_quotient_59 (z_nz2 h1) ?_
        refine lv_l2i (v := ((sp_Rv_unsigned x) / (sp_Rv_unsigned y) : Int64).toInt32) hx hb d_Rv_quotient_60 rfl ?_
        exact zreti hx hb hr rfl hlocks hS () (by rw [sp_Rv_quotient, if_neg h1, if_neg h2, if_pos h3]) rfl hP hD d_Rv_quotient_61
      · rcases Decidable.em (f = 6) with h6 | h6
        · refine lv_tableIn (tgt := 62) hx hb d_Rv_quotient_17 (by rw [h6]; decide) (by rw [h6]; decide) (by rw [h6]; rfl) (by decide) ?_
          refine lv_iload_n hx hb d_Rv_quotient_62 rfl (lv_at hl 1 rfl) ?_
          refine lv_i2l (v := (x : Int32).toInt64) hx hb d_Rv_quotient_63 rfl ?_
          refine lv_iload_n hx hb d_Rv_quotient_64 rfl (lv_at hl 2 rfl) ?_
          refine lv_i2l (v := (y : Int32).toInt64) hx hb d_Rv_quotient_65 rfl ?_
          refine lv_lrem hx hb d_Rv_quotient_66 (z_nz1 h1) ?_
          refine lv_l2i (v := (((x : Int32).toInt64) - ((x : Int32).toInt64) / ((y : Int32).toInt64) * ((y : Int32).toInt64) : Int64).toInt32) hx hb d_Rv_quotient_67 rfl ?_
          exact zreti hx hb hr rfl hlocks hS () (by rw [sp_Rv_quotient, if_neg h1, if_neg h2, if_neg h3, if_pos h6]) rfl hP hD d_Rv_quotient_68
        · refine lv_tableOut (tgt := 69) hx hb d_Rv_quotient_17 (by have q0 := z_ne h2 (n := 4) (by decide); have q1 := z_ne h3 (n := 5) (by decide); have q2 := z_ne h6 (n := 6) (by decide); omega) (by decide) ?_
          refine lv_iload_n hx hb d_Rv_quotient_69 rfl (lv_at hl 1 rfl) ?_
          refine zgol (wr := []) (zrunS (n := 1) (As := [.int x]) (rest := []) hE (c_Rv_unsigned l D _ _ x) cb_Rv_unsigned lk_Rv_193 st_Rv_unsigned (zpreS hK hP hD [] rfl rfl rfl) ⟨Nat.le_of_ble_eq_true rfl, Nat.le_of_ble_eq_true rfl, Nat.le_of_ble_eq_true rfl, Nat.le_of_ble_eq_true rfl⟩ rfl hl.1 rfl (Nat.le_of_ble_eq_true rfl) d_Rv_quotient_70) hP hD hS hA [] [] rfl rfl rfl (by decide) (fun r u H locs hq7 hP hD hS => ?_)
          subst hq7
          have hP : va_P D zC [] H := hP
          have hD : va_D A [] := hD
          refine lv_iload_n hx hb d_Rv_quotient_73 rfl (lv_at hl 2 rfl) ?_
          refine zgol (wr := []) (zrunS (n := 1) (As := [.int y]) (rest := [.long (sp_Rv_unsigned x)]) hE (c_Rv_unsigned l D _ _ y) cb_Rv_unsigned lk_Rv_193 st_Rv_unsigned (zpreS hK hP hD [] rfl rfl rfl) ⟨Nat.le_of_ble_eq_true rfl, Nat.le_of_ble_eq_true rfl, Nat.le_of_ble_eq_true rfl, Nat.le_of_ble_eq_true rfl⟩ rfl hl.1 rfl (Nat.le_of_ble_eq_true rfl) d_Rv_quotient_74) hP hD hS hA [] [] rfl rfl rfl (by decide) (fun r u H locs hq8 hP hD hS => ?_)
          subst hq8
          have hP : va_P D zC [] H := hP
          have hD : va_D A [] := hD
          refine lv_lrem hx hb d_Rv_quotient_77 (z_nz2 h1) ?_
          refine lv_l2i (v := ((sp_Rv_unsigned x) - (sp_Rv_unsigned x) / (sp_Rv_unsigned y) * (sp_Rv_unsigned y) : Int64).toInt32) hx hb d_Rv_quotient_78 rfl ?_
          exact zreti hx hb hr rfl hlocks hS () (by rw [sp_Rv_quotient, if_neg h1, if_neg h2, if_neg h3, if_neg h6]) rfl hP hD d_Rv_quotient_79
  · refine lv_iload_n hx hb d_Rv_quotient_4 rfl (lv_at hl 0 rfl) ?_
    refine lv_bipush (v := 6) hx hb d_Rv_quotient_5 (by decide) ?_
    refine lv_icmp_ge (tgt := 14) hx hb d_Rv_quotient_7 (by decide) (fun h9 => ?_) (fun h9 => ?_)
    · refine lv_iload_n hx hb d_Rv_quotient_14 rfl (lv_at hl 1 rfl) ?_
      exact zreti hx hb hr rfl hlocks hS () (by rw [sp_Rv_quotient, if_pos h1, if_pos h9]) rfl hP hD d_Rv_quotient_15
    · refine lv_iconst (v := (-1)) hx hb d_Rv_quotient_10 (by decide) ?_
      refine lv_goto (tgt := 15) hx hb d_Rv_quotient_11 (by decide) ?_
      exact zreti hx hb hr rfl hlocks hS () (by rw [sp_Rv_quotient, if_pos h1, if_neg h9]) rfl hP hD d_Rv_quotient_15

def sp_Rv_doneIf (b : Int32) : Int32 := if b = 0 then 4 else 0
set_option maxHeartbeats 4000000 in
theorem c_Rv_doneIf (l : Launch) (D : va_G) (T : List (ClassId × FieldType)) (sz : Nat) (b : Int32) : zMet l y_Rv_doneIf (zWs y_Rv_doneIf b_Rv_doneIf 1 (some .int)) { frames := 0, cells := 0, slots := 0, locals := 0 } (zPc D T sz [] [.int b]) (zQi D (va_A [] sz) (fun r (_ : Unit) => r = sp_Rv_doneIf b) (z0) (fun _ => [])) (va_A [] sz) := by
  refine zstart (Qc := fun A => zQi D A (fun r (_ : Unit) => r = sp_Rv_doneIf b) (z0) (fun _ => [])) (by decide) (Nat.le_of_ble_eq_true rfl) ?_
  intro p e s m below meth c ls A hE hr hlocks hin hsz hK hP hD hS hA hAe hl
  have hx := hE.1
  have hb := hE.2.1
  have hown := hE.2.2.2.1
  have hw := hE.2.2.2.2
  have hl : lv_has ls 1 [(0, .int b)] := hl
  refine lv_iload_n hx hb d_Rv_doneIf_0 rfl (lv_at hl 0 rfl) ?_
  refine lv_if_eq (tgt := 8) hx hb d_Rv_doneIf_1 (by decide) (fun h1 => ?_) (fun h1 => ?_)
  · refine lv_iconst (v := 4) hx hb d_Rv_doneIf_8 (by decide) ?_
    exact zreti hx hb hr rfl hlocks hS () (by rw [sp_Rv_doneIf, if_pos h1]) rfl hP hD d_Rv_doneIf_9
  · refine lv_iconst (v := 0) hx hb d_Rv_doneIf_4 (by decide) ?_
    refine lv_goto (tgt := 9) hx hb d_Rv_doneIf_5 (by decide) ?_
    exact zreti hx hb hr rfl hlocks hS () (by rw [sp_Rv_doneIf, if_neg h1]) rfl hP hD d_Rv_doneIf_9

def sp_Me_roundedUp (x : Int32) : Int32 := (x + 3) &&& (-4)
set_option maxHeartbeats 4000000 in
theorem c_Me_roundedUp (l : Launch) (D : va_G) (T : List (ClassId × FieldType)) (sz : Nat) (x : Int32) : zMet l y_Me_roundedUp (zWs y_Me_roundedUp b_Me_roundedUp 1 (some .int)) { frames := 0, cells := 0, slots := 0, locals := 0 } (zPc D T sz [] [.int x]) (zQi D (va_A [] sz) (fun r (_ : Unit) => r = sp_Me_roundedUp x) (z0) (fun _ => [])) (va_A [] sz) := by
  refine zstart (Qc := fun A => zQi D A (fun r (_ : Unit) => r = sp_Me_roundedUp x) (z0) (fun _ => [])) (by decide) (Nat.le_of_ble_eq_true rfl) ?_
  intro p e s m below meth c ls A hE hr hlocks hin hsz hK hP hD hS hA hAe hl
  have hx := hE.1
  have hb := hE.2.1
  have hown := hE.2.2.2.1
  have hw := hE.2.2.2.2
  have hl : lv_has ls 1 [(0, .int x)] := hl
  refine lv_iload_n hx hb d_Me_roundedUp_0 rfl (lv_at hl 0 rfl) ?_
  refine lv_iconst (v := 3) hx hb d_Me_roundedUp_1 (by decide) ?_
  refine lv_iadd hx hb d_Me_roundedUp_2 ?_
  refine lv_bipush (v := (-4)) hx hb d_Me_roundedUp_3 (by decide) ?_
  refine lv_iand hx hb d_Me_roundedUp_5 ?_
  exact zreti hx hb hr rfl hlocks hS () rfl rfl hP hD d_Me_roundedUp_6
