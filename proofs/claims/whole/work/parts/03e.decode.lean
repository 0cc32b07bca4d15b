theorem dX4_readTest_87 : decode cX4_readTest 87 = .ok (.invokevirtual 77, 3) := by decide +kernel
theorem dX4_readTest_90 : decode cX4_readTest 90 = .ok (.aload_n 0, 1) := by decide +kernel
theorem dX4_readTest_91 : decode cX4_readTest 91 = .ok (.getfield 18, 3) := by decide +kernel
theorem dX4_readTest_94 : decode cX4_readTest 94 = .ok (.iload 4, 2) := by decide +kernel
theorem dX4_readTest_96 : decode cX4_readTest 96 = .ok (.invokevirtual 68, 3) := by decide +kernel
theorem dX4_readTest_99 : decode cX4_readTest 99 = .ok (.iinc 3 1, 3) := by decide +kernel
theorem dX4_readTest_102 : decode cX4_readTest 102 = .ok (.goto (-93), 3) := by decide +kernel
theorem dX4_readTest_105 : decode cX4_readTest 105 = .ok (.aload_n 0, 1) := by decide +kernel
theorem dX4_readTest_106 : decode cX4_readTest 106 = .ok (.getfield 18, 3) := by decide +kernel
theorem dX4_readTest_109 : decode cX4_readTest 109 = .ok (.iload_n 2, 1) := by decide +kernel
theorem dX4_readTest_110 : decode cX4_readTest 110 = .ok (.invokevirtual 68, 3) := by decide +kernel
theorem dX4_readTest_113 : decode cX4_readTest 113 = .ok (.return_, 1) := by decide +kernel
theorem dX4_readFact_0 : decode cX4_readFact 0 = .ok (.aload_n 0, 1) := by decide +kernel
theorem dX4_readFact_1 : decode cX4_readFact 1 = .ok (.getfield 9, 3) := by decide +kernel
theorem dX4_readFact_4 : decode cX4_readFact 4 = .ok (.invokevirtual 37, 3) := by decide +kernel
theorem dX4_readFact_7 : decode cX4_readFact 7 = .ok (.istore_n 2, 1) := by decide +kernel
theorem dX4_readFact_8 : decode cX4_readFact 8 = .ok (.iload_n 2, 1) := by decide +kernel
theorem dX4_readFact_9 : decode cX4_readFact 9 = .ok (.bipush 30, 2) := by decide +kernel
theorem dX4_readFact_11 : decode cX4_readFact 11 = .ok (.if_icmp .eq 36, 3) := by decide +kernel
theorem dX4_readFact_14 : decode cX4_readFact 14 = .ok (.iload_n 2, 1) := by decide +kernel
theorem dX4_readFact_15 : decode cX4_readFact 15 = .ok (.iconst 4, 1) := by decide +kernel
theorem dX4_readFact_16 : decode cX4_readFact 16 = .ok (.if_icmp .eq 31, 3) := by decide +kernel
theorem dX4_readFact_19 : decode cX4_readFact 19 = .ok (.aload_n 0, 1) := by decide +kernel
theorem dX4_readFact_20 : decode cX4_readFact 20 = .ok (.invokevirtual 55, 3) := by decide +kernel
theorem dX4_readFact_23 : decode cX4_readFact 23 = .ok (.aload_n 0, 1) := by decide +kernel
theorem dX4_readFact_24 : decode cX4_readFact 24 = .ok (.invokevirtual 80, 3) := by decide +kernel
theorem dX4_readFact_27 : decode cX4_readFact 27 = .ok (.istore_n 3, 1) := by decide +kernel
theorem dX4_readFact_28 : decode cX4_readFact 28 = .ok (.iload_n 3, 1) := by decide +kernel
theorem dX4_readFact_29 : decode cX4_readFact 29 = .ok (.ifCond .eq 15, 3) := by decide +kernel
theorem dX4_readFact_32 : decode cX4_readFact 32 = .ok (.aload_n 0, 1) := by decide +kernel
theorem dX4_readFact_33 : decode cX4_readFact 33 = .ok (.invokevirtual 55, 3) := by decide +kernel
theorem dX4_readFact_36 : decode cX4_readFact 36 = .ok (.aload_n 0, 1) := by decide +kernel
theorem dX4_readFact_37 : decode cX4_readFact 37 = .ok (.getfield 18, 3) := by decide +kernel
theorem dX4_readFact_40 : decode cX4_readFact 40 = .ok (.iload_n 3, 1) := by decide +kernel
theorem dX4_readFact_41 : decode cX4_readFact 41 = .ok (.invokevirtual 68, 3) := by decide +kernel
theorem dX4_readFact_44 : decode cX4_readFact 44 = .ok (.goto 92, 3) := by decide +kernel
theorem dX4_readFact_47 : decode cX4_readFact 47 = .ok (.iload_n 1, 1) := by decide +kernel
theorem dX4_readFact_48 : decode cX4_readFact 48 = .ok (.bipush 10, 2) := by decide +kernel
theorem dX4_readFact_50 : decode cX4_readFact 50 = .ok (.if_icmp .lt 14, 3) := by decide +kernel
theorem dX4_readFact_53 : decode cX4_readFact 53 = .ok (.aload_n 0, 1) := by decide +kernel
theorem dX4_readFact_54 : decode cX4_readFact 54 = .ok (.getfield 9, 3) := by decide +kernel
theorem dX4_readFact_57 : decode cX4_readFact 57 = .ok (.iconst 2, 1) := by decide +kernel
theorem dX4_readFact_58 : decode cX4_readFact 58 = .ok (.invokevirtual 44, 3) := by decide +kernel
theorem dX4_readFact_61 : decode cX4_readFact 61 = .ok (.goto 75, 3) := by decide +kernel
theorem dX4_readFact_64 : decode cX4_readFact 64 = .ok (.iload_n 2, 1) := by decide +kernel
theorem dX4_readFact_65 : decode cX4_readFact 65 = .ok (.bipush 30, 2) := by decide +kernel
theorem dX4_readFact_67 : decode cX4_readFact 67 = .ok (.if_icmp .ne 29, 3) := by decide +kernel
theorem dX4_readFact_70 : decode cX4_readFact 70 = .ok (.aload_n 0, 1) := by decide +kernel
theorem dX4_readFact_71 : decode cX4_readFact 71 = .ok (.getfield 9, 3) := by decide +kernel
theorem dX4_readFact_74 : decode cX4_readFact 74 = .ok (.invokevirtual 41, 3) := by decide +kernel
theorem dX4_readFact_77 : decode cX4_readFact 77 = .ok (.aload_n 0, 1) := by decide +kernel
theorem dX4_readFact_78 : decode cX4_readFact 78 = .ok (.iload_n 1, 1) := by decide +kernel
theorem dX4_readFact_79 : decode cX4_readFact 79 = .ok (.iconst 1, 1) := by decide +kernel
theorem dX4_readFact_80 : decode cX4_readFact 80 = .ok (.iadd, 1) := by decide +kernel
theorem dX4_readFact_81 : decode cX4_readFact 81 = .ok (.invokevirtual 77, 3) := by decide +kernel
theorem dX4_readFact_84 : decode cX4_readFact 84 = .ok (.aload_n 0, 1) := by decide +kernel
theorem dX4_readFact_85 : decode cX4_readFact 85 = .ok (.getfield 18, 3) := by decide +kernel
theorem dX4_readFact_88 : decode cX4_readFact 88 = .ok (.bipush 30, 2) := by decide +kernel
theorem dX4_readFact_90 : decode cX4_readFact 90 = .ok (.invokevirtual 68, 3) := by decide +kernel
theorem dX4_readFact_93 : decode cX4_readFact 93 = .ok (.goto 43, 3) := by decide +kernel
theorem dX4_readFact_96 : decode cX4_readFact 96 = .ok (.aload_n 0, 1) := by decide +kernel
theorem dX4_readFact_97 : decode cX4_readFact 97 = .ok (.getfield 9, 3) := by decide +kernel
theorem dX4_readFact_100 : decode cX4_readFact 100 = .ok (.invokevirtual 41, 3) := by decide +kernel
theorem dX4_readFact_103 : decode cX4_readFact 103 = .ok (.aload_n 0, 1) := by decide +kernel
theorem dX4_readFact_104 : decode cX4_readFact 104 = .ok (.iload_n 1, 1) := by decide +kernel
theorem dX4_readFact_105 : decode cX4_readFact 105 = .ok (.iconst 1, 1) := by decide +kernel
theorem dX4_readFact_106 : decode cX4_readFact 106 = .ok (.iadd, 1) := by decide +kernel
theorem dX4_readFact_107 : decode cX4_readFact 107 = .ok (.invokevirtual 58, 3) := by decide +kernel
theorem dX4_readFact_110 : decode cX4_readFact 110 = .ok (.aload_n 0, 1) := by decide +kernel
theorem dX4_readFact_111 : decode cX4_readFact 111 = .ok (.getfield 9, 3) := by decide +kernel
theorem dX4_readFact_114 : decode cX4_readFact 114 = .ok (.invokevirtual 37, 3) := by decide +kernel
theorem dX4_readFact_117 : decode cX4_readFact 117 = .ok (.iconst 5, 1) := by decide +kernel
theorem dX4_readFact_118 : decode cX4_readFact 118 = .ok (.if_icmp .eq 11, 3) := by decide +kernel
theorem dX4_readFact_121 : decode cX4_readFact 121 = .ok (.aload_n 0, 1) := by decide +kernel
theorem dX4_readFact_122 : decode cX4_readFact 122 = .ok (.getfield 9, 3) := by decide +kernel
theorem dX4_readFact_125 : decode cX4_readFact 125 = .ok (.iconst 0, 1) := by decide +kernel
theorem dX4_readFact_126 : decode cX4_readFact 126 = .ok (.invokevirtual 44, 3) := by decide +kernel
theorem dX4_readFact_129 : decode cX4_readFact 129 = .ok (.aload_n 0, 1) := by decide +kernel
theorem dX4_readFact_130 : decode cX4_readFact 130 = .ok (.getfield 9, 3) := by decide +kernel
theorem dX4_readFact_133 : decode cX4_readFact 133 = .ok (.invokevirtual 41, 3) := by decide +kernel
theorem dX4_readFact_136 : decode cX4_readFact 136 = .ok (.return_, 1) := by decide +kernel
theorem dX4_takeSign_0 : decode cX4_takeSign 0 = .ok (.aload_n 0, 1) := by decide +kernel
theorem dX4_takeSign_1 : decode cX4_takeSign 1 = .ok (.getfield 9, 3) := by decide +kernel
theorem dX4_takeSign_4 : decode cX4_takeSign 4 = .ok (.invokevirtual 37, 3) := by decide +kernel
theorem dX4_takeSign_7 : decode cX4_takeSign 7 = .ok (.istore_n 1, 1) := by decide +kernel
theorem dX4_takeSign_8 : decode cX4_takeSign 8 = .ok (.iload_n 1, 1) := by decide +kernel
theorem dX4_takeSign_9 : decode cX4_takeSign 9 = .ok (.bipush 11, 2) := by decide +kernel
theorem dX4_takeSign_11 : decode cX4_takeSign 11 = .ok (.if_icmp .lt 9, 3) := by decide +kernel
theorem dX4_takeSign_14 : decode cX4_takeSign 14 = .ok (.iload_n 1, 1) := by decide +kernel
theorem dX4_takeSign_15 : decode cX4_takeSign 15 = .ok (.bipush 15, 2) := by decide +kernel
theorem dX4_takeSign_17 : decode cX4_takeSign 17 = .ok (.if_icmp .le 14, 3) := by decide +kernel
theorem dX4_takeSign_20 : decode cX4_takeSign 20 = .ok (.aload_n 0, 1) := by decide +kernel
theorem dX4_takeSign_21 : decode cX4_takeSign 21 = .ok (.getfield 9, 3) := by decide +kernel
theorem dX4_takeSign_24 : decode cX4_takeSign 24 = .ok (.iconst 0, 1) := by decide +kernel
theorem dX4_takeSign_25 : decode cX4_takeSign 25 = .ok (.invokevirtual 44, 3) := by decide +kernel
theorem dX4_takeSign_28 : decode cX4_takeSign 28 = .ok (.goto 20, 3) := by decide +kernel
theorem dX4_takeSign_31 : decode cX4_takeSign 31 = .ok (.aload_n 0, 1) := by decide +kernel
theorem dX4_takeSign_32 : decode cX4_takeSign 32 = .ok (.getfield 25, 3) := by decide +kernel
theorem dX4_takeSign_35 : decode cX4_takeSign 35 = .ok (.bipush 60, 2) := by decide +kernel
theorem dX4_takeSign_37 : decode cX4_takeSign 37 = .ok (.if_icmp .lt 11, 3) := by decide +kernel
theorem dX4_takeSign_40 : decode cX4_takeSign 40 = .ok (.aload_n 0, 1) := by decide +kernel
theorem dX4_takeSign_41 : decode cX4_takeSign 41 = .ok (.getfield 9, 3) := by decide +kernel
theorem dX4_takeSign_44 : decode cX4_takeSign 44 = .ok (.iconst 3, 1) := by decide +kernel
theorem dX4_takeSign_45 : decode cX4_takeSign 45 = .ok (.invokevirtual 44, 3) := by decide +kernel
theorem dX4_takeSign_48 : decode cX4_takeSign 48 = .ok (.aload_n 0, 1) := by decide +kernel
theorem dX4_takeSign_49 : decode cX4_takeSign 49 = .ok (.getfield 9, 3) := by decide +kernel
theorem dX4_takeSign_52 : decode cX4_takeSign 52 = .ok (.getfield 29, 3) := by decide +kernel
theorem dX4_takeSign_55 : decode cX4_takeSign 55 = .ok (.ifCond .eq 5, 3) := by decide +kernel
theorem dX4_takeSign_58 : decode cX4_takeSign 58 = .ok (.iconst 0, 1) := by decide +kernel
theorem dX4_takeSign_59 : decode cX4_takeSign 59 = .ok (.ireturn, 1) := by decide +kernel
theorem dX4_takeSign_60 : decode cX4_takeSign 60 = .ok (.aload_n 0, 1) := by decide +kernel
theorem dX4_takeSign_61 : decode cX4_takeSign 61 = .ok (.dup, 1) := by decide +kernel
theorem dX4_takeSign_62 : decode cX4_takeSign 62 = .ok (.getfield 25, 3) := by decide +kernel
theorem dX4_takeSign_65 : decode cX4_takeSign 65 = .ok (.iconst 1, 1) := by decide +kernel
theorem dX4_takeSign_66 : decode cX4_takeSign 66 = .ok (.iadd, 1) := by decide +kernel
theorem dX4_takeSign_67 : decode cX4_takeSign 67 = .ok (.putfield 25, 3) := by decide +kernel
theorem dX4_takeSign_70 : decode cX4_takeSign 70 = .ok (.aload_n 0, 1) := by decide +kernel
theorem dX4_takeSign_71 : decode cX4_takeSign 71 = .ok (.getfield 9, 3) := by decide +kernel
theorem dX4_takeSign_74 : decode cX4_takeSign 74 = .ok (.invokevirtual 41, 3) := by decide +kernel
theorem dX4_takeSign_77 : decode cX4_takeSign 77 = .ok (.iload_n 1, 1) := by decide +kernel
theorem dX4_takeSign_78 : decode cX4_takeSign 78 = .ok (.ireturn, 1) := by decide +kernel
theorem dX5_init_0 : decode cX5_init 0 = .ok (.aload_n 0, 1) := by decide +kernel
theorem dX5_init_1 : decode cX5_init 1 = .ok (.invokespecial 3, 3) := by decide +kernel
theorem dX5_init_4 : decode cX5_init 4 = .ok (.aload_n 0, 1) := by decide +kernel
theorem dX5_init_5 : decode cX5_init 5 = .ok (.bipush 12, 2) := by decide +kernel
theorem dX5_init_7 : decode cX5_init 7 = .ok (.newarray .int, 2) := by decide +kernel
theorem dX5_init_9 : decode cX5_init 9 = .ok (.putfield 9, 3) := by decide +kernel
theorem dX5_init_12 : decode cX5_init 12 = .ok (.aload_n 0, 1) := by decide +kernel
theorem dX5_init_13 : decode cX5_init 13 = .ok (.bipush 12, 2) := by decide +kernel
theorem dX5_init_15 : decode cX5_init 15 = .ok (.newarray .int, 2) := by decide +kernel
theorem dX5_init_17 : decode cX5_init 17 = .ok (.putfield 15, 3) := by decide +kernel
theorem dX5_init_20 : decode cX5_init 20 = .ok (.aload_n 0, 1) := by decide +kernel
theorem dX5_init_21 : decode cX5_init 21 = .ok (.bipush 12, 2) := by decide +kernel
theorem dX5_init_23 : decode cX5_init 23 = .ok (.newarray .int, 2) := by decide +kernel
theorem dX5_init_25 : decode cX5_init 25 = .ok (.putfield 18, 3) := by decide +kernel
theorem dX5_init_28 : decode cX5_init 28 = .ok (.aload_n 0, 1) := by decide +kernel
theorem dX5_init_29 : decode cX5_init 29 = .ok (.bipush 12, 2) := by decide +kernel
theorem dX5_init_31 : decode cX5_init 31 = .ok (.newarray .int, 2) := by decide +kernel
theorem dX5_init_33 : decode cX5_init 33 = .ok (.putfield 21, 3) := by decide +kernel
theorem dX5_init_36 : decode cX5_init 36 = .ok (.aload_n 0, 1) := by decide +kernel
theorem dX5_init_37 : decode cX5_init 37 = .ok (.bipush 12, 2) := by decide +kernel
theorem dX5_init_39 : decode cX5_init 39 = .ok (.newarray .int, 2) := by decide +kernel
theorem dX5_init_41 : decode cX5_init 41 = .ok (.putfield 24, 3) := by decide +kernel
theorem dX5_init_44 : decode cX5_init 44 = .ok (.aload_n 0, 1) := by decide +kernel
theorem dX5_init_45 : decode cX5_init 45 = .ok (.bipush 12, 2) := by decide +kernel
theorem dX5_init_47 : decode cX5_init 47 = .ok (.newarray .int, 2) := by decide +kernel
theorem dX5_init_49 : decode cX5_init 49 = .ok (.putfield 27, 3) := by decide +kernel
theorem dX5_init_52 : decode cX5_init 52 = .ok (.aload_n 0, 1) := by decide +kernel
theorem dX5_init_53 : decode cX5_init 53 = .ok (.iconst 4, 1) := by decide +kernel
theorem dX5_init_54 : decode cX5_init 54 = .ok (.newarray .int, 2) := by decide +kernel
theorem dX5_init_56 : decode cX5_init 56 = .ok (.putfield 30, 3) := by decide +kernel
theorem dX5_init_59 : decode cX5_init 59 = .ok (.aload_n 0, 1) := by decide +kernel
theorem dX5_init_60 : decode cX5_init 60 = .ok (.iconst 4, 1) := by decide +kernel
theorem dX5_init_61 : decode cX5_init 61 = .ok (.newarray .int, 2) := by decide +kernel
theorem dX5_init_63 : decode cX5_init 63 = .ok (.putfield 33, 3) := by decide +kernel
theorem dX5_init_66 : decode cX5_init 66 = .ok (.return_, 1) := by decide +kernel
theorem dX5_clear_0 : decode cX5_clear 0 = .ok (.aload_n 0, 1) := by decide +kernel
theorem dX5_clear_1 : decode cX5_clear 1 = .ok (.iconst 0, 1) := by decide +kernel
theorem dX5_clear_2 : decode cX5_clear 2 = .ok (.putfield 36, 3) := by decide +kernel
theorem dX5_clear_5 : decode cX5_clear 5 = .ok (.aload_n 0, 1) := by decide +kernel
theorem dX5_clear_6 : decode cX5_clear 6 = .ok (.iconst 0, 1) := by decide +kernel
theorem dX5_clear_7 : decode cX5_clear 7 = .ok (.putfield 40, 3) := by decide +kernel
theorem dX5_clear_10 : decode cX5_clear 10 = .ok (.aload_n 0, 1) := by decide +kernel
theorem dX5_clear_11 : decode cX5_clear 11 = .ok (.iconst 0, 1) := by decide +kernel
theorem dX5_clear_12 : decode cX5_clear 12 = .ok (.putfield 43, 3) := by decide +kernel
theorem dX5_clear_15 : decode cX5_clear 15 = .ok (.aload_n 0, 1) := by decide +kernel
theorem dX5_clear_16 : decode cX5_clear 16 = .ok (.iconst 0, 1) := by decide +kernel
theorem dX5_clear_17 : decode cX5_clear 17 = .ok (.putfield 46, 3) := by decide +kernel
theorem dX5_clear_20 : decode cX5_clear 20 = .ok (.return_, 1) := by decide +kernel
theorem dX5_addCoin_0 : decode cX5_addCoin 0 = .ok (.aload_n 0, 1) := by decide +kernel
theorem dX5_addCoin_1 : decode cX5_addCoin 1 = .ok (.getfield 36, 3) := by decide +kernel
theorem dX5_addCoin_4 : decode cX5_addCoin 4 = .ok (.bipush 12, 2) := by decide +kernel
theorem dX5_addCoin_6 : decode cX5_addCoin 6 = .ok (.if_icmp .ge 74, 3) := by decide +kernel
theorem dX5_addCoin_9 : decode cX5_addCoin 9 = .ok (.aload_n 0, 1) := by decide +kernel
theorem dX5_addCoin_10 : decode cX5_addCoin 10 = .ok (.getfield 9, 3) := by decide +kernel
theorem dX5_addCoin_13 : decode cX5_addCoin 13 = .ok (.aload_n 0, 1) := by decide +kernel
theorem dX5_addCoin_14 : decode cX5_addCoin 14 = .ok (.getfield 36, 3) := by decide +kernel
theorem dX5_addCoin_17 : decode cX5_addCoin 17 = .ok (.iload_n 1, 1) := by decide +kernel
theorem dX5_addCoin_18 : decode cX5_addCoin 18 = .ok (.iastore, 1) := by decide +kernel
theorem dX5_addCoin_19 : decode cX5_addCoin 19 = .ok (.aload_n 0, 1) := by decide +kernel
theorem dX5_addCoin_20 : decode cX5_addCoin 20 = .ok (.getfield 15, 3) := by decide +kernel
theorem dX5_addCoin_23 : decode cX5_addCoin 23 = .ok (.aload_n 0, 1) := by decide +kernel
theorem dX5_addCoin_24 : decode cX5_addCoin 24 = .ok (.getfield 36, 3) := by decide +kernel
theorem dX5_addCoin_27 : decode cX5_addCoin 27 = .ok (.iload_n 2, 1) := by decide +kernel
theorem dX5_addCoin_28 : decode cX5_addCoin 28 = .ok (.iastore, 1) := by decide +kernel
theorem dX5_addCoin_29 : decode cX5_addCoin 29 = .ok (.aload_n 0, 1) := by decide +kernel
theorem dX5_addCoin_30 : decode cX5_addCoin 30 = .ok (.getfield 18, 3) := by decide +kernel
theorem dX5_addCoin_33 : decode cX5_addCoin 33 = .ok (.aload_n 0, 1) := by decide +kernel
theorem dX5_addCoin_34 : decode cX5_addCoin 34 = .ok (.getfield 36, 3) := by decide +kernel
theorem dX5_addCoin_37 : decode cX5_addCoin 37 = .ok (.iload_n 3, 1) := by decide +kernel
theorem dX5_addCoin_38 : decode cX5_addCoin 38 = .ok (.iastore, 1) := by decide +kernel
theorem dX5_addCoin_39 : decode cX5_addCoin 39 = .ok (.aload_n 0, 1) := by decide +kernel
theorem dX5_addCoin_40 : decode cX5_addCoin 40 = .ok (.getfield 21, 3) := by decide +kernel
theorem dX5_addCoin_43 : decode cX5_addCoin 43 = .ok (.aload_n 0, 1) := by decide +kernel
theorem dX5_addCoin_44 : decode cX5_addCoin 44 = .ok (.getfield 36, 3) := by decide +kernel
theorem dX5_addCoin_47 : decode cX5_addCoin 47 = .ok (.iload 4, 2) := by decide +kernel
theorem dX5_addCoin_49 : decode cX5_addCoin 49 = .ok (.iastore, 1) := by decide +kernel
theorem dX5_addCoin_50 : decode cX5_addCoin 50 = .ok (.aload_n 0, 1) := by decide +kernel
theorem dX5_addCoin_51 : decode cX5_addCoin 51 = .ok (.getfield 24, 3) := by decide +kernel
theorem dX5_addCoin_54 : decode cX5_addCoin 54 = .ok (.aload_n 0, 1) := by decide +kernel
theorem dX5_addCoin_55 : decode cX5_addCoin 55 = .ok (.getfield 36, 3) := by decide +kernel
theorem dX5_addCoin_58 : decode cX5_addCoin 58 = .ok (.iconst 0, 1) := by decide +kernel
theorem dX5_addCoin_59 : decode cX5_addCoin 59 = .ok (.iastore, 1) := by decide +kernel
theorem dX5_addCoin_60 : decode cX5_addCoin 60 = .ok (.aload_n 0, 1) := by decide +kernel
theorem dX5_addCoin_61 : decode cX5_addCoin 61 = .ok (.getfield 27, 3) := by decide +kernel
theorem dX5_addCoin_64 : decode cX5_addCoin 64 = .ok (.aload_n 0, 1) := by decide +kernel
theorem dX5_addCoin_65 : decode cX5_addCoin 65 = .ok (.getfield 36, 3) := by decide +kernel
theorem dX5_addCoin_68 : decode cX5_addCoin 68 = .ok (.iconst 0, 1) := by decide +kernel
theorem dX5_addCoin_69 : decode cX5_addCoin 69 = .ok (.iastore, 1) := by decide +kernel
theorem dX5_addCoin_70 : decode cX5_addCoin 70 = .ok (.aload_n 0, 1) := by decide +kernel
theorem dX5_addCoin_71 : decode cX5_addCoin 71 = .ok (.dup, 1) := by decide +kernel
theorem dX5_addCoin_72 : decode cX5_addCoin 72 = .ok (.getfield 36, 3) := by decide +kernel
theorem dX5_addCoin_75 : decode cX5_addCoin 75 = .ok (.iconst 1, 1) := by decide +kernel
theorem dX5_addCoin_76 : decode cX5_addCoin 76 = .ok (.iadd, 1) := by decide +kernel
theorem dX5_addCoin_77 : decode cX5_addCoin 77 = .ok (.putfield 36, 3) := by decide +kernel
theorem dX5_addCoin_80 : decode cX5_addCoin 80 = .ok (.return_, 1) := by decide +kernel
theorem dX5_addCounter_0 : decode cX5_addCounter 0 = .ok (.aload_n 0, 1) := by decide +kernel
theorem dX5_addCounter_1 : decode cX5_addCounter 1 = .ok (.getfield 40, 3) := by decide +kernel
theorem dX5_addCounter_4 : decode cX5_addCounter 4 = .ok (.iconst 4, 1) := by decide +kernel
theorem dX5_addCounter_5 : decode cX5_addCounter 5 = .ok (.if_icmp .ge 33, 3) := by decide +kernel
theorem dX5_addCounter_8 : decode cX5_addCounter 8 = .ok (.aload_n 0, 1) := by decide +kernel
theorem dX5_addCounter_9 : decode cX5_addCounter 9 = .ok (.getfield 30, 3) := by decide +kernel
theorem dX5_addCounter_12 : decode cX5_addCounter 12 = .ok (.aload_n 0, 1) := by decide +kernel
theorem dX5_addCounter_13 : decode cX5_addCounter 13 = .ok (.getfield 40, 3) := by decide +kernel
theorem dX5_addCounter_16 : decode cX5_addCounter 16 = .ok (.iload_n 1, 1) := by decide +kernel
theorem dX5_addCounter_17 : decode cX5_addCounter 17 = .ok (.iastore, 1) := by decide +kernel
theorem dX5_addCounter_18 : decode cX5_addCounter 18 = .ok (.aload_n 0, 1) := by decide +kernel
theorem dX5_addCounter_19 : decode cX5_addCounter 19 = .ok (.getfield 33, 3) := by decide +kernel
theorem dX5_addCounter_22 : decode cX5_addCounter 22 = .ok (.aload_n 0, 1) := by decide +kernel
theorem dX5_addCounter_23 : decode cX5_addCounter 23 = .ok (.getfield 40, 3) := by decide +kernel
theorem dX5_addCounter_26 : decode cX5_addCounter 26 = .ok (.iload_n 2, 1) := by decide +kernel
theorem dX5_addCounter_27 : decode cX5_addCounter 27 = .ok (.iastore, 1) := by decide +kernel
theorem dX5_addCounter_28 : decode cX5_addCounter 28 = .ok (.aload_n 0, 1) := by decide +kernel
theorem dX5_addCounter_29 : decode cX5_addCounter 29 = .ok (.dup, 1) := by decide +kernel
theorem dX5_addCounter_30 : decode cX5_addCounter 30 = .ok (.getfield 40, 3) := by decide +kernel
theorem dX5_addCounter_33 : decode cX5_addCounter 33 = .ok (.iconst 1, 1) := by decide +kernel
theorem dX5_addCounter_34 : decode cX5_addCounter 34 = .ok (.iadd, 1) := by decide +kernel
theorem dX5_addCounter_35 : decode cX5_addCounter 35 = .ok (.putfield 40, 3) := by decide +kernel
theorem dX5_addCounter_38 : decode cX5_addCounter 38 = .ok (.return_, 1) := by decide +kernel
theorem dX5_copyFrom_0 : decode cX5_copyFrom 0 = .ok (.aload_n 0, 1) := by decide +kernel
theorem dX5_copyFrom_1 : decode cX5_copyFrom 1 = .ok (.aload_n 1, 1) := by decide +kernel
theorem dX5_copyFrom_2 : decode cX5_copyFrom 2 = .ok (.getfield 36, 3) := by decide +kernel
theorem dX5_copyFrom_5 : decode cX5_copyFrom 5 = .ok (.putfield 36, 3) := by decide +kernel
theorem dX5_copyFrom_8 : decode cX5_copyFrom 8 = .ok (.aload_n 1, 1) := by decide +kernel
theorem dX5_copyFrom_9 : decode cX5_copyFrom 9 = .ok (.getfield 9, 3) := by decide +kernel
theorem dX5_copyFrom_12 : decode cX5_copyFrom 12 = .ok (.iconst 0, 1) := by decide +kernel
theorem dX5_copyFrom_13 : decode cX5_copyFrom 13 = .ok (.aload_n 0, 1) := by decide +kernel
theorem dX5_copyFrom_14 : decode cX5_copyFrom 14 = .ok (.getfield 9, 3) := by decide +kernel
theorem dX5_copyFrom_17 : decode cX5_copyFrom 17 = .ok (.iconst 0, 1) := by decide +kernel
theorem dX5_copyFrom_18 : decode cX5_copyFrom 18 = .ok (.bipush 12, 2) := by decide +kernel
theorem dX5_copyFrom_20 : decode cX5_copyFrom 20 = .ok (.invokestatic 49, 3) := by decide +kernel
theorem dX5_copyFrom_23 : decode cX5_copyFrom 23 = .ok (.aload_n 1, 1) := by decide +kernel
theorem dX5_copyFrom_24 : decode cX5_copyFrom 24 = .ok (.getfield 15, 3) := by decide +kernel
theorem dX5_copyFrom_27 : decode cX5_copyFrom 27 = .ok (.iconst 0, 1) := by decide +kernel
theorem dX5_copyFrom_28 : decode cX5_copyFrom 28 = .ok (.aload_n 0, 1) := by decide +kernel
theorem dX5_copyFrom_29 : decode cX5_copyFrom 29 = .ok (.getfield 15, 3) := by decide +kernel
theorem dX5_copyFrom_32 : decode cX5_copyFrom 32 = .ok (.iconst 0, 1) := by decide +kernel
theorem dX5_copyFrom_33 : decode cX5_copyFrom 33 = .ok (.bipush 12, 2) := by decide +kernel
theorem dX5_copyFrom_35 : decode cX5_copyFrom 35 = .ok (.invokestatic 49, 3) := by decide +kernel
theorem dX5_copyFrom_38 : decode cX5_copyFrom 38 = .ok (.aload_n 1, 1) := by decide +kernel
theorem dX5_copyFrom_39 : decode cX5_copyFrom 39 = .ok (.getfield 18, 3) := by decide +kernel
theorem dX5_copyFrom_42 : decode cX5_copyFrom 42 = .ok (.iconst 0, 1) := by decide +kernel
theorem dX5_copyFrom_43 : decode cX5_copyFrom 43 = .ok (.aload_n 0, 1) := by decide +kernel
theorem dX5_copyFrom_44 : decode cX5_copyFrom 44 = .ok (.getfield 18, 3) := by decide +kernel
theorem dX5_copyFrom_47 : decode cX5_copyFrom 47 = .ok (.iconst 0, 1) := by decide +kernel
theorem dX5_copyFrom_48 : decode cX5_copyFrom 48 = .ok (.bipush 12, 2) := by decide +kernel
theorem dX5_copyFrom_50 : decode cX5_copyFrom 50 = .ok (.invokestatic 49, 3) := by decide +kernel
theorem dX5_copyFrom_53 : decode cX5_copyFrom 53 = .ok (.aload_n 1, 1) := by decide +kernel
theorem dX5_copyFrom_54 : decode cX5_copyFrom 54 = .ok (.getfield 21, 3) := by decide +kernel
theorem dX5_copyFrom_57 : decode cX5_copyFrom 57 = .ok (.iconst 0, 1) := by decide +kernel
theorem dX5_copyFrom_58 : decode cX5_copyFrom 58 = .ok (.aload_n 0, 1) := by decide +kernel
theorem dX5_copyFrom_59 : decode cX5_copyFrom 59 = .ok (.getfield 21, 3) := by decide +kernel
theorem dX5_copyFrom_62 : decode cX5_copyFrom 62 = .ok (.iconst 0, 1) := by decide +kernel
theorem dX5_copyFrom_63 : decode cX5_copyFrom 63 = .ok (.bipush 12, 2) := by decide +kernel
theorem dX5_copyFrom_65 : decode cX5_copyFrom 65 = .ok (.invokestatic 49, 3) := by decide +kernel
theorem dX5_copyFrom_68 : decode cX5_copyFrom 68 = .ok (.aload_n 1, 1) := by decide +kernel
theorem dX5_copyFrom_69 : decode cX5_copyFrom 69 = .ok (.getfield 24, 3) := by decide +kernel
theorem dX5_copyFrom_72 : decode cX5_copyFrom 72 = .ok (.iconst 0, 1) := by decide +kernel
theorem dX5_copyFrom_73 : decode cX5_copyFrom 73 = .ok (.aload_n 0, 1) := by decide +kernel
theorem dX5_copyFrom_74 : decode cX5_copyFrom 74 = .ok (.getfield 24, 3) := by decide +kernel
theorem dX5_copyFrom_77 : decode cX5_copyFrom 77 = .ok (.iconst 0, 1) := by decide +kernel
theorem dX5_copyFrom_78 : decode cX5_copyFrom 78 = .ok (.bipush 12, 2) := by decide +kernel
theorem dX5_copyFrom_80 : decode cX5_copyFrom 80 = .ok (.invokestatic 49, 3) := by decide +kernel
theorem dX5_copyFrom_83 : decode cX5_copyFrom 83 = .ok (.aload_n 1, 1) := by decide +kernel
theorem dX5_copyFrom_84 : decode cX5_copyFrom 84 = .ok (.getfield 27, 3) := by decide +kernel
theorem dX5_copyFrom_87 : decode cX5_copyFrom 87 = .ok (.iconst 0, 1) := by decide +kernel
theorem dX5_copyFrom_88 : decode cX5_copyFrom 88 = .ok (.aload_n 0, 1) := by decide +kernel
theorem dX5_copyFrom_89 : decode cX5_copyFrom 89 = .ok (.getfield 27, 3) := by decide +kernel
theorem dX5_copyFrom_92 : decode cX5_copyFrom 92 = .ok (.iconst 0, 1) := by decide +kernel
theorem dX5_copyFrom_93 : decode cX5_copyFrom 93 = .ok (.bipush 12, 2) := by decide +kernel
theorem dX5_copyFrom_95 : decode cX5_copyFrom 95 = .ok (.invokestatic 49, 3) := by decide +kernel
theorem dX5_copyFrom_98 : decode cX5_copyFrom 98 = .ok (.aload_n 0, 1) := by decide +kernel
theorem dX5_copyFrom_99 : decode cX5_copyFrom 99 = .ok (.aload_n 1, 1) := by decide +kernel
theorem dX5_copyFrom_100 : decode cX5_copyFrom 100 = .ok (.getfield 40, 3) := by decide +kernel
theorem dX5_copyFrom_103 : decode cX5_copyFrom 103 = .ok (.putfield 40, 3) := by decide +kernel
theorem dX5_copyFrom_106 : decode cX5_copyFrom 106 = .ok (.aload_n 1, 1) := by decide +kernel
theorem dX5_copyFrom_107 : decode cX5_copyFrom 107 = .ok (.getfield 30, 3) := by decide +kernel
theorem dX5_copyFrom_110 : decode cX5_copyFrom 110 = .ok (.iconst 0, 1) := by decide +kernel
theorem dX5_copyFrom_111 : decode cX5_copyFrom 111 = .ok (.aload_n 0, 1) := by decide +kernel
theorem dX5_copyFrom_112 : decode cX5_copyFrom 112 = .ok (.getfield 30, 3) := by decide +kernel
theorem dX5_copyFrom_115 : decode cX5_copyFrom 115 = .ok (.iconst 0, 1) := by decide +kernel
theorem dX5_copyFrom_116 : decode cX5_copyFrom 116 = .ok (.iconst 4, 1) := by decide +kernel
theorem dX5_copyFrom_117 : decode cX5_copyFrom 117 = .ok (.invokestatic 49, 3) := by decide +kernel
theorem dX5_copyFrom_120 : decode cX5_copyFrom 120 = .ok (.aload_n 1, 1) := by decide +kernel
theorem dX5_copyFrom_121 : decode cX5_copyFrom 121 = .ok (.getfield 33, 3) := by decide +kernel
theorem dX5_copyFrom_124 : decode cX5_copyFrom 124 = .ok (.iconst 0, 1) := by decide +kernel
theorem dX5_copyFrom_125 : decode cX5_copyFrom 125 = .ok (.aload_n 0, 1) := by decide +kernel
theorem dX5_copyFrom_126 : decode cX5_copyFrom 126 = .ok (.getfield 33, 3) := by decide +kernel
theorem dX5_copyFrom_129 : decode cX5_copyFrom 129 = .ok (.iconst 0, 1) := by decide +kernel
theorem dX5_copyFrom_130 : decode cX5_copyFrom 130 = .ok (.iconst 4, 1) := by decide +kernel
theorem dX5_copyFrom_131 : decode cX5_copyFrom 131 = .ok (.invokestatic 49, 3) := by decide +kernel
theorem dX5_copyFrom_134 : decode cX5_copyFrom 134 = .ok (.aload_n 0, 1) := by decide +kernel
theorem dX5_copyFrom_135 : decode cX5_copyFrom 135 = .ok (.aload_n 1, 1) := by decide +kernel
theorem dX5_copyFrom_136 : decode cX5_copyFrom 136 = .ok (.getfield 43, 3) := by decide +kernel
theorem dX5_copyFrom_139 : decode cX5_copyFrom 139 = .ok (.putfield 43, 3) := by decide +kernel
theorem dX5_copyFrom_142 : decode cX5_copyFrom 142 = .ok (.aload_n 0, 1) := by decide +kernel
theorem dX5_copyFrom_143 : decode cX5_copyFrom 143 = .ok (.aload_n 1, 1) := by decide +kernel
theorem dX5_copyFrom_144 : decode cX5_copyFrom 144 = .ok (.getfield 46, 3) := by decide +kernel
theorem dX5_copyFrom_147 : decode cX5_copyFrom 147 = .ok (.putfield 46, 3) := by decide +kernel
theorem dX5_copyFrom_150 : decode cX5_copyFrom 150 = .ok (.return_, 1) := by decide +kernel
theorem dX5_cracks_0 : decode cX5_cracks 0 = .ok (.aload_n 0, 1) := by decide +kernel
theorem dX5_cracks_1 : decode cX5_cracks 1 = .ok (.getfield 21, 3) := by decide +kernel
theorem dX5_cracks_4 : decode cX5_cracks 4 = .ok (.iload_n 1, 1) := by decide +kernel
theorem dX5_cracks_5 : decode cX5_cracks 5 = .ok (.iaload, 1) := by decide +kernel
theorem dX5_cracks_6 : decode cX5_cracks 6 = .ok (.ifCond .le 19, 3) := by decide +kernel
theorem dX5_cracks_9 : decode cX5_cracks 9 = .ok (.aload_n 0, 1) := by decide +kernel
theorem dX5_cracks_10 : decode cX5_cracks 10 = .ok (.getfield 27, 3) := by decide +kernel
theorem dX5_cracks_13 : decode cX5_cracks 13 = .ok (.iload_n 1, 1) := by decide +kernel
theorem dX5_cracks_14 : decode cX5_cracks 14 = .ok (.iaload, 1) := by decide +kernel
theorem dX5_cracks_15 : decode cX5_cracks 15 = .ok (.aload_n 0, 1) := by decide +kernel
theorem dX5_cracks_16 : decode cX5_cracks 16 = .ok (.getfield 21, 3) := by decide +kernel
theorem dX5_cracks_19 : decode cX5_cracks 19 = .ok (.iload_n 1, 1) := by decide +kernel
theorem dX5_cracks_20 : decode cX5_cracks 20 = .ok (.iaload, 1) := by decide +kernel
theorem dX5_cracks_21 : decode cX5_cracks 21 = .ok (.idiv, 1) := by decide +kernel
theorem dX5_cracks_22 : decode cX5_cracks 22 = .ok (.goto 4, 3) := by decide +kernel
theorem dX5_cracks_25 : decode cX5_cracks 25 = .ok (.iconst 0, 1) := by decide +kernel
theorem dX5_cracks_26 : decode cX5_cracks 26 = .ok (.ireturn, 1) := by decide +kernel
theorem dX5_cracksOfAll_0 : decode cX5_cracksOfAll 0 = .ok (.iconst 0, 1) := by decide +kernel
theorem dX5_cracksOfAll_1 : decode cX5_cracksOfAll 1 = .ok (.istore_n 1, 1) := by decide +kernel
theorem dX5_cracksOfAll_2 : decode cX5_cracksOfAll 2 = .ok (.iconst 0, 1) := by decide +kernel
theorem dX5_cracksOfAll_3 : decode cX5_cracksOfAll 3 = .ok (.istore_n 2, 1) := by decide +kernel
theorem dX5_cracksOfAll_4 : decode cX5_cracksOfAll 4 = .ok (.iload_n 2, 1) := by decide +kernel
theorem dX5_cracksOfAll_5 : decode cX5_cracksOfAll 5 = .ok (.aload_n 0, 1) := by decide +kernel
theorem dX5_cracksOfAll_6 : decode cX5_cracksOfAll 6 = .ok (.getfield 36, 3) := by decide +kernel
theorem dX5_cracksOfAll_9 : decode cX5_cracksOfAll 9 = .ok (.if_icmp .ge 17, 3) := by decide +kernel
theorem dX5_cracksOfAll_12 : decode cX5_cracksOfAll 12 = .ok (.iload_n 1, 1) := by decide +kernel
theorem dX5_cracksOfAll_13 : decode cX5_cracksOfAll 13 = .ok (.aload_n 0, 1) := by decide +kernel
theorem dX5_cracksOfAll_14 : decode cX5_cracksOfAll 14 = .ok (.iload_n 2, 1) := by decide +kernel
theorem dX5_cracksOfAll_15 : decode cX5_cracksOfAll 15 = .ok (.invokevirtual 55, 3) := by decide +kernel
theorem dX5_cracksOfAll_18 : decode cX5_cracksOfAll 18 = .ok (.iadd, 1) := by decide +kernel
theorem dX5_cracksOfAll_19 : decode cX5_cracksOfAll 19 = .ok (.istore_n 1, 1) := by decide +kernel
theorem dX5_cracksOfAll_20 : decode cX5_cracksOfAll 20 = .ok (.iinc 2 1, 3) := by decide +kernel
theorem dX5_cracksOfAll_23 : decode cX5_cracksOfAll 23 = .ok (.goto (-19), 3) := by decide +kernel
theorem dX5_cracksOfAll_26 : decode cX5_cracksOfAll 26 = .ok (.iload_n 1, 1) := by decide +kernel
theorem dX5_cracksOfAll_27 : decode cX5_cracksOfAll 27 = .ok (.ireturn, 1) := by decide +kernel
theorem dX5_worthOf_0 : decode cX5_worthOf 0 = .ok (.iconst 0, 1) := by decide +kernel
theorem dX5_worthOf_1 : decode cX5_worthOf 1 = .ok (.istore_n 2, 1) := by decide +kernel
theorem dX5_worthOf_2 : decode cX5_worthOf 2 = .ok (.iconst 0, 1) := by decide +kernel
theorem dX5_worthOf_3 : decode cX5_worthOf 3 = .ok (.istore_n 3, 1) := by decide +kernel
theorem dX5_worthOf_4 : decode cX5_worthOf 4 = .ok (.iload_n 3, 1) := by decide +kernel
theorem dX5_worthOf_5 : decode cX5_worthOf 5 = .ok (.aload_n 0, 1) := by decide +kernel
theorem dX5_worthOf_6 : decode cX5_worthOf 6 = .ok (.getfield 36, 3) := by decide +kernel
theorem dX5_worthOf_9 : decode cX5_worthOf 9 = .ok (.if_icmp .ge 24, 3) := by decide +kernel
theorem dX5_worthOf_12 : decode cX5_worthOf 12 = .ok (.iload_n 2, 1) := by decide +kernel
theorem dX5_worthOf_13 : decode cX5_worthOf 13 = .ok (.iload_n 1, 1) := by decide +kernel
theorem dX5_worthOf_14 : decode cX5_worthOf 14 = .ok (.iload_n 3, 1) := by decide +kernel
theorem dX5_worthOf_15 : decode cX5_worthOf 15 = .ok (.ishr, 1) := by decide +kernel
theorem dX5_worthOf_16 : decode cX5_worthOf 16 = .ok (.iconst 1, 1) := by decide +kernel
theorem dX5_worthOf_17 : decode cX5_worthOf 17 = .ok (.iand, 1) := by decide +kernel
theorem dX5_worthOf_18 : decode cX5_worthOf 18 = .ok (.aload_n 0, 1) := by decide +kernel
theorem dX5_worthOf_19 : decode cX5_worthOf 19 = .ok (.getfield 18, 3) := by decide +kernel
theorem dX5_worthOf_22 : decode cX5_worthOf 22 = .ok (.iload_n 3, 1) := by decide +kernel
theorem dX5_worthOf_23 : decode cX5_worthOf 23 = .ok (.iaload, 1) := by decide +kernel
theorem dX5_worthOf_24 : decode cX5_worthOf 24 = .ok (.imul, 1) := by decide +kernel
theorem dX5_worthOf_25 : decode cX5_worthOf 25 = .ok (.iadd, 1) := by decide +kernel
theorem dX5_worthOf_26 : decode cX5_worthOf 26 = .ok (.istore_n 2, 1) := by decide +kernel
theorem dX5_worthOf_27 : decode cX5_worthOf 27 = .ok (.iinc 3 1, 3) := by decide +kernel
theorem dX5_worthOf_30 : decode cX5_worthOf 30 = .ok (.goto (-26), 3) := by decide +kernel
theorem dX5_worthOf_33 : decode cX5_worthOf 33 = .ok (.iload_n 2, 1) := by decide +kernel
theorem dX5_worthOf_34 : decode cX5_worthOf 34 = .ok (.ireturn, 1) := by decide +kernel
theorem dX5_heldBy_0 : decode cX5_heldBy 0 = .ok (.iconst 0, 1) := by decide +kernel
theorem dX5_heldBy_1 : decode cX5_heldBy 1 = .ok (.istore_n 2, 1) := by decide +kernel
theorem dX5_heldBy_2 : decode cX5_heldBy 2 = .ok (.iconst 0, 1) := by decide +kernel
theorem dX5_heldBy_3 : decode cX5_heldBy 3 = .ok (.istore_n 3, 1) := by decide +kernel
theorem dX5_heldBy_4 : decode cX5_heldBy 4 = .ok (.iload_n 3, 1) := by decide +kernel
theorem dX5_heldBy_5 : decode cX5_heldBy 5 = .ok (.aload_n 0, 1) := by decide +kernel
theorem dX5_heldBy_6 : decode cX5_heldBy 6 = .ok (.getfield 36, 3) := by decide +kernel
theorem dX5_heldBy_9 : decode cX5_heldBy 9 = .ok (.if_icmp .ge 25, 3) := by decide +kernel
theorem dX5_heldBy_12 : decode cX5_heldBy 12 = .ok (.aload_n 0, 1) := by decide +kernel
theorem dX5_heldBy_13 : decode cX5_heldBy 13 = .ok (.getfield 24, 3) := by decide +kernel
theorem dX5_heldBy_16 : decode cX5_heldBy 16 = .ok (.iload_n 3, 1) := by decide +kernel
theorem dX5_heldBy_17 : decode cX5_heldBy 17 = .ok (.iaload, 1) := by decide +kernel
theorem dX5_heldBy_18 : decode cX5_heldBy 18 = .ok (.iload_n 1, 1) := by decide +kernel
theorem dX5_heldBy_19 : decode cX5_heldBy 19 = .ok (.if_icmp .ne 9, 3) := by decide +kernel
theorem dX5_heldBy_22 : decode cX5_heldBy 22 = .ok (.iload_n 2, 1) := by decide +kernel
theorem dX5_heldBy_23 : decode cX5_heldBy 23 = .ok (.iconst 1, 1) := by decide +kernel
theorem dX5_heldBy_24 : decode cX5_heldBy 24 = .ok (.iload_n 3, 1) := by decide +kernel
theorem dX5_heldBy_25 : decode cX5_heldBy 25 = .ok (.ishl, 1) := by decide +kernel
theorem dX5_heldBy_26 : decode cX5_heldBy 26 = .ok (.ior, 1) := by decide +kernel
theorem dX5_heldBy_27 : decode cX5_heldBy 27 = .ok (.istore_n 2, 1) := by decide +kernel
theorem dX5_heldBy_28 : decode cX5_heldBy 28 = .ok (.iinc 3 1, 3) := by decide +kernel
theorem dX5_heldBy_31 : decode cX5_heldBy 31 = .ok (.goto (-27), 3) := by decide +kernel
theorem dX5_heldBy_34 : decode cX5_heldBy 34 = .ok (.iload_n 2, 1) := by decide +kernel
theorem dX5_heldBy_35 : decode cX5_heldBy 35 = .ok (.ireturn, 1) := by decide +kernel
theorem dX5_worthHeld_0 : decode cX5_worthHeld 0 = .ok (.aload_n 0, 1) := by decide +kernel
theorem dX5_worthHeld_1 : decode cX5_worthHeld 1 = .ok (.aload_n 0, 1) := by decide +kernel
theorem dX5_worthHeld_2 : decode cX5_worthHeld 2 = .ok (.iload_n 1, 1) := by decide +kernel
theorem dX5_worthHeld_3 : decode cX5_worthHeld 3 = .ok (.invokevirtual 59, 3) := by decide +kernel
theorem dX5_worthHeld_6 : decode cX5_worthHeld 6 = .ok (.invokevirtual 62, 3) := by decide +kernel
theorem dX5_worthHeld_9 : decode cX5_worthHeld 9 = .ok (.ireturn, 1) := by decide +kernel
theorem dX5_richest_0 : decode cX5_richest 0 = .ok (.iconst 0, 1) := by decide +kernel
theorem dX5_richest_1 : decode cX5_richest 1 = .ok (.istore_n 1, 1) := by decide +kernel
theorem dX5_richest_2 : decode cX5_richest 2 = .ok (.iconst 1, 1) := by decide +kernel
theorem dX5_richest_3 : decode cX5_richest 3 = .ok (.istore_n 2, 1) := by decide +kernel
theorem dX5_richest_4 : decode cX5_richest 4 = .ok (.iload_n 2, 1) := by decide +kernel
theorem dX5_richest_5 : decode cX5_richest 5 = .ok (.bipush 6, 2) := by decide +kernel
theorem dX5_richest_7 : decode cX5_richest 7 = .ok (.if_icmp .ge 24, 3) := by decide +kernel
theorem dX5_richest_10 : decode cX5_richest 10 = .ok (.aload_n 0, 1) := by decide +kernel
theorem dX5_richest_11 : decode cX5_richest 11 = .ok (.iload_n 2, 1) := by decide +kernel
theorem dX5_richest_12 : decode cX5_richest 12 = .ok (.invokevirtual 65, 3) := by decide +kernel
theorem dX5_richest_15 : decode cX5_richest 15 = .ok (.aload_n 0, 1) := by decide +kernel
theorem dX5_richest_16 : decode cX5_richest 16 = .ok (.iload_n 1, 1) := by decide +kernel
theorem dX5_richest_17 : decode cX5_richest 17 = .ok (.invokevirtual 65, 3) := by decide +kernel
theorem dX5_richest_20 : decode cX5_richest 20 = .ok (.if_icmp .le 5, 3) := by decide +kernel
theorem dX5_richest_23 : decode cX5_richest 23 = .ok (.iload_n 2, 1) := by decide +kernel
theorem dX5_richest_24 : decode cX5_richest 24 = .ok (.istore_n 1, 1) := by decide +kernel
theorem dX5_richest_25 : decode cX5_richest 25 = .ok (.iinc 2 1, 3) := by decide +kernel
theorem dX5_richest_28 : decode cX5_richest 28 = .ok (.goto (-24), 3) := by decide +kernel
theorem dX5_richest_31 : decode cX5_richest 31 = .ok (.iload_n 1, 1) := by decide +kernel
theorem dX5_richest_32 : decode cX5_richest 32 = .ok (.ireturn, 1) := by decide +kernel
theorem dX5_canDrop_0 : decode cX5_canDrop 0 = .ok (.iconst 0, 1) := by decide +kernel
theorem dX5_canDrop_1 : decode cX5_canDrop 1 = .ok (.istore_n 2, 1) := by decide +kernel
theorem dX5_canDrop_2 : decode cX5_canDrop 2 = .ok (.iload_n 2, 1) := by decide +kernel
theorem dX5_canDrop_3 : decode cX5_canDrop 3 = .ok (.aload_n 0, 1) := by decide +kernel
theorem dX5_canDrop_4 : decode cX5_canDrop 4 = .ok (.getfield 36, 3) := by decide +kernel
theorem dX5_canDrop_7 : decode cX5_canDrop 7 = .ok (.if_icmp .ge 32, 3) := by decide +kernel
theorem dX5_canDrop_10 : decode cX5_canDrop 10 = .ok (.iload_n 1, 1) := by decide +kernel
theorem dX5_canDrop_11 : decode cX5_canDrop 11 = .ok (.iload_n 2, 1) := by decide +kernel
theorem dX5_canDrop_12 : decode cX5_canDrop 12 = .ok (.ishr, 1) := by decide +kernel
theorem dX5_canDrop_13 : decode cX5_canDrop 13 = .ok (.iconst 1, 1) := by decide +kernel
theorem dX5_canDrop_14 : decode cX5_canDrop 14 = .ok (.iand, 1) := by decide +kernel
theorem dX5_canDrop_15 : decode cX5_canDrop 15 = .ok (.iconst 1, 1) := by decide +kernel
theorem dX5_canDrop_16 : decode cX5_canDrop 16 = .ok (.if_icmp .ne 17, 3) := by decide +kernel
theorem dX5_canDrop_19 : decode cX5_canDrop 19 = .ok (.aload_n 0, 1) := by decide +kernel
theorem dX5_canDrop_20 : decode cX5_canDrop 20 = .ok (.getfield 27, 3) := by decide +kernel
theorem dX5_canDrop_23 : decode cX5_canDrop 23 = .ok (.iload_n 2, 1) := by decide +kernel
theorem dX5_canDrop_24 : decode cX5_canDrop 24 = .ok (.iaload, 1) := by decide +kernel
theorem dX5_canDrop_25 : decode cX5_canDrop 25 = .ok (.sipush 9999, 3) := by decide +kernel
theorem dX5_canDrop_28 : decode cX5_canDrop 28 = .ok (.if_icmp .lt 5, 3) := by decide +kernel
theorem dX5_canDrop_31 : decode cX5_canDrop 31 = .ok (.iconst 0, 1) := by decide +kernel
theorem dX5_canDrop_32 : decode cX5_canDrop 32 = .ok (.ireturn, 1) := by decide +kernel
theorem dX5_canDrop_33 : decode cX5_canDrop 33 = .ok (.iinc 2 1, 3) := by decide +kernel
theorem dX5_canDrop_36 : decode cX5_canDrop 36 = .ok (.goto (-34), 3) := by decide +kernel
theorem dX5_canDrop_39 : decode cX5_canDrop 39 = .ok (.iconst 1, 1) := by decide +kernel
theorem dX5_canDrop_40 : decode cX5_canDrop 40 = .ok (.ireturn, 1) := by decide +kernel
theorem dX5_drop_0 : decode cX5_drop 0 = .ok (.iconst 0, 1) := by decide +kernel
theorem dX5_drop_1 : decode cX5_drop 1 = .ok (.istore_n 2, 1) := by decide +kernel
theorem dX5_drop_2 : decode cX5_drop 2 = .ok (.iload_n 2, 1) := by decide +kernel
theorem dX5_drop_3 : decode cX5_drop 3 = .ok (.aload_n 0, 1) := by decide +kernel
theorem dX5_drop_4 : decode cX5_drop 4 = .ok (.getfield 36, 3) := by decide +kernel
theorem dX5_drop_7 : decode cX5_drop 7 = .ok (.if_icmp .ge 23, 3) := by decide +kernel
theorem dX5_drop_10 : decode cX5_drop 10 = .ok (.aload_n 0, 1) := by decide +kernel
theorem dX5_drop_11 : decode cX5_drop 11 = .ok (.getfield 27, 3) := by decide +kernel
theorem dX5_drop_14 : decode cX5_drop 14 = .ok (.iload_n 2, 1) := by decide +kernel
theorem dX5_drop_15 : decode cX5_drop 15 = .ok (.dup2, 1) := by decide +kernel
theorem dX5_drop_16 : decode cX5_drop 16 = .ok (.iaload, 1) := by decide +kernel
theorem dX5_drop_17 : decode cX5_drop 17 = .ok (.iload_n 1, 1) := by decide +kernel
theorem dX5_drop_18 : decode cX5_drop 18 = .ok (.iload_n 2, 1) := by decide +kernel
theorem dX5_drop_19 : decode cX5_drop 19 = .ok (.ishr, 1) := by decide +kernel
theorem dX5_drop_20 : decode cX5_drop 20 = .ok (.iconst 1, 1) := by decide +kernel
theorem dX5_drop_21 : decode cX5_drop 21 = .ok (.iand, 1) := by decide +kernel
theorem dX5_drop_22 : decode cX5_drop 22 = .ok (.iadd, 1) := by decide +kernel
theorem dX5_drop_23 : decode cX5_drop 23 = .ok (.iastore, 1) := by decide +kernel
theorem dX5_drop_24 : decode cX5_drop 24 = .ok (.iinc 2 1, 3) := by decide +kernel
theorem dX5_drop_27 : decode cX5_drop 27 = .ok (.goto (-25), 3) := by decide +kernel
theorem dX5_drop_30 : decode cX5_drop 30 = .ok (.return_, 1) := by decide +kernel
theorem dX5_hand_0 : decode cX5_hand 0 = .ok (.iconst 0, 1) := by decide +kernel
theorem dX5_hand_1 : decode cX5_hand 1 = .ok (.istore_n 3, 1) := by decide +kernel
theorem dX5_hand_2 : decode cX5_hand 2 = .ok (.iload_n 3, 1) := by decide +kernel
theorem dX5_hand_3 : decode cX5_hand 3 = .ok (.aload_n 0, 1) := by decide +kernel
theorem dX5_hand_4 : decode cX5_hand 4 = .ok (.getfield 36, 3) := by decide +kernel
theorem dX5_hand_7 : decode cX5_hand 7 = .ok (.if_icmp .ge 25, 3) := by decide +kernel
theorem dX5_hand_10 : decode cX5_hand 10 = .ok (.iload_n 1, 1) := by decide +kernel
theorem dX5_hand_11 : decode cX5_hand 11 = .ok (.iload_n 3, 1) := by decide +kernel
theorem dX5_hand_12 : decode cX5_hand 12 = .ok (.ishr, 1) := by decide +kernel
theorem dX5_hand_13 : decode cX5_hand 13 = .ok (.iconst 1, 1) := by decide +kernel
theorem dX5_hand_14 : decode cX5_hand 14 = .ok (.iand, 1) := by decide +kernel
theorem dX5_hand_15 : decode cX5_hand 15 = .ok (.iconst 1, 1) := by decide +kernel
theorem dX5_hand_16 : decode cX5_hand 16 = .ok (.if_icmp .ne 10, 3) := by decide +kernel
theorem dX5_hand_19 : decode cX5_hand 19 = .ok (.aload_n 0, 1) := by decide +kernel
theorem dX5_hand_20 : decode cX5_hand 20 = .ok (.getfield 24, 3) := by decide +kernel
theorem dX5_hand_23 : decode cX5_hand 23 = .ok (.iload_n 3, 1) := by decide +kernel
theorem dX5_hand_24 : decode cX5_hand 24 = .ok (.iload_n 2, 1) := by decide +kernel
theorem dX5_hand_25 : decode cX5_hand 25 = .ok (.iastore, 1) := by decide +kernel
theorem dX5_hand_26 : decode cX5_hand 26 = .ok (.iinc 3 1, 3) := by decide +kernel
theorem dX5_hand_29 : decode cX5_hand 29 = .ok (.goto (-27), 3) := by decide +kernel
theorem dX5_hand_32 : decode cX5_hand 32 = .ok (.return_, 1) := by decide +kernel
theorem dX6_init_0 : decode cX6_init 0 = .ok (.aload_n 0, 1) := by decide +kernel
theorem dX6_init_1 : decode cX6_init 1 = .ok (.invokespecial 3, 3) := by decide +kernel
theorem dX6_init_4 : decode cX6_init 4 = .ok (.aload_n 0, 1) := by decide +kernel
theorem dX6_init_5 : decode cX6_init 5 = .ok (.new 9, 3) := by decide +kernel
theorem dX6_init_8 : decode cX6_init 8 = .ok (.dup, 1) := by decide +kernel
theorem dX6_init_9 : decode cX6_init 9 = .ok (.invokespecial 11, 3) := by decide +kernel
theorem dX6_init_12 : decode cX6_init 12 = .ok (.putfield 12, 3) := by decide +kernel
theorem dX6_init_15 : decode cX6_init 15 = .ok (.aload_n 0, 1) := by decide +kernel
theorem dX6_init_16 : decode cX6_init 16 = .ok (.aload_n 1, 1) := by decide +kernel
theorem dX6_init_17 : decode cX6_init 17 = .ok (.putfield 18, 3) := by decide +kernel
theorem dX6_init_20 : decode cX6_init 20 = .ok (.return_, 1) := by decide +kernel
theorem dX6_read_0 : decode cX6_read 0 = .ok (.aload_n 0, 1) := by decide +kernel
theorem dX6_read_1 : decode cX6_read 1 = .ok (.getfield 12, 3) := by decide +kernel
theorem dX6_read_4 : decode cX6_read 4 = .ok (.invokevirtual 22, 3) := by decide +kernel
theorem dX6_read_7 : decode cX6_read 7 = .ok (.aload_n 0, 1) := by decide +kernel
theorem dX6_read_8 : decode cX6_read 8 = .ok (.iconst 0, 1) := by decide +kernel
theorem dX6_read_9 : decode cX6_read 9 = .ok (.putfield 25, 3) := by decide +kernel
theorem dX6_read_12 : decode cX6_read 12 = .ok (.aload_n 0, 1) := by decide +kernel
theorem dX6_read_13 : decode cX6_read 13 = .ok (.iconst 0, 1) := by decide +kernel
theorem dX6_read_14 : decode cX6_read 14 = .ok (.putfield 29, 3) := by decide +kernel
theorem dX6_read_17 : decode cX6_read 17 = .ok (.iconst 0, 1) := by decide +kernel
theorem dX6_read_18 : decode cX6_read 18 = .ok (.istore_n 1, 1) := by decide +kernel
theorem dX6_read_19 : decode cX6_read 19 = .ok (.iload_n 1, 1) := by decide +kernel
theorem dX6_read_20 : decode cX6_read 20 = .ok (.bipush 24, 2) := by decide +kernel
theorem dX6_read_22 : decode cX6_read 22 = .ok (.if_icmp .ge 44, 3) := by decide +kernel
theorem dX6_read_25 : decode cX6_read 25 = .ok (.aload_n 0, 1) := by decide +kernel
theorem dX6_read_26 : decode cX6_read 26 = .ok (.getfield 18, 3) := by decide +kernel
theorem dX6_read_29 : decode cX6_read 29 = .ok (.getfield 32, 3) := by decide +kernel
theorem dX6_read_32 : decode cX6_read 32 = .ok (.ifCond .ne 34, 3) := by decide +kernel
theorem dX6_read_35 : decode cX6_read 35 = .ok (.aload_n 0, 1) := by decide +kernel
theorem dX6_read_36 : decode cX6_read 36 = .ok (.invokevirtual 38, 3) := by decide +kernel
theorem dX6_read_39 : decode cX6_read 39 = .ok (.aload_n 0, 1) := by decide +kernel
theorem dX6_read_40 : decode cX6_read 40 = .ok (.getfield 18, 3) := by decide +kernel
theorem dX6_read_43 : decode cX6_read 43 = .ok (.invokevirtual 41, 3) := by decide +kernel
theorem dX6_read_46 : decode cX6_read 46 = .ok (.iconst 3, 1) := by decide +kernel
theorem dX6_read_47 : decode cX6_read 47 = .ok (.if_icmp .eq 6, 3) := by decide +kernel
theorem dX6_read_50 : decode cX6_read 50 = .ok (.goto 16, 3) := by decide +kernel
theorem dX6_read_53 : decode cX6_read 53 = .ok (.aload_n 0, 1) := by decide +kernel
theorem dX6_read_54 : decode cX6_read 54 = .ok (.getfield 18, 3) := by decide +kernel
theorem dX6_read_57 : decode cX6_read 57 = .ok (.invokevirtual 45, 3) := by decide +kernel
theorem dX6_read_60 : decode cX6_read 60 = .ok (.iinc 1 1, 3) := by decide +kernel
theorem dX6_read_63 : decode cX6_read 63 = .ok (.goto (-44), 3) := by decide +kernel
theorem dX6_read_66 : decode cX6_read 66 = .ok (.aload_n 0, 1) := by decide +kernel
theorem dX6_read_67 : decode cX6_read 67 = .ok (.getfield 18, 3) := by decide +kernel
theorem dX6_read_70 : decode cX6_read 70 = .ok (.invokevirtual 41, 3) := by decide +kernel
theorem dX6_read_73 : decode cX6_read 73 = .ok (.ifCond .ne 13, 3) := by decide +kernel
theorem dX6_read_76 : decode cX6_read 76 = .ok (.aload_n 0, 1) := by decide +kernel
theorem dX6_read_77 : decode cX6_read 77 = .ok (.getfield 12, 3) := by decide +kernel
theorem dX6_read_80 : decode cX6_read 80 = .ok (.getfield 48, 3) := by decide +kernel
theorem dX6_read_83 : decode cX6_read 83 = .ok (.ifCond .ne 11, 3) := by decide +kernel
theorem dX6_read_86 : decode cX6_read 86 = .ok (.aload_n 0, 1) := by decide +kernel
theorem dX6_read_87 : decode cX6_read 87 = .ok (.getfield 18, 3) := by decide +kernel
theorem dX6_read_90 : decode cX6_read 90 = .ok (.iconst 0, 1) := by decide +kernel
theorem dX6_read_91 : decode cX6_read 91 = .ok (.invokevirtual 51, 3) := by decide +kernel
theorem dX6_read_94 : decode cX6_read 94 = .ok (.aload_n 0, 1) := by decide +kernel
theorem dX6_read_95 : decode cX6_read 95 = .ok (.getfield 18, 3) := by decide +kernel
theorem dX6_read_98 : decode cX6_read 98 = .ok (.getfield 32, 3) := by decide +kernel
theorem dX6_read_101 : decode cX6_read 101 = .ok (.ireturn, 1) := by decide +kernel
theorem dX6_readClause_0 : decode cX6_readClause 0 = .ok (.aload_n 0, 1) := by decide +kernel
theorem dX6_readClause_1 : decode cX6_readClause 1 = .ok (.getfield 18, 3) := by decide +kernel
theorem dX6_readClause_4 : decode cX6_readClause 4 = .ok (.invokevirtual 41, 3) := by decide +kernel
theorem dX6_readClause_7 : decode cX6_readClause 7 = .ok (.istore_n 1, 1) := by decide +kernel
theorem dX6_readClause_8 : decode cX6_readClause 8 = .ok (.iload_n 1, 1) := by decide +kernel
theorem dX6_readClause_9 : decode cX6_readClause 9 = .ok (.bipush 21, 2) := by decide +kernel
theorem dX6_readClause_11 : decode cX6_readClause 11 = .ok (.if_icmp .eq 32, 3) := by decide +kernel
theorem dX6_readClause_14 : decode cX6_readClause 14 = .ok (.iload_n 1, 1) := by decide +kernel
theorem dX6_readClause_15 : decode cX6_readClause 15 = .ok (.bipush 26, 2) := by decide +kernel
theorem dX6_readClause_17 : decode cX6_readClause 17 = .ok (.if_icmp .eq 26, 3) := by decide +kernel
theorem dX6_readClause_20 : decode cX6_readClause 20 = .ok (.iload_n 1, 1) := by decide +kernel
theorem dX6_readClause_21 : decode cX6_readClause 21 = .ok (.bipush 27, 2) := by decide +kernel
theorem dX6_readClause_23 : decode cX6_readClause 23 = .ok (.if_icmp .eq 20, 3) := by decide +kernel
theorem dX6_readClause_26 : decode cX6_readClause 26 = .ok (.iload_n 1, 1) := by decide +kernel
theorem dX6_readClause_27 : decode cX6_readClause 27 = .ok (.bipush 28, 2) := by decide +kernel
theorem dX6_readClause_29 : decode cX6_readClause 29 = .ok (.if_icmp .eq 14, 3) := by decide +kernel
theorem dX6_readClause_32 : decode cX6_readClause 32 = .ok (.aload_n 0, 1) := by decide +kernel
theorem dX6_readClause_33 : decode cX6_readClause 33 = .ok (.getfield 18, 3) := by decide +kernel
theorem dX6_readClause_36 : decode cX6_readClause 36 = .ok (.iconst 0, 1) := by decide +kernel
theorem dX6_readClause_37 : decode cX6_readClause 37 = .ok (.invokevirtual 51, 3) := by decide +kernel
theorem dX6_readClause_40 : decode cX6_readClause 40 = .ok (.goto 34, 3) := by decide +kernel
theorem dX6_readClause_43 : decode cX6_readClause 43 = .ok (.aload_n 0, 1) := by decide +kernel
theorem dX6_readClause_44 : decode cX6_readClause 44 = .ok (.iload_n 1, 1) := by decide +kernel
theorem dX6_readClause_45 : decode cX6_readClause 45 = .ok (.invokevirtual 55, 3) := by decide +kernel
theorem dX6_readClause_48 : decode cX6_readClause 48 = .ok (.ifCond .eq 14, 3) := by decide +kernel
theorem dX6_readClause_51 : decode cX6_readClause 51 = .ok (.aload_n 0, 1) := by decide +kernel
theorem dX6_readClause_52 : decode cX6_readClause 52 = .ok (.getfield 18, 3) := by decide +kernel
theorem dX6_readClause_55 : decode cX6_readClause 55 = .ok (.iconst 4, 1) := by decide +kernel
theorem dX6_readClause_56 : decode cX6_readClause 56 = .ok (.invokevirtual 51, 3) := by decide +kernel
theorem dX6_readClause_59 : decode cX6_readClause 59 = .ok (.goto 15, 3) := by decide +kernel
theorem dX6_readClause_62 : decode cX6_readClause 62 = .ok (.aload_n 0, 1) := by decide +kernel
theorem dX6_readClause_63 : decode cX6_readClause 63 = .ok (.getfield 18, 3) := by decide +kernel
theorem dX6_readClause_66 : decode cX6_readClause 66 = .ok (.invokevirtual 45, 3) := by decide +kernel
theorem dX6_readClause_69 : decode cX6_readClause 69 = .ok (.aload_n 0, 1) := by decide +kernel
theorem dX6_readClause_70 : decode cX6_readClause 70 = .ok (.iload_n 1, 1) := by decide +kernel
theorem dX6_readClause_71 : decode cX6_readClause 71 = .ok (.invokevirtual 59, 3) := by decide +kernel
theorem dX6_readClause_74 : decode cX6_readClause 74 = .ok (.return_, 1) := by decide +kernel
theorem dX6_isTooMany_0 : decode cX6_isTooMany 0 = .ok (.iload_n 1, 1) := by decide +kernel
theorem dX6_isTooMany_1 : decode cX6_isTooMany 1 = .ok (.lookupswitch 75 #[(21, 35), (26, 53), (27, 70)], 35) := by decide +kernel
theorem dX6_isTooMany_36 : decode cX6_isTooMany 36 = .ok (.aload_n 0, 1) := by decide +kernel
theorem dX6_isTooMany_37 : decode cX6_isTooMany 37 = .ok (.getfield 12, 3) := by decide +kernel
theorem dX6_isTooMany_40 : decode cX6_isTooMany 40 = .ok (.getfield 62, 3) := by decide +kernel
theorem dX6_isTooMany_43 : decode cX6_isTooMany 43 = .ok (.bipush 12, 2) := by decide +kernel
theorem dX6_isTooMany_45 : decode cX6_isTooMany 45 = .ok (.if_icmp .lt 7, 3) := by decide +kernel
theorem dX6_isTooMany_48 : decode cX6_isTooMany 48 = .ok (.iconst 1, 1) := by decide +kernel
theorem dX6_isTooMany_49 : decode cX6_isTooMany 49 = .ok (.goto 4, 3) := by decide +kernel
theorem dX6_isTooMany_52 : decode cX6_isTooMany 52 = .ok (.iconst 0, 1) := by decide +kernel
theorem dX6_isTooMany_53 : decode cX6_isTooMany 53 = .ok (.ireturn, 1) := by decide +kernel
theorem dX6_isTooMany_54 : decode cX6_isTooMany 54 = .ok (.aload_n 0, 1) := by decide +kernel
theorem dX6_isTooMany_55 : decode cX6_isTooMany 55 = .ok (.getfield 12, 3) := by decide +kernel
theorem dX6_isTooMany_58 : decode cX6_isTooMany 58 = .ok (.getfield 48, 3) := by decide +kernel
theorem dX6_isTooMany_61 : decode cX6_isTooMany 61 = .ok (.iconst 4, 1) := by decide +kernel
theorem dX6_isTooMany_62 : decode cX6_isTooMany 62 = .ok (.if_icmp .lt 7, 3) := by decide +kernel
theorem dX6_isTooMany_65 : decode cX6_isTooMany 65 = .ok (.iconst 1, 1) := by decide +kernel
theorem dX6_isTooMany_66 : decode cX6_isTooMany 66 = .ok (.goto 4, 3) := by decide +kernel
theorem dX6_isTooMany_69 : decode cX6_isTooMany 69 = .ok (.iconst 0, 1) := by decide +kernel
theorem dX6_isTooMany_70 : decode cX6_isTooMany 70 = .ok (.ireturn, 1) := by decide +kernel
theorem dX6_isTooMany_71 : decode cX6_isTooMany 71 = .ok (.aload_n 0, 1) := by decide +kernel
theorem dX6_isTooMany_72 : decode cX6_isTooMany 72 = .ok (.getfield 25, 3) := by decide +kernel
theorem dX6_isTooMany_75 : decode cX6_isTooMany 75 = .ok (.ireturn, 1) := by decide +kernel
theorem dX6_isTooMany_76 : decode cX6_isTooMany 76 = .ok (.aload_n 0, 1) := by decide +kernel
theorem dX6_isTooMany_77 : decode cX6_isTooMany 77 = .ok (.getfield 29, 3) := by decide +kernel
theorem dX6_isTooMany_80 : decode cX6_isTooMany 80 = .ok (.ireturn, 1) := by decide +kernel
theorem dX6_readNumbers_0 : decode cX6_readNumbers 0 = .ok (.iload_n 1, 1) := by decide +kernel
theorem dX6_readNumbers_1 : decode cX6_readNumbers 1 = .ok (.bipush 21, 2) := by decide +kernel
theorem dX6_readNumbers_3 : decode cX6_readNumbers 3 = .ok (.if_icmp .ne 51, 3) := by decide +kernel
theorem dX6_readNumbers_6 : decode cX6_readNumbers 6 = .ok (.aload_n 0, 1) := by decide +kernel
theorem dX6_readNumbers_7 : decode cX6_readNumbers 7 = .ok (.iconst 0, 1) := by decide +kernel
theorem dX6_readNumbers_8 : decode cX6_readNumbers 8 = .ok (.sipush 2400, 3) := by decide +kernel
theorem dX6_readNumbers_11 : decode cX6_readNumbers 11 = .ok (.invokevirtual 65, 3) := by decide +kernel
theorem dX6_readNumbers_14 : decode cX6_readNumbers 14 = .ok (.istore_n 2, 1) := by decide +kernel
theorem dX6_readNumbers_15 : decode cX6_readNumbers 15 = .ok (.aload_n 0, 1) := by decide +kernel
theorem dX6_readNumbers_16 : decode cX6_readNumbers 16 = .ok (.iconst 1, 1) := by decide +kernel
theorem dX6_readNumbers_17 : decode cX6_readNumbers 17 = .ok (.bipush 99, 2) := by decide +kernel
theorem dX6_readNumbers_19 : decode cX6_readNumbers 19 = .ok (.invokevirtual 65, 3) := by decide +kernel
theorem dX6_readNumbers_22 : decode cX6_readNumbers 22 = .ok (.istore_n 3, 1) := by decide +kernel
theorem dX6_readNumbers_23 : decode cX6_readNumbers 23 = .ok (.aload_n 0, 1) := by decide +kernel
theorem dX6_readNumbers_24 : decode cX6_readNumbers 24 = .ok (.iconst 0, 1) := by decide +kernel
theorem dX6_readNumbers_25 : decode cX6_readNumbers 25 = .ok (.sipush 999, 3) := by decide +kernel
theorem dX6_readNumbers_28 : decode cX6_readNumbers 28 = .ok (.invokevirtual 65, 3) := by decide +kernel
theorem dX6_readNumbers_31 : decode cX6_readNumbers 31 = .ok (.istore 4, 2) := by decide +kernel
theorem dX6_readNumbers_33 : decode cX6_readNumbers 33 = .ok (.aload_n 0, 1) := by decide +kernel
theorem dX6_readNumbers_34 : decode cX6_readNumbers 34 = .ok (.getfield 12, 3) := by decide +kernel
theorem dX6_readNumbers_37 : decode cX6_readNumbers 37 = .ok (.iload_n 2, 1) := by decide +kernel
theorem dX6_readNumbers_38 : decode cX6_readNumbers 38 = .ok (.iload_n 3, 1) := by decide +kernel
theorem dX6_readNumbers_39 : decode cX6_readNumbers 39 = .ok (.iload 4, 2) := by decide +kernel
theorem dX6_readNumbers_41 : decode cX6_readNumbers 41 = .ok (.aload_n 0, 1) := by decide +kernel
theorem dX6_readNumbers_42 : decode cX6_readNumbers 42 = .ok (.iconst 1, 1) := by decide +kernel
theorem dX6_readNumbers_43 : decode cX6_readNumbers 43 = .ok (.bipush 99, 2) := by decide +kernel
theorem dX6_readNumbers_45 : decode cX6_readNumbers 45 = .ok (.invokevirtual 65, 3) := by decide +kernel
theorem dX6_readNumbers_48 : decode cX6_readNumbers 48 = .ok (.invokevirtual 69, 3) := by decide +kernel
theorem dX6_readNumbers_51 : decode cX6_readNumbers 51 = .ok (.goto 84, 3) := by decide +kernel
theorem dX6_readNumbers_54 : decode cX6_readNumbers 54 = .ok (.iload_n 1, 1) := by decide +kernel
theorem dX6_readNumbers_55 : decode cX6_readNumbers 55 = .ok (.bipush 26, 2) := by decide +kernel
theorem dX6_readNumbers_57 : decode cX6_readNumbers 57 = .ok (.if_icmp .ne 30, 3) := by decide +kernel
theorem dX6_readNumbers_60 : decode cX6_readNumbers 60 = .ok (.aload_n 0, 1) := by decide +kernel
theorem dX6_readNumbers_61 : decode cX6_readNumbers 61 = .ok (.iconst 0, 1) := by decide +kernel
theorem dX6_readNumbers_62 : decode cX6_readNumbers 62 = .ok (.sipush 1200, 3) := by decide +kernel
theorem dX6_readNumbers_65 : decode cX6_readNumbers 65 = .ok (.invokevirtual 65, 3) := by decide +kernel
theorem dX6_readNumbers_68 : decode cX6_readNumbers 68 = .ok (.istore_n 2, 1) := by decide +kernel
theorem dX6_readNumbers_69 : decode cX6_readNumbers 69 = .ok (.aload_n 0, 1) := by decide +kernel
theorem dX6_readNumbers_70 : decode cX6_readNumbers 70 = .ok (.getfield 12, 3) := by decide +kernel
theorem dX6_readNumbers_73 : decode cX6_readNumbers 73 = .ok (.iload_n 2, 1) := by decide +kernel
theorem dX6_readNumbers_74 : decode cX6_readNumbers 74 = .ok (.aload_n 0, 1) := by decide +kernel
theorem dX6_readNumbers_75 : decode cX6_readNumbers 75 = .ok (.iconst 0, 1) := by decide +kernel
theorem dX6_readNumbers_76 : decode cX6_readNumbers 76 = .ok (.bipush 99, 2) := by decide +kernel
theorem dX6_readNumbers_78 : decode cX6_readNumbers 78 = .ok (.invokevirtual 65, 3) := by decide +kernel
theorem dX6_readNumbers_81 : decode cX6_readNumbers 81 = .ok (.invokevirtual 73, 3) := by decide +kernel
theorem dX6_readNumbers_84 : decode cX6_readNumbers 84 = .ok (.goto 51, 3) := by decide +kernel
theorem dX6_readNumbers_87 : decode cX6_readNumbers 87 = .ok (.iload_n 1, 1) := by decide +kernel
theorem dX6_readNumbers_88 : decode cX6_readNumbers 88 = .ok (.bipush 27, 2) := by decide +kernel
theorem dX6_readNumbers_90 : decode cX6_readNumbers 90 = .ok (.if_icmp .ne 26, 3) := by decide +kernel
theorem dX6_readNumbers_93 : decode cX6_readNumbers 93 = .ok (.aload_n 0, 1) := by decide +kernel
theorem dX6_readNumbers_94 : decode cX6_readNumbers 94 = .ok (.getfield 12, 3) := by decide +kernel
theorem dX6_readNumbers_97 : decode cX6_readNumbers 97 = .ok (.aload_n 0, 1) := by decide +kernel
theorem dX6_readNumbers_98 : decode cX6_readNumbers 98 = .ok (.iconst 0, 1) := by decide +kernel
theorem dX6_readNumbers_99 : decode cX6_readNumbers 99 = .ok (.sipush 999, 3) := by decide +kernel
theorem dX6_readNumbers_102 : decode cX6_readNumbers 102 = .ok (.invokevirtual 65, 3) := by decide +kernel
theorem dX6_readNumbers_105 : decode cX6_readNumbers 105 = .ok (.putfield 77, 3) := by decide +kernel
theorem dX6_readNumbers_108 : decode cX6_readNumbers 108 = .ok (.aload_n 0, 1) := by decide +kernel
theorem dX6_readNumbers_109 : decode cX6_readNumbers 109 = .ok (.iconst 1, 1) := by decide +kernel
theorem dX6_readNumbers_110 : decode cX6_readNumbers 110 = .ok (.putfield 25, 3) := by decide +kernel
theorem dX6_readNumbers_113 : decode cX6_readNumbers 113 = .ok (.goto 22, 3) := by decide +kernel
theorem dX6_readNumbers_116 : decode cX6_readNumbers 116 = .ok (.aload_n 0, 1) := by decide +kernel
theorem dX6_readNumbers_117 : decode cX6_readNumbers 117 = .ok (.getfield 12, 3) := by decide +kernel
theorem dX6_readNumbers_120 : decode cX6_readNumbers 120 = .ok (.aload_n 0, 1) := by decide +kernel
theorem dX6_readNumbers_121 : decode cX6_readNumbers 121 = .ok (.iconst 0, 1) := by decide +kernel
theorem dX6_readNumbers_122 : decode cX6_readNumbers 122 = .ok (.bipush 99, 2) := by decide +kernel
theorem dX6_readNumbers_124 : decode cX6_readNumbers 124 = .ok (.invokevirtual 65, 3) := by decide +kernel
theorem dX6_readNumbers_127 : decode cX6_readNumbers 127 = .ok (.putfield 80, 3) := by decide +kernel
theorem dX6_readNumbers_130 : decode cX6_readNumbers 130 = .ok (.aload_n 0, 1) := by decide +kernel
theorem dX6_readNumbers_131 : decode cX6_readNumbers 131 = .ok (.iconst 1, 1) := by decide +kernel
theorem dX6_readNumbers_132 : decode cX6_readNumbers 132 = .ok (.putfield 29, 3) := by decide +kernel
theorem dX6_readNumbers_135 : decode cX6_readNumbers 135 = .ok (.return_, 1) := by decide +kernel
theorem dX6_readNumber_0 : decode cX6_readNumber 0 = .ok (.aload_n 0, 1) := by decide +kernel
theorem dX6_readNumber_1 : decode cX6_readNumber 1 = .ok (.getfield 18, 3) := by decide +kernel
theorem dX6_readNumber_4 : decode cX6_readNumber 4 = .ok (.invokevirtual 83, 3) := by decide +kernel
theorem dX6_readNumber_7 : decode cX6_readNumber 7 = .ok (.istore_n 3, 1) := by decide +kernel
theorem dX6_readNumber_8 : decode cX6_readNumber 8 = .ok (.aload_n 0, 1) := by decide +kernel
theorem dX6_readNumber_9 : decode cX6_readNumber 9 = .ok (.getfield 18, 3) := by decide +kernel
theorem dX6_readNumber_12 : decode cX6_readNumber 12 = .ok (.invokevirtual 41, 3) := by decide +kernel
theorem dX6_readNumber_15 : decode cX6_readNumber 15 = .ok (.iconst 2, 1) := by decide +kernel
theorem dX6_readNumber_16 : decode cX6_readNumber 16 = .ok (.if_icmp .eq 14, 3) := by decide +kernel
theorem dX6_readNumber_19 : decode cX6_readNumber 19 = .ok (.aload_n 0, 1) := by decide +kernel
theorem dX6_readNumber_20 : decode cX6_readNumber 20 = .ok (.getfield 18, 3) := by decide +kernel
theorem dX6_readNumber_23 : decode cX6_readNumber 23 = .ok (.iconst 0, 1) := by decide +kernel
theorem dX6_readNumber_24 : decode cX6_readNumber 24 = .ok (.invokevirtual 51, 3) := by decide +kernel
theorem dX6_readNumber_27 : decode cX6_readNumber 27 = .ok (.goto 41, 3) := by decide +kernel
theorem dX6_readNumber_30 : decode cX6_readNumber 30 = .ok (.iload_n 3, 1) := by decide +kernel
theorem dX6_readNumber_31 : decode cX6_readNumber 31 = .ok (.iload_n 1, 1) := by decide +kernel
theorem dX6_readNumber_32 : decode cX6_readNumber 32 = .ok (.if_icmp .lt 8, 3) := by decide +kernel
theorem dX6_readNumber_35 : decode cX6_readNumber 35 = .ok (.iload_n 3, 1) := by decide +kernel
theorem dX6_readNumber_36 : decode cX6_readNumber 36 = .ok (.iload_n 2, 1) := by decide +kernel
theorem dX6_readNumber_37 : decode cX6_readNumber 37 = .ok (.if_icmp .le 14, 3) := by decide +kernel
theorem dX6_readNumber_40 : decode cX6_readNumber 40 = .ok (.aload_n 0, 1) := by decide +kernel
theorem dX6_readNumber_41 : decode cX6_readNumber 41 = .ok (.getfield 18, 3) := by decide +kernel
theorem dX6_readNumber_44 : decode cX6_readNumber 44 = .ok (.iconst 1, 1) := by decide +kernel
theorem dX6_readNumber_45 : decode cX6_readNumber 45 = .ok (.invokevirtual 51, 3) := by decide +kernel
theorem dX6_readNumber_48 : decode cX6_readNumber 48 = .ok (.goto 20, 3) := by decide +kernel
theorem dX6_readNumber_51 : decode cX6_readNumber 51 = .ok (.aload_n 0, 1) := by decide +kernel
theorem dX6_readNumber_52 : decode cX6_readNumber 52 = .ok (.getfield 18, 3) := by decide +kernel
theorem dX6_readNumber_55 : decode cX6_readNumber 55 = .ok (.getfield 32, 3) := by decide +kernel
theorem dX6_readNumber_58 : decode cX6_readNumber 58 = .ok (.ifCond .ne 10, 3) := by decide +kernel
theorem dX6_readNumber_61 : decode cX6_readNumber 61 = .ok (.aload_n 0, 1) := by decide +kernel
theorem dX6_readNumber_62 : decode cX6_readNumber 62 = .ok (.getfield 18, 3) := by decide +kernel
theorem dX6_readNumber_65 : decode cX6_readNumber 65 = .ok (.invokevirtual 45, 3) := by decide +kernel
theorem dX6_readNumber_68 : decode cX6_readNumber 68 = .ok (.iload_n 3, 1) := by decide +kernel
theorem dX6_readNumber_69 : decode cX6_readNumber 69 = .ok (.ireturn, 1) := by decide +kernel
theorem dX7_init_0 : decode cX7_init 0 = .ok (.aload_n 0, 1) := by decide +kernel
theorem dX7_init_1 : decode cX7_init 1 = .ok (.invokespecial 3, 3) := by decide +kernel
theorem dX7_init_4 : decode cX7_init 4 = .ok (.aload_n 0, 1) := by decide +kernel
theorem dX7_init_5 : decode cX7_init 5 = .ok (.new 9, 3) := by decide +kernel
theorem dX7_init_8 : decode cX7_init 8 = .ok (.dup, 1) := by decide +kernel
theorem dX7_init_9 : decode cX7_init 9 = .ok (.invokespecial 11, 3) := by decide +kernel
theorem dX7_init_12 : decode cX7_init 12 = .ok (.putfield 12, 3) := by decide +kernel
theorem dX7_init_15 : decode cX7_init 15 = .ok (.aload_n 0, 1) := by decide +kernel
theorem dX7_init_16 : decode cX7_init 16 = .ok (.bipush 12, 2) := by decide +kernel
theorem dX7_init_18 : decode cX7_init 18 = .ok (.newarray .int, 2) := by decide +kernel
theorem dX7_init_20 : decode cX7_init 20 = .ok (.putfield 18, 3) := by decide +kernel
theorem dX7_init_23 : decode cX7_init 23 = .ok (.aload_n 0, 1) := by decide +kernel
theorem dX7_init_24 : decode cX7_init 24 = .ok (.bipush 10, 2) := by decide +kernel
theorem dX7_init_26 : decode cX7_init 26 = .ok (.newarray .int, 2) := by decide +kernel
theorem dX7_init_28 : decode cX7_init 28 = .ok (.putfield 22, 3) := by decide +kernel
theorem dX7_init_31 : decode cX7_init 31 = .ok (.aload_n 0, 1) := by decide +kernel
theorem dX7_init_32 : decode cX7_init 32 = .ok (.bipush 10, 2) := by decide +kernel
theorem dX7_init_34 : decode cX7_init 34 = .ok (.newarray .int, 2) := by decide +kernel
theorem dX7_init_36 : decode cX7_init 36 = .ok (.putfield 25, 3) := by decide +kernel
theorem dX7_init_39 : decode cX7_init 39 = .ok (.return_, 1) := by decide +kernel
theorem dX7_takeMint_0 : decode cX7_takeMint 0 = .ok (.aload_n 0, 1) := by decide +kernel
theorem dX7_takeMint_1 : decode cX7_takeMint 1 = .ok (.getfield 12, 3) := by decide +kernel
theorem dX7_takeMint_4 : decode cX7_takeMint 4 = .ok (.aload_n 1, 1) := by decide +kernel
theorem dX7_takeMint_5 : decode cX7_takeMint 5 = .ok (.invokevirtual 28, 3) := by decide +kernel
theorem dX7_takeMint_8 : decode cX7_takeMint 8 = .ok (.aload_n 0, 1) := by decide +kernel
theorem dX7_takeMint_9 : decode cX7_takeMint 9 = .ok (.iconst 0, 1) := by decide +kernel
theorem dX7_takeMint_10 : decode cX7_takeMint 10 = .ok (.putfield 32, 3) := by decide +kernel
theorem dX7_takeMint_13 : decode cX7_takeMint 13 = .ok (.aload_n 0, 1) := by decide +kernel
theorem dX7_takeMint_14 : decode cX7_takeMint 14 = .ok (.iconst 0, 1) := by decide +kernel
theorem dX7_takeMint_15 : decode cX7_takeMint 15 = .ok (.putfield 36, 3) := by decide +kernel
theorem dX7_takeMint_18 : decode cX7_takeMint 18 = .ok (.return_, 1) := by decide +kernel
theorem dX7_copyFrom_0 : decode cX7_copyFrom 0 = .ok (.aload_n 0, 1) := by decide +kernel
theorem dX7_copyFrom_1 : decode cX7_copyFrom 1 = .ok (.getfield 12, 3) := by decide +kernel
theorem dX7_copyFrom_4 : decode cX7_copyFrom 4 = .ok (.aload_n 1, 1) := by decide +kernel
theorem dX7_copyFrom_5 : decode cX7_copyFrom 5 = .ok (.getfield 12, 3) := by decide +kernel
theorem dX7_copyFrom_8 : decode cX7_copyFrom 8 = .ok (.invokevirtual 28, 3) := by decide +kernel
theorem dX7_copyFrom_11 : decode cX7_copyFrom 11 = .ok (.aload_n 1, 1) := by decide +kernel
theorem dX7_copyFrom_12 : decode cX7_copyFrom 12 = .ok (.getfield 18, 3) := by decide +kernel
theorem dX7_copyFrom_15 : decode cX7_copyFrom 15 = .ok (.iconst 0, 1) := by decide +kernel
theorem dX7_copyFrom_16 : decode cX7_copyFrom 16 = .ok (.aload_n 0, 1) := by decide +kernel
theorem dX7_copyFrom_17 : decode cX7_copyFrom 17 = .ok (.getfield 18, 3) := by decide +kernel
theorem dX7_copyFrom_20 : decode cX7_copyFrom 20 = .ok (.iconst 0, 1) := by decide +kernel
theorem dX7_copyFrom_21 : decode cX7_copyFrom 21 = .ok (.bipush 12, 2) := by decide +kernel
theorem dX7_copyFrom_23 : decode cX7_copyFrom 23 = .ok (.invokestatic 39, 3) := by decide +kernel
theorem dX7_copyFrom_26 : decode cX7_copyFrom 26 = .ok (.aload_n 0, 1) := by decide +kernel
theorem dX7_copyFrom_27 : decode cX7_copyFrom 27 = .ok (.aload_n 1, 1) := by decide +kernel
theorem dX7_copyFrom_28 : decode cX7_copyFrom 28 = .ok (.getfield 32, 3) := by decide +kernel
theorem dX7_copyFrom_31 : decode cX7_copyFrom 31 = .ok (.putfield 32, 3) := by decide +kernel
theorem dX7_copyFrom_34 : decode cX7_copyFrom 34 = .ok (.aload_n 1, 1) := by decide +kernel
theorem dX7_copyFrom_35 : decode cX7_copyFrom 35 = .ok (.getfield 22, 3) := by decide +kernel
theorem dX7_copyFrom_38 : decode cX7_copyFrom 38 = .ok (.iconst 0, 1) := by decide +kernel
theorem dX7_copyFrom_39 : decode cX7_copyFrom 39 = .ok (.aload_n 0, 1) := by decide +kernel
theorem dX7_copyFrom_40 : decode cX7_copyFrom 40 = .ok (.getfield 22, 3) := by decide +kernel
theorem dX7_copyFrom_43 : decode cX7_copyFrom 43 = .ok (.iconst 0, 1) := by decide +kernel
theorem dX7_copyFrom_44 : decode cX7_copyFrom 44 = .ok (.bipush 10, 2) := by decide +kernel
theorem dX7_copyFrom_46 : decode cX7_copyFrom 46 = .ok (.invokestatic 39, 3) := by decide +kernel
theorem dX7_copyFrom_49 : decode cX7_copyFrom 49 = .ok (.aload_n 1, 1) := by decide +kernel
theorem dX7_copyFrom_50 : decode cX7_copyFrom 50 = .ok (.getfield 25, 3) := by decide +kernel
theorem dX7_copyFrom_53 : decode cX7_copyFrom 53 = .ok (.iconst 0, 1) := by decide +kernel
theorem dX7_copyFrom_54 : decode cX7_copyFrom 54 = .ok (.aload_n 0, 1) := by decide +kernel
theorem dX7_copyFrom_55 : decode cX7_copyFrom 55 = .ok (.getfield 25, 3) := by decide +kernel
theorem dX7_copyFrom_58 : decode cX7_copyFrom 58 = .ok (.iconst 0, 1) := by decide +kernel
theorem dX7_copyFrom_59 : decode cX7_copyFrom 59 = .ok (.bipush 10, 2) := by decide +kernel
theorem dX7_copyFrom_61 : decode cX7_copyFrom 61 = .ok (.invokestatic 39, 3) := by decide +kernel
theorem dX7_copyFrom_64 : decode cX7_copyFrom 64 = .ok (.aload_n 0, 1) := by decide +kernel
theorem dX7_copyFrom_65 : decode cX7_copyFrom 65 = .ok (.aload_n 1, 1) := by decide +kernel
theorem dX7_copyFrom_66 : decode cX7_copyFrom 66 = .ok (.getfield 36, 3) := by decide +kernel
theorem dX7_copyFrom_69 : decode cX7_copyFrom 69 = .ok (.putfield 36, 3) := by decide +kernel
theorem dX7_copyFrom_72 : decode cX7_copyFrom 72 = .ok (.aload_n 0, 1) := by decide +kernel
theorem dX7_copyFrom_73 : decode cX7_copyFrom 73 = .ok (.aload_n 1, 1) := by decide +kernel
theorem dX7_copyFrom_74 : decode cX7_copyFrom 74 = .ok (.getfield 45, 3) := by decide +kernel
theorem dX7_copyFrom_77 : decode cX7_copyFrom 77 = .ok (.putfield 45, 3) := by decide +kernel
theorem dX7_copyFrom_80 : decode cX7_copyFrom 80 = .ok (.return_, 1) := by decide +kernel
theorem dX7_addHeard_0 : decode cX7_addHeard 0 = .ok (.aload_n 0, 1) := by decide +kernel
theorem dX7_addHeard_1 : decode cX7_addHeard 1 = .ok (.getfield 32, 3) := by decide +kernel
theorem dX7_addHeard_4 : decode cX7_addHeard 4 = .ok (.bipush 12, 2) := by decide +kernel
theorem dX7_addHeard_6 : decode cX7_addHeard 6 = .ok (.if_icmp .lt 5, 3) := by decide +kernel
theorem dX7_addHeard_9 : decode cX7_addHeard 9 = .ok (.iconst 0, 1) := by decide +kernel
theorem dX7_addHeard_10 : decode cX7_addHeard 10 = .ok (.ireturn, 1) := by decide +kernel
theorem dX7_addHeard_11 : decode cX7_addHeard 11 = .ok (.iconst 0, 1) := by decide +kernel
theorem dX7_addHeard_12 : decode cX7_addHeard 12 = .ok (.istore_n 2, 1) := by decide +kernel
theorem dX7_addHeard_13 : decode cX7_addHeard 13 = .ok (.iload_n 2, 1) := by decide +kernel
theorem dX7_addHeard_14 : decode cX7_addHeard 14 = .ok (.aload_n 0, 1) := by decide +kernel
theorem dX7_addHeard_15 : decode cX7_addHeard 15 = .ok (.getfield 32, 3) := by decide +kernel
theorem dX7_addHeard_18 : decode cX7_addHeard 18 = .ok (.if_icmp .ge 19, 3) := by decide +kernel
theorem dX7_addHeard_21 : decode cX7_addHeard 21 = .ok (.aload_n 0, 1) := by decide +kernel
theorem dX7_addHeard_22 : decode cX7_addHeard 22 = .ok (.getfield 18, 3) := by decide +kernel
theorem dX7_addHeard_25 : decode cX7_addHeard 25 = .ok (.iload_n 2, 1) := by decide +kernel
theorem dX7_addHeard_26 : decode cX7_addHeard 26 = .ok (.iaload, 1) := by decide +kernel
theorem dX7_addHeard_27 : decode cX7_addHeard 27 = .ok (.iload_n 1, 1) := by decide +kernel
theorem dX7_addHeard_28 : decode cX7_addHeard 28 = .ok (.if_icmp .ge 9, 3) := by decide +kernel
theorem dX7_addHeard_31 : decode cX7_addHeard 31 = .ok (.iinc 2 1, 3) := by decide +kernel
theorem dX7_addHeard_34 : decode cX7_addHeard 34 = .ok (.goto (-21), 3) := by decide +kernel
theorem dX7_addHeard_37 : decode cX7_addHeard 37 = .ok (.iload_n 2, 1) := by decide +kernel
theorem dX7_addHeard_38 : decode cX7_addHeard 38 = .ok (.aload_n 0, 1) := by decide +kernel
theorem dX7_addHeard_39 : decode cX7_addHeard 39 = .ok (.getfield 32, 3) := by decide +kernel
theorem dX7_addHeard_42 : decode cX7_addHeard 42 = .ok (.if_icmp .ge 15, 3) := by decide +kernel
theorem dX7_addHeard_45 : decode cX7_addHeard 45 = .ok (.aload_n 0, 1) := by decide +kernel
theorem dX7_addHeard_46 : decode cX7_addHeard 46 = .ok (.getfield 18, 3) := by decide +kernel
theorem dX7_addHeard_49 : decode cX7_addHeard 49 = .ok (.iload_n 2, 1) := by decide +kernel
theorem dX7_addHeard_50 : decode cX7_addHeard 50 = .ok (.iaload, 1) := by decide +kernel
theorem dX7_addHeard_51 : decode cX7_addHeard 51 = .ok (.iload_n 1, 1) := by decide +kernel
theorem dX7_addHeard_52 : decode cX7_addHeard 52 = .ok (.if_icmp .ne 5, 3) := by decide +kernel
theorem dX7_addHeard_55 : decode cX7_addHeard 55 = .ok (.iconst 0, 1) := by decide +kernel
theorem dX7_addHeard_56 : decode cX7_addHeard 56 = .ok (.ireturn, 1) := by decide +kernel
theorem dX7_addHeard_57 : decode cX7_addHeard 57 = .ok (.aload_n 0, 1) := by decide +kernel
theorem dX7_addHeard_58 : decode cX7_addHeard 58 = .ok (.getfield 32, 3) := by decide +kernel
theorem dX7_addHeard_61 : decode cX7_addHeard 61 = .ok (.istore_n 3, 1) := by decide +kernel
theorem dX7_addHeard_62 : decode cX7_addHeard 62 = .ok (.iload_n 3, 1) := by decide +kernel
theorem dX7_addHeard_63 : decode cX7_addHeard 63 = .ok (.iload_n 2, 1) := by decide +kernel
theorem dX7_addHeard_64 : decode cX7_addHeard 64 = .ok (.if_icmp .le 23, 3) := by decide +kernel
theorem dX7_addHeard_67 : decode cX7_addHeard 67 = .ok (.aload_n 0, 1) := by decide +kernel
theorem dX7_addHeard_68 : decode cX7_addHeard 68 = .ok (.getfield 18, 3) := by decide +kernel
theorem dX7_addHeard_71 : decode cX7_addHeard 71 = .ok (.iload_n 3, 1) := by decide +kernel
theorem dX7_addHeard_72 : decode cX7_addHeard 72 = .ok (.aload_n 0, 1) := by decide +kernel
theorem dX7_addHeard_73 : decode cX7_addHeard 73 = .ok (.getfield 18, 3) := by decide +kernel
theorem dX7_addHeard_76 : decode cX7_addHeard 76 = .ok (.iload_n 3, 1) := by decide +kernel
theorem dX7_addHeard_77 : decode cX7_addHeard 77 = .ok (.iconst 1, 1) := by decide +kernel
theorem dX7_addHeard_78 : decode cX7_addHeard 78 = .ok (.isub, 1) := by decide +kernel
theorem dX7_addHeard_79 : decode cX7_addHeard 79 = .ok (.iaload, 1) := by decide +kernel
theorem dX7_addHeard_80 : decode cX7_addHeard 80 = .ok (.iastore, 1) := by decide +kernel
theorem dX7_addHeard_81 : decode cX7_addHeard 81 = .ok (.iinc 3 (-1), 3) := by decide +kernel
theorem dX7_addHeard_84 : decode cX7_addHeard 84 = .ok (.goto (-22), 3) := by decide +kernel
theorem dX7_addHeard_87 : decode cX7_addHeard 87 = .ok (.aload_n 0, 1) := by decide +kernel
theorem dX7_addHeard_88 : decode cX7_addHeard 88 = .ok (.getfield 18, 3) := by decide +kernel
theorem dX7_addHeard_91 : decode cX7_addHeard 91 = .ok (.iload_n 2, 1) := by decide +kernel
theorem dX7_addHeard_92 : decode cX7_addHeard 92 = .ok (.iload_n 1, 1) := by decide +kernel
theorem dX7_addHeard_93 : decode cX7_addHeard 93 = .ok (.iastore, 1) := by decide +kernel
theorem dX7_addHeard_94 : decode cX7_addHeard 94 = .ok (.aload_n 0, 1) := by decide +kernel
theorem dX7_addHeard_95 : decode cX7_addHeard 95 = .ok (.dup, 1) := by decide +kernel
theorem dX7_addHeard_96 : decode cX7_addHeard 96 = .ok (.getfield 32, 3) := by decide +kernel
theorem dX7_addHeard_99 : decode cX7_addHeard 99 = .ok (.iconst 1, 1) := by decide +kernel
theorem dX7_addHeard_100 : decode cX7_addHeard 100 = .ok (.iadd, 1) := by decide +kernel
theorem dX7_addHeard_101 : decode cX7_addHeard 101 = .ok (.putfield 32, 3) := by decide +kernel
theorem dX7_addHeard_104 : decode cX7_addHeard 104 = .ok (.iconst 1, 1) := by decide +kernel
theorem dX7_addHeard_105 : decode cX7_addHeard 105 = .ok (.ireturn, 1) := by decide +kernel
theorem dX8_init_0 : decode cX8_init 0 = .ok (.aload_n 0, 1) := by decide +kernel
theorem dX8_init_1 : decode cX8_init 1 = .ok (.invokespecial 3, 3) := by decide +kernel
theorem dX8_init_4 : decode cX8_init 4 = .ok (.aload_n 0, 1) := by decide +kernel
theorem dX8_init_5 : decode cX8_init 5 = .ok (.sipush 401, 3) := by decide +kernel
theorem dX8_init_8 : decode cX8_init 8 = .ok (.newarray .int, 2) := by decide +kernel
theorem dX8_init_10 : decode cX8_init 10 = .ok (.putfield 9, 3) := by decide +kernel
theorem dX8_init_13 : decode cX8_init 13 = .ok (.aload_n 0, 1) := by decide +kernel
theorem dX8_init_14 : decode cX8_init 14 = .ok (.sipush 401, 3) := by decide +kernel
theorem dX8_init_17 : decode cX8_init 17 = .ok (.newarray .int, 2) := by decide +kernel
theorem dX8_init_19 : decode cX8_init 19 = .ok (.putfield 15, 3) := by decide +kernel
theorem dX8_init_22 : decode cX8_init 22 = .ok (.aload_n 0, 1) := by decide +kernel
theorem dX8_init_23 : decode cX8_init 23 = .ok (.sipush 401, 3) := by decide +kernel
theorem dX8_init_26 : decode cX8_init 26 = .ok (.newarray .int, 2) := by decide +kernel
theorem dX8_init_28 : decode cX8_init 28 = .ok (.putfield 18, 3) := by decide +kernel
theorem dX8_init_31 : decode cX8_init 31 = .ok (.return_, 1) := by decide +kernel
theorem dX8_split_0 : decode cX8_split 0 = .ok (.aload_n 0, 1) := by decide +kernel
theorem dX8_split_1 : decode cX8_split 1 = .ok (.iconst 0, 1) := by decide +kernel
theorem dX8_split_2 : decode cX8_split 2 = .ok (.putfield 21, 3) := by decide +kernel
theorem dX8_split_5 : decode cX8_split 5 = .ok (.aload_n 0, 1) := by decide +kernel
theorem dX8_split_6 : decode cX8_split 6 = .ok (.iconst 0, 1) := by decide +kernel
theorem dX8_split_7 : decode cX8_split 7 = .ok (.putfield 25, 3) := by decide +kernel
theorem dX8_split_10 : decode cX8_split 10 = .ok (.aload_n 0, 1) := by decide +kernel
theorem dX8_split_11 : decode cX8_split 11 = .ok (.iconst 0, 1) := by decide +kernel
theorem dX8_split_12 : decode cX8_split 12 = .ok (.putfield 28, 3) := by decide +kernel
theorem dX8_split_15 : decode cX8_split 15 = .ok (.iconst 0, 1) := by decide +kernel
theorem dX8_split_16 : decode cX8_split 16 = .ok (.istore 4, 2) := by decide +kernel
theorem dX8_split_18 : decode cX8_split 18 = .ok (.iload 4, 2) := by decide +kernel
theorem dX8_split_20 : decode cX8_split 20 = .ok (.iload_n 2, 1) := by decide +kernel
theorem dX8_split_21 : decode cX8_split 21 = .ok (.if_icmp .ge 43, 3) := by decide +kernel
theorem dX8_split_24 : decode cX8_split 24 = .ok (.iload 4, 2) := by decide +kernel
theorem dX8_split_26 : decode cX8_split 26 = .ok (.iconst 1, 1) := by decide +kernel
theorem dX8_split_27 : decode cX8_split 27 = .ok (.iadd, 1) := by decide +kernel
theorem dX8_split_28 : decode cX8_split 28 = .ok (.istore_n 3, 1) := by decide +kernel
theorem dX8_split_29 : decode cX8_split 29 = .ok (.aload_n 1, 1) := by decide +kernel
theorem dX8_split_30 : decode cX8_split 30 = .ok (.iload 4, 2) := by decide +kernel
theorem dX8_split_32 : decode cX8_split 32 = .ok (.baload, 1) := by decide +kernel
theorem dX8_split_33 : decode cX8_split 33 = .ok (.bipush 32, 2) := by decide +kernel
theorem dX8_split_35 : decode cX8_split 35 = .ok (.if_icmp .eq 23, 3) := by decide +kernel
theorem dX8_split_38 : decode cX8_split 38 = .ok (.iload_n 3, 1) := by decide +kernel
theorem dX8_split_39 : decode cX8_split 39 = .ok (.aload_n 1, 1) := by decide +kernel
theorem dX8_split_40 : decode cX8_split 40 = .ok (.iload 4, 2) := by decide +kernel
theorem dX8_split_42 : decode cX8_split 42 = .ok (.iload_n 2, 1) := by decide +kernel
theorem dX8_split_43 : decode cX8_split 43 = .ok (.invokestatic 31, 3) := by decide +kernel
theorem dX8_split_46 : decode cX8_split 46 = .ok (.invokestatic 35, 3) := by decide +kernel
theorem dX8_split_49 : decode cX8_split 49 = .ok (.istore_n 3, 1) := by decide +kernel
theorem dX8_split_50 : decode cX8_split 50 = .ok (.aload_n 0, 1) := by decide +kernel
theorem dX8_split_51 : decode cX8_split 51 = .ok (.aload_n 1, 1) := by decide +kernel
theorem dX8_split_52 : decode cX8_split 52 = .ok (.iload 4, 2) := by decide +kernel
theorem dX8_split_54 : decode cX8_split 54 = .ok (.iload_n 3, 1) := by decide +kernel
theorem dX8_split_55 : decode cX8_split 55 = .ok (.invokevirtual 41, 3) := by decide +kernel
theorem dX8_split_58 : decode cX8_split 58 = .ok (.iload_n 3, 1) := by decide +kernel
theorem dX8_split_59 : decode cX8_split 59 = .ok (.istore 4, 2) := by decide +kernel
theorem dX8_split_61 : decode cX8_split 61 = .ok (.goto (-43), 3) := by decide +kernel
theorem dX8_split_64 : decode cX8_split 64 = .ok (.aload_n 0, 1) := by decide +kernel
theorem dX8_split_65 : decode cX8_split 65 = .ok (.iconst 0, 1) := by decide +kernel
theorem dX8_split_66 : decode cX8_split 66 = .ok (.iload_n 2, 1) := by decide +kernel
theorem dX8_split_67 : decode cX8_split 67 = .ok (.iconst 0, 1) := by decide +kernel
theorem dX8_split_68 : decode cX8_split 68 = .ok (.invokevirtual 45, 3) := by decide +kernel
theorem dX8_split_71 : decode cX8_split 71 = .ok (.return_, 1) := by decide +kernel
theorem dX8_pieceEnd_0 : decode cX8_pieceEnd 0 = .ok (.aload_n 0, 1) := by decide +kernel
theorem dX8_pieceEnd_1 : decode cX8_pieceEnd 1 = .ok (.iload_n 1, 1) := by decide +kernel
theorem dX8_pieceEnd_2 : decode cX8_pieceEnd 2 = .ok (.baload, 1) := by decide +kernel
theorem dX8_pieceEnd_3 : decode cX8_pieceEnd 3 = .ok (.invokestatic 49, 3) := by decide +kernel
theorem dX8_pieceEnd_6 : decode cX8_pieceEnd 6 = .ok (.istore_n 3, 1) := by decide +kernel
theorem dX8_pieceEnd_7 : decode cX8_pieceEnd 7 = .ok (.aload_n 0, 1) := by decide +kernel
theorem dX8_pieceEnd_8 : decode cX8_pieceEnd 8 = .ok (.iload_n 1, 1) := by decide +kernel
theorem dX8_pieceEnd_9 : decode cX8_pieceEnd 9 = .ok (.baload, 1) := by decide +kernel
theorem dX8_pieceEnd_10 : decode cX8_pieceEnd 10 = .ok (.invokestatic 53, 3) := by decide +kernel
theorem dX8_pieceEnd_13 : decode cX8_pieceEnd 13 = .ok (.istore 4, 2) := by decide +kernel
theorem dX8_pieceEnd_15 : decode cX8_pieceEnd 15 = .ok (.aload_n 0, 1) := by decide +kernel
theorem dX8_pieceEnd_16 : decode cX8_pieceEnd 16 = .ok (.iload_n 1, 1) := by decide +kernel
theorem dX8_pieceEnd_17 : decode cX8_pieceEnd 17 = .ok (.baload, 1) := by decide +kernel
theorem dX8_pieceEnd_18 : decode cX8_pieceEnd 18 = .ok (.bipush 60, 2) := by decide +kernel
theorem dX8_pieceEnd_20 : decode cX8_pieceEnd 20 = .ok (.if_icmp .eq 11, 3) := by decide +kernel
theorem dX8_pieceEnd_23 : decode cX8_pieceEnd 23 = .ok (.aload_n 0, 1) := by decide +kernel
theorem dX8_pieceEnd_24 : decode cX8_pieceEnd 24 = .ok (.iload_n 1, 1) := by decide +kernel
theorem dX8_pieceEnd_25 : decode cX8_pieceEnd 25 = .ok (.baload, 1) := by decide +kernel
theorem dX8_pieceEnd_26 : decode cX8_pieceEnd 26 = .ok (.bipush 62, 2) := by decide +kernel
theorem dX8_pieceEnd_28 : decode cX8_pieceEnd 28 = .ok (.if_icmp .ne 7, 3) := by decide +kernel
theorem dX8_pieceEnd_31 : decode cX8_pieceEnd 31 = .ok (.iconst 1, 1) := by decide +kernel
theorem dX8_pieceEnd_32 : decode cX8_pieceEnd 32 = .ok (.goto 4, 3) := by decide +kernel
theorem dX8_pieceEnd_35 : decode cX8_pieceEnd 35 = .ok (.iconst 0, 1) := by decide +kernel
theorem dX8_pieceEnd_36 : decode cX8_pieceEnd 36 = .ok (.istore 5, 2) := by decide +kernel
theorem dX8_pieceEnd_38 : decode cX8_pieceEnd 38 = .ok (.iload_n 1, 1) := by decide +kernel
theorem dX8_pieceEnd_39 : decode cX8_pieceEnd 39 = .ok (.iconst 1, 1) := by decide +kernel
theorem dX8_pieceEnd_40 : decode cX8_pieceEnd 40 = .ok (.iadd, 1) := by decide +kernel
theorem dX8_pieceEnd_41 : decode cX8_pieceEnd 41 = .ok (.istore 6, 2) := by decide +kernel
theorem dX8_pieceEnd_43 : decode cX8_pieceEnd 43 = .ok (.iload 5, 2) := by decide +kernel
theorem dX8_pieceEnd_45 : decode cX8_pieceEnd 45 = .ok (.ifCond .eq 23, 3) := by decide +kernel
theorem dX8_pieceEnd_48 : decode cX8_pieceEnd 48 = .ok (.iload 6, 2) := by decide +kernel
theorem dX8_pieceEnd_50 : decode cX8_pieceEnd 50 = .ok (.iload_n 2, 1) := by decide +kernel
theorem dX8_pieceEnd_51 : decode cX8_pieceEnd 51 = .ok (.if_icmp .ge 17, 3) := by decide +kernel
theorem dX8_pieceEnd_54 : decode cX8_pieceEnd 54 = .ok (.aload_n 0, 1) := by decide +kernel
theorem dX8_pieceEnd_55 : decode cX8_pieceEnd 55 = .ok (.iload 6, 2) := by decide +kernel
theorem dX8_pieceEnd_57 : decode cX8_pieceEnd 57 = .ok (.baload, 1) := by decide +kernel
theorem dX8_pieceEnd_58 : decode cX8_pieceEnd 58 = .ok (.bipush 61, 2) := by decide +kernel
theorem dX8_pieceEnd_60 : decode cX8_pieceEnd 60 = .ok (.if_icmp .ne 8, 3) := by decide +kernel
theorem dX8_pieceEnd_63 : decode cX8_pieceEnd 63 = .ok (.iload 6, 2) := by decide +kernel
theorem dX8_pieceEnd_65 : decode cX8_pieceEnd 65 = .ok (.iconst 1, 1) := by decide +kernel
theorem dX8_pieceEnd_66 : decode cX8_pieceEnd 66 = .ok (.iadd, 1) := by decide +kernel
theorem dX8_pieceEnd_67 : decode cX8_pieceEnd 67 = .ok (.ireturn, 1) := by decide +kernel
theorem dX8_pieceEnd_68 : decode cX8_pieceEnd 68 = .ok (.iload 6, 2) := by decide +kernel
theorem dX8_pieceEnd_70 : decode cX8_pieceEnd 70 = .ok (.iload_n 2, 1) := by decide +kernel
theorem dX8_pieceEnd_71 : decode cX8_pieceEnd 71 = .ok (.if_icmp .ge 38, 3) := by decide +kernel
theorem dX8_pieceEnd_74 : decode cX8_pieceEnd 74 = .ok (.iload_n 3, 1) := by decide +kernel
theorem dX8_pieceEnd_75 : decode cX8_pieceEnd 75 = .ok (.ifCond .eq 13, 3) := by decide +kernel
theorem dX8_pieceEnd_78 : decode cX8_pieceEnd 78 = .ok (.aload_n 0, 1) := by decide +kernel
theorem dX8_pieceEnd_79 : decode cX8_pieceEnd 79 = .ok (.iload 6, 2) := by decide +kernel
theorem dX8_pieceEnd_81 : decode cX8_pieceEnd 81 = .ok (.baload, 1) := by decide +kernel
theorem dX8_pieceEnd_82 : decode cX8_pieceEnd 82 = .ok (.invokestatic 49, 3) := by decide +kernel
theorem dX8_pieceEnd_85 : decode cX8_pieceEnd 85 = .ok (.ifCond .ne 18, 3) := by decide +kernel
theorem dX8_pieceEnd_88 : decode cX8_pieceEnd 88 = .ok (.iload 4, 2) := by decide +kernel
theorem dX8_pieceEnd_90 : decode cX8_pieceEnd 90 = .ok (.ifCond .eq 19, 3) := by decide +kernel
theorem dX8_pieceEnd_93 : decode cX8_pieceEnd 93 = .ok (.aload_n 0, 1) := by decide +kernel
theorem dX8_pieceEnd_94 : decode cX8_pieceEnd 94 = .ok (.iload 6, 2) := by decide +kernel
theorem dX8_pieceEnd_96 : decode cX8_pieceEnd 96 = .ok (.baload, 1) := by decide +kernel
theorem dX8_pieceEnd_97 : decode cX8_pieceEnd 97 = .ok (.invokestatic 53, 3) := by decide +kernel
theorem dX8_pieceEnd_100 : decode cX8_pieceEnd 100 = .ok (.ifCond .eq 9, 3) := by decide +kernel
theorem dX8_pieceEnd_103 : decode cX8_pieceEnd 103 = .ok (.iinc 6 1, 3) := by decide +kernel
theorem dX8_pieceEnd_106 : decode cX8_pieceEnd 106 = .ok (.goto (-38), 3) := by decide +kernel
theorem dX8_pieceEnd_109 : decode cX8_pieceEnd 109 = .ok (.iload 6, 2) := by decide +kernel
theorem dX8_pieceEnd_111 : decode cX8_pieceEnd 111 = .ok (.ireturn, 1) := by decide +kernel
theorem dX8_addPiece_0 : decode cX8_addPiece 0 = .ok (.aload_n 1, 1) := by decide +kernel
theorem dX8_addPiece_1 : decode cX8_addPiece 1 = .ok (.iload_n 2, 1) := by decide +kernel
theorem dX8_addPiece_2 : decode cX8_addPiece 2 = .ok (.baload, 1) := by decide +kernel
theorem dX8_addPiece_3 : decode cX8_addPiece 3 = .ok (.invokestatic 53, 3) := by decide +kernel
theorem dX8_addPiece_6 : decode cX8_addPiece 6 = .ok (.ifCond .eq 18, 3) := by decide +kernel
theorem dX8_addPiece_9 : decode cX8_addPiece 9 = .ok (.aload_n 0, 1) := by decide +kernel
theorem dX8_addPiece_10 : decode cX8_addPiece 10 = .ok (.iconst 2, 1) := by decide +kernel
theorem dX8_addPiece_11 : decode cX8_addPiece 11 = .ok (.iload_n 2, 1) := by decide +kernel
theorem dX8_addPiece_12 : decode cX8_addPiece 12 = .ok (.aload_n 1, 1) := by decide +kernel
theorem dX8_addPiece_13 : decode cX8_addPiece 13 = .ok (.iload_n 2, 1) := by decide +kernel
theorem dX8_addPiece_14 : decode cX8_addPiece 14 = .ok (.iload_n 3, 1) := by decide +kernel
theorem dX8_addPiece_15 : decode cX8_addPiece 15 = .ok (.invokestatic 56, 3) := by decide +kernel
theorem dX8_addPiece_18 : decode cX8_addPiece 18 = .ok (.invokevirtual 45, 3) := by decide +kernel
theorem dX8_addPiece_21 : decode cX8_addPiece 21 = .ok (.goto 51, 3) := by decide +kernel
theorem dX8_addPiece_24 : decode cX8_addPiece 24 = .ok (.aload_n 1, 1) := by decide +kernel
theorem dX8_addPiece_25 : decode cX8_addPiece 25 = .ok (.iload_n 2, 1) := by decide +kernel
theorem dX8_addPiece_26 : decode cX8_addPiece 26 = .ok (.baload, 1) := by decide +kernel
theorem dX8_addPiece_27 : decode cX8_addPiece 27 = .ok (.invokestatic 49, 3) := by decide +kernel
theorem dX8_addPiece_30 : decode cX8_addPiece 30 = .ok (.ifCond .eq 18, 3) := by decide +kernel
theorem dX8_addPiece_33 : decode cX8_addPiece 33 = .ok (.aload_n 0, 1) := by decide +kernel
theorem dX8_addPiece_34 : decode cX8_addPiece 34 = .ok (.aload_n 1, 1) := by decide +kernel
theorem dX8_addPiece_35 : decode cX8_addPiece 35 = .ok (.iload_n 2, 1) := by decide +kernel
theorem dX8_addPiece_36 : decode cX8_addPiece 36 = .ok (.iload_n 3, 1) := by decide +kernel
theorem dX8_addPiece_37 : decode cX8_addPiece 37 = .ok (.invokestatic 59, 3) := by decide +kernel
theorem dX8_addPiece_40 : decode cX8_addPiece 40 = .ok (.iload_n 2, 1) := by decide +kernel
theorem dX8_addPiece_41 : decode cX8_addPiece 41 = .ok (.iconst 0, 1) := by decide +kernel
theorem dX8_addPiece_42 : decode cX8_addPiece 42 = .ok (.invokevirtual 45, 3) := by decide +kernel
theorem dX8_addPiece_45 : decode cX8_addPiece 45 = .ok (.goto 27, 3) := by decide +kernel
theorem dX8_addPiece_48 : decode cX8_addPiece 48 = .ok (.aload_n 0, 1) := by decide +kernel
theorem dX8_addPiece_49 : decode cX8_addPiece 49 = .ok (.aload_n 1, 1) := by decide +kernel
theorem dX8_addPiece_50 : decode cX8_addPiece 50 = .ok (.iload_n 2, 1) := by decide +kernel
theorem dX8_addPiece_51 : decode cX8_addPiece 51 = .ok (.baload, 1) := by decide +kernel
theorem dX8_addPiece_52 : decode cX8_addPiece 52 = .ok (.iload_n 3, 1) := by decide +kernel
theorem dX8_addPiece_53 : decode cX8_addPiece 53 = .ok (.iload_n 2, 1) := by decide +kernel
theorem dX8_addPiece_54 : decode cX8_addPiece 54 = .ok (.isub, 1) := by decide +kernel
theorem dX8_addPiece_55 : decode cX8_addPiece 55 = .ok (.iconst 2, 1) := by decide +kernel
theorem dX8_addPiece_56 : decode cX8_addPiece 56 = .ok (.if_icmp .ne 7, 3) := by decide +kernel
theorem dX8_addPiece_59 : decode cX8_addPiece 59 = .ok (.iconst 1, 1) := by decide +kernel
theorem dX8_addPiece_60 : decode cX8_addPiece 60 = .ok (.goto 4, 3) := by decide +kernel
theorem dX8_addPiece_63 : decode cX8_addPiece 63 = .ok (.iconst 0, 1) := by decide +kernel
theorem dX8_addPiece_64 : decode cX8_addPiece 64 = .ok (.invokestatic 62, 3) := by decide +kernel
theorem dX8_addPiece_67 : decode cX8_addPiece 67 = .ok (.iload_n 2, 1) := by decide +kernel
theorem dX8_addPiece_68 : decode cX8_addPiece 68 = .ok (.iconst 0, 1) := by decide +kernel
theorem dX8_addPiece_69 : decode cX8_addPiece 69 = .ok (.invokevirtual 45, 3) := by decide +kernel
theorem dX8_addPiece_72 : decode cX8_addPiece 72 = .ok (.return_, 1) := by decide +kernel
theorem dX8_append_0 : decode cX8_append 0 = .ok (.aload_n 0, 1) := by decide +kernel
theorem dX8_append_1 : decode cX8_append 1 = .ok (.getfield 21, 3) := by decide +kernel
theorem dX8_append_4 : decode cX8_append 4 = .ok (.aload_n 0, 1) := by decide +kernel
theorem dX8_append_5 : decode cX8_append 5 = .ok (.getfield 9, 3) := by decide +kernel
theorem dX8_append_8 : decode cX8_append 8 = .ok (.arraylength, 1) := by decide +kernel
theorem dX8_append_9 : decode cX8_append 9 = .ok (.if_icmp .ge 43, 3) := by decide +kernel
theorem dX8_append_12 : decode cX8_append 12 = .ok (.aload_n 0, 1) := by decide +kernel
theorem dX8_append_13 : decode cX8_append 13 = .ok (.getfield 9, 3) := by decide +kernel
theorem dX8_append_16 : decode cX8_append 16 = .ok (.aload_n 0, 1) := by decide +kernel
theorem dX8_append_17 : decode cX8_append 17 = .ok (.getfield 21, 3) := by decide +kernel
theorem dX8_append_20 : decode cX8_append 20 = .ok (.iload_n 1, 1) := by decide +kernel
theorem dX8_append_21 : decode cX8_append 21 = .ok (.iastore, 1) := by decide +kernel
theorem dX8_append_22 : decode cX8_append 22 = .ok (.aload_n 0, 1) := by decide +kernel
theorem dX8_append_23 : decode cX8_append 23 = .ok (.getfield 15, 3) := by decide +kernel
theorem dX8_append_26 : decode cX8_append 26 = .ok (.aload_n 0, 1) := by decide +kernel
theorem dX8_append_27 : decode cX8_append 27 = .ok (.getfield 21, 3) := by decide +kernel
theorem dX8_append_30 : decode cX8_append 30 = .ok (.iload_n 2, 1) := by decide +kernel
theorem dX8_append_31 : decode cX8_append 31 = .ok (.iastore, 1) := by decide +kernel
theorem dX8_append_32 : decode cX8_append 32 = .ok (.aload_n 0, 1) := by decide +kernel
theorem dX8_append_33 : decode cX8_append 33 = .ok (.getfield 18, 3) := by decide +kernel
theorem dX8_append_36 : decode cX8_append 36 = .ok (.aload_n 0, 1) := by decide +kernel
theorem dX8_append_37 : decode cX8_append 37 = .ok (.getfield 21, 3) := by decide +kernel
theorem dX8_append_40 : decode cX8_append 40 = .ok (.iload_n 3, 1) := by decide +kernel
theorem dX8_append_41 : decode cX8_append 41 = .ok (.iastore, 1) := by decide +kernel
theorem dX8_append_42 : decode cX8_append 42 = .ok (.aload_n 0, 1) := by decide +kernel
theorem dX8_append_43 : decode cX8_append 43 = .ok (.dup, 1) := by decide +kernel
theorem dX8_append_44 : decode cX8_append 44 = .ok (.getfield 21, 3) := by decide +kernel
theorem dX8_append_47 : decode cX8_append 47 = .ok (.iconst 1, 1) := by decide +kernel
theorem dX8_append_48 : decode cX8_append 48 = .ok (.iadd, 1) := by decide +kernel
theorem dX8_append_49 : decode cX8_append 49 = .ok (.putfield 21, 3) := by decide +kernel
theorem dX8_append_52 : decode cX8_append 52 = .ok (.return_, 1) := by decide +kernel
theorem dX8_isDigit_0 : decode cX8_isDigit 0 = .ok (.iload_n 0, 1) := by decide +kernel
theorem dX8_isDigit_1 : decode cX8_isDigit 1 = .ok (.bipush 48, 2) := by decide +kernel
theorem dX8_isDigit_3 : decode cX8_isDigit 3 = .ok (.if_icmp .lt 13, 3) := by decide +kernel
theorem dX8_isDigit_6 : decode cX8_isDigit 6 = .ok (.iload_n 0, 1) := by decide +kernel
theorem dX8_isDigit_7 : decode cX8_isDigit 7 = .ok (.bipush 57, 2) := by decide +kernel
theorem dX8_isDigit_9 : decode cX8_isDigit 9 = .ok (.if_icmp .gt 7, 3) := by decide +kernel
theorem dX8_isDigit_12 : decode cX8_isDigit 12 = .ok (.iconst 1, 1) := by decide +kernel
theorem dX8_isDigit_13 : decode cX8_isDigit 13 = .ok (.goto 4, 3) := by decide +kernel
theorem dX8_isDigit_16 : decode cX8_isDigit 16 = .ok (.iconst 0, 1) := by decide +kernel
theorem dX8_isDigit_17 : decode cX8_isDigit 17 = .ok (.ireturn, 1) := by decide +kernel
theorem dX8_isLetter_0 : decode cX8_isLetter 0 = .ok (.iload_n 0, 1) := by decide +kernel
theorem dX8_isLetter_1 : decode cX8_isLetter 1 = .ok (.bipush 97, 2) := by decide +kernel
theorem dX8_isLetter_3 : decode cX8_isLetter 3 = .ok (.if_icmp .lt 13, 3) := by decide +kernel
theorem dX8_isLetter_6 : decode cX8_isLetter 6 = .ok (.iload_n 0, 1) := by decide +kernel
theorem dX8_isLetter_7 : decode cX8_isLetter 7 = .ok (.bipush 122, 2) := by decide +kernel
theorem dX8_isLetter_9 : decode cX8_isLetter 9 = .ok (.if_icmp .gt 7, 3) := by decide +kernel
theorem dX8_isLetter_12 : decode cX8_isLetter 12 = .ok (.iconst 1, 1) := by decide +kernel
theorem dX8_isLetter_13 : decode cX8_isLetter 13 = .ok (.goto 4, 3) := by decide +kernel
theorem dX8_isLetter_16 : decode cX8_isLetter 16 = .ok (.iconst 0, 1) := by decide +kernel
theorem dX8_isLetter_17 : decode cX8_isLetter 17 = .ok (.ireturn, 1) := by decide +kernel
theorem dX8_numberAt_0 : decode cX8_numberAt 0 = .ok (.iload_n 2, 1) := by decide +kernel
theorem dX8_numberAt_1 : decode cX8_numberAt 1 = .ok (.iload_n 1, 1) := by decide +kernel
theorem dX8_numberAt_2 : decode cX8_numberAt 2 = .ok (.isub, 1) := by decide +kernel
theorem dX8_numberAt_3 : decode cX8_numberAt 3 = .ok (.iconst 5, 1) := by decide +kernel
theorem dX8_numberAt_4 : decode cX8_numberAt 4 = .ok (.if_icmp .le 5, 3) := by decide +kernel
theorem dX8_numberAt_7 : decode cX8_numberAt 7 = .ok (.iconst (-1), 1) := by decide +kernel
theorem dX8_numberAt_8 : decode cX8_numberAt 8 = .ok (.ireturn, 1) := by decide +kernel
theorem dX8_numberAt_9 : decode cX8_numberAt 9 = .ok (.iconst 0, 1) := by decide +kernel
theorem dX8_numberAt_10 : decode cX8_numberAt 10 = .ok (.istore_n 3, 1) := by decide +kernel
theorem dX8_numberAt_11 : decode cX8_numberAt 11 = .ok (.iload_n 1, 1) := by decide +kernel
theorem dX8_numberAt_12 : decode cX8_numberAt 12 = .ok (.istore 4, 2) := by decide +kernel
theorem dX8_numberAt_14 : decode cX8_numberAt 14 = .ok (.iload 4, 2) := by decide +kernel
theorem dX8_numberAt_16 : decode cX8_numberAt 16 = .ok (.iload_n 2, 1) := by decide +kernel
theorem dX8_numberAt_17 : decode cX8_numberAt 17 = .ok (.if_icmp .ge 22, 3) := by decide +kernel
theorem dX8_numberAt_20 : decode cX8_numberAt 20 = .ok (.iload_n 3, 1) := by decide +kernel
theorem dX8_numberAt_21 : decode cX8_numberAt 21 = .ok (.bipush 10, 2) := by decide +kernel
theorem dX8_numberAt_23 : decode cX8_numberAt 23 = .ok (.imul, 1) := by decide +kernel
theorem dX8_numberAt_24 : decode cX8_numberAt 24 = .ok (.aload_n 0, 1) := by decide +kernel
theorem dX8_numberAt_25 : decode cX8_numberAt 25 = .ok (.iload 4, 2) := by decide +kernel
theorem dX8_numberAt_27 : decode cX8_numberAt 27 = .ok (.baload, 1) := by decide +kernel
theorem dX8_numberAt_28 : decode cX8_numberAt 28 = .ok (.iadd, 1) := by decide +kernel
theorem dX8_numberAt_29 : decode cX8_numberAt 29 = .ok (.bipush 48, 2) := by decide +kernel
theorem dX8_numberAt_31 : decode cX8_numberAt 31 = .ok (.isub, 1) := by decide +kernel
theorem dX8_numberAt_32 : decode cX8_numberAt 32 = .ok (.istore_n 3, 1) := by decide +kernel
theorem dX8_numberAt_33 : decode cX8_numberAt 33 = .ok (.iinc 4 1, 3) := by decide +kernel
theorem dX8_numberAt_36 : decode cX8_numberAt 36 = .ok (.goto (-22), 3) := by decide +kernel
theorem dX8_numberAt_39 : decode cX8_numberAt 39 = .ok (.iload_n 3, 1) := by decide +kernel
theorem dX8_numberAt_40 : decode cX8_numberAt 40 = .ok (.ireturn, 1) := by decide +kernel
theorem dX8_wordAt_0 : decode cX8_wordAt 0 = .ok (.bipush 16, 2) := by decide +kernel
theorem dX8_wordAt_2 : decode cX8_wordAt 2 = .ok (.istore_n 3, 1) := by decide +kernel
theorem dX8_wordAt_3 : decode cX8_wordAt 3 = .ok (.iconst 0, 1) := by decide +kernel
theorem dX8_wordAt_4 : decode cX8_wordAt 4 = .ok (.istore 4, 2) := by decide +kernel
theorem dX8_wordAt_6 : decode cX8_wordAt 6 = .ok (.iconst 0, 1) := by decide +kernel
theorem dX8_wordAt_7 : decode cX8_wordAt 7 = .ok (.istore 5, 2) := by decide +kernel
theorem dX8_wordAt_9 : decode cX8_wordAt 9 = .ok (.iload 5, 2) := by decide +kernel
theorem dX8_wordAt_11 : decode cX8_wordAt 11 = .ok (.ldc 66, 2) := by decide +kernel
theorem dX8_wordAt_13 : decode cX8_wordAt 13 = .ok (.invokevirtual 68, 3) := by decide +kernel
theorem dX8_wordAt_16 : decode cX8_wordAt 16 = .ok (.if_icmp .ge 55, 3) := by decide +kernel
theorem dX8_wordAt_19 : decode cX8_wordAt 19 = .ok (.ldc 66, 2) := by decide +kernel
theorem dX8_wordAt_21 : decode cX8_wordAt 21 = .ok (.iload 5, 2) := by decide +kernel
theorem dX8_wordAt_23 : decode cX8_wordAt 23 = .ok (.invokevirtual 74, 3) := by decide +kernel
theorem dX8_wordAt_26 : decode cX8_wordAt 26 = .ok (.bipush 32, 2) := by decide +kernel
theorem dX8_wordAt_28 : decode cX8_wordAt 28 = .ok (.if_icmp .ne 37, 3) := by decide +kernel
theorem dX8_wordAt_31 : decode cX8_wordAt 31 = .ok (.iload 5, 2) := by decide +kernel
theorem dX8_wordAt_33 : decode cX8_wordAt 33 = .ok (.iload 4, 2) := by decide +kernel
theorem dX8_wordAt_35 : decode cX8_wordAt 35 = .ok (.isub, 1) := by decide +kernel
theorem dX8_wordAt_36 : decode cX8_wordAt 36 = .ok (.iload_n 2, 1) := by decide +kernel
theorem dX8_wordAt_37 : decode cX8_wordAt 37 = .ok (.iload_n 1, 1) := by decide +kernel
theorem dX8_wordAt_38 : decode cX8_wordAt 38 = .ok (.isub, 1) := by decide +kernel
theorem dX8_wordAt_39 : decode cX8_wordAt 39 = .ok (.if_icmp .ne 17, 3) := by decide +kernel
theorem dX8_wordAt_42 : decode cX8_wordAt 42 = .ok (.aload_n 0, 1) := by decide +kernel
theorem dX8_wordAt_43 : decode cX8_wordAt 43 = .ok (.iload_n 1, 1) := by decide +kernel
theorem dX8_wordAt_44 : decode cX8_wordAt 44 = .ok (.iload 4, 2) := by decide +kernel
theorem dX8_wordAt_46 : decode cX8_wordAt 46 = .ok (.iload 5, 2) := by decide +kernel
theorem dX8_wordAt_48 : decode cX8_wordAt 48 = .ok (.invokestatic 78, 3) := by decide +kernel
theorem dX8_wordAt_51 : decode cX8_wordAt 51 = .ok (.ifCond .eq 5, 3) := by decide +kernel
theorem dX8_wordAt_54 : decode cX8_wordAt 54 = .ok (.iload_n 3, 1) := by decide +kernel
theorem dX8_wordAt_55 : decode cX8_wordAt 55 = .ok (.ireturn, 1) := by decide +kernel
theorem dX8_wordAt_56 : decode cX8_wordAt 56 = .ok (.iinc 3 1, 3) := by decide +kernel
theorem dX8_wordAt_59 : decode cX8_wordAt 59 = .ok (.iload 5, 2) := by decide +kernel
theorem dX8_wordAt_61 : decode cX8_wordAt 61 = .ok (.iconst 1, 1) := by decide +kernel
theorem dX8_wordAt_62 : decode cX8_wordAt 62 = .ok (.iadd, 1) := by decide +kernel
theorem dX8_wordAt_63 : decode cX8_wordAt 63 = .ok (.istore 4, 2) := by decide +kernel
theorem dX8_wordAt_65 : decode cX8_wordAt 65 = .ok (.iinc 5 1, 3) := by decide +kernel
theorem dX8_wordAt_68 : decode cX8_wordAt 68 = .ok (.goto (-59), 3) := by decide +kernel
theorem dX8_wordAt_71 : decode cX8_wordAt 71 = .ok (.iconst 1, 1) := by decide +kernel
theorem dX8_wordAt_72 : decode cX8_wordAt 72 = .ok (.ireturn, 1) := by decide +kernel
theorem dX8_isWord_0 : decode cX8_isWord 0 = .ok (.iload_n 2, 1) := by decide +kernel
theorem dX8_isWord_1 : decode cX8_isWord 1 = .ok (.istore 4, 2) := by decide +kernel
theorem dX8_isWord_3 : decode cX8_isWord 3 = .ok (.iload 4, 2) := by decide +kernel
theorem dX8_isWord_5 : decode cX8_isWord 5 = .ok (.iload_n 3, 1) := by decide +kernel
theorem dX8_isWord_6 : decode cX8_isWord 6 = .ok (.if_icmp .ge 29, 3) := by decide +kernel
theorem dX8_isWord_9 : decode cX8_isWord 9 = .ok (.ldc 66, 2) := by decide +kernel
theorem dX8_isWord_11 : decode cX8_isWord 11 = .ok (.iload 4, 2) := by decide +kernel
theorem dX8_isWord_13 : decode cX8_isWord 13 = .ok (.invokevirtual 74, 3) := by decide +kernel
theorem dX8_isWord_16 : decode cX8_isWord 16 = .ok (.aload_n 0, 1) := by decide +kernel
theorem dX8_isWord_17 : decode cX8_isWord 17 = .ok (.iload_n 1, 1) := by decide +kernel
theorem dX8_isWord_18 : decode cX8_isWord 18 = .ok (.iload 4, 2) := by decide +kernel
theorem dX8_isWord_20 : decode cX8_isWord 20 = .ok (.iadd, 1) := by decide +kernel
theorem dX8_isWord_21 : decode cX8_isWord 21 = .ok (.iload_n 2, 1) := by decide +kernel
theorem dX8_isWord_22 : decode cX8_isWord 22 = .ok (.isub, 1) := by decide +kernel
theorem dX8_isWord_23 : decode cX8_isWord 23 = .ok (.baload, 1) := by decide +kernel
theorem dX8_isWord_24 : decode cX8_isWord 24 = .ok (.if_icmp .eq 5, 3) := by decide +kernel
theorem dX8_isWord_27 : decode cX8_isWord 27 = .ok (.iconst 0, 1) := by decide +kernel
theorem dX8_isWord_28 : decode cX8_isWord 28 = .ok (.ireturn, 1) := by decide +kernel
theorem dX8_isWord_29 : decode cX8_isWord 29 = .ok (.iinc 4 1, 3) := by decide +kernel
theorem dX8_isWord_32 : decode cX8_isWord 32 = .ok (.goto (-29), 3) := by decide +kernel
theorem dX8_isWord_35 : decode cX8_isWord 35 = .ok (.iconst 1, 1) := by decide +kernel
theorem dX8_isWord_36 : decode cX8_isWord 36 = .ok (.ireturn, 1) := by decide +kernel
theorem dX8_signOf_0 : decode cX8_signOf 0 = .ok (.iload_n 0, 1) := by decide +kernel
theorem dX8_signOf_1 : decode cX8_signOf 1 = .ok (.lookupswitch 147 #[(37, 117), (42, 111), (43, 105), (45, 108), (47, 114), (59, 99), (60, 120), (61, 132), (62, 135), (91, 101), (93, 103)], 99) := by decide +kernel
theorem dX8_signOf_100 : decode cX8_signOf 100 = .ok (.iconst 3, 1) := by decide +kernel
theorem dX8_signOf_101 : decode cX8_signOf 101 = .ok (.ireturn, 1) := by decide +kernel
theorem dX8_signOf_102 : decode cX8_signOf 102 = .ok (.iconst 4, 1) := by decide +kernel
theorem dX8_signOf_103 : decode cX8_signOf 103 = .ok (.ireturn, 1) := by decide +kernel
theorem dX8_signOf_104 : decode cX8_signOf 104 = .ok (.iconst 5, 1) := by decide +kernel
theorem dX8_signOf_105 : decode cX8_signOf 105 = .ok (.ireturn, 1) := by decide +kernel
theorem dX8_signOf_106 : decode cX8_signOf 106 = .ok (.bipush 6, 2) := by decide +kernel
theorem dX8_signOf_108 : decode cX8_signOf 108 = .ok (.ireturn, 1) := by decide +kernel
theorem dX8_signOf_109 : decode cX8_signOf 109 = .ok (.bipush 7, 2) := by decide +kernel
theorem dX8_signOf_111 : decode cX8_signOf 111 = .ok (.ireturn, 1) := by decide +kernel
theorem dX8_signOf_112 : decode cX8_signOf 112 = .ok (.bipush 8, 2) := by decide +kernel
theorem dX8_signOf_114 : decode cX8_signOf 114 = .ok (.ireturn, 1) := by decide +kernel
theorem dX8_signOf_115 : decode cX8_signOf 115 = .ok (.bipush 9, 2) := by decide +kernel
theorem dX8_signOf_117 : decode cX8_signOf 117 = .ok (.ireturn, 1) := by decide +kernel
theorem dX8_signOf_118 : decode cX8_signOf 118 = .ok (.bipush 10, 2) := by decide +kernel
theorem dX8_signOf_120 : decode cX8_signOf 120 = .ok (.ireturn, 1) := by decide +kernel
theorem dX8_signOf_121 : decode cX8_signOf 121 = .ok (.iload_n 1, 1) := by decide +kernel
theorem dX8_signOf_122 : decode cX8_signOf 122 = .ok (.ifCond .eq 8, 3) := by decide +kernel
theorem dX8_signOf_125 : decode cX8_signOf 125 = .ok (.bipush 12, 2) := by decide +kernel
theorem dX8_signOf_127 : decode cX8_signOf 127 = .ok (.goto 5, 3) := by decide +kernel
theorem dX8_signOf_130 : decode cX8_signOf 130 = .ok (.bipush 11, 2) := by decide +kernel
theorem dX8_signOf_132 : decode cX8_signOf 132 = .ok (.ireturn, 1) := by decide +kernel
theorem dX8_signOf_133 : decode cX8_signOf 133 = .ok (.bipush 13, 2) := by decide +kernel
theorem dX8_signOf_135 : decode cX8_signOf 135 = .ok (.ireturn, 1) := by decide +kernel
theorem dX8_signOf_136 : decode cX8_signOf 136 = .ok (.iload_n 1, 1) := by decide +kernel
theorem dX8_signOf_137 : decode cX8_signOf 137 = .ok (.ifCond .eq 8, 3) := by decide +kernel
theorem dX8_signOf_140 : decode cX8_signOf 140 = .ok (.bipush 14, 2) := by decide +kernel
theorem dX8_signOf_142 : decode cX8_signOf 142 = .ok (.goto 5, 3) := by decide +kernel
theorem dX8_signOf_145 : decode cX8_signOf 145 = .ok (.bipush 15, 2) := by decide +kernel
theorem dX8_signOf_147 : decode cX8_signOf 147 = .ok (.ireturn, 1) := by decide +kernel
theorem dX8_signOf_148 : decode cX8_signOf 148 = .ok (.iconst 1, 1) := by decide +kernel
theorem dX8_signOf_149 : decode cX8_signOf 149 = .ok (.ireturn, 1) := by decide +kernel
theorem dX8_kind_0 : decode cX8_kind 0 = .ok (.aload_n 0, 1) := by decide +kernel
theorem dX8_kind_1 : decode cX8_kind 1 = .ok (.getfield 25, 3) := by decide +kernel
theorem dX8_kind_4 : decode cX8_kind 4 = .ok (.aload_n 0, 1) := by decide +kernel
theorem dX8_kind_5 : decode cX8_kind 5 = .ok (.getfield 21, 3) := by decide +kernel
theorem dX8_kind_8 : decode cX8_kind 8 = .ok (.if_icmp .ge 15, 3) := by decide +kernel
theorem dX8_kind_11 : decode cX8_kind 11 = .ok (.aload_n 0, 1) := by decide +kernel
theorem dX8_kind_12 : decode cX8_kind 12 = .ok (.getfield 9, 3) := by decide +kernel
theorem dX8_kind_15 : decode cX8_kind 15 = .ok (.aload_n 0, 1) := by decide +kernel
theorem dX8_kind_16 : decode cX8_kind 16 = .ok (.getfield 25, 3) := by decide +kernel
theorem dX8_kind_19 : decode cX8_kind 19 = .ok (.iaload, 1) := by decide +kernel
theorem dX8_kind_20 : decode cX8_kind 20 = .ok (.goto 4, 3) := by decide +kernel
theorem dX8_kind_23 : decode cX8_kind 23 = .ok (.iconst 0, 1) := by decide +kernel
theorem dX8_kind_24 : decode cX8_kind 24 = .ok (.ireturn, 1) := by decide +kernel
theorem dX8_number_0 : decode cX8_number 0 = .ok (.aload_n 0, 1) := by decide +kernel
theorem dX8_number_1 : decode cX8_number 1 = .ok (.getfield 25, 3) := by decide +kernel
theorem dX8_number_4 : decode cX8_number 4 = .ok (.aload_n 0, 1) := by decide +kernel
theorem dX8_number_5 : decode cX8_number 5 = .ok (.getfield 21, 3) := by decide +kernel
theorem dX8_number_8 : decode cX8_number 8 = .ok (.if_icmp .ge 15, 3) := by decide +kernel
theorem dX8_number_11 : decode cX8_number 11 = .ok (.aload_n 0, 1) := by decide +kernel
theorem dX8_number_12 : decode cX8_number 12 = .ok (.getfield 18, 3) := by decide +kernel
theorem dX8_number_15 : decode cX8_number 15 = .ok (.aload_n 0, 1) := by decide +kernel
theorem dX8_number_16 : decode cX8_number 16 = .ok (.getfield 25, 3) := by decide +kernel
theorem dX8_number_19 : decode cX8_number 19 = .ok (.iaload, 1) := by decide +kernel
theorem dX8_number_20 : decode cX8_number 20 = .ok (.goto 4, 3) := by decide +kernel
theorem dX8_number_23 : decode cX8_number 23 = .ok (.iconst 0, 1) := by decide +kernel
theorem dX8_number_24 : decode cX8_number 24 = .ok (.ireturn, 1) := by decide +kernel
theorem dX8_step_0 : decode cX8_step 0 = .ok (.aload_n 0, 1) := by decide +kernel
theorem dX8_step_1 : decode cX8_step 1 = .ok (.getfield 25, 3) := by decide +kernel
theorem dX8_step_4 : decode cX8_step 4 = .ok (.aload_n 0, 1) := by decide +kernel
theorem dX8_step_5 : decode cX8_step 5 = .ok (.getfield 21, 3) := by decide +kernel
theorem dX8_step_8 : decode cX8_step 8 = .ok (.iconst 1, 1) := by decide +kernel
theorem dX8_step_9 : decode cX8_step 9 = .ok (.isub, 1) := by decide +kernel
theorem dX8_step_10 : decode cX8_step 10 = .ok (.if_icmp .ge 13, 3) := by decide +kernel
theorem dX8_step_13 : decode cX8_step 13 = .ok (.aload_n 0, 1) := by decide +kernel
theorem dX8_step_14 : decode cX8_step 14 = .ok (.dup, 1) := by decide +kernel
theorem dX8_step_15 : decode cX8_step 15 = .ok (.getfield 25, 3) := by decide +kernel
theorem dX8_step_18 : decode cX8_step 18 = .ok (.iconst 1, 1) := by decide +kernel
theorem dX8_step_19 : decode cX8_step 19 = .ok (.iadd, 1) := by decide +kernel
theorem dX8_step_20 : decode cX8_step 20 = .ok (.putfield 25, 3) := by decide +kernel
theorem dX8_step_23 : decode cX8_step 23 = .ok (.return_, 1) := by decide +kernel
theorem dX8_fail_0 : decode cX8_fail 0 = .ok (.aload_n 0, 1) := by decide +kernel
theorem dX8_fail_1 : decode cX8_fail 1 = .ok (.getfield 28, 3) := by decide +kernel
theorem dX8_fail_4 : decode cX8_fail 4 = .ok (.ifCond .ne 34, 3) := by decide +kernel
theorem dX8_fail_7 : decode cX8_fail 7 = .ok (.aload_n 0, 1) := by decide +kernel
theorem dX8_fail_8 : decode cX8_fail 8 = .ok (.getfield 25, 3) := by decide +kernel
theorem dX8_fail_11 : decode cX8_fail 11 = .ok (.aload_n 0, 1) := by decide +kernel
theorem dX8_fail_12 : decode cX8_fail 12 = .ok (.getfield 21, 3) := by decide +kernel
theorem dX8_fail_15 : decode cX8_fail 15 = .ok (.if_icmp .ge 23, 3) := by decide +kernel
theorem dX8_fail_18 : decode cX8_fail 18 = .ok (.aload_n 0, 1) := by decide +kernel
theorem dX8_fail_19 : decode cX8_fail 19 = .ok (.iconst 1, 1) := by decide +kernel
theorem dX8_fail_20 : decode cX8_fail 20 = .ok (.bipush 8, 2) := by decide +kernel
theorem dX8_fail_22 : decode cX8_fail 22 = .ok (.aload_n 0, 1) := by decide +kernel
theorem dX8_fail_23 : decode cX8_fail 23 = .ok (.getfield 15, 3) := by decide +kernel
theorem dX8_fail_26 : decode cX8_fail 26 = .ok (.aload_n 0, 1) := by decide +kernel
theorem dX8_fail_27 : decode cX8_fail 27 = .ok (.getfield 25, 3) := by decide +kernel
theorem dX8_fail_30 : decode cX8_fail 30 = .ok (.iaload, 1) := by decide +kernel
theorem dX8_fail_31 : decode cX8_fail 31 = .ok (.imul, 1) := by decide +kernel
theorem dX8_fail_32 : decode cX8_fail 32 = .ok (.iadd, 1) := by decide +kernel
theorem dX8_fail_33 : decode cX8_fail 33 = .ok (.iload_n 1, 1) := by decide +kernel
theorem dX8_fail_34 : decode cX8_fail 34 = .ok (.iadd, 1) := by decide +kernel
theorem dX8_fail_35 : decode cX8_fail 35 = .ok (.putfield 28, 3) := by decide +kernel
theorem dX8_fail_38 : decode cX8_fail 38 = .ok (.return_, 1) := by decide +kernel
theorem dX9_init_0 : decode cX9_init 0 = .ok (.aload_n 0, 1) := by decide +kernel
theorem dX9_init_1 : decode cX9_init 1 = .ok (.invokespecial 3, 3) := by decide +kernel
theorem dX9_init_4 : decode cX9_init 4 = .ok (.aload_n 0, 1) := by decide +kernel
theorem dX9_init_5 : decode cX9_init 5 = .ok (.sipush 4096, 3) := by decide +kernel
theorem dX9_init_8 : decode cX9_init 8 = .ok (.newarray .int, 2) := by decide +kernel
theorem dX9_init_10 : decode cX9_init 10 = .ok (.putfield 9, 3) := by decide +kernel
theorem dX9_init_13 : decode cX9_init 13 = .ok (.aload_n 0, 1) := by decide +kernel
theorem dX9_init_14 : decode cX9_init 14 = .ok (.sipush 4096, 3) := by decide +kernel
theorem dX9_init_17 : decode cX9_init 17 = .ok (.newarray .int, 2) := by decide +kernel
theorem dX9_init_19 : decode cX9_init 19 = .ok (.putfield 15, 3) := by decide +kernel
theorem dX9_init_22 : decode cX9_init 22 = .ok (.aload_n 0, 1) := by decide +kernel
theorem dX9_init_23 : decode cX9_init 23 = .ok (.sipush 1000, 3) := by decide +kernel
theorem dX9_init_26 : decode cX9_init 26 = .ok (.newarray .boolean, 2) := by decide +kernel
theorem dX9_init_28 : decode cX9_init 28 = .ok (.putfield 18, 3) := by decide +kernel
theorem dX9_init_31 : decode cX9_init 31 = .ok (.aload_n 0, 1) := by decide +kernel
theorem dX9_init_32 : decode cX9_init 32 = .ok (.aload_n 1, 1) := by decide +kernel
theorem dX9_init_33 : decode cX9_init 33 = .ok (.putfield 22, 3) := by decide +kernel
theorem dX9_init_36 : decode cX9_init 36 = .ok (.aload_n 0, 1) := by decide +kernel
theorem dX9_init_37 : decode cX9_init 37 = .ok (.aload_n 2, 1) := by decide +kernel
theorem dX9_init_38 : decode cX9_init 38 = .ok (.putfield 26, 3) := by decide +kernel
theorem dX9_init_41 : decode cX9_init 41 = .ok (.return_, 1) := by decide +kernel
theorem dX9_coinsTogether_0 : decode cX9_coinsTogether 0 = .ok (.aload_n 0, 1) := by decide +kernel
theorem dX9_coinsTogether_1 : decode cX9_coinsTogether 1 = .ok (.getfield 30, 3) := by decide +kernel
theorem dX9_coinsTogether_4 : decode cX9_coinsTogether 4 = .ok (.invokestatic 34, 3) := by decide +kernel
theorem dX9_coinsTogether_7 : decode cX9_coinsTogether 7 = .ok (.aload_n 0, 1) := by decide +kernel
theorem dX9_coinsTogether_8 : decode cX9_coinsTogether 8 = .ok (.getfield 40, 3) := by decide +kernel
theorem dX9_coinsTogether_11 : decode cX9_coinsTogether 11 = .ok (.invokestatic 34, 3) := by decide +kernel
theorem dX9_coinsTogether_14 : decode cX9_coinsTogether 14 = .ok (.iadd, 1) := by decide +kernel
theorem dX9_coinsTogether_15 : decode cX9_coinsTogether 15 = .ok (.ireturn, 1) := by decide +kernel
theorem dX9_findPayment_0 : decode cX9_findPayment 0 = .ok (.aload_n 0, 1) := by decide +kernel
theorem dX9_findPayment_1 : decode cX9_findPayment 1 = .ok (.getfield 26, 3) := by decide +kernel
theorem dX9_findPayment_4 : decode cX9_findPayment 4 = .ok (.aload_n 0, 1) := by decide +kernel
theorem dX9_findPayment_5 : decode cX9_findPayment 5 = .ok (.getfield 22, 3) := by decide +kernel
theorem dX9_findPayment_8 : decode cX9_findPayment 8 = .ok (.iload_n 1, 1) := by decide +kernel
theorem dX9_findPayment_9 : decode cX9_findPayment 9 = .ok (.invokevirtual 43, 3) := by decide +kernel
theorem dX9_findPayment_12 : decode cX9_findPayment 12 = .ok (.bipush 12, 2) := by decide +kernel
theorem dX9_findPayment_14 : decode cX9_findPayment 14 = .ok (.invokevirtual 48, 3) := by decide +kernel
theorem dX9_findPayment_17 : decode cX9_findPayment 17 = .ok (.aload_n 0, 1) := by decide +kernel
theorem dX9_findPayment_18 : decode cX9_findPayment 18 = .ok (.getfield 26, 3) := by decide +kernel
theorem dX9_findPayment_21 : decode cX9_findPayment 21 = .ok (.aload_n 0, 1) := by decide +kernel
theorem dX9_findPayment_22 : decode cX9_findPayment 22 = .ok (.getfield 22, 3) := by decide +kernel
theorem dX9_findPayment_25 : decode cX9_findPayment 25 = .ok (.iload_n 2, 1) := by decide +kernel
theorem dX9_findPayment_26 : decode cX9_findPayment 26 = .ok (.invokevirtual 43, 3) := by decide +kernel
theorem dX9_findPayment_29 : decode cX9_findPayment 29 = .ok (.bipush 12, 2) := by decide +kernel
theorem dX9_findPayment_31 : decode cX9_findPayment 31 = .ok (.invokevirtual 48, 3) := by decide +kernel
theorem dX9_findPayment_34 : decode cX9_findPayment 34 = .ok (.aload_n 0, 1) := by decide +kernel
theorem dX9_findPayment_35 : decode cX9_findPayment 35 = .ok (.aload_n 0, 1) := by decide +kernel
theorem dX9_findPayment_36 : decode cX9_findPayment 36 = .ok (.getfield 22, 3) := by decide +kernel
theorem dX9_findPayment_39 : decode cX9_findPayment 39 = .ok (.iload_n 1, 1) := by decide +kernel
theorem dX9_findPayment_40 : decode cX9_findPayment 40 = .ok (.invokevirtual 43, 3) := by decide +kernel
theorem dX9_findPayment_43 : decode cX9_findPayment 43 = .ok (.aload_n 0, 1) := by decide +kernel
theorem dX9_findPayment_44 : decode cX9_findPayment 44 = .ok (.getfield 9, 3) := by decide +kernel
theorem dX9_findPayment_47 : decode cX9_findPayment 47 = .ok (.invokevirtual 54, 3) := by decide +kernel
theorem dX9_findPayment_50 : decode cX9_findPayment 50 = .ok (.istore 4, 2) := by decide +kernel
theorem dX9_findPayment_52 : decode cX9_findPayment 52 = .ok (.aload_n 0, 1) := by decide +kernel
theorem dX9_findPayment_53 : decode cX9_findPayment 53 = .ok (.aload_n 0, 1) := by decide +kernel
theorem dX9_findPayment_54 : decode cX9_findPayment 54 = .ok (.getfield 22, 3) := by decide +kernel
theorem dX9_findPayment_57 : decode cX9_findPayment 57 = .ok (.iload_n 2, 1) := by decide +kernel
theorem dX9_findPayment_58 : decode cX9_findPayment 58 = .ok (.invokevirtual 43, 3) := by decide +kernel
theorem dX9_findPayment_61 : decode cX9_findPayment 61 = .ok (.aload_n 0, 1) := by decide +kernel
theorem dX9_findPayment_62 : decode cX9_findPayment 62 = .ok (.getfield 15, 3) := by decide +kernel
theorem dX9_findPayment_65 : decode cX9_findPayment 65 = .ok (.invokevirtual 54, 3) := by decide +kernel
theorem dX9_findPayment_68 : decode cX9_findPayment 68 = .ok (.istore 5, 2) := by decide +kernel
theorem dX9_findPayment_70 : decode cX9_findPayment 70 = .ok (.bipush 13, 2) := by decide +kernel
theorem dX9_findPayment_72 : decode cX9_findPayment 72 = .ok (.istore 6, 2) := by decide +kernel
theorem dX9_findPayment_74 : decode cX9_findPayment 74 = .ok (.iconst 0, 1) := by decide +kernel
theorem dX9_findPayment_75 : decode cX9_findPayment 75 = .ok (.istore 7, 2) := by decide +kernel
theorem dX9_findPayment_77 : decode cX9_findPayment 77 = .ok (.iload 7, 2) := by decide +kernel
theorem dX9_findPayment_79 : decode cX9_findPayment 79 = .ok (.iload 4, 2) := by decide +kernel
theorem dX9_findPayment_81 : decode cX9_findPayment 81 = .ok (.if_icmp .ge 114, 3) := by decide +kernel
theorem dX9_findPayment_84 : decode cX9_findPayment 84 = .ok (.iconst 0, 1) := by decide +kernel
theorem dX9_findPayment_85 : decode cX9_findPayment 85 = .ok (.istore 8, 2) := by decide +kernel
theorem dX9_findPayment_87 : decode cX9_findPayment 87 = .ok (.iload 8, 2) := by decide +kernel
theorem dX9_findPayment_89 : decode cX9_findPayment 89 = .ok (.iload 5, 2) := by decide +kernel
theorem dX9_findPayment_91 : decode cX9_findPayment 91 = .ok (.if_icmp .ge 98, 3) := by decide +kernel
theorem dX9_findPayment_94 : decode cX9_findPayment 94 = .ok (.aload_n 0, 1) := by decide +kernel
theorem dX9_findPayment_95 : decode cX9_findPayment 95 = .ok (.getfield 9, 3) := by decide +kernel
theorem dX9_findPayment_98 : decode cX9_findPayment 98 = .ok (.iload 7, 2) := by decide +kernel
theorem dX9_findPayment_100 : decode cX9_findPayment 100 = .ok (.iaload, 1) := by decide +kernel
theorem dX9_findPayment_101 : decode cX9_findPayment 101 = .ok (.invokestatic 34, 3) := by decide +kernel
theorem dX9_findPayment_104 : decode cX9_findPayment 104 = .ok (.aload_n 0, 1) := by decide +kernel
theorem dX9_findPayment_105 : decode cX9_findPayment 105 = .ok (.getfield 15, 3) := by decide +kernel
theorem dX9_findPayment_108 : decode cX9_findPayment 108 = .ok (.iload 8, 2) := by decide +kernel
theorem dX9_findPayment_110 : decode cX9_findPayment 110 = .ok (.iaload, 1) := by decide +kernel
theorem dX9_findPayment_111 : decode cX9_findPayment 111 = .ok (.invokestatic 34, 3) := by decide +kernel
theorem dX9_findPayment_114 : decode cX9_findPayment 114 = .ok (.iadd, 1) := by decide +kernel
theorem dX9_findPayment_115 : decode cX9_findPayment 115 = .ok (.istore 9, 2) := by decide +kernel
theorem dX9_findPayment_117 : decode cX9_findPayment 117 = .ok (.iload 9, 2) := by decide +kernel
theorem dX9_findPayment_119 : decode cX9_findPayment 119 = .ok (.iload 6, 2) := by decide +kernel
theorem dX9_findPayment_121 : decode cX9_findPayment 121 = .ok (.if_icmp .ge 62, 3) := by decide +kernel
theorem dX9_findPayment_124 : decode cX9_findPayment 124 = .ok (.aload_n 0, 1) := by decide +kernel
theorem dX9_findPayment_125 : decode cX9_findPayment 125 = .ok (.getfield 26, 3) := by decide +kernel
theorem dX9_findPayment_128 : decode cX9_findPayment 128 = .ok (.aload_n 0, 1) := by decide +kernel
theorem dX9_findPayment_129 : decode cX9_findPayment 129 = .ok (.getfield 9, 3) := by decide +kernel
theorem dX9_findPayment_132 : decode cX9_findPayment 132 = .ok (.iload 7, 2) := by decide +kernel
theorem dX9_findPayment_134 : decode cX9_findPayment 134 = .ok (.iaload, 1) := by decide +kernel
theorem dX9_findPayment_135 : decode cX9_findPayment 135 = .ok (.invokevirtual 58, 3) := by decide +kernel
theorem dX9_findPayment_138 : decode cX9_findPayment 138 = .ok (.aload_n 0, 1) := by decide +kernel
theorem dX9_findPayment_139 : decode cX9_findPayment 139 = .ok (.getfield 26, 3) := by decide +kernel
theorem dX9_findPayment_142 : decode cX9_findPayment 142 = .ok (.aload_n 0, 1) := by decide +kernel
theorem dX9_findPayment_143 : decode cX9_findPayment 143 = .ok (.getfield 15, 3) := by decide +kernel
theorem dX9_findPayment_146 : decode cX9_findPayment 146 = .ok (.iload 8, 2) := by decide +kernel
theorem dX9_findPayment_148 : decode cX9_findPayment 148 = .ok (.iaload, 1) := by decide +kernel
theorem dX9_findPayment_149 : decode cX9_findPayment 149 = .ok (.invokevirtual 58, 3) := by decide +kernel
theorem dX9_findPayment_152 : decode cX9_findPayment 152 = .ok (.isub, 1) := by decide +kernel
theorem dX9_findPayment_153 : decode cX9_findPayment 153 = .ok (.iload_n 3, 1) := by decide +kernel
theorem dX9_findPayment_154 : decode cX9_findPayment 154 = .ok (.if_icmp .ne 29, 3) := by decide +kernel
theorem dX9_findPayment_157 : decode cX9_findPayment 157 = .ok (.iload 9, 2) := by decide +kernel
theorem dX9_findPayment_159 : decode cX9_findPayment 159 = .ok (.istore 6, 2) := by decide +kernel
theorem dX9_findPayment_161 : decode cX9_findPayment 161 = .ok (.aload_n 0, 1) := by decide +kernel
theorem dX9_findPayment_162 : decode cX9_findPayment 162 = .ok (.aload_n 0, 1) := by decide +kernel
theorem dX9_findPayment_163 : decode cX9_findPayment 163 = .ok (.getfield 9, 3) := by decide +kernel
theorem dX9_findPayment_166 : decode cX9_findPayment 166 = .ok (.iload 7, 2) := by decide +kernel
theorem dX9_findPayment_168 : decode cX9_findPayment 168 = .ok (.iaload, 1) := by decide +kernel
theorem dX9_findPayment_169 : decode cX9_findPayment 169 = .ok (.putfield 30, 3) := by decide +kernel
theorem dX9_findPayment_172 : decode cX9_findPayment 172 = .ok (.aload_n 0, 1) := by decide +kernel
theorem dX9_findPayment_173 : decode cX9_findPayment 173 = .ok (.aload_n 0, 1) := by decide +kernel
theorem dX9_findPayment_174 : decode cX9_findPayment 174 = .ok (.getfield 15, 3) := by decide +kernel
theorem dX9_findPayment_177 : decode cX9_findPayment 177 = .ok (.iload 8, 2) := by decide +kernel
theorem dX9_findPayment_179 : decode cX9_findPayment 179 = .ok (.iaload, 1) := by decide +kernel
theorem dX9_findPayment_180 : decode cX9_findPayment 180 = .ok (.putfield 40, 3) := by decide +kernel
theorem dX9_findPayment_183 : decode cX9_findPayment 183 = .ok (.iinc 8 1, 3) := by decide +kernel
theorem dX9_findPayment_186 : decode cX9_findPayment 186 = .ok (.goto (-99), 3) := by decide +kernel
theorem dX9_findPayment_189 : decode cX9_findPayment 189 = .ok (.iinc 7 1, 3) := by decide +kernel
theorem dX9_findPayment_192 : decode cX9_findPayment 192 = .ok (.goto (-115), 3) := by decide +kernel
theorem dX9_findPayment_195 : decode cX9_findPayment 195 = .ok (.iload 6, 2) := by decide +kernel
theorem dX9_findPayment_197 : decode cX9_findPayment 197 = .ok (.bipush 12, 2) := by decide +kernel
theorem dX9_findPayment_199 : decode cX9_findPayment 199 = .ok (.if_icmp .gt 7, 3) := by decide +kernel
theorem dX9_findPayment_202 : decode cX9_findPayment 202 = .ok (.iconst 1, 1) := by decide +kernel
theorem dX9_findPayment_203 : decode cX9_findPayment 203 = .ok (.goto 4, 3) := by decide +kernel
theorem dX9_findPayment_206 : decode cX9_findPayment 206 = .ok (.iconst 0, 1) := by decide +kernel
theorem dX9_findPayment_207 : decode cX9_findPayment 207 = .ok (.ireturn, 1) := by decide +kernel
theorem dX9_payablePrices_0 : decode cX9_payablePrices 0 = .ok (.aload_n 0, 1) := by decide +kernel
theorem dX9_payablePrices_1 : decode cX9_payablePrices 1 = .ok (.getfield 26, 3) := by decide +kernel
theorem dX9_payablePrices_4 : decode cX9_payablePrices 4 = .ok (.aload_n 0, 1) := by decide +kernel
theorem dX9_payablePrices_5 : decode cX9_payablePrices 5 = .ok (.getfield 22, 3) := by decide +kernel
theorem dX9_payablePrices_8 : decode cX9_payablePrices 8 = .ok (.iload_n 1, 1) := by decide +kernel
theorem dX9_payablePrices_9 : decode cX9_payablePrices 9 = .ok (.invokevirtual 43, 3) := by decide +kernel
theorem dX9_payablePrices_12 : decode cX9_payablePrices 12 = .ok (.bipush 12, 2) := by decide +kernel
theorem dX9_payablePrices_14 : decode cX9_payablePrices 14 = .ok (.invokevirtual 48, 3) := by decide +kernel
theorem dX9_payablePrices_17 : decode cX9_payablePrices 17 = .ok (.aload_n 0, 1) := by decide +kernel
theorem dX9_payablePrices_18 : decode cX9_payablePrices 18 = .ok (.getfield 26, 3) := by decide +kernel
theorem dX9_payablePrices_21 : decode cX9_payablePrices 21 = .ok (.aload_n 0, 1) := by decide +kernel
theorem dX9_payablePrices_22 : decode cX9_payablePrices 22 = .ok (.getfield 22, 3) := by decide +kernel
theorem dX9_payablePrices_25 : decode cX9_payablePrices 25 = .ok (.iload_n 2, 1) := by decide +kernel
theorem dX9_payablePrices_26 : decode cX9_payablePrices 26 = .ok (.invokevirtual 43, 3) := by decide +kernel
theorem dX9_payablePrices_29 : decode cX9_payablePrices 29 = .ok (.bipush 12, 2) := by decide +kernel
theorem dX9_payablePrices_31 : decode cX9_payablePrices 31 = .ok (.invokevirtual 48, 3) := by decide +kernel
theorem dX9_payablePrices_34 : decode cX9_payablePrices 34 = .ok (.aload_n 0, 1) := by decide +kernel
theorem dX9_payablePrices_35 : decode cX9_payablePrices 35 = .ok (.aload_n 0, 1) := by decide +kernel
theorem dX9_payablePrices_36 : decode cX9_payablePrices 36 = .ok (.getfield 22, 3) := by decide +kernel
theorem dX9_payablePrices_39 : decode cX9_payablePrices 39 = .ok (.iload_n 1, 1) := by decide +kernel
theorem dX9_payablePrices_40 : decode cX9_payablePrices 40 = .ok (.invokevirtual 43, 3) := by decide +kernel
theorem dX9_payablePrices_43 : decode cX9_payablePrices 43 = .ok (.aload_n 0, 1) := by decide +kernel
theorem dX9_payablePrices_44 : decode cX9_payablePrices 44 = .ok (.getfield 9, 3) := by decide +kernel
theorem dX9_payablePrices_47 : decode cX9_payablePrices 47 = .ok (.invokevirtual 54, 3) := by decide +kernel
theorem dX9_payablePrices_50 : decode cX9_payablePrices 50 = .ok (.istore 4, 2) := by decide +kernel
theorem dX9_payablePrices_52 : decode cX9_payablePrices 52 = .ok (.aload_n 0, 1) := by decide +kernel
theorem dX9_payablePrices_53 : decode cX9_payablePrices 53 = .ok (.aload_n 0, 1) := by decide +kernel
theorem dX9_payablePrices_54 : decode cX9_payablePrices 54 = .ok (.getfield 22, 3) := by decide +kernel
theorem dX9_payablePrices_57 : decode cX9_payablePrices 57 = .ok (.iload_n 2, 1) := by decide +kernel
theorem dX9_payablePrices_58 : decode cX9_payablePrices 58 = .ok (.invokevirtual 43, 3) := by decide +kernel
theorem dX9_payablePrices_61 : decode cX9_payablePrices 61 = .ok (.aload_n 0, 1) := by decide +kernel
theorem dX9_payablePrices_62 : decode cX9_payablePrices 62 = .ok (.getfield 15, 3) := by decide +kernel
theorem dX9_payablePrices_65 : decode cX9_payablePrices 65 = .ok (.invokevirtual 54, 3) := by decide +kernel
theorem dX9_payablePrices_68 : decode cX9_payablePrices 68 = .ok (.istore 5, 2) := by decide +kernel
theorem dX9_payablePrices_70 : decode cX9_payablePrices 70 = .ok (.iconst 0, 1) := by decide +kernel
theorem dX9_payablePrices_71 : decode cX9_payablePrices 71 = .ok (.istore 6, 2) := by decide +kernel
theorem dX9_payablePrices_73 : decode cX9_payablePrices 73 = .ok (.iload 6, 2) := by decide +kernel
theorem dX9_payablePrices_75 : decode cX9_payablePrices 75 = .ok (.sipush 999, 3) := by decide +kernel
theorem dX9_payablePrices_78 : decode cX9_payablePrices 78 = .ok (.if_icmp .gt 17, 3) := by decide +kernel
theorem dX9_payablePrices_81 : decode cX9_payablePrices 81 = .ok (.aload_n 0, 1) := by decide +kernel
theorem dX9_payablePrices_82 : decode cX9_payablePrices 82 = .ok (.getfield 18, 3) := by decide +kernel
theorem dX9_payablePrices_85 : decode cX9_payablePrices 85 = .ok (.iload 6, 2) := by decide +kernel
theorem dX9_payablePrices_87 : decode cX9_payablePrices 87 = .ok (.iconst 0, 1) := by decide +kernel
theorem dX9_payablePrices_88 : decode cX9_payablePrices 88 = .ok (.bastore, 1) := by decide +kernel
theorem dX9_payablePrices_89 : decode cX9_payablePrices 89 = .ok (.iinc 6 1, 3) := by decide +kernel
theorem dX9_payablePrices_92 : decode cX9_payablePrices 92 = .ok (.goto (-19), 3) := by decide +kernel
theorem dX9_payablePrices_95 : decode cX9_payablePrices 95 = .ok (.iconst 0, 1) := by decide +kernel
theorem dX9_payablePrices_96 : decode cX9_payablePrices 96 = .ok (.istore 6, 2) := by decide +kernel
theorem dX9_payablePrices_98 : decode cX9_payablePrices 98 = .ok (.iconst 0, 1) := by decide +kernel
theorem dX9_payablePrices_99 : decode cX9_payablePrices 99 = .ok (.istore 7, 2) := by decide +kernel
theorem dX9_payablePrices_101 : decode cX9_payablePrices 101 = .ok (.iload 7, 2) := by decide +kernel
theorem dX9_payablePrices_103 : decode cX9_payablePrices 103 = .ok (.iload 4, 2) := by decide +kernel
theorem dX9_payablePrices_105 : decode cX9_payablePrices 105 = .ok (.if_icmp .ge 97, 3) := by decide +kernel
theorem dX9_payablePrices_108 : decode cX9_payablePrices 108 = .ok (.iconst 0, 1) := by decide +kernel
theorem dX9_payablePrices_109 : decode cX9_payablePrices 109 = .ok (.istore 8, 2) := by decide +kernel
theorem dX9_payablePrices_111 : decode cX9_payablePrices 111 = .ok (.iload 8, 2) := by decide +kernel
theorem dX9_payablePrices_113 : decode cX9_payablePrices 113 = .ok (.iload 5, 2) := by decide +kernel
theorem dX9_payablePrices_115 : decode cX9_payablePrices 115 = .ok (.if_icmp .ge 81, 3) := by decide +kernel
theorem dX9_payablePrices_118 : decode cX9_payablePrices 118 = .ok (.aload_n 0, 1) := by decide +kernel
theorem dX9_payablePrices_119 : decode cX9_payablePrices 119 = .ok (.getfield 26, 3) := by decide +kernel
theorem dX9_payablePrices_122 : decode cX9_payablePrices 122 = .ok (.aload_n 0, 1) := by decide +kernel
theorem dX9_payablePrices_123 : decode cX9_payablePrices 123 = .ok (.getfield 9, 3) := by decide +kernel
theorem dX9_payablePrices_126 : decode cX9_payablePrices 126 = .ok (.iload 7, 2) := by decide +kernel
theorem dX9_payablePrices_128 : decode cX9_payablePrices 128 = .ok (.iaload, 1) := by decide +kernel
theorem dX9_payablePrices_129 : decode cX9_payablePrices 129 = .ok (.invokevirtual 58, 3) := by decide +kernel
theorem dX9_payablePrices_132 : decode cX9_payablePrices 132 = .ok (.aload_n 0, 1) := by decide +kernel
theorem dX9_payablePrices_133 : decode cX9_payablePrices 133 = .ok (.getfield 26, 3) := by decide +kernel
theorem dX9_payablePrices_136 : decode cX9_payablePrices 136 = .ok (.aload_n 0, 1) := by decide +kernel
theorem dX9_payablePrices_137 : decode cX9_payablePrices 137 = .ok (.getfield 15, 3) := by decide +kernel
theorem dX9_payablePrices_140 : decode cX9_payablePrices 140 = .ok (.iload 8, 2) := by decide +kernel
theorem dX9_payablePrices_142 : decode cX9_payablePrices 142 = .ok (.iaload, 1) := by decide +kernel
theorem dX9_payablePrices_143 : decode cX9_payablePrices 143 = .ok (.invokevirtual 58, 3) := by decide +kernel
theorem dX9_payablePrices_146 : decode cX9_payablePrices 146 = .ok (.isub, 1) := by decide +kernel
theorem dX9_payablePrices_147 : decode cX9_payablePrices 147 = .ok (.istore 9, 2) := by decide +kernel
theorem dX9_payablePrices_149 : decode cX9_payablePrices 149 = .ok (.iload 9, 2) := by decide +kernel
theorem dX9_payablePrices_151 : decode cX9_payablePrices 151 = .ok (.iconst 1, 1) := by decide +kernel
theorem dX9_payablePrices_152 : decode cX9_payablePrices 152 = .ok (.if_icmp .lt 38, 3) := by decide +kernel
theorem dX9_payablePrices_155 : decode cX9_payablePrices 155 = .ok (.iload 9, 2) := by decide +kernel
theorem dX9_payablePrices_157 : decode cX9_payablePrices 157 = .ok (.iload_n 3, 1) := by decide +kernel
theorem dX9_payablePrices_158 : decode cX9_payablePrices 158 = .ok (.if_icmp .gt 32, 3) := by decide +kernel
theorem dX9_payablePrices_161 : decode cX9_payablePrices 161 = .ok (.iload 9, 2) := by decide +kernel
theorem dX9_payablePrices_163 : decode cX9_payablePrices 163 = .ok (.sipush 999, 3) := by decide +kernel
theorem dX9_payablePrices_166 : decode cX9_payablePrices 166 = .ok (.if_icmp .gt 24, 3) := by decide +kernel
theorem dX9_payablePrices_169 : decode cX9_payablePrices 169 = .ok (.aload_n 0, 1) := by decide +kernel
theorem dX9_payablePrices_170 : decode cX9_payablePrices 170 = .ok (.getfield 18, 3) := by decide +kernel
theorem dX9_payablePrices_173 : decode cX9_payablePrices 173 = .ok (.iload 9, 2) := by decide +kernel
theorem dX9_payablePrices_175 : decode cX9_payablePrices 175 = .ok (.baload, 1) := by decide +kernel
theorem dX9_payablePrices_176 : decode cX9_payablePrices 176 = .ok (.ifCond .ne 14, 3) := by decide +kernel
theorem dX9_payablePrices_179 : decode cX9_payablePrices 179 = .ok (.aload_n 0, 1) := by decide +kernel
theorem dX9_payablePrices_180 : decode cX9_payablePrices 180 = .ok (.getfield 18, 3) := by decide +kernel
theorem dX9_payablePrices_183 : decode cX9_payablePrices 183 = .ok (.iload 9, 2) := by decide +kernel
theorem dX9_payablePrices_185 : decode cX9_payablePrices 185 = .ok (.iconst 1, 1) := by decide +kernel
theorem dX9_payablePrices_186 : decode cX9_payablePrices 186 = .ok (.bastore, 1) := by decide +kernel
theorem dX9_payablePrices_187 : decode cX9_payablePrices 187 = .ok (.iinc 6 1, 3) := by decide +kernel
theorem dX9_payablePrices_190 : decode cX9_payablePrices 190 = .ok (.iinc 8 1, 3) := by decide +kernel
theorem dX9_payablePrices_193 : decode cX9_payablePrices 193 = .ok (.goto (-82), 3) := by decide +kernel
theorem dX9_payablePrices_196 : decode cX9_payablePrices 196 = .ok (.iinc 7 1, 3) := by decide +kernel
theorem dX9_payablePrices_199 : decode cX9_payablePrices 199 = .ok (.goto (-98), 3) := by decide +kernel
theorem dX9_payablePrices_202 : decode cX9_payablePrices 202 = .ok (.iload 6, 2) := by decide +kernel
theorem dX9_payablePrices_204 : decode cX9_payablePrices 204 = .ok (.ireturn, 1) := by decide +kernel
theorem dX9_collectSafe_0 : decode cX9_collectSafe 0 = .ok (.iconst 1, 1) := by decide +kernel
theorem dX9_collectSafe_1 : decode cX9_collectSafe 1 = .ok (.iload_n 1, 1) := by decide +kernel
theorem dX9_collectSafe_2 : decode cX9_collectSafe 2 = .ok (.invokestatic 34, 3) := by decide +kernel
theorem dX9_collectSafe_5 : decode cX9_collectSafe 5 = .ok (.ishl, 1) := by decide +kernel
theorem dX9_collectSafe_6 : decode cX9_collectSafe 6 = .ok (.istore_n 3, 1) := by decide +kernel
theorem dX9_collectSafe_7 : decode cX9_collectSafe 7 = .ok (.aload_n 0, 1) := by decide +kernel
theorem dX9_collectSafe_8 : decode cX9_collectSafe 8 = .ok (.getfield 26, 3) := by decide +kernel
theorem dX9_collectSafe_11 : decode cX9_collectSafe 11 = .ok (.invokevirtual 61, 3) := by decide +kernel
theorem dX9_collectSafe_14 : decode cX9_collectSafe 14 = .ok (.iconst 0, 1) := by decide +kernel
theorem dX9_collectSafe_15 : decode cX9_collectSafe 15 = .ok (.istore 4, 2) := by decide +kernel
theorem dX9_collectSafe_17 : decode cX9_collectSafe 17 = .ok (.iconst 0, 1) := by decide +kernel
theorem dX9_collectSafe_18 : decode cX9_collectSafe 18 = .ok (.istore 5, 2) := by decide +kernel
theorem dX9_collectSafe_20 : decode cX9_collectSafe 20 = .ok (.iload 5, 2) := by decide +kernel
theorem dX9_collectSafe_22 : decode cX9_collectSafe 22 = .ok (.iload_n 3, 1) := by decide +kernel
theorem dX9_collectSafe_23 : decode cX9_collectSafe 23 = .ok (.if_icmp .ge 26, 3) := by decide +kernel
theorem dX9_collectSafe_26 : decode cX9_collectSafe 26 = .ok (.aload_n 0, 1) := by decide +kernel
theorem dX9_collectSafe_27 : decode cX9_collectSafe 27 = .ok (.getfield 26, 3) := by decide +kernel
theorem dX9_collectSafe_30 : decode cX9_collectSafe 30 = .ok (.iload 4, 2) := by decide +kernel
theorem dX9_collectSafe_32 : decode cX9_collectSafe 32 = .ok (.invokevirtual 64, 3) := by decide +kernel
theorem dX9_collectSafe_35 : decode cX9_collectSafe 35 = .ok (.iload 4, 2) := by decide +kernel
theorem dX9_collectSafe_37 : decode cX9_collectSafe 37 = .ok (.iload_n 1, 1) := by decide +kernel
theorem dX9_collectSafe_38 : decode cX9_collectSafe 38 = .ok (.invokestatic 68, 3) := by decide +kernel
theorem dX9_collectSafe_41 : decode cX9_collectSafe 41 = .ok (.istore 4, 2) := by decide +kernel
theorem dX9_collectSafe_43 : decode cX9_collectSafe 43 = .ok (.iinc 5 1, 3) := by decide +kernel
theorem dX9_collectSafe_46 : decode cX9_collectSafe 46 = .ok (.goto (-26), 3) := by decide +kernel
theorem dX9_collectSafe_49 : decode cX9_collectSafe 49 = .ok (.iconst 0, 1) := by decide +kernel
theorem dX9_collectSafe_50 : decode cX9_collectSafe 50 = .ok (.istore 5, 2) := by decide +kernel
theorem dX9_collectSafe_52 : decode cX9_collectSafe 52 = .ok (.iconst 0, 1) := by decide +kernel
theorem dX9_collectSafe_53 : decode cX9_collectSafe 53 = .ok (.istore 6, 2) := by decide +kernel
theorem dX9_collectSafe_55 : decode cX9_collectSafe 55 = .ok (.iload 6, 2) := by decide +kernel
theorem dX9_collectSafe_57 : decode cX9_collectSafe 57 = .ok (.iload_n 3, 1) := by decide +kernel
theorem dX9_collectSafe_58 : decode cX9_collectSafe 58 = .ok (.if_icmp .ge 38, 3) := by decide +kernel
theorem dX9_collectSafe_61 : decode cX9_collectSafe 61 = .ok (.aload_n 0, 1) := by decide +kernel
theorem dX9_collectSafe_62 : decode cX9_collectSafe 62 = .ok (.getfield 26, 3) := by decide +kernel
theorem dX9_collectSafe_65 : decode cX9_collectSafe 65 = .ok (.iload 4, 2) := by decide +kernel
theorem dX9_collectSafe_67 : decode cX9_collectSafe 67 = .ok (.invokevirtual 72, 3) := by decide +kernel
theorem dX9_collectSafe_70 : decode cX9_collectSafe 70 = .ok (.ifCond .ne 12, 3) := by decide +kernel
theorem dX9_collectSafe_73 : decode cX9_collectSafe 73 = .ok (.aload_n 2, 1) := by decide +kernel
theorem dX9_collectSafe_74 : decode cX9_collectSafe 74 = .ok (.iload 5, 2) := by decide +kernel
theorem dX9_collectSafe_76 : decode cX9_collectSafe 76 = .ok (.iload 4, 2) := by decide +kernel
theorem dX9_collectSafe_78 : decode cX9_collectSafe 78 = .ok (.iastore, 1) := by decide +kernel
theorem dX9_collectSafe_79 : decode cX9_collectSafe 79 = .ok (.iinc 5 1, 3) := by decide +kernel
theorem dX9_collectSafe_82 : decode cX9_collectSafe 82 = .ok (.iload 4, 2) := by decide +kernel
theorem dX9_collectSafe_84 : decode cX9_collectSafe 84 = .ok (.iload_n 1, 1) := by decide +kernel
theorem dX9_collectSafe_85 : decode cX9_collectSafe 85 = .ok (.invokestatic 68, 3) := by decide +kernel
theorem dX9_collectSafe_88 : decode cX9_collectSafe 88 = .ok (.istore 4, 2) := by decide +kernel
theorem dX9_collectSafe_90 : decode cX9_collectSafe 90 = .ok (.iinc 6 1, 3) := by decide +kernel
theorem dX9_collectSafe_93 : decode cX9_collectSafe 93 = .ok (.goto (-38), 3) := by decide +kernel
theorem dX9_collectSafe_96 : decode cX9_collectSafe 96 = .ok (.iload 5, 2) := by decide +kernel
theorem dX9_collectSafe_98 : decode cX9_collectSafe 98 = .ok (.ireturn, 1) := by decide +kernel
theorem dX10_init_0 : decode cX10_init 0 = .ok (.aload_n 0, 1) := by decide +kernel
theorem dX10_init_1 : decode cX10_init 1 = .ok (.invokespecial 3, 3) := by decide +kernel
theorem dX10_init_4 : decode cX10_init 4 = .ok (.aload_n 0, 1) := by decide +kernel
theorem dX10_init_5 : decode cX10_init 5 = .ok (.sipush 400, 3) := by decide +kernel
theorem dX10_init_8 : decode cX10_init 8 = .ok (.newarray .byte, 2) := by decide +kernel
theorem dX10_init_10 : decode cX10_init 10 = .ok (.putfield 9, 3) := by decide +kernel
theorem dX10_init_13 : decode cX10_init 13 = .ok (.aload_n 0, 1) := by decide +kernel
theorem dX10_init_14 : decode cX10_init 14 = .ok (.new 13, 3) := by decide +kernel
theorem dX10_init_17 : decode cX10_init 17 = .ok (.dup, 1) := by decide +kernel
theorem dX10_init_18 : decode cX10_init 18 = .ok (.invokespecial 15, 3) := by decide +kernel
theorem dX10_init_21 : decode cX10_init 21 = .ok (.putfield 16, 3) := by decide +kernel
theorem dX10_init_24 : decode cX10_init 24 = .ok (.aload_n 0, 1) := by decide +kernel
theorem dX10_init_25 : decode cX10_init 25 = .ok (.new 20, 3) := by decide +kernel
theorem dX10_init_28 : decode cX10_init 28 = .ok (.dup, 1) := by decide +kernel
theorem dX10_init_29 : decode cX10_init 29 = .ok (.aload_n 0, 1) := by decide +kernel
theorem dX10_init_30 : decode cX10_init 30 = .ok (.getfield 16, 3) := by decide +kernel
theorem dX10_init_33 : decode cX10_init 33 = .ok (.invokespecial 22, 3) := by decide +kernel
theorem dX10_init_36 : decode cX10_init 36 = .ok (.putfield 25, 3) := by decide +kernel
theorem dX10_init_39 : decode cX10_init 39 = .ok (.aload_n 0, 1) := by decide +kernel
theorem dX10_init_40 : decode cX10_init 40 = .ok (.new 29, 3) := by decide +kernel
theorem dX10_init_43 : decode cX10_init 43 = .ok (.dup, 1) := by decide +kernel
theorem dX10_init_44 : decode cX10_init 44 = .ok (.aload_n 0, 1) := by decide +kernel
theorem dX10_init_45 : decode cX10_init 45 = .ok (.getfield 16, 3) := by decide +kernel
theorem dX10_init_48 : decode cX10_init 48 = .ok (.invokespecial 31, 3) := by decide +kernel
theorem dX10_init_51 : decode cX10_init 51 = .ok (.putfield 32, 3) := by decide +kernel
theorem dX10_init_54 : decode cX10_init 54 = .ok (.aload_n 0, 1) := by decide +kernel
theorem dX10_init_55 : decode cX10_init 55 = .ok (.bipush 6, 2) := by decide +kernel
theorem dX10_init_57 : decode cX10_init 57 = .ok (.anewarray 36, 3) := by decide +kernel
theorem dX10_init_60 : decode cX10_init 60 = .ok (.putfield 38, 3) := by decide +kernel
theorem dX10_init_63 : decode cX10_init 63 = .ok (.aload_n 0, 1) := by decide +kernel
theorem dX10_init_64 : decode cX10_init 64 = .ok (.new 42, 3) := by decide +kernel
theorem dX10_init_67 : decode cX10_init 67 = .ok (.dup, 1) := by decide +kernel
theorem dX10_init_68 : decode cX10_init 68 = .ok (.invokespecial 44, 3) := by decide +kernel
theorem dX10_init_71 : decode cX10_init 71 = .ok (.putfield 45, 3) := by decide +kernel
theorem dX10_init_74 : decode cX10_init 74 = .ok (.aload_n 0, 1) := by decide +kernel
theorem dX10_init_75 : decode cX10_init 75 = .ok (.iconst 4, 1) := by decide +kernel
theorem dX10_init_76 : decode cX10_init 76 = .ok (.anewarray 42, 3) := by decide +kernel
theorem dX10_init_79 : decode cX10_init 79 = .ok (.putfield 49, 3) := by decide +kernel
theorem dX10_init_82 : decode cX10_init 82 = .ok (.aload_n 0, 1) := by decide +kernel
theorem dX10_init_83 : decode cX10_init 83 = .ok (.new 53, 3) := by decide +kernel
theorem dX10_init_86 : decode cX10_init 86 = .ok (.dup, 1) := by decide +kernel
theorem dX10_init_87 : decode cX10_init 87 = .ok (.invokespecial 55, 3) := by decide +kernel
theorem dX10_init_90 : decode cX10_init 90 = .ok (.putfield 56, 3) := by decide +kernel
theorem dX10_init_93 : decode cX10_init 93 = .ok (.iconst 0, 1) := by decide +kernel
theorem dX10_init_94 : decode cX10_init 94 = .ok (.istore_n 1, 1) := by decide +kernel
theorem dX10_init_95 : decode cX10_init 95 = .ok (.iload_n 1, 1) := by decide +kernel
theorem dX10_init_96 : decode cX10_init 96 = .ok (.bipush 6, 2) := by decide +kernel
theorem dX10_init_98 : decode cX10_init 98 = .ok (.if_icmp .ge 22, 3) := by decide +kernel
theorem dX10_init_101 : decode cX10_init 101 = .ok (.aload_n 0, 1) := by decide +kernel
theorem dX10_init_102 : decode cX10_init 102 = .ok (.getfield 38, 3) := by decide +kernel
theorem dX10_init_105 : decode cX10_init 105 = .ok (.iload_n 1, 1) := by decide +kernel
theorem dX10_init_106 : decode cX10_init 106 = .ok (.new 36, 3) := by decide +kernel
theorem dX10_init_109 : decode cX10_init 109 = .ok (.dup, 1) := by decide +kernel
theorem dX10_init_110 : decode cX10_init 110 = .ok (.invokespecial 60, 3) := by decide +kernel
theorem dX10_init_113 : decode cX10_init 113 = .ok (.aastore, 1) := by decide +kernel
theorem dX10_init_114 : decode cX10_init 114 = .ok (.iinc 1 1, 3) := by decide +kernel
theorem dX10_init_117 : decode cX10_init 117 = .ok (.goto (-22), 3) := by decide +kernel
theorem dX10_init_120 : decode cX10_init 120 = .ok (.iconst 0, 1) := by decide +kernel
theorem dX10_init_121 : decode cX10_init 121 = .ok (.istore_n 1, 1) := by decide +kernel
theorem dX10_init_122 : decode cX10_init 122 = .ok (.iload_n 1, 1) := by decide +kernel
theorem dX10_init_123 : decode cX10_init 123 = .ok (.iconst 4, 1) := by decide +kernel
theorem dX10_init_124 : decode cX10_init 124 = .ok (.if_icmp .ge 22, 3) := by decide +kernel
theorem dX10_init_127 : decode cX10_init 127 = .ok (.aload_n 0, 1) := by decide +kernel
theorem dX10_init_128 : decode cX10_init 128 = .ok (.getfield 49, 3) := by decide +kernel
theorem dX10_init_131 : decode cX10_init 131 = .ok (.iload_n 1, 1) := by decide +kernel
theorem dX10_init_132 : decode cX10_init 132 = .ok (.new 42, 3) := by decide +kernel
theorem dX10_init_135 : decode cX10_init 135 = .ok (.dup, 1) := by decide +kernel
theorem dX10_init_136 : decode cX10_init 136 = .ok (.invokespecial 44, 3) := by decide +kernel
theorem dX10_init_139 : decode cX10_init 139 = .ok (.aastore, 1) := by decide +kernel
theorem dX10_init_140 : decode cX10_init 140 = .ok (.iinc 1 1, 3) := by decide +kernel
theorem dX10_init_143 : decode cX10_init 143 = .ok (.goto (-21), 3) := by decide +kernel
theorem dX10_init_146 : decode cX10_init 146 = .ok (.aload_n 0, 1) := by decide +kernel
theorem dX10_init_147 : decode cX10_init 147 = .ok (.new 61, 3) := by decide +kernel
theorem dX10_init_150 : decode cX10_init 150 = .ok (.dup, 1) := by decide +kernel
theorem dX10_init_151 : decode cX10_init 151 = .ok (.aload_n 0, 1) := by decide +kernel
theorem dX10_init_152 : decode cX10_init 152 = .ok (.getfield 45, 3) := by decide +kernel
theorem dX10_init_155 : decode cX10_init 155 = .ok (.getfield 63, 3) := by decide +kernel
theorem dX10_init_158 : decode cX10_init 158 = .ok (.aload_n 0, 1) := by decide +kernel
theorem dX10_init_159 : decode cX10_init 159 = .ok (.getfield 38, 3) := by decide +kernel
theorem dX10_init_162 : decode cX10_init 162 = .ok (.iconst 0, 1) := by decide +kernel
theorem dX10_init_163 : decode cX10_init 163 = .ok (.aaload, 1) := by decide +kernel
theorem dX10_init_164 : decode cX10_init 164 = .ok (.invokespecial 66, 3) := by decide +kernel
theorem dX10_init_167 : decode cX10_init 167 = .ok (.putfield 69, 3) := by decide +kernel
theorem dX10_init_170 : decode cX10_init 170 = .ok (.aload_n 0, 1) := by decide +kernel
theorem dX10_init_171 : decode cX10_init 171 = .ok (.new 73, 3) := by decide +kernel
theorem dX10_init_174 : decode cX10_init 174 = .ok (.dup, 1) := by decide +kernel
theorem dX10_init_175 : decode cX10_init 175 = .ok (.aload_n 0, 1) := by decide +kernel
theorem dX10_init_176 : decode cX10_init 176 = .ok (.getfield 45, 3) := by decide +kernel
theorem dX10_init_179 : decode cX10_init 179 = .ok (.getfield 63, 3) := by decide +kernel
theorem dX10_init_182 : decode cX10_init 182 = .ok (.aload_n 0, 1) := by decide +kernel
theorem dX10_init_183 : decode cX10_init 183 = .ok (.getfield 69, 3) := by decide +kernel
theorem dX10_init_186 : decode cX10_init 186 = .ok (.invokespecial 75, 3) := by decide +kernel
theorem dX10_init_189 : decode cX10_init 189 = .ok (.putfield 78, 3) := by decide +kernel
theorem dX10_init_192 : decode cX10_init 192 = .ok (.aload_n 0, 1) := by decide +kernel
theorem dX10_init_193 : decode cX10_init 193 = .ok (.new 82, 3) := by decide +kernel
theorem dX10_init_196 : decode cX10_init 196 = .ok (.dup, 1) := by decide +kernel
theorem dX10_init_197 : decode cX10_init 197 = .ok (.aload_n 0, 1) := by decide +kernel
theorem dX10_init_198 : decode cX10_init 198 = .ok (.getfield 45, 3) := by decide +kernel
theorem dX10_init_201 : decode cX10_init 201 = .ok (.aload_n 0, 1) := by decide +kernel
theorem dX10_init_202 : decode cX10_init 202 = .ok (.getfield 69, 3) := by decide +kernel
theorem dX10_init_205 : decode cX10_init 205 = .ok (.invokespecial 84, 3) := by decide +kernel
theorem dX10_init_208 : decode cX10_init 208 = .ok (.putfield 87, 3) := by decide +kernel
theorem dX10_init_211 : decode cX10_init 211 = .ok (.return_, 1) := by decide +kernel
theorem dX10_feed_0 : decode cX10_feed 0 = .ok (.aload_n 0, 1) := by decide +kernel
theorem dX10_feed_1 : decode cX10_feed 1 = .ok (.getfield 91, 3) := by decide +kernel
theorem dX10_feed_4 : decode cX10_feed 4 = .ok (.bipush 20, 2) := by decide +kernel
theorem dX10_feed_6 : decode cX10_feed 6 = .ok (.iadd, 1) := by decide +kernel
theorem dX10_feed_7 : decode cX10_feed 7 = .ok (.sipush 400, 3) := by decide +kernel
theorem dX10_feed_10 : decode cX10_feed 10 = .ok (.if_icmp .le 5, 3) := by decide +kernel
theorem dX10_feed_13 : decode cX10_feed 13 = .ok (.iconst (-1), 1) := by decide +kernel
theorem dX10_feed_14 : decode cX10_feed 14 = .ok (.ireturn, 1) := by decide +kernel
theorem dX10_feed_15 : decode cX10_feed 15 = .ok (.aload_n 0, 1) := by decide +kernel
theorem dX10_feed_16 : decode cX10_feed 16 = .ok (.iload_n 1, 1) := by decide +kernel
theorem dX10_feed_17 : decode cX10_feed 17 = .ok (.invokevirtual 95, 3) := by decide +kernel
theorem dX10_feed_20 : decode cX10_feed 20 = .ok (.aload_n 0, 1) := by decide +kernel
theorem dX10_feed_21 : decode cX10_feed 21 = .ok (.iload_n 2, 1) := by decide +kernel
theorem dX10_feed_22 : decode cX10_feed 22 = .ok (.invokevirtual 95, 3) := by decide +kernel
theorem dX10_feed_25 : decode cX10_feed 25 = .ok (.aload_n 0, 1) := by decide +kernel
theorem dX10_feed_26 : decode cX10_feed 26 = .ok (.iload_n 3, 1) := by decide +kernel
theorem dX10_feed_27 : decode cX10_feed 27 = .ok (.invokevirtual 95, 3) := by decide +kernel
theorem dX10_feed_30 : decode cX10_feed 30 = .ok (.aload_n 0, 1) := by decide +kernel
theorem dX10_feed_31 : decode cX10_feed 31 = .ok (.iload 4, 2) := by decide +kernel
theorem dX10_feed_33 : decode cX10_feed 33 = .ok (.invokevirtual 95, 3) := by decide +kernel
theorem dX10_feed_36 : decode cX10_feed 36 = .ok (.aload_n 0, 1) := by decide +kernel
theorem dX10_feed_37 : decode cX10_feed 37 = .ok (.iload 5, 2) := by decide +kernel
theorem dX10_feed_39 : decode cX10_feed 39 = .ok (.invokevirtual 95, 3) := by decide +kernel
theorem dX10_feed_42 : decode cX10_feed 42 = .ok (.aload_n 0, 1) := by decide +kernel
theorem dX10_feed_43 : decode cX10_feed 43 = .ok (.getfield 91, 3) := by decide +kernel
theorem dX10_feed_46 : decode cX10_feed 46 = .ok (.ireturn, 1) := by decide +kernel
theorem dX10_appendBytes_0 : decode cX10_appendBytes 0 = .ok (.bipush 24, 2) := by decide +kernel
theorem dX10_appendBytes_2 : decode cX10_appendBytes 2 = .ok (.istore_n 2, 1) := by decide +kernel
theorem dX10_appendBytes_3 : decode cX10_appendBytes 3 = .ok (.iload_n 2, 1) := by decide +kernel
theorem dX10_appendBytes_4 : decode cX10_appendBytes 4 = .ok (.ifCond .lt 42, 3) := by decide +kernel
theorem dX10_appendBytes_7 : decode cX10_appendBytes 7 = .ok (.aload_n 0, 1) := by decide +kernel
theorem dX10_appendBytes_8 : decode cX10_appendBytes 8 = .ok (.getfield 91, 3) := by decide +kernel
theorem dX10_appendBytes_11 : decode cX10_appendBytes 11 = .ok (.sipush 400, 3) := by decide +kernel
theorem dX10_appendBytes_14 : decode cX10_appendBytes 14 = .ok (.if_icmp .ge 32, 3) := by decide +kernel
theorem dX10_appendBytes_17 : decode cX10_appendBytes 17 = .ok (.aload_n 0, 1) := by decide +kernel
theorem dX10_appendBytes_18 : decode cX10_appendBytes 18 = .ok (.getfield 9, 3) := by decide +kernel
theorem dX10_appendBytes_21 : decode cX10_appendBytes 21 = .ok (.aload_n 0, 1) := by decide +kernel
theorem dX10_appendBytes_22 : decode cX10_appendBytes 22 = .ok (.getfield 91, 3) := by decide +kernel
theorem dX10_appendBytes_25 : decode cX10_appendBytes 25 = .ok (.iload_n 1, 1) := by decide +kernel
theorem dX10_appendBytes_26 : decode cX10_appendBytes 26 = .ok (.iload_n 2, 1) := by decide +kernel
theorem dX10_appendBytes_27 : decode cX10_appendBytes 27 = .ok (.iushr, 1) := by decide +kernel
theorem dX10_appendBytes_28 : decode cX10_appendBytes 28 = .ok (.i2b, 1) := by decide +kernel
theorem dX10_appendBytes_29 : decode cX10_appendBytes 29 = .ok (.bastore, 1) := by decide +kernel
theorem dX10_appendBytes_30 : decode cX10_appendBytes 30 = .ok (.aload_n 0, 1) := by decide +kernel
theorem dX10_appendBytes_31 : decode cX10_appendBytes 31 = .ok (.dup, 1) := by decide +kernel
theorem dX10_appendBytes_32 : decode cX10_appendBytes 32 = .ok (.getfield 91, 3) := by decide +kernel
theorem dX10_appendBytes_35 : decode cX10_appendBytes 35 = .ok (.iconst 1, 1) := by decide +kernel
theorem dX10_appendBytes_36 : decode cX10_appendBytes 36 = .ok (.iadd, 1) := by decide +kernel
theorem dX10_appendBytes_37 : decode cX10_appendBytes 37 = .ok (.putfield 91, 3) := by decide +kernel
theorem dX10_appendBytes_40 : decode cX10_appendBytes 40 = .ok (.iinc 2 (-8), 3) := by decide +kernel
theorem dX10_appendBytes_43 : decode cX10_appendBytes 43 = .ok (.goto (-40), 3) := by decide +kernel
theorem dX10_appendBytes_46 : decode cX10_appendBytes 46 = .ok (.return_, 1) := by decide +kernel
theorem dX10_end_0 : decode cX10_end 0 = .ok (.iload_n 1, 1) := by decide +kernel
theorem dX10_end_1 : decode cX10_end 1 = .ok (.ifCond .lt 11, 3) := by decide +kernel
theorem dX10_end_4 : decode cX10_end 4 = .ok (.iload_n 1, 1) := by decide +kernel
theorem dX10_end_5 : decode cX10_end 5 = .ok (.aload_n 0, 1) := by decide +kernel
theorem dX10_end_6 : decode cX10_end 6 = .ok (.getfield 91, 3) := by decide +kernel
theorem dX10_end_9 : decode cX10_end 9 = .ok (.if_icmp .le 5, 3) := by decide +kernel
theorem dX10_end_12 : decode cX10_end 12 = .ok (.iconst (-1), 1) := by decide +kernel
theorem dX10_end_13 : decode cX10_end 13 = .ok (.ireturn, 1) := by decide +kernel
theorem dX10_end_14 : decode cX10_end 14 = .ok (.aload_n 0, 1) := by decide +kernel
theorem dX10_end_15 : decode cX10_end 15 = .ok (.iload_n 1, 1) := by decide +kernel
theorem dX10_end_16 : decode cX10_end 16 = .ok (.putfield 91, 3) := by decide +kernel
theorem dX10_end_19 : decode cX10_end 19 = .ok (.iload_n 1, 1) := by decide +kernel
theorem dX10_end_20 : decode cX10_end 20 = .ok (.ireturn, 1) := by decide +kernel
theorem dX10_mint_0 : decode cX10_mint 0 = .ok (.aload_n 0, 1) := by decide +kernel
theorem dX10_mint_1 : decode cX10_mint 1 = .ok (.getfield 16, 3) := by decide +kernel
theorem dX10_mint_4 : decode cX10_mint 4 = .ok (.aload_n 0, 1) := by decide +kernel
theorem dX10_mint_5 : decode cX10_mint 5 = .ok (.getfield 9, 3) := by decide +kernel
theorem dX10_mint_8 : decode cX10_mint 8 = .ok (.aload_n 0, 1) := by decide +kernel
theorem dX10_mint_9 : decode cX10_mint 9 = .ok (.getfield 91, 3) := by decide +kernel
theorem dX10_mint_12 : decode cX10_mint 12 = .ok (.invokevirtual 99, 3) := by decide +kernel
theorem dX10_mint_15 : decode cX10_mint 15 = .ok (.aload_n 0, 1) := by decide +kernel
theorem dX10_mint_16 : decode cX10_mint 16 = .ok (.iconst 0, 1) := by decide +kernel
theorem dX10_mint_17 : decode cX10_mint 17 = .ok (.putfield 91, 3) := by decide +kernel
theorem dX10_mint_20 : decode cX10_mint 20 = .ok (.aload_n 0, 1) := by decide +kernel
theorem dX10_mint_21 : decode cX10_mint 21 = .ok (.getfield 25, 3) := by decide +kernel
theorem dX10_mint_24 : decode cX10_mint 24 = .ok (.invokevirtual 103, 3) := by decide +kernel
theorem dX10_mint_27 : decode cX10_mint 27 = .ok (.istore_n 1, 1) := by decide +kernel
theorem dX10_mint_28 : decode cX10_mint 28 = .ok (.iload_n 1, 1) := by decide +kernel
theorem dX10_mint_29 : decode cX10_mint 29 = .ok (.ifCond .eq 8, 3) := by decide +kernel
theorem dX10_mint_32 : decode cX10_mint 32 = .ok (.bipush (-2), 2) := by decide +kernel
theorem dX10_mint_34 : decode cX10_mint 34 = .ok (.iload_n 1, 1) := by decide +kernel
theorem dX10_mint_35 : decode cX10_mint 35 = .ok (.isub, 1) := by decide +kernel
theorem dX10_mint_36 : decode cX10_mint 36 = .ok (.ireturn, 1) := by decide +kernel
theorem dX10_mint_37 : decode cX10_mint 37 = .ok (.aload_n 0, 1) := by decide +kernel
theorem dX10_mint_38 : decode cX10_mint 38 = .ok (.getfield 45, 3) := by decide +kernel
theorem dX10_mint_41 : decode cX10_mint 41 = .ok (.aload_n 0, 1) := by decide +kernel
theorem dX10_mint_42 : decode cX10_mint 42 = .ok (.getfield 25, 3) := by decide +kernel
theorem dX10_mint_45 : decode cX10_mint 45 = .ok (.getfield 107, 3) := by decide +kernel
theorem dX10_mint_48 : decode cX10_mint 48 = .ok (.invokevirtual 110, 3) := by decide +kernel
theorem dX10_mint_51 : decode cX10_mint 51 = .ok (.aload_n 0, 1) := by decide +kernel
theorem dX10_mint_52 : decode cX10_mint 52 = .ok (.getfield 69, 3) := by decide +kernel
theorem dX10_mint_55 : decode cX10_mint 55 = .ok (.invokevirtual 114, 3) := by decide +kernel
theorem dX10_mint_58 : decode cX10_mint 58 = .ok (.aload_n 0, 1) := by decide +kernel
theorem dX10_mint_59 : decode cX10_mint 59 = .ok (.getfield 45, 3) := by decide +kernel
theorem dX10_mint_62 : decode cX10_mint 62 = .ok (.getfield 63, 3) := by decide +kernel
theorem dX10_mint_65 : decode cX10_mint 65 = .ok (.getfield 117, 3) := by decide +kernel
theorem dX10_mint_68 : decode cX10_mint 68 = .ok (.ireturn, 1) := by decide +kernel
theorem dX10_law_0 : decode cX10_law 0 = .ok (.aload_n 0, 1) := by decide +kernel
theorem dX10_law_1 : decode cX10_law 1 = .ok (.getfield 120, 3) := by decide +kernel
theorem dX10_law_4 : decode cX10_law 4 = .ok (.bipush 6, 2) := by decide +kernel
theorem dX10_law_6 : decode cX10_law 6 = .ok (.if_icmp .lt 5, 3) := by decide +kernel
theorem dX10_law_9 : decode cX10_law 9 = .ok (.iconst (-1), 1) := by decide +kernel
theorem dX10_law_10 : decode cX10_law 10 = .ok (.ireturn, 1) := by decide +kernel
theorem dX10_law_11 : decode cX10_law 11 = .ok (.aload_n 0, 1) := by decide +kernel
theorem dX10_law_12 : decode cX10_law 12 = .ok (.getfield 16, 3) := by decide +kernel
theorem dX10_law_15 : decode cX10_law 15 = .ok (.aload_n 0, 1) := by decide +kernel
theorem dX10_law_16 : decode cX10_law 16 = .ok (.getfield 9, 3) := by decide +kernel
theorem dX10_law_19 : decode cX10_law 19 = .ok (.aload_n 0, 1) := by decide +kernel
theorem dX10_law_20 : decode cX10_law 20 = .ok (.getfield 91, 3) := by decide +kernel
theorem dX10_law_23 : decode cX10_law 23 = .ok (.invokevirtual 99, 3) := by decide +kernel
theorem dX10_law_26 : decode cX10_law 26 = .ok (.aload_n 0, 1) := by decide +kernel
theorem dX10_law_27 : decode cX10_law 27 = .ok (.iconst 0, 1) := by decide +kernel
theorem dX10_law_28 : decode cX10_law 28 = .ok (.putfield 91, 3) := by decide +kernel
theorem dX10_law_31 : decode cX10_law 31 = .ok (.aload_n 0, 1) := by decide +kernel
theorem dX10_law_32 : decode cX10_law 32 = .ok (.getfield 32, 3) := by decide +kernel
theorem dX10_law_35 : decode cX10_law 35 = .ok (.aload_n 0, 1) := by decide +kernel
theorem dX10_law_36 : decode cX10_law 36 = .ok (.getfield 38, 3) := by decide +kernel
theorem dX10_law_39 : decode cX10_law 39 = .ok (.aload_n 0, 1) := by decide +kernel
theorem dX10_law_40 : decode cX10_law 40 = .ok (.getfield 120, 3) := by decide +kernel
theorem dX10_law_43 : decode cX10_law 43 = .ok (.aaload, 1) := by decide +kernel
theorem dX10_law_44 : decode cX10_law 44 = .ok (.invokevirtual 123, 3) := by decide +kernel
theorem dX10_law_47 : decode cX10_law 47 = .ok (.istore_n 1, 1) := by decide +kernel
theorem dX10_law_48 : decode cX10_law 48 = .ok (.iload_n 1, 1) := by decide +kernel
theorem dX10_law_49 : decode cX10_law 49 = .ok (.ifCond .eq 8, 3) := by decide +kernel
theorem dX10_law_52 : decode cX10_law 52 = .ok (.bipush (-2), 2) := by decide +kernel
theorem dX10_law_54 : decode cX10_law 54 = .ok (.iload_n 1, 1) := by decide +kernel
theorem dX10_law_55 : decode cX10_law 55 = .ok (.isub, 1) := by decide +kernel
theorem dX10_law_56 : decode cX10_law 56 = .ok (.ireturn, 1) := by decide +kernel
theorem dX10_law_57 : decode cX10_law 57 = .ok (.aload_n 0, 1) := by decide +kernel
theorem dX10_law_58 : decode cX10_law 58 = .ok (.dup, 1) := by decide +kernel
theorem dX10_law_59 : decode cX10_law 59 = .ok (.getfield 120, 3) := by decide +kernel
theorem dX10_law_62 : decode cX10_law 62 = .ok (.iconst 1, 1) := by decide +kernel
theorem dX10_law_63 : decode cX10_law 63 = .ok (.iadd, 1) := by decide +kernel
theorem dX10_law_64 : decode cX10_law 64 = .ok (.putfield 120, 3) := by decide +kernel
theorem dX10_law_67 : decode cX10_law 67 = .ok (.aload_n 0, 1) := by decide +kernel
theorem dX10_law_68 : decode cX10_law 68 = .ok (.getfield 120, 3) := by decide +kernel
theorem dX10_law_71 : decode cX10_law 71 = .ok (.iconst 1, 1) := by decide +kernel
theorem dX10_law_72 : decode cX10_law 72 = .ok (.isub, 1) := by decide +kernel
theorem dX10_law_73 : decode cX10_law 73 = .ok (.ireturn, 1) := by decide +kernel
theorem dX10_coin_0 : decode cX10_coin 0 = .ok (.aload_n 0, 1) := by decide +kernel
theorem dX10_coin_1 : decode cX10_coin 1 = .ok (.iload_n 1, 1) := by decide +kernel
theorem dX10_coin_2 : decode cX10_coin 2 = .ok (.invokevirtual 126, 3) := by decide +kernel
theorem dX10_coin_5 : decode cX10_coin 5 = .ok (.ifCond .ne 5, 3) := by decide +kernel
theorem dX10_coin_8 : decode cX10_coin 8 = .ok (.iconst (-1), 1) := by decide +kernel
theorem dX10_coin_9 : decode cX10_coin 9 = .ok (.ireturn, 1) := by decide +kernel
theorem dX10_coin_10 : decode cX10_coin 10 = .ok (.aload_n 0, 1) := by decide +kernel
theorem dX10_coin_11 : decode cX10_coin 11 = .ok (.getfield 45, 3) := by decide +kernel
theorem dX10_coin_14 : decode cX10_coin 14 = .ok (.getfield 63, 3) := by decide +kernel
theorem dX10_coin_17 : decode cX10_coin 17 = .ok (.astore_n 3, 1) := by decide +kernel
theorem dX10_coin_18 : decode cX10_coin 18 = .ok (.iload_n 2, 1) := by decide +kernel
theorem dX10_coin_19 : decode cX10_coin 19 = .ok (.tableswitch 89 0 6 #[41, 48, 55, 62, 69, 76, 83], 41) := by decide +kernel
theorem dX10_coin_60 : decode cX10_coin 60 = .ok (.aload_n 3, 1) := by decide +kernel
theorem dX10_coin_61 : decode cX10_coin 61 = .ok (.getfield 130, 3) := by decide +kernel
theorem dX10_coin_64 : decode cX10_coin 64 = .ok (.iload_n 1, 1) := by decide +kernel
theorem dX10_coin_65 : decode cX10_coin 65 = .ok (.iaload, 1) := by decide +kernel
theorem dX10_coin_66 : decode cX10_coin 66 = .ok (.ireturn, 1) := by decide +kernel
theorem dX10_coin_67 : decode cX10_coin 67 = .ok (.aload_n 3, 1) := by decide +kernel
theorem dX10_coin_68 : decode cX10_coin 68 = .ok (.getfield 134, 3) := by decide +kernel
theorem dX10_coin_71 : decode cX10_coin 71 = .ok (.iload_n 1, 1) := by decide +kernel
theorem dX10_coin_72 : decode cX10_coin 72 = .ok (.iaload, 1) := by decide +kernel
theorem dX10_coin_73 : decode cX10_coin 73 = .ok (.ireturn, 1) := by decide +kernel
theorem dX10_coin_74 : decode cX10_coin 74 = .ok (.aload_n 3, 1) := by decide +kernel
theorem dX10_coin_75 : decode cX10_coin 75 = .ok (.getfield 137, 3) := by decide +kernel
theorem dX10_coin_78 : decode cX10_coin 78 = .ok (.iload_n 1, 1) := by decide +kernel
theorem dX10_coin_79 : decode cX10_coin 79 = .ok (.iaload, 1) := by decide +kernel
theorem dX10_coin_80 : decode cX10_coin 80 = .ok (.ireturn, 1) := by decide +kernel
theorem dX10_coin_81 : decode cX10_coin 81 = .ok (.aload_n 3, 1) := by decide +kernel
theorem dX10_coin_82 : decode cX10_coin 82 = .ok (.getfield 140, 3) := by decide +kernel
theorem dX10_coin_85 : decode cX10_coin 85 = .ok (.iload_n 1, 1) := by decide +kernel
theorem dX10_coin_86 : decode cX10_coin 86 = .ok (.iaload, 1) := by decide +kernel
theorem dX10_coin_87 : decode cX10_coin 87 = .ok (.ireturn, 1) := by decide +kernel
theorem dX10_coin_88 : decode cX10_coin 88 = .ok (.aload_n 3, 1) := by decide +kernel
theorem dX10_coin_89 : decode cX10_coin 89 = .ok (.getfield 143, 3) := by decide +kernel
theorem dX10_coin_92 : decode cX10_coin 92 = .ok (.iload_n 1, 1) := by decide +kernel
theorem dX10_coin_93 : decode cX10_coin 93 = .ok (.iaload, 1) := by decide +kernel
theorem dX10_coin_94 : decode cX10_coin 94 = .ok (.ireturn, 1) := by decide +kernel
theorem dX10_coin_95 : decode cX10_coin 95 = .ok (.aload_n 3, 1) := by decide +kernel
theorem dX10_coin_96 : decode cX10_coin 96 = .ok (.getfield 146, 3) := by decide +kernel
theorem dX10_coin_99 : decode cX10_coin 99 = .ok (.iload_n 1, 1) := by decide +kernel
theorem dX10_coin_100 : decode cX10_coin 100 = .ok (.iaload, 1) := by decide +kernel
theorem dX10_coin_101 : decode cX10_coin 101 = .ok (.ireturn, 1) := by decide +kernel
theorem dX10_coin_102 : decode cX10_coin 102 = .ok (.aload_n 3, 1) := by decide +kernel
theorem dX10_coin_103 : decode cX10_coin 103 = .ok (.iload_n 1, 1) := by decide +kernel
theorem dX10_coin_104 : decode cX10_coin 104 = .ok (.invokevirtual 149, 3) := by decide +kernel
theorem dX10_coin_107 : decode cX10_coin 107 = .ok (.ireturn, 1) := by decide +kernel
theorem dX10_coin_108 : decode cX10_coin 108 = .ok (.iconst (-1), 1) := by decide +kernel
theorem dX10_coin_109 : decode cX10_coin 109 = .ok (.ireturn, 1) := by decide +kernel
theorem dX10_counter_0 : decode cX10_counter 0 = .ok (.aload_n 0, 1) := by decide +kernel
theorem dX10_counter_1 : decode cX10_counter 1 = .ok (.iload_n 1, 1) := by decide +kernel
theorem dX10_counter_2 : decode cX10_counter 2 = .ok (.invokevirtual 153, 3) := by decide +kernel
theorem dX10_counter_5 : decode cX10_counter 5 = .ok (.ifCond .ne 5, 3) := by decide +kernel
theorem dX10_counter_8 : decode cX10_counter 8 = .ok (.iconst (-1), 1) := by decide +kernel
theorem dX10_counter_9 : decode cX10_counter 9 = .ok (.ireturn, 1) := by decide +kernel
theorem dX10_counter_10 : decode cX10_counter 10 = .ok (.iload_n 2, 1) := by decide +kernel
theorem dX10_counter_11 : decode cX10_counter 11 = .ok (.lookupswitch 51 #[(0, 25), (1, 38)], 25) := by decide +kernel
theorem dX10_counter_36 : decode cX10_counter 36 = .ok (.aload_n 0, 1) := by decide +kernel
theorem dX10_counter_37 : decode cX10_counter 37 = .ok (.getfield 45, 3) := by decide +kernel
theorem dX10_counter_40 : decode cX10_counter 40 = .ok (.getfield 63, 3) := by decide +kernel
theorem dX10_counter_43 : decode cX10_counter 43 = .ok (.getfield 156, 3) := by decide +kernel
theorem dX10_counter_46 : decode cX10_counter 46 = .ok (.iload_n 1, 1) := by decide +kernel
theorem dX10_counter_47 : decode cX10_counter 47 = .ok (.iaload, 1) := by decide +kernel
theorem dX10_counter_48 : decode cX10_counter 48 = .ok (.ireturn, 1) := by decide +kernel
theorem dX10_counter_49 : decode cX10_counter 49 = .ok (.aload_n 0, 1) := by decide +kernel
theorem dX10_counter_50 : decode cX10_counter 50 = .ok (.getfield 45, 3) := by decide +kernel
theorem dX10_counter_53 : decode cX10_counter 53 = .ok (.getfield 63, 3) := by decide +kernel
theorem dX10_counter_56 : decode cX10_counter 56 = .ok (.getfield 159, 3) := by decide +kernel
theorem dX10_counter_59 : decode cX10_counter 59 = .ok (.iload_n 1, 1) := by decide +kernel
theorem dX10_counter_60 : decode cX10_counter 60 = .ok (.iaload, 1) := by decide +kernel
theorem dX10_counter_61 : decode cX10_counter 61 = .ok (.ireturn, 1) := by decide +kernel
theorem dX10_counter_62 : decode cX10_counter 62 = .ok (.iconst (-1), 1) := by decide +kernel
theorem dX10_counter_63 : decode cX10_counter 63 = .ok (.ireturn, 1) := by decide +kernel
theorem dX10_give_0 : decode cX10_give 0 = .ok (.aload_n 0, 1) := by decide +kernel
theorem dX10_give_1 : decode cX10_give 1 = .ok (.iload_n 1, 1) := by decide +kernel
theorem dX10_give_2 : decode cX10_give 2 = .ok (.invokevirtual 126, 3) := by decide +kernel
theorem dX10_give_5 : decode cX10_give 5 = .ok (.ifCond .eq 10, 3) := by decide +kernel
theorem dX10_give_8 : decode cX10_give 8 = .ok (.iload_n 2, 1) := by decide +kernel
theorem dX10_give_9 : decode cX10_give 9 = .ok (.invokestatic 162, 3) := by decide +kernel
theorem dX10_give_12 : decode cX10_give 12 = .ok (.ifCond .ne 5, 3) := by decide +kernel
theorem dX10_give_15 : decode cX10_give 15 = .ok (.iconst (-1), 1) := by decide +kernel
theorem dX10_give_16 : decode cX10_give 16 = .ok (.ireturn, 1) := by decide +kernel
theorem dX10_give_17 : decode cX10_give 17 = .ok (.aload_n 0, 1) := by decide +kernel
theorem dX10_give_18 : decode cX10_give 18 = .ok (.getfield 45, 3) := by decide +kernel
theorem dX10_give_21 : decode cX10_give 21 = .ok (.getfield 63, 3) := by decide +kernel
theorem dX10_give_24 : decode cX10_give 24 = .ok (.getfield 143, 3) := by decide +kernel
theorem dX10_give_27 : decode cX10_give 27 = .ok (.iload_n 1, 1) := by decide +kernel
theorem dX10_give_28 : decode cX10_give 28 = .ok (.iaload, 1) := by decide +kernel
theorem dX10_give_29 : decode cX10_give 29 = .ok (.istore_n 3, 1) := by decide +kernel
theorem dX10_give_30 : decode cX10_give 30 = .ok (.aload_n 0, 1) := by decide +kernel
theorem dX10_give_31 : decode cX10_give 31 = .ok (.getfield 45, 3) := by decide +kernel
theorem dX10_give_34 : decode cX10_give 34 = .ok (.getfield 63, 3) := by decide +kernel
theorem dX10_give_37 : decode cX10_give 37 = .ok (.getfield 143, 3) := by decide +kernel
theorem dX10_give_40 : decode cX10_give 40 = .ok (.iload_n 1, 1) := by decide +kernel
theorem dX10_give_41 : decode cX10_give 41 = .ok (.iload_n 2, 1) := by decide +kernel
theorem dX10_give_42 : decode cX10_give 42 = .ok (.iastore, 1) := by decide +kernel
theorem dX10_give_43 : decode cX10_give 43 = .ok (.iload_n 3, 1) := by decide +kernel
theorem dX10_give_44 : decode cX10_give 44 = .ok (.ireturn, 1) := by decide +kernel
theorem dX10_retune_0 : decode cX10_retune 0 = .ok (.aload_n 0, 1) := by decide +kernel
theorem dX10_retune_1 : decode cX10_retune 1 = .ok (.iload_n 1, 1) := by decide +kernel
theorem dX10_retune_2 : decode cX10_retune 2 = .ok (.invokevirtual 126, 3) := by decide +kernel
theorem dX10_retune_5 : decode cX10_retune 5 = .ok (.ifCond .eq 14, 3) := by decide +kernel
theorem dX10_retune_8 : decode cX10_retune 8 = .ok (.iload_n 2, 1) := by decide +kernel
theorem dX10_retune_9 : decode cX10_retune 9 = .ok (.ifCond .lt 10, 3) := by decide +kernel
theorem dX10_retune_12 : decode cX10_retune 12 = .ok (.iload_n 2, 1) := by decide +kernel
theorem dX10_retune_13 : decode cX10_retune 13 = .ok (.sipush 2400, 3) := by decide +kernel
theorem dX10_retune_16 : decode cX10_retune 16 = .ok (.if_icmp .le 5, 3) := by decide +kernel
theorem dX10_retune_19 : decode cX10_retune 19 = .ok (.iconst (-1), 1) := by decide +kernel
theorem dX10_retune_20 : decode cX10_retune 20 = .ok (.ireturn, 1) := by decide +kernel
theorem dX10_retune_21 : decode cX10_retune 21 = .ok (.aload_n 0, 1) := by decide +kernel
theorem dX10_retune_22 : decode cX10_retune 22 = .ok (.getfield 45, 3) := by decide +kernel
theorem dX10_retune_25 : decode cX10_retune 25 = .ok (.getfield 63, 3) := by decide +kernel
theorem dX10_retune_28 : decode cX10_retune 28 = .ok (.getfield 130, 3) := by decide +kernel
theorem dX10_retune_31 : decode cX10_retune 31 = .ok (.iload_n 1, 1) := by decide +kernel
theorem dX10_retune_32 : decode cX10_retune 32 = .ok (.iaload, 1) := by decide +kernel
theorem dX10_retune_33 : decode cX10_retune 33 = .ok (.istore_n 3, 1) := by decide +kernel
theorem dX10_retune_34 : decode cX10_retune 34 = .ok (.aload_n 0, 1) := by decide +kernel
theorem dX10_retune_35 : decode cX10_retune 35 = .ok (.getfield 45, 3) := by decide +kernel
theorem dX10_retune_38 : decode cX10_retune 38 = .ok (.getfield 63, 3) := by decide +kernel
theorem dX10_retune_41 : decode cX10_retune 41 = .ok (.getfield 130, 3) := by decide +kernel
theorem dX10_retune_44 : decode cX10_retune 44 = .ok (.iload_n 1, 1) := by decide +kernel
theorem dX10_retune_45 : decode cX10_retune 45 = .ok (.iload_n 2, 1) := by decide +kernel
theorem dX10_retune_46 : decode cX10_retune 46 = .ok (.iastore, 1) := by decide +kernel
theorem dX10_retune_47 : decode cX10_retune 47 = .ok (.aload_n 0, 1) := by decide +kernel
theorem dX10_retune_48 : decode cX10_retune 48 = .ok (.getfield 69, 3) := by decide +kernel
theorem dX10_retune_51 : decode cX10_retune 51 = .ok (.invokevirtual 114, 3) := by decide +kernel
theorem dX10_retune_54 : decode cX10_retune 54 = .ok (.iload_n 3, 1) := by decide +kernel
theorem dX10_retune_55 : decode cX10_retune 55 = .ok (.ireturn, 1) := by decide +kernel
theorem dX10_fall_0 : decode cX10_fall 0 = .ok (.aload_n 0, 1) := by decide +kernel
theorem dX10_fall_1 : decode cX10_fall 1 = .ok (.iload_n 1, 1) := by decide +kernel
theorem dX10_fall_2 : decode cX10_fall 2 = .ok (.invokevirtual 165, 3) := by decide +kernel
theorem dX10_fall_5 : decode cX10_fall 5 = .ok (.ifCond .eq 17, 3) := by decide +kernel
theorem dX10_fall_8 : decode cX10_fall 8 = .ok (.aload_n 0, 1) := by decide +kernel
theorem dX10_fall_9 : decode cX10_fall 9 = .ok (.getfield 45, 3) := by decide +kernel
theorem dX10_fall_12 : decode cX10_fall 12 = .ok (.getfield 63, 3) := by decide +kernel
theorem dX10_fall_15 : decode cX10_fall 15 = .ok (.iload_n 1, 1) := by decide +kernel
theorem dX10_fall_16 : decode cX10_fall 16 = .ok (.invokevirtual 168, 3) := by decide +kernel
theorem dX10_fall_19 : decode cX10_fall 19 = .ok (.ifCond .ne 5, 3) := by decide +kernel
theorem dX10_fall_22 : decode cX10_fall 22 = .ok (.iconst (-1), 1) := by decide +kernel
theorem dX10_fall_23 : decode cX10_fall 23 = .ok (.ireturn, 1) := by decide +kernel
theorem dX10_fall_24 : decode cX10_fall 24 = .ok (.aload_n 0, 1) := by decide +kernel
theorem dX10_fall_25 : decode cX10_fall 25 = .ok (.getfield 45, 3) := by decide +kernel
theorem dX10_fall_28 : decode cX10_fall 28 = .ok (.getfield 63, 3) := by decide +kernel
theorem dX10_fall_31 : decode cX10_fall 31 = .ok (.iload_n 1, 1) := by decide +kernel
theorem dX10_fall_32 : decode cX10_fall 32 = .ok (.invokevirtual 171, 3) := by decide +kernel
theorem dX10_fall_35 : decode cX10_fall 35 = .ok (.aload_n 0, 1) := by decide +kernel
theorem dX10_fall_36 : decode cX10_fall 36 = .ok (.getfield 69, 3) := by decide +kernel
theorem dX10_fall_39 : decode cX10_fall 39 = .ok (.invokevirtual 114, 3) := by decide +kernel
theorem dX10_fall_42 : decode cX10_fall 42 = .ok (.iload_n 1, 1) := by decide +kernel
theorem dX10_fall_43 : decode cX10_fall 43 = .ok (.invokestatic 174, 3) := by decide +kernel
theorem dX10_fall_46 : decode cX10_fall 46 = .ok (.ireturn, 1) := by decide +kernel
theorem dX10_sounds_0 : decode cX10_sounds 0 = .ok (.aload_n 0, 1) := by decide +kernel
theorem dX10_sounds_1 : decode cX10_sounds 1 = .ok (.iload_n 1, 1) := by decide +kernel
theorem dX10_sounds_2 : decode cX10_sounds 2 = .ok (.iload_n 2, 1) := by decide +kernel
theorem dX10_sounds_3 : decode cX10_sounds 3 = .ok (.iload_n 3, 1) := by decide +kernel
theorem dX10_sounds_4 : decode cX10_sounds 4 = .ok (.invokevirtual 179, 3) := by decide +kernel
theorem dX10_sounds_7 : decode cX10_sounds 7 = .ok (.ifCond .eq 21, 3) := by decide +kernel
theorem dX10_sounds_10 : decode cX10_sounds 10 = .ok (.aload_n 0, 1) := by decide +kernel
theorem dX10_sounds_11 : decode cX10_sounds 11 = .ok (.iload 4, 2) := by decide +kernel
theorem dX10_sounds_13 : decode cX10_sounds 13 = .ok (.invokevirtual 126, 3) := by decide +kernel
theorem dX10_sounds_16 : decode cX10_sounds 16 = .ok (.ifCond .eq 12, 3) := by decide +kernel
theorem dX10_sounds_19 : decode cX10_sounds 19 = .ok (.iload_n 3, 1) := by decide +kernel
theorem dX10_sounds_20 : decode cX10_sounds 20 = .ok (.iload 4, 2) := by decide +kernel
theorem dX10_sounds_22 : decode cX10_sounds 22 = .ok (.ishr, 1) := by decide +kernel
theorem dX10_sounds_23 : decode cX10_sounds 23 = .ok (.iconst 1, 1) := by decide +kernel
theorem dX10_sounds_24 : decode cX10_sounds 24 = .ok (.iand, 1) := by decide +kernel
theorem dX10_sounds_25 : decode cX10_sounds 25 = .ok (.ifCond .ne 7, 3) := by decide +kernel
theorem dX10_sounds_28 : decode cX10_sounds 28 = .ok (.sipush (-20000), 3) := by decide +kernel
theorem dX10_sounds_31 : decode cX10_sounds 31 = .ok (.ireturn, 1) := by decide +kernel
theorem dX10_sounds_32 : decode cX10_sounds 32 = .ok (.aload_n 0, 1) := by decide +kernel
theorem dX10_sounds_33 : decode cX10_sounds 33 = .ok (.getfield 69, 3) := by decide +kernel
theorem dX10_sounds_36 : decode cX10_sounds 36 = .ok (.aload_n 0, 1) := by decide +kernel
theorem dX10_sounds_37 : decode cX10_sounds 37 = .ok (.getfield 38, 3) := by decide +kernel
theorem dX10_sounds_40 : decode cX10_sounds 40 = .ok (.iload_n 1, 1) := by decide +kernel
theorem dX10_sounds_41 : decode cX10_sounds 41 = .ok (.aaload, 1) := by decide +kernel
theorem dX10_sounds_42 : decode cX10_sounds 42 = .ok (.iload_n 2, 1) := by decide +kernel
theorem dX10_sounds_43 : decode cX10_sounds 43 = .ok (.invokevirtual 183, 3) := by decide +kernel
theorem dX10_sounds_46 : decode cX10_sounds 46 = .ok (.aload_n 0, 1) := by decide +kernel
theorem dX10_sounds_47 : decode cX10_sounds 47 = .ok (.getfield 69, 3) := by decide +kernel
theorem dX10_sounds_50 : decode cX10_sounds 50 = .ok (.getfield 187, 3) := by decide +kernel
theorem dX10_sounds_53 : decode cX10_sounds 53 = .ok (.astore 6, 2) := by decide +kernel
theorem dX10_sounds_55 : decode cX10_sounds 55 = .ok (.aload 6, 2) := by decide +kernel
theorem dX10_sounds_57 : decode cX10_sounds 57 = .ok (.iload_n 3, 1) := by decide +kernel
theorem dX10_sounds_58 : decode cX10_sounds 58 = .ok (.invokevirtual 191, 3) := by decide +kernel
theorem dX10_sounds_61 : decode cX10_sounds 61 = .ok (.iload 5, 2) := by decide +kernel
theorem dX10_sounds_63 : decode cX10_sounds 63 = .ok (.lookupswitch 41 #[(0, 25), (1, 33)], 25) := by decide +kernel
theorem dX10_sounds_88 : decode cX10_sounds 88 = .ok (.aload 6, 2) := by decide +kernel
theorem dX10_sounds_90 : decode cX10_sounds 90 = .ok (.iload 4, 2) := by decide +kernel
theorem dX10_sounds_92 : decode cX10_sounds 92 = .ok (.invokevirtual 196, 3) := by decide +kernel
theorem dX10_sounds_95 : decode cX10_sounds 95 = .ok (.ireturn, 1) := by decide +kernel
theorem dX10_sounds_96 : decode cX10_sounds 96 = .ok (.aload 6, 2) := by decide +kernel
theorem dX10_sounds_98 : decode cX10_sounds 98 = .ok (.iload 4, 2) := by decide +kernel
theorem dX10_sounds_100 : decode cX10_sounds 100 = .ok (.invokevirtual 199, 3) := by decide +kernel
theorem dX10_sounds_103 : decode cX10_sounds 103 = .ok (.ireturn, 1) := by decide +kernel
theorem dX10_sounds_104 : decode cX10_sounds 104 = .ok (.sipush (-20000), 3) := by decide +kernel
theorem dX10_sounds_107 : decode cX10_sounds 107 = .ok (.ireturn, 1) := by decide +kernel
theorem dX10_tone_0 : decode cX10_tone 0 = .ok (.aload_n 0, 1) := by decide +kernel
theorem dX10_tone_1 : decode cX10_tone 1 = .ok (.iload_n 1, 1) := by decide +kernel
theorem dX10_tone_2 : decode cX10_tone 2 = .ok (.iload_n 2, 1) := by decide +kernel
theorem dX10_tone_3 : decode cX10_tone 3 = .ok (.iload_n 3, 1) := by decide +kernel
theorem dX10_tone_4 : decode cX10_tone 4 = .ok (.invokevirtual 179, 3) := by decide +kernel
theorem dX10_tone_7 : decode cX10_tone 7 = .ok (.ifCond .ne 7, 3) := by decide +kernel
theorem dX10_tone_10 : decode cX10_tone 10 = .ok (.sipush (-20000), 3) := by decide +kernel
theorem dX10_tone_13 : decode cX10_tone 13 = .ok (.ireturn, 1) := by decide +kernel
theorem dX10_tone_14 : decode cX10_tone 14 = .ok (.aload_n 0, 1) := by decide +kernel
theorem dX10_tone_15 : decode cX10_tone 15 = .ok (.getfield 69, 3) := by decide +kernel
theorem dX10_tone_18 : decode cX10_tone 18 = .ok (.aload_n 0, 1) := by decide +kernel
theorem dX10_tone_19 : decode cX10_tone 19 = .ok (.getfield 38, 3) := by decide +kernel
theorem dX10_tone_22 : decode cX10_tone 22 = .ok (.iload_n 1, 1) := by decide +kernel
theorem dX10_tone_23 : decode cX10_tone 23 = .ok (.aaload, 1) := by decide +kernel
theorem dX10_tone_24 : decode cX10_tone 24 = .ok (.iload_n 2, 1) := by decide +kernel
theorem dX10_tone_25 : decode cX10_tone 25 = .ok (.invokevirtual 183, 3) := by decide +kernel
theorem dX10_tone_28 : decode cX10_tone 28 = .ok (.aload_n 0, 1) := by decide +kernel
theorem dX10_tone_29 : decode cX10_tone 29 = .ok (.getfield 69, 3) := by decide +kernel
theorem dX10_tone_32 : decode cX10_tone 32 = .ok (.getfield 187, 3) := by decide +kernel
theorem dX10_tone_35 : decode cX10_tone 35 = .ok (.astore 6, 2) := by decide +kernel
theorem dX10_tone_37 : decode cX10_tone 37 = .ok (.aload 6, 2) := by decide +kernel
theorem dX10_tone_39 : decode cX10_tone 39 = .ok (.iload_n 3, 1) := by decide +kernel
theorem dX10_tone_40 : decode cX10_tone 40 = .ok (.invokevirtual 191, 3) := by decide +kernel
theorem dX10_tone_43 : decode cX10_tone 43 = .ok (.aload 6, 2) := by decide +kernel
theorem dX10_tone_45 : decode cX10_tone 45 = .ok (.invokevirtual 202, 3) := by decide +kernel
theorem dX10_tone_48 : decode cX10_tone 48 = .ok (.iload 4, 2) := by decide +kernel
theorem dX10_tone_50 : decode cX10_tone 50 = .ok (.ifCond .lt 13, 3) := by decide +kernel
theorem dX10_tone_53 : decode cX10_tone 53 = .ok (.iload 4, 2) := by decide +kernel
theorem dX10_tone_55 : decode cX10_tone 55 = .ok (.aload 6, 2) := by decide +kernel
theorem dX10_tone_57 : decode cX10_tone 57 = .ok (.getfield 205, 3) := by decide +kernel
theorem dX10_tone_60 : decode cX10_tone 60 = .ok (.if_icmp .lt 7, 3) := by decide +kernel
theorem dX10_tone_63 : decode cX10_tone 63 = .ok (.sipush (-20000), 3) := by decide +kernel
theorem dX10_tone_66 : decode cX10_tone 66 = .ok (.ireturn, 1) := by decide +kernel
theorem dX10_tone_67 : decode cX10_tone 67 = .ok (.iload 5, 2) := by decide +kernel
theorem dX10_tone_69 : decode cX10_tone 69 = .ok (.tableswitch 54 0 2 #[27, 36, 45], 27) := by decide +kernel
theorem dX10_tone_96 : decode cX10_tone 96 = .ok (.aload 6, 2) := by decide +kernel
theorem dX10_tone_98 : decode cX10_tone 98 = .ok (.getfield 208, 3) := by decide +kernel
theorem dX10_tone_101 : decode cX10_tone 101 = .ok (.iload 4, 2) := by decide +kernel
theorem dX10_tone_103 : decode cX10_tone 103 = .ok (.iaload, 1) := by decide +kernel
theorem dX10_tone_104 : decode cX10_tone 104 = .ok (.ireturn, 1) := by decide +kernel
theorem dX10_tone_105 : decode cX10_tone 105 = .ok (.aload 6, 2) := by decide +kernel
theorem dX10_tone_107 : decode cX10_tone 107 = .ok (.getfield 211, 3) := by decide +kernel
theorem dX10_tone_110 : decode cX10_tone 110 = .ok (.iload 4, 2) := by decide +kernel
theorem dX10_tone_112 : decode cX10_tone 112 = .ok (.iaload, 1) := by decide +kernel
theorem dX10_tone_113 : decode cX10_tone 113 = .ok (.ireturn, 1) := by decide +kernel
theorem dX10_tone_114 : decode cX10_tone 114 = .ok (.aload 6, 2) := by decide +kernel
theorem dX10_tone_116 : decode cX10_tone 116 = .ok (.getfield 214, 3) := by decide +kernel
theorem dX10_tone_119 : decode cX10_tone 119 = .ok (.iload 4, 2) := by decide +kernel
theorem dX10_tone_121 : decode cX10_tone 121 = .ok (.iaload, 1) := by decide +kernel
theorem dX10_tone_122 : decode cX10_tone 122 = .ok (.ireturn, 1) := by decide +kernel
theorem dX10_tone_123 : decode cX10_tone 123 = .ok (.sipush (-20000), 3) := by decide +kernel
theorem dX10_tone_126 : decode cX10_tone 126 = .ok (.ireturn, 1) := by decide +kernel
theorem dX10_tones_0 : decode cX10_tones 0 = .ok (.aload_n 0, 1) := by decide +kernel
theorem dX10_tones_1 : decode cX10_tones 1 = .ok (.iload_n 1, 1) := by decide +kernel
theorem dX10_tones_2 : decode cX10_tones 2 = .ok (.iload_n 2, 1) := by decide +kernel
theorem dX10_tones_3 : decode cX10_tones 3 = .ok (.iload_n 3, 1) := by decide +kernel
theorem dX10_tones_4 : decode cX10_tones 4 = .ok (.invokevirtual 179, 3) := by decide +kernel
theorem dX10_tones_7 : decode cX10_tones 7 = .ok (.ifCond .ne 5, 3) := by decide +kernel
theorem dX10_tones_10 : decode cX10_tones 10 = .ok (.iconst (-1), 1) := by decide +kernel
theorem dX10_tones_11 : decode cX10_tones 11 = .ok (.ireturn, 1) := by decide +kernel
theorem dX10_tones_12 : decode cX10_tones 12 = .ok (.aload_n 0, 1) := by decide +kernel
theorem dX10_tones_13 : decode cX10_tones 13 = .ok (.getfield 69, 3) := by decide +kernel
theorem dX10_tones_16 : decode cX10_tones 16 = .ok (.aload_n 0, 1) := by decide +kernel
theorem dX10_tones_17 : decode cX10_tones 17 = .ok (.getfield 38, 3) := by decide +kernel
theorem dX10_tones_20 : decode cX10_tones 20 = .ok (.iload_n 1, 1) := by decide +kernel
theorem dX10_tones_21 : decode cX10_tones 21 = .ok (.aaload, 1) := by decide +kernel
theorem dX10_tones_22 : decode cX10_tones 22 = .ok (.iload_n 2, 1) := by decide +kernel
theorem dX10_tones_23 : decode cX10_tones 23 = .ok (.invokevirtual 183, 3) := by decide +kernel
theorem dX10_tones_26 : decode cX10_tones 26 = .ok (.aload_n 0, 1) := by decide +kernel
theorem dX10_tones_27 : decode cX10_tones 27 = .ok (.getfield 69, 3) := by decide +kernel
theorem dX10_tones_30 : decode cX10_tones 30 = .ok (.getfield 187, 3) := by decide +kernel
theorem dX10_tones_33 : decode cX10_tones 33 = .ok (.iload_n 3, 1) := by decide +kernel
theorem dX10_tones_34 : decode cX10_tones 34 = .ok (.invokevirtual 191, 3) := by decide +kernel
theorem dX10_tones_37 : decode cX10_tones 37 = .ok (.aload_n 0, 1) := by decide +kernel
theorem dX10_tones_38 : decode cX10_tones 38 = .ok (.getfield 69, 3) := by decide +kernel
theorem dX10_tones_41 : decode cX10_tones 41 = .ok (.getfield 187, 3) := by decide +kernel
theorem dX10_tones_44 : decode cX10_tones 44 = .ok (.invokevirtual 202, 3) := by decide +kernel
theorem dX10_tones_47 : decode cX10_tones 47 = .ok (.aload_n 0, 1) := by decide +kernel
theorem dX10_tones_48 : decode cX10_tones 48 = .ok (.getfield 69, 3) := by decide +kernel
theorem dX10_tones_51 : decode cX10_tones 51 = .ok (.getfield 187, 3) := by decide +kernel
theorem dX10_tones_54 : decode cX10_tones 54 = .ok (.getfield 205, 3) := by decide +kernel
theorem dX10_tones_57 : decode cX10_tones 57 = .ok (.ireturn, 1) := by decide +kernel
theorem dX10_alike_0 : decode cX10_alike 0 = .ok (.aload_n 0, 1) := by decide +kernel
theorem dX10_alike_1 : decode cX10_alike 1 = .ok (.iload_n 1, 1) := by decide +kernel
theorem dX10_alike_2 : decode cX10_alike 2 = .ok (.iload_n 2, 1) := by decide +kernel
theorem dX10_alike_3 : decode cX10_alike 3 = .ok (.iload_n 3, 1) := by decide +kernel
theorem dX10_alike_4 : decode cX10_alike 4 = .ok (.invokevirtual 179, 3) := by decide +kernel
theorem dX10_alike_7 : decode cX10_alike 7 = .ok (.ifCond .eq 12, 3) := by decide +kernel
theorem dX10_alike_10 : decode cX10_alike 10 = .ok (.aload_n 0, 1) := by decide +kernel
theorem dX10_alike_11 : decode cX10_alike 11 = .ok (.iload 4, 2) := by decide +kernel
theorem dX10_alike_13 : decode cX10_alike 13 = .ok (.invokevirtual 165, 3) := by decide +kernel
theorem dX10_alike_16 : decode cX10_alike 16 = .ok (.ifCond .ne 5, 3) := by decide +kernel
theorem dX10_alike_19 : decode cX10_alike 19 = .ok (.iconst (-1), 1) := by decide +kernel
theorem dX10_alike_20 : decode cX10_alike 20 = .ok (.ireturn, 1) := by decide +kernel
theorem dX10_alike_21 : decode cX10_alike 21 = .ok (.aload_n 0, 1) := by decide +kernel
theorem dX10_alike_22 : decode cX10_alike 22 = .ok (.getfield 69, 3) := by decide +kernel
theorem dX10_alike_25 : decode cX10_alike 25 = .ok (.aload_n 0, 1) := by decide +kernel
theorem dX10_alike_26 : decode cX10_alike 26 = .ok (.getfield 38, 3) := by decide +kernel
theorem dX10_alike_29 : decode cX10_alike 29 = .ok (.iload_n 1, 1) := by decide +kernel
theorem dX10_alike_30 : decode cX10_alike 30 = .ok (.aaload, 1) := by decide +kernel
theorem dX10_alike_31 : decode cX10_alike 31 = .ok (.iload_n 2, 1) := by decide +kernel
theorem dX10_alike_32 : decode cX10_alike 32 = .ok (.invokevirtual 183, 3) := by decide +kernel
theorem dX10_alike_35 : decode cX10_alike 35 = .ok (.aload_n 0, 1) := by decide +kernel
theorem dX10_alike_36 : decode cX10_alike 36 = .ok (.getfield 69, 3) := by decide +kernel
theorem dX10_alike_39 : decode cX10_alike 39 = .ok (.iload_n 3, 1) := by decide +kernel
theorem dX10_alike_40 : decode cX10_alike 40 = .ok (.invokevirtual 217, 3) := by decide +kernel
theorem dX10_alike_43 : decode cX10_alike 43 = .ok (.aload_n 0, 1) := by decide +kernel
theorem dX10_alike_44 : decode cX10_alike 44 = .ok (.getfield 69, 3) := by decide +kernel
theorem dX10_alike_47 : decode cX10_alike 47 = .ok (.iload 4, 2) := by decide +kernel
theorem dX10_alike_49 : decode cX10_alike 49 = .ok (.invokevirtual 217, 3) := by decide +kernel
theorem dX10_alike_52 : decode cX10_alike 52 = .ok (.aload_n 0, 1) := by decide +kernel
theorem dX10_alike_53 : decode cX10_alike 53 = .ok (.getfield 69, 3) := by decide +kernel
theorem dX10_alike_56 : decode cX10_alike 56 = .ok (.iload_n 3, 1) := by decide +kernel
theorem dX10_alike_57 : decode cX10_alike 57 = .ok (.invokevirtual 220, 3) := by decide +kernel
theorem dX10_alike_60 : decode cX10_alike 60 = .ok (.aload_n 0, 1) := by decide +kernel
theorem dX10_alike_61 : decode cX10_alike 61 = .ok (.getfield 69, 3) := by decide +kernel
theorem dX10_alike_64 : decode cX10_alike 64 = .ok (.iload 4, 2) := by decide +kernel
theorem dX10_alike_66 : decode cX10_alike 66 = .ok (.invokevirtual 220, 3) := by decide +kernel
theorem dX10_alike_69 : decode cX10_alike 69 = .ok (.if_icmp .ne 7, 3) := by decide +kernel
theorem dX10_alike_72 : decode cX10_alike 72 = .ok (.iconst 1, 1) := by decide +kernel
theorem dX10_alike_73 : decode cX10_alike 73 = .ok (.goto 4, 3) := by decide +kernel
theorem dX10_alike_76 : decode cX10_alike 76 = .ok (.iconst 0, 1) := by decide +kernel
theorem dX10_alike_77 : decode cX10_alike 77 = .ok (.ireturn, 1) := by decide +kernel
theorem dX10_hear_0 : decode cX10_hear 0 = .ok (.iload_n 1, 1) := by decide +kernel
theorem dX10_hear_1 : decode cX10_hear 1 = .ok (.sipush (-20000), 3) := by decide +kernel
theorem dX10_hear_4 : decode cX10_hear 4 = .ok (.if_icmp .ne 13, 3) := by decide +kernel
theorem dX10_hear_7 : decode cX10_hear 7 = .ok (.aload_n 0, 1) := by decide +kernel
theorem dX10_hear_8 : decode cX10_hear 8 = .ok (.getfield 45, 3) := by decide +kernel
theorem dX10_hear_11 : decode cX10_hear 11 = .ok (.iconst 0, 1) := by decide +kernel
theorem dX10_hear_12 : decode cX10_hear 12 = .ok (.putfield 223, 3) := by decide +kernel
theorem dX10_hear_15 : decode cX10_hear 15 = .ok (.iconst 0, 1) := by decide +kernel
theorem dX10_hear_16 : decode cX10_hear 16 = .ok (.ireturn, 1) := by decide +kernel
theorem dX10_hear_17 : decode cX10_hear 17 = .ok (.iload_n 1, 1) := by decide +kernel
theorem dX10_hear_18 : decode cX10_hear 18 = .ok (.sipush (-9999), 3) := by decide +kernel
theorem dX10_hear_21 : decode cX10_hear 21 = .ok (.if_icmp .lt 21, 3) := by decide +kernel
theorem dX10_hear_24 : decode cX10_hear 24 = .ok (.iload_n 1, 1) := by decide +kernel
theorem dX10_hear_25 : decode cX10_hear 25 = .ok (.sipush 9999, 3) := by decide +kernel
theorem dX10_hear_28 : decode cX10_hear 28 = .ok (.if_icmp .gt 14, 3) := by decide +kernel
theorem dX10_hear_31 : decode cX10_hear 31 = .ok (.aload_n 0, 1) := by decide +kernel
theorem dX10_hear_32 : decode cX10_hear 32 = .ok (.getfield 45, 3) := by decide +kernel
theorem dX10_hear_35 : decode cX10_hear 35 = .ok (.iload_n 1, 1) := by decide +kernel
theorem dX10_hear_36 : decode cX10_hear 36 = .ok (.invokevirtual 226, 3) := by decide +kernel
theorem dX10_hear_39 : decode cX10_hear 39 = .ok (.ifCond .ne 6, 3) := by decide +kernel
theorem dX10_hear_42 : decode cX10_hear 42 = .ok (.bipush (-2), 2) := by decide +kernel
theorem dX10_hear_44 : decode cX10_hear 44 = .ok (.ireturn, 1) := by decide +kernel
theorem dX10_hear_45 : decode cX10_hear 45 = .ok (.aload_n 0, 1) := by decide +kernel
theorem dX10_hear_46 : decode cX10_hear 46 = .ok (.getfield 45, 3) := by decide +kernel
theorem dX10_hear_49 : decode cX10_hear 49 = .ok (.getfield 223, 3) := by decide +kernel
theorem dX10_hear_52 : decode cX10_hear 52 = .ok (.ireturn, 1) := by decide +kernel
theorem dX10_fits_0 : decode cX10_fits 0 = .ok (.aload_n 0, 1) := by decide +kernel
theorem dX10_fits_1 : decode cX10_fits 1 = .ok (.iload_n 1, 1) := by decide +kernel
theorem dX10_fits_2 : decode cX10_fits 2 = .ok (.iload_n 2, 1) := by decide +kernel
theorem dX10_fits_3 : decode cX10_fits 3 = .ok (.iload_n 3, 1) := by decide +kernel
theorem dX10_fits_4 : decode cX10_fits 4 = .ok (.invokevirtual 179, 3) := by decide +kernel
theorem dX10_fits_7 : decode cX10_fits 7 = .ok (.ifCond .eq 14, 3) := by decide +kernel
theorem dX10_fits_10 : decode cX10_fits 10 = .ok (.iload 4, 2) := by decide +kernel
theorem dX10_fits_12 : decode cX10_fits 12 = .ok (.ifCond .lt 9, 3) := by decide +kernel
theorem dX10_fits_15 : decode cX10_fits 15 = .ok (.iload 4, 2) := by decide +kernel
theorem dX10_fits_17 : decode cX10_fits 17 = .ok (.iconst 4, 1) := by decide +kernel
theorem dX10_fits_18 : decode cX10_fits 18 = .ok (.if_icmp .le 5, 3) := by decide +kernel
theorem dX10_fits_21 : decode cX10_fits 21 = .ok (.iconst (-1), 1) := by decide +kernel
theorem dX10_fits_22 : decode cX10_fits 22 = .ok (.ireturn, 1) := by decide +kernel
theorem dX10_fits_23 : decode cX10_fits 23 = .ok (.aload_n 0, 1) := by decide +kernel
theorem dX10_fits_24 : decode cX10_fits 24 = .ok (.getfield 69, 3) := by decide +kernel
theorem dX10_fits_27 : decode cX10_fits 27 = .ok (.aload_n 0, 1) := by decide +kernel
theorem dX10_fits_28 : decode cX10_fits 28 = .ok (.getfield 38, 3) := by decide +kernel
theorem dX10_fits_31 : decode cX10_fits 31 = .ok (.iload_n 1, 1) := by decide +kernel
theorem dX10_fits_32 : decode cX10_fits 32 = .ok (.aaload, 1) := by decide +kernel
theorem dX10_fits_33 : decode cX10_fits 33 = .ok (.iload_n 2, 1) := by decide +kernel
theorem dX10_fits_34 : decode cX10_fits 34 = .ok (.invokevirtual 183, 3) := by decide +kernel
theorem dX10_fits_37 : decode cX10_fits 37 = .ok (.aload_n 0, 1) := by decide +kernel
theorem dX10_fits_38 : decode cX10_fits 38 = .ok (.getfield 87, 3) := by decide +kernel
theorem dX10_fits_41 : decode cX10_fits 41 = .ok (.iload_n 3, 1) := by decide +kernel
theorem dX10_fits_42 : decode cX10_fits 42 = .ok (.iload 4, 2) := by decide +kernel
theorem dX10_fits_44 : decode cX10_fits 44 = .ok (.invokevirtual 229, 3) := by decide +kernel
theorem dX10_fits_47 : decode cX10_fits 47 = .ok (.ireturn, 1) := by decide +kernel
theorem dX10_mistaken_0 : decode cX10_mistaken 0 = .ok (.aload_n 0, 1) := by decide +kernel
theorem dX10_mistaken_1 : decode cX10_mistaken 1 = .ok (.iload_n 1, 1) := by decide +kernel
theorem dX10_mistaken_2 : decode cX10_mistaken 2 = .ok (.iload_n 2, 1) := by decide +kernel
theorem dX10_mistaken_3 : decode cX10_mistaken 3 = .ok (.iload_n 3, 1) := by decide +kernel
theorem dX10_mistaken_4 : decode cX10_mistaken 4 = .ok (.invokevirtual 179, 3) := by decide +kernel
theorem dX10_mistaken_7 : decode cX10_mistaken 7 = .ok (.ifCond .eq 15, 3) := by decide +kernel
theorem dX10_mistaken_10 : decode cX10_mistaken 10 = .ok (.iload 4, 2) := by decide +kernel
theorem dX10_mistaken_12 : decode cX10_mistaken 12 = .ok (.ifCond .lt 10, 3) := by decide +kernel
theorem dX10_mistaken_15 : decode cX10_mistaken 15 = .ok (.iload 4, 2) := by decide +kernel
theorem dX10_mistaken_17 : decode cX10_mistaken 17 = .ok (.bipush 12, 2) := by decide +kernel
theorem dX10_mistaken_19 : decode cX10_mistaken 19 = .ok (.if_icmp .le 5, 3) := by decide +kernel
theorem dX10_mistaken_22 : decode cX10_mistaken 22 = .ok (.iconst (-1), 1) := by decide +kernel
theorem dX10_mistaken_23 : decode cX10_mistaken 23 = .ok (.ireturn, 1) := by decide +kernel
theorem dX10_mistaken_24 : decode cX10_mistaken 24 = .ok (.iload 5, 2) := by decide +kernel
theorem dX10_mistaken_26 : decode cX10_mistaken 26 = .ok (.ifCond .lt 9, 3) := by decide +kernel
theorem dX10_mistaken_29 : decode cX10_mistaken 29 = .ok (.iload 5, 2) := by decide +kernel
theorem dX10_mistaken_31 : decode cX10_mistaken 31 = .ok (.iconst 2, 1) := by decide +kernel
theorem dX10_mistaken_32 : decode cX10_mistaken 32 = .ok (.if_icmp .le 5, 3) := by decide +kernel
theorem dX10_mistaken_35 : decode cX10_mistaken 35 = .ok (.iconst (-1), 1) := by decide +kernel
theorem dX10_mistaken_36 : decode cX10_mistaken 36 = .ok (.ireturn, 1) := by decide +kernel
theorem dX10_mistaken_37 : decode cX10_mistaken 37 = .ok (.aload_n 0, 1) := by decide +kernel
theorem dX10_mistaken_38 : decode cX10_mistaken 38 = .ok (.getfield 69, 3) := by decide +kernel
theorem dX10_mistaken_41 : decode cX10_mistaken 41 = .ok (.aload_n 0, 1) := by decide +kernel
theorem dX10_mistaken_42 : decode cX10_mistaken 42 = .ok (.getfield 38, 3) := by decide +kernel
theorem dX10_mistaken_45 : decode cX10_mistaken 45 = .ok (.iload_n 1, 1) := by decide +kernel
theorem dX10_mistaken_46 : decode cX10_mistaken 46 = .ok (.aaload, 1) := by decide +kernel
theorem dX10_mistaken_47 : decode cX10_mistaken 47 = .ok (.iload_n 2, 1) := by decide +kernel
theorem dX10_mistaken_48 : decode cX10_mistaken 48 = .ok (.invokevirtual 183, 3) := by decide +kernel
theorem dX10_mistaken_51 : decode cX10_mistaken 51 = .ok (.aload_n 0, 1) := by decide +kernel
theorem dX10_mistaken_52 : decode cX10_mistaken 52 = .ok (.getfield 87, 3) := by decide +kernel
theorem dX10_mistaken_55 : decode cX10_mistaken 55 = .ok (.iload_n 3, 1) := by decide +kernel
theorem dX10_mistaken_56 : decode cX10_mistaken 56 = .ok (.iload 4, 2) := by decide +kernel
theorem dX10_mistaken_58 : decode cX10_mistaken 58 = .ok (.iload 5, 2) := by decide +kernel
theorem dX10_mistaken_60 : decode cX10_mistaken 60 = .ok (.invokevirtual 233, 3) := by decide +kernel
theorem dX10_mistaken_63 : decode cX10_mistaken 63 = .ok (.ireturn, 1) := by decide +kernel
theorem dX10_pay_0 : decode cX10_pay 0 = .ok (.aload_n 0, 1) := by decide +kernel
theorem dX10_pay_1 : decode cX10_pay 1 = .ok (.iload_n 1, 1) := by decide +kernel
theorem dX10_pay_2 : decode cX10_pay 2 = .ok (.iload_n 3, 1) := by decide +kernel
theorem dX10_pay_3 : decode cX10_pay 3 = .ok (.iload 4, 2) := by decide +kernel
theorem dX10_pay_5 : decode cX10_pay 5 = .ok (.invokevirtual 237, 3) := by decide +kernel
theorem dX10_pay_8 : decode cX10_pay 8 = .ok (.ifCond .eq 19, 3) := by decide +kernel
