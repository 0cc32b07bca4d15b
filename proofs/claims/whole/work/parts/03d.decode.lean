theorem dX0_init_0 : decode cX0_init 0 = .ok (.aload_n 0, 1) := by decide +kernel
theorem dX0_init_1 : decode cX0_init 1 = .ok (.invokespecial 3, 3) := by decide +kernel
theorem dX0_init_4 : decode cX0_init 4 = .ok (.aload_n 0, 1) := by decide +kernel
theorem dX0_init_5 : decode cX0_init 5 = .ok (.iconst (-1), 1) := by decide +kernel
theorem dX0_init_6 : decode cX0_init 6 = .ok (.putfield 9, 3) := by decide +kernel
theorem dX0_init_9 : decode cX0_init 9 = .ok (.aload_n 0, 1) := by decide +kernel
theorem dX0_init_10 : decode cX0_init 10 = .ok (.sipush 4096, 3) := by decide +kernel
theorem dX0_init_13 : decode cX0_init 13 = .ok (.newarray .int, 2) := by decide +kernel
theorem dX0_init_15 : decode cX0_init 15 = .ok (.putfield 15, 3) := by decide +kernel
theorem dX0_init_18 : decode cX0_init 18 = .ok (.aload_n 0, 1) := by decide +kernel
theorem dX0_init_19 : decode cX0_init 19 = .ok (.sipush 4096, 3) := by decide +kernel
theorem dX0_init_22 : decode cX0_init 22 = .ok (.newarray .int, 2) := by decide +kernel
theorem dX0_init_24 : decode cX0_init 24 = .ok (.putfield 19, 3) := by decide +kernel
theorem dX0_init_27 : decode cX0_init 27 = .ok (.aload_n 0, 1) := by decide +kernel
theorem dX0_init_28 : decode cX0_init 28 = .ok (.sipush 4098, 3) := by decide +kernel
theorem dX0_init_31 : decode cX0_init 31 = .ok (.newarray .int, 2) := by decide +kernel
theorem dX0_init_33 : decode cX0_init 33 = .ok (.putfield 22, 3) := by decide +kernel
theorem dX0_init_36 : decode cX0_init 36 = .ok (.aload_n 0, 1) := by decide +kernel
theorem dX0_init_37 : decode cX0_init 37 = .ok (.sipush 24576, 3) := by decide +kernel
theorem dX0_init_40 : decode cX0_init 40 = .ok (.newarray .int, 2) := by decide +kernel
theorem dX0_init_42 : decode cX0_init 42 = .ok (.putfield 25, 3) := by decide +kernel
theorem dX0_init_45 : decode cX0_init 45 = .ok (.aload_n 0, 1) := by decide +kernel
theorem dX0_init_46 : decode cX0_init 46 = .ok (.sipush 4096, 3) := by decide +kernel
theorem dX0_init_49 : decode cX0_init 49 = .ok (.newarray .int, 2) := by decide +kernel
theorem dX0_init_51 : decode cX0_init 51 = .ok (.putfield 28, 3) := by decide +kernel
theorem dX0_init_54 : decode cX0_init 54 = .ok (.aload_n 0, 1) := by decide +kernel
theorem dX0_init_55 : decode cX0_init 55 = .ok (.sipush 4097, 3) := by decide +kernel
theorem dX0_init_58 : decode cX0_init 58 = .ok (.newarray .int, 2) := by decide +kernel
theorem dX0_init_60 : decode cX0_init 60 = .ok (.putfield 31, 3) := by decide +kernel
theorem dX0_init_63 : decode cX0_init 63 = .ok (.aload_n 0, 1) := by decide +kernel
theorem dX0_init_64 : decode cX0_init 64 = .ok (.sipush 4097, 3) := by decide +kernel
theorem dX0_init_67 : decode cX0_init 67 = .ok (.newarray .int, 2) := by decide +kernel
theorem dX0_init_69 : decode cX0_init 69 = .ok (.putfield 34, 3) := by decide +kernel
theorem dX0_init_72 : decode cX0_init 72 = .ok (.aload_n 0, 1) := by decide +kernel
theorem dX0_init_73 : decode cX0_init 73 = .ok (.sipush 4097, 3) := by decide +kernel
theorem dX0_init_76 : decode cX0_init 76 = .ok (.newarray .int, 2) := by decide +kernel
theorem dX0_init_78 : decode cX0_init 78 = .ok (.putfield 37, 3) := by decide +kernel
theorem dX0_init_81 : decode cX0_init 81 = .ok (.aload_n 0, 1) := by decide +kernel
theorem dX0_init_82 : decode cX0_init 82 = .ok (.sipush 4097, 3) := by decide +kernel
theorem dX0_init_85 : decode cX0_init 85 = .ok (.newarray .int, 2) := by decide +kernel
theorem dX0_init_87 : decode cX0_init 87 = .ok (.putfield 40, 3) := by decide +kernel
theorem dX0_init_90 : decode cX0_init 90 = .ok (.aload_n 0, 1) := by decide +kernel
theorem dX0_init_91 : decode cX0_init 91 = .ok (.aload_n 1, 1) := by decide +kernel
theorem dX0_init_92 : decode cX0_init 92 = .ok (.putfield 43, 3) := by decide +kernel
theorem dX0_init_95 : decode cX0_init 95 = .ok (.aload_n 0, 1) := by decide +kernel
theorem dX0_init_96 : decode cX0_init 96 = .ok (.aload_n 2, 1) := by decide +kernel
theorem dX0_init_97 : decode cX0_init 97 = .ok (.putfield 47, 3) := by decide +kernel
theorem dX0_init_100 : decode cX0_init 100 = .ok (.aload_n 0, 1) := by decide +kernel
theorem dX0_init_101 : decode cX0_init 101 = .ok (.new 51, 3) := by decide +kernel
theorem dX0_init_104 : decode cX0_init 104 = .ok (.dup, 1) := by decide +kernel
theorem dX0_init_105 : decode cX0_init 105 = .ok (.aload_n 1, 1) := by decide +kernel
theorem dX0_init_106 : decode cX0_init 106 = .ok (.aload_n 2, 1) := by decide +kernel
theorem dX0_init_107 : decode cX0_init 107 = .ok (.invokespecial 53, 3) := by decide +kernel
theorem dX0_init_110 : decode cX0_init 110 = .ok (.putfield 56, 3) := by decide +kernel
theorem dX0_init_113 : decode cX0_init 113 = .ok (.return_, 1) := by decide +kernel
theorem dX0_forget_0 : decode cX0_forget 0 = .ok (.aload_n 0, 1) := by decide +kernel
theorem dX0_forget_1 : decode cX0_forget 1 = .ok (.iconst (-1), 1) := by decide +kernel
theorem dX0_forget_2 : decode cX0_forget 2 = .ok (.putfield 9, 3) := by decide +kernel
theorem dX0_forget_5 : decode cX0_forget 5 = .ok (.return_, 1) := by decide +kernel
theorem dX0_aim_0 : decode cX0_aim 0 = .ok (.aload_n 1, 1) := by decide +kernel
theorem dX0_aim_1 : decode cX0_aim 1 = .ok (.aload_n 0, 1) := by decide +kernel
theorem dX0_aim_2 : decode cX0_aim 2 = .ok (.getfield 47, 3) := by decide +kernel
theorem dX0_aim_5 : decode cX0_aim 5 = .ok (.if_acmp .ne 12, 3) := by decide +kernel
theorem dX0_aim_8 : decode cX0_aim 8 = .ok (.iload_n 2, 1) := by decide +kernel
theorem dX0_aim_9 : decode cX0_aim 9 = .ok (.aload_n 0, 1) := by decide +kernel
theorem dX0_aim_10 : decode cX0_aim 10 = .ok (.getfield 9, 3) := by decide +kernel
theorem dX0_aim_13 : decode cX0_aim 13 = .ok (.if_icmp .ne 4, 3) := by decide +kernel
theorem dX0_aim_16 : decode cX0_aim 16 = .ok (.return_, 1) := by decide +kernel
theorem dX0_aim_17 : decode cX0_aim 17 = .ok (.aload_n 0, 1) := by decide +kernel
theorem dX0_aim_18 : decode cX0_aim 18 = .ok (.aload_n 1, 1) := by decide +kernel
theorem dX0_aim_19 : decode cX0_aim 19 = .ok (.putfield 47, 3) := by decide +kernel
theorem dX0_aim_22 : decode cX0_aim 22 = .ok (.aload_n 0, 1) := by decide +kernel
theorem dX0_aim_23 : decode cX0_aim 23 = .ok (.iload_n 2, 1) := by decide +kernel
theorem dX0_aim_24 : decode cX0_aim 24 = .ok (.putfield 9, 3) := by decide +kernel
theorem dX0_aim_27 : decode cX0_aim 27 = .ok (.aload_n 0, 1) := by decide +kernel
theorem dX0_aim_28 : decode cX0_aim 28 = .ok (.getfield 56, 3) := by decide +kernel
theorem dX0_aim_31 : decode cX0_aim 31 = .ok (.aload_n 1, 1) := by decide +kernel
theorem dX0_aim_32 : decode cX0_aim 32 = .ok (.iload_n 2, 1) := by decide +kernel
theorem dX0_aim_33 : decode cX0_aim 33 = .ok (.invokevirtual 60, 3) := by decide +kernel
theorem dX0_aim_36 : decode cX0_aim 36 = .ok (.aload_n 0, 1) := by decide +kernel
theorem dX0_aim_37 : decode cX0_aim 37 = .ok (.iconst 0, 1) := by decide +kernel
theorem dX0_aim_38 : decode cX0_aim 38 = .ok (.putfield 64, 3) := by decide +kernel
theorem dX0_aim_41 : decode cX0_aim 41 = .ok (.iconst 0, 1) := by decide +kernel
theorem dX0_aim_42 : decode cX0_aim 42 = .ok (.istore_n 3, 1) := by decide +kernel
theorem dX0_aim_43 : decode cX0_aim 43 = .ok (.iload_n 3, 1) := by decide +kernel
theorem dX0_aim_44 : decode cX0_aim 44 = .ok (.iconst 1, 1) := by decide +kernel
theorem dX0_aim_45 : decode cX0_aim 45 = .ok (.aload_n 0, 1) := by decide +kernel
theorem dX0_aim_46 : decode cX0_aim 46 = .ok (.getfield 43, 3) := by decide +kernel
theorem dX0_aim_49 : decode cX0_aim 49 = .ok (.getfield 67, 3) := by decide +kernel
theorem dX0_aim_52 : decode cX0_aim 52 = .ok (.ishl, 1) := by decide +kernel
theorem dX0_aim_53 : decode cX0_aim 53 = .ok (.if_icmp .ge 23, 3) := by decide +kernel
theorem dX0_aim_56 : decode cX0_aim 56 = .ok (.aload_n 0, 1) := by decide +kernel
theorem dX0_aim_57 : decode cX0_aim 57 = .ok (.getfield 15, 3) := by decide +kernel
theorem dX0_aim_60 : decode cX0_aim 60 = .ok (.iload_n 3, 1) := by decide +kernel
theorem dX0_aim_61 : decode cX0_aim 61 = .ok (.iconst 0, 1) := by decide +kernel
theorem dX0_aim_62 : decode cX0_aim 62 = .ok (.iastore, 1) := by decide +kernel
theorem dX0_aim_63 : decode cX0_aim 63 = .ok (.aload_n 0, 1) := by decide +kernel
theorem dX0_aim_64 : decode cX0_aim 64 = .ok (.getfield 28, 3) := by decide +kernel
theorem dX0_aim_67 : decode cX0_aim 67 = .ok (.iload_n 3, 1) := by decide +kernel
theorem dX0_aim_68 : decode cX0_aim 68 = .ok (.iconst 0, 1) := by decide +kernel
theorem dX0_aim_69 : decode cX0_aim 69 = .ok (.iastore, 1) := by decide +kernel
theorem dX0_aim_70 : decode cX0_aim 70 = .ok (.iinc 3 1, 3) := by decide +kernel
theorem dX0_aim_73 : decode cX0_aim 73 = .ok (.goto (-30), 3) := by decide +kernel
theorem dX0_aim_76 : decode cX0_aim 76 = .ok (.return_, 1) := by decide +kernel
theorem dX0_learnWithin_0 : decode cX0_learnWithin 0 = .ok (.iconst 1, 1) := by decide +kernel
theorem dX0_learnWithin_1 : decode cX0_learnWithin 1 = .ok (.iload_n 1, 1) := by decide +kernel
theorem dX0_learnWithin_2 : decode cX0_learnWithin 2 = .ok (.invokestatic 72, 3) := by decide +kernel
theorem dX0_learnWithin_5 : decode cX0_learnWithin 5 = .ok (.ishl, 1) := by decide +kernel
theorem dX0_learnWithin_6 : decode cX0_learnWithin 6 = .ok (.istore_n 3, 1) := by decide +kernel
theorem dX0_learnWithin_7 : decode cX0_learnWithin 7 = .ok (.iconst 0, 1) := by decide +kernel
theorem dX0_learnWithin_8 : decode cX0_learnWithin 8 = .ok (.istore 4, 2) := by decide +kernel
theorem dX0_learnWithin_10 : decode cX0_learnWithin 10 = .ok (.iconst 0, 1) := by decide +kernel
theorem dX0_learnWithin_11 : decode cX0_learnWithin 11 = .ok (.istore 5, 2) := by decide +kernel
theorem dX0_learnWithin_13 : decode cX0_learnWithin 13 = .ok (.iload 5, 2) := by decide +kernel
theorem dX0_learnWithin_15 : decode cX0_learnWithin 15 = .ok (.iload_n 3, 1) := by decide +kernel
theorem dX0_learnWithin_16 : decode cX0_learnWithin 16 = .ok (.if_icmp .ge 32, 3) := by decide +kernel
theorem dX0_learnWithin_19 : decode cX0_learnWithin 19 = .ok (.iload 4, 2) := by decide +kernel
theorem dX0_learnWithin_21 : decode cX0_learnWithin 21 = .ok (.invokestatic 72, 3) := by decide +kernel
theorem dX0_learnWithin_24 : decode cX0_learnWithin 24 = .ok (.iload_n 2, 1) := by decide +kernel
theorem dX0_learnWithin_25 : decode cX0_learnWithin 25 = .ok (.if_icmp .gt 9, 3) := by decide +kernel
theorem dX0_learnWithin_28 : decode cX0_learnWithin 28 = .ok (.aload_n 0, 1) := by decide +kernel
theorem dX0_learnWithin_29 : decode cX0_learnWithin 29 = .ok (.iload 4, 2) := by decide +kernel
theorem dX0_learnWithin_31 : decode cX0_learnWithin 31 = .ok (.invokevirtual 78, 3) := by decide +kernel
theorem dX0_learnWithin_34 : decode cX0_learnWithin 34 = .ok (.iload 4, 2) := by decide +kernel
theorem dX0_learnWithin_36 : decode cX0_learnWithin 36 = .ok (.iload_n 1, 1) := by decide +kernel
theorem dX0_learnWithin_37 : decode cX0_learnWithin 37 = .ok (.invokestatic 82, 3) := by decide +kernel
theorem dX0_learnWithin_40 : decode cX0_learnWithin 40 = .ok (.istore 4, 2) := by decide +kernel
theorem dX0_learnWithin_42 : decode cX0_learnWithin 42 = .ok (.iinc 5 1, 3) := by decide +kernel
theorem dX0_learnWithin_45 : decode cX0_learnWithin 45 = .ok (.goto (-32), 3) := by decide +kernel
theorem dX0_learnWithin_48 : decode cX0_learnWithin 48 = .ok (.return_, 1) := by decide +kernel
theorem dX0_learn_0 : decode cX0_learn 0 = .ok (.aload_n 0, 1) := by decide +kernel
theorem dX0_learn_1 : decode cX0_learn 1 = .ok (.getfield 15, 3) := by decide +kernel
theorem dX0_learn_4 : decode cX0_learn 4 = .ok (.iload_n 1, 1) := by decide +kernel
theorem dX0_learn_5 : decode cX0_learn 5 = .ok (.iaload, 1) := by decide +kernel
theorem dX0_learn_6 : decode cX0_learn 6 = .ok (.ifCond .ne 42, 3) := by decide +kernel
theorem dX0_learn_9 : decode cX0_learn 9 = .ok (.aload_n 0, 1) := by decide +kernel
theorem dX0_learn_10 : decode cX0_learn 10 = .ok (.getfield 56, 3) := by decide +kernel
theorem dX0_learn_13 : decode cX0_learn 13 = .ok (.iload_n 1, 1) := by decide +kernel
theorem dX0_learn_14 : decode cX0_learn 14 = .ok (.invokevirtual 86, 3) := by decide +kernel
theorem dX0_learn_17 : decode cX0_learn 17 = .ok (.aload_n 0, 1) := by decide +kernel
theorem dX0_learn_18 : decode cX0_learn 18 = .ok (.getfield 56, 3) := by decide +kernel
theorem dX0_learn_21 : decode cX0_learn 21 = .ok (.invokevirtual 89, 3) := by decide +kernel
theorem dX0_learn_24 : decode cX0_learn 24 = .ok (.aload_n 0, 1) := by decide +kernel
theorem dX0_learn_25 : decode cX0_learn 25 = .ok (.getfield 19, 3) := by decide +kernel
theorem dX0_learn_28 : decode cX0_learn 28 = .ok (.iload_n 1, 1) := by decide +kernel
theorem dX0_learn_29 : decode cX0_learn 29 = .ok (.aload_n 0, 1) := by decide +kernel
theorem dX0_learn_30 : decode cX0_learn 30 = .ok (.getfield 43, 3) := by decide +kernel
theorem dX0_learn_33 : decode cX0_learn 33 = .ok (.iload_n 1, 1) := by decide +kernel
theorem dX0_learn_34 : decode cX0_learn 34 = .ok (.invokevirtual 92, 3) := by decide +kernel
theorem dX0_learn_37 : decode cX0_learn 37 = .ok (.iastore, 1) := by decide +kernel
theorem dX0_learn_38 : decode cX0_learn 38 = .ok (.aload_n 0, 1) := by decide +kernel
theorem dX0_learn_39 : decode cX0_learn 39 = .ok (.getfield 15, 3) := by decide +kernel
theorem dX0_learn_42 : decode cX0_learn 42 = .ok (.iload_n 1, 1) := by decide +kernel
theorem dX0_learn_43 : decode cX0_learn 43 = .ok (.aload_n 0, 1) := by decide +kernel
theorem dX0_learn_44 : decode cX0_learn 44 = .ok (.invokevirtual 95, 3) := by decide +kernel
theorem dX0_learn_47 : decode cX0_learn 47 = .ok (.iastore, 1) := by decide +kernel
theorem dX0_learn_48 : decode cX0_learn 48 = .ok (.return_, 1) := by decide +kernel
theorem dX0_numberOfTones_0 : decode cX0_numberOfTones 0 = .ok (.iconst 0, 1) := by decide +kernel
theorem dX0_numberOfTones_1 : decode cX0_numberOfTones 1 = .ok (.istore_n 1, 1) := by decide +kernel
theorem dX0_numberOfTones_2 : decode cX0_numberOfTones 2 = .ok (.iconst 0, 1) := by decide +kernel
theorem dX0_numberOfTones_3 : decode cX0_numberOfTones 3 = .ok (.istore_n 2, 1) := by decide +kernel
theorem dX0_numberOfTones_4 : decode cX0_numberOfTones 4 = .ok (.iload_n 2, 1) := by decide +kernel
theorem dX0_numberOfTones_5 : decode cX0_numberOfTones 5 = .ok (.aload_n 0, 1) := by decide +kernel
theorem dX0_numberOfTones_6 : decode cX0_numberOfTones 6 = .ok (.getfield 56, 3) := by decide +kernel
theorem dX0_numberOfTones_9 : decode cX0_numberOfTones 9 = .ok (.getfield 99, 3) := by decide +kernel
theorem dX0_numberOfTones_12 : decode cX0_numberOfTones 12 = .ok (.if_icmp .ge 26, 3) := by decide +kernel
theorem dX0_numberOfTones_15 : decode cX0_numberOfTones 15 = .ok (.iload_n 1, 1) := by decide +kernel
theorem dX0_numberOfTones_16 : decode cX0_numberOfTones 16 = .ok (.bipush 31, 2) := by decide +kernel
theorem dX0_numberOfTones_18 : decode cX0_numberOfTones 18 = .ok (.imul, 1) := by decide +kernel
theorem dX0_numberOfTones_19 : decode cX0_numberOfTones 19 = .ok (.aload_n 0, 1) := by decide +kernel
theorem dX0_numberOfTones_20 : decode cX0_numberOfTones 20 = .ok (.getfield 56, 3) := by decide +kernel
theorem dX0_numberOfTones_23 : decode cX0_numberOfTones 23 = .ok (.getfield 102, 3) := by decide +kernel
theorem dX0_numberOfTones_26 : decode cX0_numberOfTones 26 = .ok (.iload_n 2, 1) := by decide +kernel
theorem dX0_numberOfTones_27 : decode cX0_numberOfTones 27 = .ok (.iaload, 1) := by decide +kernel
theorem dX0_numberOfTones_28 : decode cX0_numberOfTones 28 = .ok (.iadd, 1) := by decide +kernel
theorem dX0_numberOfTones_29 : decode cX0_numberOfTones 29 = .ok (.iconst 1, 1) := by decide +kernel
theorem dX0_numberOfTones_30 : decode cX0_numberOfTones 30 = .ok (.iadd, 1) := by decide +kernel
theorem dX0_numberOfTones_31 : decode cX0_numberOfTones 31 = .ok (.istore_n 1, 1) := by decide +kernel
theorem dX0_numberOfTones_32 : decode cX0_numberOfTones 32 = .ok (.iinc 2 1, 3) := by decide +kernel
theorem dX0_numberOfTones_35 : decode cX0_numberOfTones 35 = .ok (.goto (-31), 3) := by decide +kernel
theorem dX0_numberOfTones_38 : decode cX0_numberOfTones 38 = .ok (.iload_n 1, 1) := by decide +kernel
theorem dX0_numberOfTones_39 : decode cX0_numberOfTones 39 = .ok (.iload_n 1, 1) := by decide +kernel
theorem dX0_numberOfTones_40 : decode cX0_numberOfTones 40 = .ok (.bipush 12, 2) := by decide +kernel
theorem dX0_numberOfTones_42 : decode cX0_numberOfTones 42 = .ok (.iushr, 1) := by decide +kernel
theorem dX0_numberOfTones_43 : decode cX0_numberOfTones 43 = .ok (.ixor, 1) := by decide +kernel
theorem dX0_numberOfTones_44 : decode cX0_numberOfTones 44 = .ok (.iconst 1, 1) := by decide +kernel
theorem dX0_numberOfTones_45 : decode cX0_numberOfTones 45 = .ok (.aload_n 0, 1) := by decide +kernel
theorem dX0_numberOfTones_46 : decode cX0_numberOfTones 46 = .ok (.getfield 43, 3) := by decide +kernel
theorem dX0_numberOfTones_49 : decode cX0_numberOfTones 49 = .ok (.getfield 67, 3) := by decide +kernel
theorem dX0_numberOfTones_52 : decode cX0_numberOfTones 52 = .ok (.ishl, 1) := by decide +kernel
theorem dX0_numberOfTones_53 : decode cX0_numberOfTones 53 = .ok (.iconst 1, 1) := by decide +kernel
theorem dX0_numberOfTones_54 : decode cX0_numberOfTones 54 = .ok (.isub, 1) := by decide +kernel
theorem dX0_numberOfTones_55 : decode cX0_numberOfTones 55 = .ok (.iand, 1) := by decide +kernel
theorem dX0_numberOfTones_56 : decode cX0_numberOfTones 56 = .ok (.istore_n 2, 1) := by decide +kernel
theorem dX0_numberOfTones_57 : decode cX0_numberOfTones 57 = .ok (.aload_n 0, 1) := by decide +kernel
theorem dX0_numberOfTones_58 : decode cX0_numberOfTones 58 = .ok (.getfield 28, 3) := by decide +kernel
theorem dX0_numberOfTones_61 : decode cX0_numberOfTones 61 = .ok (.iload_n 2, 1) := by decide +kernel
theorem dX0_numberOfTones_62 : decode cX0_numberOfTones 62 = .ok (.iaload, 1) := by decide +kernel
theorem dX0_numberOfTones_63 : decode cX0_numberOfTones 63 = .ok (.istore_n 3, 1) := by decide +kernel
theorem dX0_numberOfTones_64 : decode cX0_numberOfTones 64 = .ok (.iconst 0, 1) := by decide +kernel
theorem dX0_numberOfTones_65 : decode cX0_numberOfTones 65 = .ok (.istore 4, 2) := by decide +kernel
theorem dX0_numberOfTones_67 : decode cX0_numberOfTones 67 = .ok (.iload 4, 2) := by decide +kernel
theorem dX0_numberOfTones_69 : decode cX0_numberOfTones 69 = .ok (.sipush 4096, 3) := by decide +kernel
theorem dX0_numberOfTones_72 : decode cX0_numberOfTones 72 = .ok (.if_icmp .ge 44, 3) := by decide +kernel
theorem dX0_numberOfTones_75 : decode cX0_numberOfTones 75 = .ok (.iload_n 3, 1) := by decide +kernel
theorem dX0_numberOfTones_76 : decode cX0_numberOfTones 76 = .ok (.ifCond .eq 40, 3) := by decide +kernel
theorem dX0_numberOfTones_79 : decode cX0_numberOfTones 79 = .ok (.aload_n 0, 1) := by decide +kernel
theorem dX0_numberOfTones_80 : decode cX0_numberOfTones 80 = .ok (.iload_n 3, 1) := by decide +kernel
theorem dX0_numberOfTones_81 : decode cX0_numberOfTones 81 = .ok (.aload_n 0, 1) := by decide +kernel
theorem dX0_numberOfTones_82 : decode cX0_numberOfTones 82 = .ok (.getfield 56, 3) := by decide +kernel
theorem dX0_numberOfTones_85 : decode cX0_numberOfTones 85 = .ok (.getfield 102, 3) := by decide +kernel
theorem dX0_numberOfTones_88 : decode cX0_numberOfTones 88 = .ok (.aload_n 0, 1) := by decide +kernel
theorem dX0_numberOfTones_89 : decode cX0_numberOfTones 89 = .ok (.getfield 56, 3) := by decide +kernel
theorem dX0_numberOfTones_92 : decode cX0_numberOfTones 92 = .ok (.getfield 99, 3) := by decide +kernel
theorem dX0_numberOfTones_95 : decode cX0_numberOfTones 95 = .ok (.invokevirtual 105, 3) := by decide +kernel
theorem dX0_numberOfTones_98 : decode cX0_numberOfTones 98 = .ok (.ifCond .eq 5, 3) := by decide +kernel
theorem dX0_numberOfTones_101 : decode cX0_numberOfTones 101 = .ok (.iload_n 3, 1) := by decide +kernel
theorem dX0_numberOfTones_102 : decode cX0_numberOfTones 102 = .ok (.ireturn, 1) := by decide +kernel
theorem dX0_numberOfTones_103 : decode cX0_numberOfTones 103 = .ok (.aload_n 0, 1) := by decide +kernel
theorem dX0_numberOfTones_104 : decode cX0_numberOfTones 104 = .ok (.getfield 31, 3) := by decide +kernel
theorem dX0_numberOfTones_107 : decode cX0_numberOfTones 107 = .ok (.iload_n 3, 1) := by decide +kernel
theorem dX0_numberOfTones_108 : decode cX0_numberOfTones 108 = .ok (.iaload, 1) := by decide +kernel
theorem dX0_numberOfTones_109 : decode cX0_numberOfTones 109 = .ok (.istore_n 3, 1) := by decide +kernel
theorem dX0_numberOfTones_110 : decode cX0_numberOfTones 110 = .ok (.iinc 4 1, 3) := by decide +kernel
theorem dX0_numberOfTones_113 : decode cX0_numberOfTones 113 = .ok (.goto (-46), 3) := by decide +kernel
theorem dX0_numberOfTones_116 : decode cX0_numberOfTones 116 = .ok (.aload_n 0, 1) := by decide +kernel
theorem dX0_numberOfTones_117 : decode cX0_numberOfTones 117 = .ok (.invokevirtual 109, 3) := by decide +kernel
theorem dX0_numberOfTones_120 : decode cX0_numberOfTones 120 = .ok (.aload_n 0, 1) := by decide +kernel
theorem dX0_numberOfTones_121 : decode cX0_numberOfTones 121 = .ok (.getfield 31, 3) := by decide +kernel
theorem dX0_numberOfTones_124 : decode cX0_numberOfTones 124 = .ok (.aload_n 0, 1) := by decide +kernel
theorem dX0_numberOfTones_125 : decode cX0_numberOfTones 125 = .ok (.getfield 64, 3) := by decide +kernel
theorem dX0_numberOfTones_128 : decode cX0_numberOfTones 128 = .ok (.aload_n 0, 1) := by decide +kernel
theorem dX0_numberOfTones_129 : decode cX0_numberOfTones 129 = .ok (.getfield 28, 3) := by decide +kernel
theorem dX0_numberOfTones_132 : decode cX0_numberOfTones 132 = .ok (.iload_n 2, 1) := by decide +kernel
theorem dX0_numberOfTones_133 : decode cX0_numberOfTones 133 = .ok (.iaload, 1) := by decide +kernel
theorem dX0_numberOfTones_134 : decode cX0_numberOfTones 134 = .ok (.iastore, 1) := by decide +kernel
theorem dX0_numberOfTones_135 : decode cX0_numberOfTones 135 = .ok (.aload_n 0, 1) := by decide +kernel
theorem dX0_numberOfTones_136 : decode cX0_numberOfTones 136 = .ok (.getfield 28, 3) := by decide +kernel
theorem dX0_numberOfTones_139 : decode cX0_numberOfTones 139 = .ok (.iload_n 2, 1) := by decide +kernel
theorem dX0_numberOfTones_140 : decode cX0_numberOfTones 140 = .ok (.aload_n 0, 1) := by decide +kernel
theorem dX0_numberOfTones_141 : decode cX0_numberOfTones 141 = .ok (.getfield 64, 3) := by decide +kernel
theorem dX0_numberOfTones_144 : decode cX0_numberOfTones 144 = .ok (.iastore, 1) := by decide +kernel
theorem dX0_numberOfTones_145 : decode cX0_numberOfTones 145 = .ok (.aload_n 0, 1) := by decide +kernel
theorem dX0_numberOfTones_146 : decode cX0_numberOfTones 146 = .ok (.getfield 64, 3) := by decide +kernel
theorem dX0_numberOfTones_149 : decode cX0_numberOfTones 149 = .ok (.ireturn, 1) := by decide +kernel
theorem dX0_addChord_0 : decode cX0_addChord 0 = .ok (.aload_n 0, 1) := by decide +kernel
theorem dX0_addChord_1 : decode cX0_addChord 1 = .ok (.dup, 1) := by decide +kernel
theorem dX0_addChord_2 : decode cX0_addChord 2 = .ok (.getfield 64, 3) := by decide +kernel
theorem dX0_addChord_5 : decode cX0_addChord 5 = .ok (.iconst 1, 1) := by decide +kernel
theorem dX0_addChord_6 : decode cX0_addChord 6 = .ok (.iadd, 1) := by decide +kernel
theorem dX0_addChord_7 : decode cX0_addChord 7 = .ok (.putfield 64, 3) := by decide +kernel
theorem dX0_addChord_10 : decode cX0_addChord 10 = .ok (.aload_n 0, 1) := by decide +kernel
theorem dX0_addChord_11 : decode cX0_addChord 11 = .ok (.getfield 22, 3) := by decide +kernel
theorem dX0_addChord_14 : decode cX0_addChord 14 = .ok (.aload_n 0, 1) := by decide +kernel
theorem dX0_addChord_15 : decode cX0_addChord 15 = .ok (.getfield 64, 3) := by decide +kernel
theorem dX0_addChord_18 : decode cX0_addChord 18 = .ok (.iaload, 1) := by decide +kernel
theorem dX0_addChord_19 : decode cX0_addChord 19 = .ok (.istore_n 1, 1) := by decide +kernel
theorem dX0_addChord_20 : decode cX0_addChord 20 = .ok (.iconst 0, 1) := by decide +kernel
theorem dX0_addChord_21 : decode cX0_addChord 21 = .ok (.istore_n 2, 1) := by decide +kernel
theorem dX0_addChord_22 : decode cX0_addChord 22 = .ok (.iload_n 2, 1) := by decide +kernel
theorem dX0_addChord_23 : decode cX0_addChord 23 = .ok (.aload_n 0, 1) := by decide +kernel
theorem dX0_addChord_24 : decode cX0_addChord 24 = .ok (.getfield 56, 3) := by decide +kernel
theorem dX0_addChord_27 : decode cX0_addChord 27 = .ok (.getfield 99, 3) := by decide +kernel
theorem dX0_addChord_30 : decode cX0_addChord 30 = .ok (.if_icmp .ge 26, 3) := by decide +kernel
theorem dX0_addChord_33 : decode cX0_addChord 33 = .ok (.aload_n 0, 1) := by decide +kernel
theorem dX0_addChord_34 : decode cX0_addChord 34 = .ok (.getfield 25, 3) := by decide +kernel
theorem dX0_addChord_37 : decode cX0_addChord 37 = .ok (.iload_n 1, 1) := by decide +kernel
theorem dX0_addChord_38 : decode cX0_addChord 38 = .ok (.iload_n 2, 1) := by decide +kernel
theorem dX0_addChord_39 : decode cX0_addChord 39 = .ok (.iadd, 1) := by decide +kernel
theorem dX0_addChord_40 : decode cX0_addChord 40 = .ok (.aload_n 0, 1) := by decide +kernel
theorem dX0_addChord_41 : decode cX0_addChord 41 = .ok (.getfield 56, 3) := by decide +kernel
theorem dX0_addChord_44 : decode cX0_addChord 44 = .ok (.getfield 102, 3) := by decide +kernel
theorem dX0_addChord_47 : decode cX0_addChord 47 = .ok (.iload_n 2, 1) := by decide +kernel
theorem dX0_addChord_48 : decode cX0_addChord 48 = .ok (.iaload, 1) := by decide +kernel
theorem dX0_addChord_49 : decode cX0_addChord 49 = .ok (.iastore, 1) := by decide +kernel
theorem dX0_addChord_50 : decode cX0_addChord 50 = .ok (.iinc 2 1, 3) := by decide +kernel
theorem dX0_addChord_53 : decode cX0_addChord 53 = .ok (.goto (-31), 3) := by decide +kernel
theorem dX0_addChord_56 : decode cX0_addChord 56 = .ok (.aload_n 0, 1) := by decide +kernel
theorem dX0_addChord_57 : decode cX0_addChord 57 = .ok (.getfield 22, 3) := by decide +kernel
theorem dX0_addChord_60 : decode cX0_addChord 60 = .ok (.aload_n 0, 1) := by decide +kernel
theorem dX0_addChord_61 : decode cX0_addChord 61 = .ok (.getfield 64, 3) := by decide +kernel
theorem dX0_addChord_64 : decode cX0_addChord 64 = .ok (.iconst 1, 1) := by decide +kernel
theorem dX0_addChord_65 : decode cX0_addChord 65 = .ok (.iadd, 1) := by decide +kernel
theorem dX0_addChord_66 : decode cX0_addChord 66 = .ok (.iload_n 1, 1) := by decide +kernel
theorem dX0_addChord_67 : decode cX0_addChord 67 = .ok (.aload_n 0, 1) := by decide +kernel
theorem dX0_addChord_68 : decode cX0_addChord 68 = .ok (.getfield 56, 3) := by decide +kernel
theorem dX0_addChord_71 : decode cX0_addChord 71 = .ok (.getfield 99, 3) := by decide +kernel
theorem dX0_addChord_74 : decode cX0_addChord 74 = .ok (.iadd, 1) := by decide +kernel
theorem dX0_addChord_75 : decode cX0_addChord 75 = .ok (.iastore, 1) := by decide +kernel
theorem dX0_addChord_76 : decode cX0_addChord 76 = .ok (.return_, 1) := by decide +kernel
theorem dX0_isSame_0 : decode cX0_isSame 0 = .ok (.aload_n 0, 1) := by decide +kernel
theorem dX0_isSame_1 : decode cX0_isSame 1 = .ok (.getfield 22, 3) := by decide +kernel
theorem dX0_isSame_4 : decode cX0_isSame 4 = .ok (.iload_n 1, 1) := by decide +kernel
theorem dX0_isSame_5 : decode cX0_isSame 5 = .ok (.iaload, 1) := by decide +kernel
theorem dX0_isSame_6 : decode cX0_isSame 6 = .ok (.istore 4, 2) := by decide +kernel
theorem dX0_isSame_8 : decode cX0_isSame 8 = .ok (.aload_n 0, 1) := by decide +kernel
theorem dX0_isSame_9 : decode cX0_isSame 9 = .ok (.getfield 22, 3) := by decide +kernel
theorem dX0_isSame_12 : decode cX0_isSame 12 = .ok (.iload_n 1, 1) := by decide +kernel
theorem dX0_isSame_13 : decode cX0_isSame 13 = .ok (.iconst 1, 1) := by decide +kernel
theorem dX0_isSame_14 : decode cX0_isSame 14 = .ok (.iadd, 1) := by decide +kernel
theorem dX0_isSame_15 : decode cX0_isSame 15 = .ok (.iaload, 1) := by decide +kernel
theorem dX0_isSame_16 : decode cX0_isSame 16 = .ok (.iload 4, 2) := by decide +kernel
theorem dX0_isSame_18 : decode cX0_isSame 18 = .ok (.isub, 1) := by decide +kernel
theorem dX0_isSame_19 : decode cX0_isSame 19 = .ok (.iload_n 3, 1) := by decide +kernel
theorem dX0_isSame_20 : decode cX0_isSame 20 = .ok (.if_icmp .eq 5, 3) := by decide +kernel
theorem dX0_isSame_23 : decode cX0_isSame 23 = .ok (.iconst 0, 1) := by decide +kernel
theorem dX0_isSame_24 : decode cX0_isSame 24 = .ok (.ireturn, 1) := by decide +kernel
theorem dX0_isSame_25 : decode cX0_isSame 25 = .ok (.iconst 0, 1) := by decide +kernel
theorem dX0_isSame_26 : decode cX0_isSame 26 = .ok (.istore 5, 2) := by decide +kernel
theorem dX0_isSame_28 : decode cX0_isSame 28 = .ok (.iload 5, 2) := by decide +kernel
theorem dX0_isSame_30 : decode cX0_isSame 30 = .ok (.iload_n 3, 1) := by decide +kernel
theorem dX0_isSame_31 : decode cX0_isSame 31 = .ok (.if_icmp .ge 28, 3) := by decide +kernel
theorem dX0_isSame_34 : decode cX0_isSame 34 = .ok (.aload_n 0, 1) := by decide +kernel
theorem dX0_isSame_35 : decode cX0_isSame 35 = .ok (.getfield 25, 3) := by decide +kernel
theorem dX0_isSame_38 : decode cX0_isSame 38 = .ok (.iload 4, 2) := by decide +kernel
theorem dX0_isSame_40 : decode cX0_isSame 40 = .ok (.iload 5, 2) := by decide +kernel
theorem dX0_isSame_42 : decode cX0_isSame 42 = .ok (.iadd, 1) := by decide +kernel
theorem dX0_isSame_43 : decode cX0_isSame 43 = .ok (.iaload, 1) := by decide +kernel
theorem dX0_isSame_44 : decode cX0_isSame 44 = .ok (.aload_n 2, 1) := by decide +kernel
theorem dX0_isSame_45 : decode cX0_isSame 45 = .ok (.iload 5, 2) := by decide +kernel
theorem dX0_isSame_47 : decode cX0_isSame 47 = .ok (.iaload, 1) := by decide +kernel
theorem dX0_isSame_48 : decode cX0_isSame 48 = .ok (.if_icmp .eq 5, 3) := by decide +kernel
theorem dX0_isSame_51 : decode cX0_isSame 51 = .ok (.iconst 0, 1) := by decide +kernel
theorem dX0_isSame_52 : decode cX0_isSame 52 = .ok (.ireturn, 1) := by decide +kernel
theorem dX0_isSame_53 : decode cX0_isSame 53 = .ok (.iinc 5 1, 3) := by decide +kernel
theorem dX0_isSame_56 : decode cX0_isSame 56 = .ok (.goto (-28), 3) := by decide +kernel
theorem dX0_isSame_59 : decode cX0_isSame 59 = .ok (.iconst 1, 1) := by decide +kernel
theorem dX0_isSame_60 : decode cX0_isSame 60 = .ok (.ireturn, 1) := by decide +kernel
theorem dX0_numberOf_0 : decode cX0_numberOf 0 = .ok (.aload_n 0, 1) := by decide +kernel
theorem dX0_numberOf_1 : decode cX0_numberOf 1 = .ok (.getfield 15, 3) := by decide +kernel
theorem dX0_numberOf_4 : decode cX0_numberOf 4 = .ok (.iload_n 1, 1) := by decide +kernel
theorem dX0_numberOf_5 : decode cX0_numberOf 5 = .ok (.iaload, 1) := by decide +kernel
theorem dX0_numberOf_6 : decode cX0_numberOf 6 = .ok (.ireturn, 1) := by decide +kernel
theorem dX0_worthOf_0 : decode cX0_worthOf 0 = .ok (.aload_n 0, 1) := by decide +kernel
theorem dX0_worthOf_1 : decode cX0_worthOf 1 = .ok (.getfield 19, 3) := by decide +kernel
theorem dX0_worthOf_4 : decode cX0_worthOf 4 = .ok (.iload_n 1, 1) := by decide +kernel
theorem dX0_worthOf_5 : decode cX0_worthOf 5 = .ok (.iaload, 1) := by decide +kernel
theorem dX0_worthOf_6 : decode cX0_worthOf 6 = .ok (.ireturn, 1) := by decide +kernel
theorem dX0_beginGroups_0 : decode cX0_beginGroups 0 = .ok (.aload_n 0, 1) := by decide +kernel
theorem dX0_beginGroups_1 : decode cX0_beginGroups 1 = .ok (.dup, 1) := by decide +kernel
theorem dX0_beginGroups_2 : decode cX0_beginGroups 2 = .ok (.getfield 112, 3) := by decide +kernel
theorem dX0_beginGroups_5 : decode cX0_beginGroups 5 = .ok (.iconst 1, 1) := by decide +kernel
theorem dX0_beginGroups_6 : decode cX0_beginGroups 6 = .ok (.iadd, 1) := by decide +kernel
theorem dX0_beginGroups_7 : decode cX0_beginGroups 7 = .ok (.putfield 112, 3) := by decide +kernel
theorem dX0_beginGroups_10 : decode cX0_beginGroups 10 = .ok (.return_, 1) := by decide +kernel
theorem dX0_leaderOf_0 : decode cX0_leaderOf 0 = .ok (.aload_n 0, 1) := by decide +kernel
theorem dX0_leaderOf_1 : decode cX0_leaderOf 1 = .ok (.getfield 15, 3) := by decide +kernel
theorem dX0_leaderOf_4 : decode cX0_leaderOf 4 = .ok (.iload_n 1, 1) := by decide +kernel
theorem dX0_leaderOf_5 : decode cX0_leaderOf 5 = .ok (.iaload, 1) := by decide +kernel
theorem dX0_leaderOf_6 : decode cX0_leaderOf 6 = .ok (.istore_n 2, 1) := by decide +kernel
theorem dX0_leaderOf_7 : decode cX0_leaderOf 7 = .ok (.aload_n 0, 1) := by decide +kernel
theorem dX0_leaderOf_8 : decode cX0_leaderOf 8 = .ok (.getfield 34, 3) := by decide +kernel
theorem dX0_leaderOf_11 : decode cX0_leaderOf 11 = .ok (.iload_n 2, 1) := by decide +kernel
theorem dX0_leaderOf_12 : decode cX0_leaderOf 12 = .ok (.iaload, 1) := by decide +kernel
theorem dX0_leaderOf_13 : decode cX0_leaderOf 13 = .ok (.aload_n 0, 1) := by decide +kernel
theorem dX0_leaderOf_14 : decode cX0_leaderOf 14 = .ok (.getfield 112, 3) := by decide +kernel
theorem dX0_leaderOf_17 : decode cX0_leaderOf 17 = .ok (.if_icmp .eq 20, 3) := by decide +kernel
theorem dX0_leaderOf_20 : decode cX0_leaderOf 20 = .ok (.aload_n 0, 1) := by decide +kernel
theorem dX0_leaderOf_21 : decode cX0_leaderOf 21 = .ok (.getfield 34, 3) := by decide +kernel
theorem dX0_leaderOf_24 : decode cX0_leaderOf 24 = .ok (.iload_n 2, 1) := by decide +kernel
theorem dX0_leaderOf_25 : decode cX0_leaderOf 25 = .ok (.aload_n 0, 1) := by decide +kernel
theorem dX0_leaderOf_26 : decode cX0_leaderOf 26 = .ok (.getfield 112, 3) := by decide +kernel
theorem dX0_leaderOf_29 : decode cX0_leaderOf 29 = .ok (.iastore, 1) := by decide +kernel
theorem dX0_leaderOf_30 : decode cX0_leaderOf 30 = .ok (.aload_n 0, 1) := by decide +kernel
theorem dX0_leaderOf_31 : decode cX0_leaderOf 31 = .ok (.getfield 40, 3) := by decide +kernel
theorem dX0_leaderOf_34 : decode cX0_leaderOf 34 = .ok (.iload_n 2, 1) := by decide +kernel
theorem dX0_leaderOf_35 : decode cX0_leaderOf 35 = .ok (.iload_n 1, 1) := by decide +kernel
theorem dX0_leaderOf_36 : decode cX0_leaderOf 36 = .ok (.iastore, 1) := by decide +kernel
theorem dX0_leaderOf_37 : decode cX0_leaderOf 37 = .ok (.aload_n 0, 1) := by decide +kernel
theorem dX0_leaderOf_38 : decode cX0_leaderOf 38 = .ok (.getfield 40, 3) := by decide +kernel
theorem dX0_leaderOf_41 : decode cX0_leaderOf 41 = .ok (.iload_n 2, 1) := by decide +kernel
theorem dX0_leaderOf_42 : decode cX0_leaderOf 42 = .ok (.iaload, 1) := by decide +kernel
theorem dX0_leaderOf_43 : decode cX0_leaderOf 43 = .ok (.ireturn, 1) := by decide +kernel
theorem dX0_putInGroup_0 : decode cX0_putInGroup 0 = .ok (.aload_n 0, 1) := by decide +kernel
theorem dX0_putInGroup_1 : decode cX0_putInGroup 1 = .ok (.getfield 19, 3) := by decide +kernel
theorem dX0_putInGroup_4 : decode cX0_putInGroup 4 = .ok (.aload_n 0, 1) := by decide +kernel
theorem dX0_putInGroup_5 : decode cX0_putInGroup 5 = .ok (.iload_n 1, 1) := by decide +kernel
theorem dX0_putInGroup_6 : decode cX0_putInGroup 6 = .ok (.invokevirtual 115, 3) := by decide +kernel
theorem dX0_putInGroup_9 : decode cX0_putInGroup 9 = .ok (.iaload, 1) := by decide +kernel
theorem dX0_putInGroup_10 : decode cX0_putInGroup 10 = .ok (.aload_n 0, 1) := by decide +kernel
theorem dX0_putInGroup_11 : decode cX0_putInGroup 11 = .ok (.getfield 19, 3) := by decide +kernel
theorem dX0_putInGroup_14 : decode cX0_putInGroup 14 = .ok (.iload_n 1, 1) := by decide +kernel
theorem dX0_putInGroup_15 : decode cX0_putInGroup 15 = .ok (.iaload, 1) := by decide +kernel
theorem dX0_putInGroup_16 : decode cX0_putInGroup 16 = .ok (.if_icmp .eq 18, 3) := by decide +kernel
theorem dX0_putInGroup_19 : decode cX0_putInGroup 19 = .ok (.aload_n 0, 1) := by decide +kernel
theorem dX0_putInGroup_20 : decode cX0_putInGroup 20 = .ok (.getfield 37, 3) := by decide +kernel
theorem dX0_putInGroup_23 : decode cX0_putInGroup 23 = .ok (.aload_n 0, 1) := by decide +kernel
theorem dX0_putInGroup_24 : decode cX0_putInGroup 24 = .ok (.getfield 15, 3) := by decide +kernel
theorem dX0_putInGroup_27 : decode cX0_putInGroup 27 = .ok (.iload_n 1, 1) := by decide +kernel
theorem dX0_putInGroup_28 : decode cX0_putInGroup 28 = .ok (.iaload, 1) := by decide +kernel
theorem dX0_putInGroup_29 : decode cX0_putInGroup 29 = .ok (.aload_n 0, 1) := by decide +kernel
theorem dX0_putInGroup_30 : decode cX0_putInGroup 30 = .ok (.getfield 112, 3) := by decide +kernel
theorem dX0_putInGroup_33 : decode cX0_putInGroup 33 = .ok (.iastore, 1) := by decide +kernel
theorem dX0_putInGroup_34 : decode cX0_putInGroup 34 = .ok (.return_, 1) := by decide +kernel
theorem dX0_isMixed_0 : decode cX0_isMixed 0 = .ok (.aload_n 0, 1) := by decide +kernel
theorem dX0_isMixed_1 : decode cX0_isMixed 1 = .ok (.getfield 37, 3) := by decide +kernel
theorem dX0_isMixed_4 : decode cX0_isMixed 4 = .ok (.aload_n 0, 1) := by decide +kernel
theorem dX0_isMixed_5 : decode cX0_isMixed 5 = .ok (.getfield 15, 3) := by decide +kernel
theorem dX0_isMixed_8 : decode cX0_isMixed 8 = .ok (.iload_n 1, 1) := by decide +kernel
theorem dX0_isMixed_9 : decode cX0_isMixed 9 = .ok (.iaload, 1) := by decide +kernel
theorem dX0_isMixed_10 : decode cX0_isMixed 10 = .ok (.iaload, 1) := by decide +kernel
theorem dX0_isMixed_11 : decode cX0_isMixed 11 = .ok (.aload_n 0, 1) := by decide +kernel
theorem dX0_isMixed_12 : decode cX0_isMixed 12 = .ok (.getfield 112, 3) := by decide +kernel
theorem dX0_isMixed_15 : decode cX0_isMixed 15 = .ok (.if_icmp .ne 7, 3) := by decide +kernel
theorem dX0_isMixed_18 : decode cX0_isMixed 18 = .ok (.iconst 1, 1) := by decide +kernel
theorem dX0_isMixed_19 : decode cX0_isMixed 19 = .ok (.goto 4, 3) := by decide +kernel
theorem dX0_isMixed_22 : decode cX0_isMixed 22 = .ok (.iconst 0, 1) := by decide +kernel
theorem dX0_isMixed_23 : decode cX0_isMixed 23 = .ok (.ireturn, 1) := by decide +kernel
theorem dX1_init_0 : decode cX1_init 0 = .ok (.aload_n 0, 1) := by decide +kernel
theorem dX1_init_1 : decode cX1_init 1 = .ok (.invokespecial 5, 3) := by decide +kernel
theorem dX1_init_4 : decode cX1_init 4 = .ok (.aload_n 0, 1) := by decide +kernel
theorem dX1_init_5 : decode cX1_init 5 = .ok (.sipush 1728, 3) := by decide +kernel
theorem dX1_init_8 : decode cX1_init 8 = .ok (.newarray .int, 2) := by decide +kernel
theorem dX1_init_10 : decode cX1_init 10 = .ok (.putfield 13, 3) := by decide +kernel
theorem dX1_init_13 : decode cX1_init 13 = .ok (.aload_n 0, 1) := by decide +kernel
theorem dX1_init_14 : decode cX1_init 14 = .ok (.sipush 1728, 3) := by decide +kernel
theorem dX1_init_17 : decode cX1_init 17 = .ok (.newarray .int, 2) := by decide +kernel
theorem dX1_init_19 : decode cX1_init 19 = .ok (.putfield 17, 3) := by decide +kernel
theorem dX1_init_22 : decode cX1_init 22 = .ok (.aload_n 0, 1) := by decide +kernel
theorem dX1_init_23 : decode cX1_init 23 = .ok (.bipush 10, 2) := by decide +kernel
theorem dX1_init_25 : decode cX1_init 25 = .ok (.newarray .long, 2) := by decide +kernel
theorem dX1_init_27 : decode cX1_init 27 = .ok (.putfield 20, 3) := by decide +kernel
theorem dX1_init_30 : decode cX1_init 30 = .ok (.aload_n 0, 1) := by decide +kernel
theorem dX1_init_31 : decode cX1_init 31 = .ok (.bipush 64, 2) := by decide +kernel
theorem dX1_init_33 : decode cX1_init 33 = .ok (.newarray .long, 2) := by decide +kernel
theorem dX1_init_35 : decode cX1_init 35 = .ok (.putfield 26, 3) := by decide +kernel
theorem dX1_init_38 : decode cX1_init 38 = .ok (.aload_n 0, 1) := by decide +kernel
theorem dX1_init_39 : decode cX1_init 39 = .ok (.bipush 12, 2) := by decide +kernel
theorem dX1_init_41 : decode cX1_init 41 = .ok (.newarray .int, 2) := by decide +kernel
theorem dX1_init_43 : decode cX1_init 43 = .ok (.putfield 29, 3) := by decide +kernel
theorem dX1_init_46 : decode cX1_init 46 = .ok (.aload_n 0, 1) := by decide +kernel
theorem dX1_init_47 : decode cX1_init 47 = .ok (.bipush 12, 2) := by decide +kernel
theorem dX1_init_49 : decode cX1_init 49 = .ok (.newarray .int, 2) := by decide +kernel
theorem dX1_init_51 : decode cX1_init 51 = .ok (.putfield 32, 3) := by decide +kernel
theorem dX1_init_54 : decode cX1_init 54 = .ok (.aload_n 0, 1) := by decide +kernel
theorem dX1_init_55 : decode cX1_init 55 = .ok (.bipush 12, 2) := by decide +kernel
theorem dX1_init_57 : decode cX1_init 57 = .ok (.newarray .int, 2) := by decide +kernel
theorem dX1_init_59 : decode cX1_init 59 = .ok (.putfield 35, 3) := by decide +kernel
theorem dX1_init_62 : decode cX1_init 62 = .ok (.aload_n 0, 1) := by decide +kernel
theorem dX1_init_63 : decode cX1_init 63 = .ok (.bipush 12, 2) := by decide +kernel
theorem dX1_init_65 : decode cX1_init 65 = .ok (.newarray .int, 2) := by decide +kernel
theorem dX1_init_67 : decode cX1_init 67 = .ok (.putfield 38, 3) := by decide +kernel
theorem dX1_init_70 : decode cX1_init 70 = .ok (.aload_n 0, 1) := by decide +kernel
theorem dX1_init_71 : decode cX1_init 71 = .ok (.bipush 12, 2) := by decide +kernel
theorem dX1_init_73 : decode cX1_init 73 = .ok (.newarray .int, 2) := by decide +kernel
theorem dX1_init_75 : decode cX1_init 75 = .ok (.putfield 41, 3) := by decide +kernel
theorem dX1_init_78 : decode cX1_init 78 = .ok (.aload_n 0, 1) := by decide +kernel
theorem dX1_init_79 : decode cX1_init 79 = .ok (.aload_n 1, 1) := by decide +kernel
theorem dX1_init_80 : decode cX1_init 80 = .ok (.putfield 44, 3) := by decide +kernel
theorem dX1_init_83 : decode cX1_init 83 = .ok (.aload_n 0, 1) := by decide +kernel
theorem dX1_init_84 : decode cX1_init 84 = .ok (.aload_n 2, 1) := by decide +kernel
theorem dX1_init_85 : decode cX1_init 85 = .ok (.putfield 48, 3) := by decide +kernel
theorem dX1_init_88 : decode cX1_init 88 = .ok (.return_, 1) := by decide +kernel
theorem dX1_aim_0 : decode cX1_aim 0 = .ok (.aload_n 0, 1) := by decide +kernel
theorem dX1_aim_1 : decode cX1_aim 1 = .ok (.aload_n 1, 1) := by decide +kernel
theorem dX1_aim_2 : decode cX1_aim 2 = .ok (.putfield 48, 3) := by decide +kernel
theorem dX1_aim_5 : decode cX1_aim 5 = .ok (.aload_n 0, 1) := by decide +kernel
theorem dX1_aim_6 : decode cX1_aim 6 = .ok (.iload_n 2, 1) := by decide +kernel
theorem dX1_aim_7 : decode cX1_aim 7 = .ok (.putfield 52, 3) := by decide +kernel
theorem dX1_aim_10 : decode cX1_aim 10 = .ok (.aload_n 0, 1) := by decide +kernel
theorem dX1_aim_11 : decode cX1_aim 11 = .ok (.getfield 44, 3) := by decide +kernel
theorem dX1_aim_14 : decode cX1_aim 14 = .ok (.getfield 56, 3) := by decide +kernel
theorem dX1_aim_17 : decode cX1_aim 17 = .ok (.aload_n 0, 1) := by decide +kernel
theorem dX1_aim_18 : decode cX1_aim 18 = .ok (.getfield 44, 3) := by decide +kernel
theorem dX1_aim_21 : decode cX1_aim 21 = .ok (.getfield 56, 3) := by decide +kernel
theorem dX1_aim_24 : decode cX1_aim 24 = .ok (.imul, 1) := by decide +kernel
theorem dX1_aim_25 : decode cX1_aim 25 = .ok (.aload_n 0, 1) := by decide +kernel
theorem dX1_aim_26 : decode cX1_aim 26 = .ok (.getfield 44, 3) := by decide +kernel
theorem dX1_aim_29 : decode cX1_aim 29 = .ok (.getfield 56, 3) := by decide +kernel
theorem dX1_aim_32 : decode cX1_aim 32 = .ok (.imul, 1) := by decide +kernel
theorem dX1_aim_33 : decode cX1_aim 33 = .ok (.istore_n 3, 1) := by decide +kernel
theorem dX1_aim_34 : decode cX1_aim 34 = .ok (.iconst 0, 1) := by decide +kernel
theorem dX1_aim_35 : decode cX1_aim 35 = .ok (.istore 4, 2) := by decide +kernel
theorem dX1_aim_37 : decode cX1_aim 37 = .ok (.iload 4, 2) := by decide +kernel
theorem dX1_aim_39 : decode cX1_aim 39 = .ok (.iload_n 3, 1) := by decide +kernel
theorem dX1_aim_40 : decode cX1_aim 40 = .ok (.if_icmp .ge 19, 3) := by decide +kernel
theorem dX1_aim_43 : decode cX1_aim 43 = .ok (.aload_n 0, 1) := by decide +kernel
theorem dX1_aim_44 : decode cX1_aim 44 = .ok (.getfield 13, 3) := by decide +kernel
theorem dX1_aim_47 : decode cX1_aim 47 = .ok (.iload 4, 2) := by decide +kernel
theorem dX1_aim_49 : decode cX1_aim 49 = .ok (.sipush (-20000), 3) := by decide +kernel
theorem dX1_aim_52 : decode cX1_aim 52 = .ok (.iastore, 1) := by decide +kernel
theorem dX1_aim_53 : decode cX1_aim 53 = .ok (.iinc 4 1, 3) := by decide +kernel
theorem dX1_aim_56 : decode cX1_aim 56 = .ok (.goto (-19), 3) := by decide +kernel
theorem dX1_aim_59 : decode cX1_aim 59 = .ok (.return_, 1) := by decide +kernel
theorem dX1_noteOf_0 : decode cX1_noteOf 0 = .ok (.aload_n 0, 1) := by decide +kernel
theorem dX1_noteOf_1 : decode cX1_noteOf 1 = .ok (.getfield 13, 3) := by decide +kernel
theorem dX1_noteOf_4 : decode cX1_noteOf 4 = .ok (.aload_n 0, 1) := by decide +kernel
theorem dX1_noteOf_5 : decode cX1_noteOf 5 = .ok (.getfield 29, 3) := by decide +kernel
theorem dX1_noteOf_8 : decode cX1_noteOf 8 = .ok (.iload_n 1, 1) := by decide +kernel
theorem dX1_noteOf_9 : decode cX1_noteOf 9 = .ok (.iaload, 1) := by decide +kernel
theorem dX1_noteOf_10 : decode cX1_noteOf 10 = .ok (.iaload, 1) := by decide +kernel
theorem dX1_noteOf_11 : decode cX1_noteOf 11 = .ok (.ireturn, 1) := by decide +kernel
theorem dX1_strengthOf_0 : decode cX1_strengthOf 0 = .ok (.aload_n 0, 1) := by decide +kernel
theorem dX1_strengthOf_1 : decode cX1_strengthOf 1 = .ok (.getfield 17, 3) := by decide +kernel
theorem dX1_strengthOf_4 : decode cX1_strengthOf 4 = .ok (.aload_n 0, 1) := by decide +kernel
theorem dX1_strengthOf_5 : decode cX1_strengthOf 5 = .ok (.getfield 29, 3) := by decide +kernel
theorem dX1_strengthOf_8 : decode cX1_strengthOf 8 = .ok (.iload_n 1, 1) := by decide +kernel
theorem dX1_strengthOf_9 : decode cX1_strengthOf 9 = .ok (.iaload, 1) := by decide +kernel
theorem dX1_strengthOf_10 : decode cX1_strengthOf 10 = .ok (.iaload, 1) := by decide +kernel
theorem dX1_strengthOf_11 : decode cX1_strengthOf 11 = .ok (.ireturn, 1) := by decide +kernel
theorem dX1_listen_0 : decode cX1_listen 0 = .ok (.aload_n 0, 1) := by decide +kernel
theorem dX1_listen_1 : decode cX1_listen 1 = .ok (.iload_n 1, 1) := by decide +kernel
theorem dX1_listen_2 : decode cX1_listen 2 = .ok (.invokevirtual 61, 3) := by decide +kernel
theorem dX1_listen_5 : decode cX1_listen 5 = .ok (.istore_n 2, 1) := by decide +kernel
theorem dX1_listen_6 : decode cX1_listen 6 = .ok (.iload_n 1, 1) := by decide +kernel
theorem dX1_listen_7 : decode cX1_listen 7 = .ok (.invokestatic 65, 3) := by decide +kernel
theorem dX1_listen_10 : decode cX1_listen 10 = .ok (.iconst 1, 1) := by decide +kernel
theorem dX1_listen_11 : decode cX1_listen 11 = .ok (.isub, 1) := by decide +kernel
theorem dX1_listen_12 : decode cX1_listen 12 = .ok (.istore_n 3, 1) := by decide +kernel
theorem dX1_listen_13 : decode cX1_listen 13 = .ok (.aload_n 0, 1) := by decide +kernel
theorem dX1_listen_14 : decode cX1_listen 14 = .ok (.iconst 0, 1) := by decide +kernel
theorem dX1_listen_15 : decode cX1_listen 15 = .ok (.putfield 70, 3) := by decide +kernel
theorem dX1_listen_18 : decode cX1_listen 18 = .ok (.iconst 0, 1) := by decide +kernel
theorem dX1_listen_19 : decode cX1_listen 19 = .ok (.istore 4, 2) := by decide +kernel
theorem dX1_listen_21 : decode cX1_listen 21 = .ok (.iload 4, 2) := by decide +kernel
theorem dX1_listen_23 : decode cX1_listen 23 = .ok (.aload_n 0, 1) := by decide +kernel
theorem dX1_listen_24 : decode cX1_listen 24 = .ok (.getfield 44, 3) := by decide +kernel
theorem dX1_listen_27 : decode cX1_listen 27 = .ok (.getfield 56, 3) := by decide +kernel
theorem dX1_listen_30 : decode cX1_listen 30 = .ok (.if_icmp .ge 198, 3) := by decide +kernel
theorem dX1_listen_33 : decode cX1_listen 33 = .ok (.iload_n 1, 1) := by decide +kernel
theorem dX1_listen_34 : decode cX1_listen 34 = .ok (.iload 4, 2) := by decide +kernel
theorem dX1_listen_36 : decode cX1_listen 36 = .ok (.ishr, 1) := by decide +kernel
theorem dX1_listen_37 : decode cX1_listen 37 = .ok (.iconst 1, 1) := by decide +kernel
theorem dX1_listen_38 : decode cX1_listen 38 = .ok (.iand, 1) := by decide +kernel
theorem dX1_listen_39 : decode cX1_listen 39 = .ok (.iconst 1, 1) := by decide +kernel
theorem dX1_listen_40 : decode cX1_listen 40 = .ok (.if_icmp .ne 182, 3) := by decide +kernel
theorem dX1_listen_43 : decode cX1_listen 43 = .ok (.iload_n 3, 1) := by decide +kernel
theorem dX1_listen_44 : decode cX1_listen 44 = .ok (.aload_n 0, 1) := by decide +kernel
theorem dX1_listen_45 : decode cX1_listen 45 = .ok (.getfield 44, 3) := by decide +kernel
theorem dX1_listen_48 : decode cX1_listen 48 = .ok (.getfield 56, 3) := by decide +kernel
theorem dX1_listen_51 : decode cX1_listen 51 = .ok (.imul, 1) := by decide +kernel
theorem dX1_listen_52 : decode cX1_listen 52 = .ok (.iload_n 2, 1) := by decide +kernel
theorem dX1_listen_53 : decode cX1_listen 53 = .ok (.iadd, 1) := by decide +kernel
theorem dX1_listen_54 : decode cX1_listen 54 = .ok (.aload_n 0, 1) := by decide +kernel
theorem dX1_listen_55 : decode cX1_listen 55 = .ok (.getfield 44, 3) := by decide +kernel
theorem dX1_listen_58 : decode cX1_listen 58 = .ok (.getfield 56, 3) := by decide +kernel
theorem dX1_listen_61 : decode cX1_listen 61 = .ok (.imul, 1) := by decide +kernel
theorem dX1_listen_62 : decode cX1_listen 62 = .ok (.iload 4, 2) := by decide +kernel
theorem dX1_listen_64 : decode cX1_listen 64 = .ok (.iadd, 1) := by decide +kernel
theorem dX1_listen_65 : decode cX1_listen 65 = .ok (.istore 5, 2) := by decide +kernel
theorem dX1_listen_67 : decode cX1_listen 67 = .ok (.aload_n 0, 1) := by decide +kernel
theorem dX1_listen_68 : decode cX1_listen 68 = .ok (.getfield 13, 3) := by decide +kernel
theorem dX1_listen_71 : decode cX1_listen 71 = .ok (.iload 5, 2) := by decide +kernel
theorem dX1_listen_73 : decode cX1_listen 73 = .ok (.iaload, 1) := by decide +kernel
theorem dX1_listen_74 : decode cX1_listen 74 = .ok (.sipush (-20000), 3) := by decide +kernel
theorem dX1_listen_77 : decode cX1_listen 77 = .ok (.if_icmp .ne 103, 3) := by decide +kernel
theorem dX1_listen_80 : decode cX1_listen 80 = .ok (.aload_n 0, 1) := by decide +kernel
theorem dX1_listen_81 : decode cX1_listen 81 = .ok (.iload 4, 2) := by decide +kernel
theorem dX1_listen_83 : decode cX1_listen 83 = .ok (.iload_n 3, 1) := by decide +kernel
theorem dX1_listen_84 : decode cX1_listen 84 = .ok (.iconst 1, 1) := by decide +kernel
theorem dX1_listen_85 : decode cX1_listen 85 = .ok (.iadd, 1) := by decide +kernel
theorem dX1_listen_86 : decode cX1_listen 86 = .ok (.aload_n 0, 1) := by decide +kernel
theorem dX1_listen_87 : decode cX1_listen 87 = .ok (.getfield 44, 3) := by decide +kernel
theorem dX1_listen_90 : decode cX1_listen 90 = .ok (.getfield 73, 3) := by decide +kernel
theorem dX1_listen_93 : decode cX1_listen 93 = .ok (.iload_n 2, 1) := by decide +kernel
theorem dX1_listen_94 : decode cX1_listen 94 = .ok (.iaload, 1) := by decide +kernel
theorem dX1_listen_95 : decode cX1_listen 95 = .ok (.invokevirtual 76, 3) := by decide +kernel
theorem dX1_listen_98 : decode cX1_listen 98 = .ok (.aload_n 0, 1) := by decide +kernel
theorem dX1_listen_99 : decode cX1_listen 99 = .ok (.getfield 13, 3) := by decide +kernel
theorem dX1_listen_102 : decode cX1_listen 102 = .ok (.iload 5, 2) := by decide +kernel
theorem dX1_listen_104 : decode cX1_listen 104 = .ok (.aload_n 0, 1) := by decide +kernel
theorem dX1_listen_105 : decode cX1_listen 105 = .ok (.getfield 48, 3) := by decide +kernel
theorem dX1_listen_108 : decode cX1_listen 108 = .ok (.bipush 16, 2) := by decide +kernel
theorem dX1_listen_110 : decode cX1_listen 110 = .ok (.aload_n 0, 1) := by decide +kernel
theorem dX1_listen_111 : decode cX1_listen 111 = .ok (.getfield 20, 3) := by decide +kernel
theorem dX1_listen_114 : decode cX1_listen 114 = .ok (.aload_n 0, 1) := by decide +kernel
theorem dX1_listen_115 : decode cX1_listen 115 = .ok (.getfield 26, 3) := by decide +kernel
theorem dX1_listen_118 : decode cX1_listen 118 = .ok (.aload_n 0, 1) := by decide +kernel
theorem dX1_listen_119 : decode cX1_listen 119 = .ok (.getfield 20, 3) := by decide +kernel
theorem dX1_listen_122 : decode cX1_listen 122 = .ok (.iconst 0, 1) := by decide +kernel
theorem dX1_listen_123 : decode cX1_listen 123 = .ok (.laload, 1) := by decide +kernel
theorem dX1_listen_124 : decode cX1_listen 124 = .ok (.aload_n 0, 1) := by decide +kernel
theorem dX1_listen_125 : decode cX1_listen 125 = .ok (.getfield 20, 3) := by decide +kernel
theorem dX1_listen_128 : decode cX1_listen 128 = .ok (.bipush 6, 2) := by decide +kernel
theorem dX1_listen_130 : decode cX1_listen 130 = .ok (.laload, 1) := by decide +kernel
theorem dX1_listen_131 : decode cX1_listen 131 = .ok (.lsub, 1) := by decide +kernel
theorem dX1_listen_132 : decode cX1_listen 132 = .ok (.invokevirtual 80, 3) := by decide +kernel
theorem dX1_listen_135 : decode cX1_listen 135 = .ok (.invokestatic 84, 3) := by decide +kernel
theorem dX1_listen_138 : decode cX1_listen 138 = .ok (.iastore, 1) := by decide +kernel
theorem dX1_listen_139 : decode cX1_listen 139 = .ok (.aload_n 0, 1) := by decide +kernel
theorem dX1_listen_140 : decode cX1_listen 140 = .ok (.getfield 17, 3) := by decide +kernel
theorem dX1_listen_143 : decode cX1_listen 143 = .ok (.iload 5, 2) := by decide +kernel
theorem dX1_listen_145 : decode cX1_listen 145 = .ok (.aload_n 0, 1) := by decide +kernel
theorem dX1_listen_146 : decode cX1_listen 146 = .ok (.getfield 48, 3) := by decide +kernel
theorem dX1_listen_149 : decode cX1_listen 149 = .ok (.bipush 17, 2) := by decide +kernel
theorem dX1_listen_151 : decode cX1_listen 151 = .ok (.aload_n 0, 1) := by decide +kernel
theorem dX1_listen_152 : decode cX1_listen 152 = .ok (.getfield 20, 3) := by decide +kernel
theorem dX1_listen_155 : decode cX1_listen 155 = .ok (.aload_n 0, 1) := by decide +kernel
theorem dX1_listen_156 : decode cX1_listen 156 = .ok (.getfield 26, 3) := by decide +kernel
theorem dX1_listen_159 : decode cX1_listen 159 = .ok (.aload_n 0, 1) := by decide +kernel
theorem dX1_listen_160 : decode cX1_listen 160 = .ok (.getfield 20, 3) := by decide +kernel
theorem dX1_listen_163 : decode cX1_listen 163 = .ok (.iconst 1, 1) := by decide +kernel
theorem dX1_listen_164 : decode cX1_listen 164 = .ok (.laload, 1) := by decide +kernel
theorem dX1_listen_165 : decode cX1_listen 165 = .ok (.aload_n 0, 1) := by decide +kernel
theorem dX1_listen_166 : decode cX1_listen 166 = .ok (.getfield 20, 3) := by decide +kernel
theorem dX1_listen_169 : decode cX1_listen 169 = .ok (.bipush 7, 2) := by decide +kernel
theorem dX1_listen_171 : decode cX1_listen 171 = .ok (.laload, 1) := by decide +kernel
theorem dX1_listen_172 : decode cX1_listen 172 = .ok (.lsub, 1) := by decide +kernel
theorem dX1_listen_173 : decode cX1_listen 173 = .ok (.invokevirtual 80, 3) := by decide +kernel
theorem dX1_listen_176 : decode cX1_listen 176 = .ok (.invokestatic 88, 3) := by decide +kernel
theorem dX1_listen_179 : decode cX1_listen 179 = .ok (.iastore, 1) := by decide +kernel
theorem dX1_listen_180 : decode cX1_listen 180 = .ok (.aload_n 0, 1) := by decide +kernel
theorem dX1_listen_181 : decode cX1_listen 181 = .ok (.getfield 29, 3) := by decide +kernel
theorem dX1_listen_184 : decode cX1_listen 184 = .ok (.iload 4, 2) := by decide +kernel
theorem dX1_listen_186 : decode cX1_listen 186 = .ok (.iload 5, 2) := by decide +kernel
theorem dX1_listen_188 : decode cX1_listen 188 = .ok (.iastore, 1) := by decide +kernel
theorem dX1_listen_189 : decode cX1_listen 189 = .ok (.aload_n 0, 1) := by decide +kernel
theorem dX1_listen_190 : decode cX1_listen 190 = .ok (.getfield 17, 3) := by decide +kernel
theorem dX1_listen_193 : decode cX1_listen 193 = .ok (.iload 5, 2) := by decide +kernel
theorem dX1_listen_195 : decode cX1_listen 195 = .ok (.iaload, 1) := by decide +kernel
theorem dX1_listen_196 : decode cX1_listen 196 = .ok (.ifCond .le 26, 3) := by decide +kernel
theorem dX1_listen_199 : decode cX1_listen 199 = .ok (.aload_n 0, 1) := by decide +kernel
theorem dX1_listen_200 : decode cX1_listen 200 = .ok (.getfield 17, 3) := by decide +kernel
theorem dX1_listen_203 : decode cX1_listen 203 = .ok (.iload 5, 2) := by decide +kernel
theorem dX1_listen_205 : decode cX1_listen 205 = .ok (.iaload, 1) := by decide +kernel
theorem dX1_listen_206 : decode cX1_listen 206 = .ok (.aload_n 0, 1) := by decide +kernel
theorem dX1_listen_207 : decode cX1_listen 207 = .ok (.getfield 44, 3) := by decide +kernel
theorem dX1_listen_210 : decode cX1_listen 210 = .ok (.getfield 91, 3) := by decide +kernel
theorem dX1_listen_213 : decode cX1_listen 213 = .ok (.if_icmp .lt 9, 3) := by decide +kernel
theorem dX1_listen_216 : decode cX1_listen 216 = .ok (.aload_n 0, 1) := by decide +kernel
theorem dX1_listen_217 : decode cX1_listen 217 = .ok (.iload 4, 2) := by decide +kernel
theorem dX1_listen_219 : decode cX1_listen 219 = .ok (.invokevirtual 94, 3) := by decide +kernel
theorem dX1_listen_222 : decode cX1_listen 222 = .ok (.iinc 4 1, 3) := by decide +kernel
theorem dX1_listen_225 : decode cX1_listen 225 = .ok (.goto (-204), 3) := by decide +kernel
theorem dX1_listen_228 : decode cX1_listen 228 = .ok (.return_, 1) := by decide +kernel
theorem dX1_heldNote_0 : decode cX1_heldNote 0 = .ok (.ldc2_w 98, 3) := by decide +kernel
theorem dX1_heldNote_3 : decode cX1_heldNote 3 = .ok (.ldc2_w 100, 3) := by decide +kernel
theorem dX1_heldNote_6 : decode cX1_heldNote 6 = .ok (.lload_n 0, 1) := by decide +kernel
theorem dX1_heldNote_7 : decode cX1_heldNote 7 = .ok (.invokestatic 102, 3) := by decide +kernel
theorem dX1_heldNote_10 : decode cX1_heldNote 10 = .ok (.invokestatic 108, 3) := by decide +kernel
theorem dX1_heldNote_13 : decode cX1_heldNote 13 = .ok (.l2i, 1) := by decide +kernel
theorem dX1_heldNote_14 : decode cX1_heldNote 14 = .ok (.ireturn, 1) := by decide +kernel
theorem dX1_heldStrength_0 : decode cX1_heldStrength 0 = .ok (.lconst 0, 1) := by decide +kernel
theorem dX1_heldStrength_1 : decode cX1_heldStrength 1 = .ok (.ldc2_w 100, 3) := by decide +kernel
theorem dX1_heldStrength_4 : decode cX1_heldStrength 4 = .ok (.lload_n 0, 1) := by decide +kernel
theorem dX1_heldStrength_5 : decode cX1_heldStrength 5 = .ok (.invokestatic 102, 3) := by decide +kernel
theorem dX1_heldStrength_8 : decode cX1_heldStrength 8 = .ok (.invokestatic 108, 3) := by decide +kernel
theorem dX1_heldStrength_11 : decode cX1_heldStrength 11 = .ok (.l2i, 1) := by decide +kernel
theorem dX1_heldStrength_12 : decode cX1_heldStrength 12 = .ok (.ireturn, 1) := by decide +kernel
theorem dX1_loudestOf_0 : decode cX1_loudestOf 0 = .ok (.iconst (-1), 1) := by decide +kernel
theorem dX1_loudestOf_1 : decode cX1_loudestOf 1 = .ok (.istore_n 2, 1) := by decide +kernel
theorem dX1_loudestOf_2 : decode cX1_loudestOf 2 = .ok (.iconst 0, 1) := by decide +kernel
theorem dX1_loudestOf_3 : decode cX1_loudestOf 3 = .ok (.istore_n 3, 1) := by decide +kernel
theorem dX1_loudestOf_4 : decode cX1_loudestOf 4 = .ok (.iload_n 3, 1) := by decide +kernel
theorem dX1_loudestOf_5 : decode cX1_loudestOf 5 = .ok (.aload_n 0, 1) := by decide +kernel
theorem dX1_loudestOf_6 : decode cX1_loudestOf 6 = .ok (.getfield 44, 3) := by decide +kernel
theorem dX1_loudestOf_9 : decode cX1_loudestOf 9 = .ok (.getfield 56, 3) := by decide +kernel
theorem dX1_loudestOf_12 : decode cX1_loudestOf 12 = .ok (.if_icmp .ge 57, 3) := by decide +kernel
theorem dX1_loudestOf_15 : decode cX1_loudestOf 15 = .ok (.iload_n 1, 1) := by decide +kernel
theorem dX1_loudestOf_16 : decode cX1_loudestOf 16 = .ok (.iload_n 3, 1) := by decide +kernel
theorem dX1_loudestOf_17 : decode cX1_loudestOf 17 = .ok (.ishr, 1) := by decide +kernel
theorem dX1_loudestOf_18 : decode cX1_loudestOf 18 = .ok (.iconst 1, 1) := by decide +kernel
theorem dX1_loudestOf_19 : decode cX1_loudestOf 19 = .ok (.iand, 1) := by decide +kernel
theorem dX1_loudestOf_20 : decode cX1_loudestOf 20 = .ok (.iconst 1, 1) := by decide +kernel
theorem dX1_loudestOf_21 : decode cX1_loudestOf 21 = .ok (.if_icmp .ne 7, 3) := by decide +kernel
theorem dX1_loudestOf_24 : decode cX1_loudestOf 24 = .ok (.iconst 1, 1) := by decide +kernel
theorem dX1_loudestOf_25 : decode cX1_loudestOf 25 = .ok (.goto 4, 3) := by decide +kernel
theorem dX1_loudestOf_28 : decode cX1_loudestOf 28 = .ok (.iconst 0, 1) := by decide +kernel
theorem dX1_loudestOf_29 : decode cX1_loudestOf 29 = .ok (.istore 4, 2) := by decide +kernel
theorem dX1_loudestOf_31 : decode cX1_loudestOf 31 = .ok (.iload 4, 2) := by decide +kernel
theorem dX1_loudestOf_33 : decode cX1_loudestOf 33 = .ok (.ifCond .eq 30, 3) := by decide +kernel
theorem dX1_loudestOf_36 : decode cX1_loudestOf 36 = .ok (.iload_n 2, 1) := by decide +kernel
theorem dX1_loudestOf_37 : decode cX1_loudestOf 37 = .ok (.ifCond .lt 24, 3) := by decide +kernel
theorem dX1_loudestOf_40 : decode cX1_loudestOf 40 = .ok (.aload_n 0, 1) := by decide +kernel
theorem dX1_loudestOf_41 : decode cX1_loudestOf 41 = .ok (.getfield 44, 3) := by decide +kernel
theorem dX1_loudestOf_44 : decode cX1_loudestOf 44 = .ok (.getfield 73, 3) := by decide +kernel
theorem dX1_loudestOf_47 : decode cX1_loudestOf 47 = .ok (.iload_n 3, 1) := by decide +kernel
theorem dX1_loudestOf_48 : decode cX1_loudestOf 48 = .ok (.iaload, 1) := by decide +kernel
theorem dX1_loudestOf_49 : decode cX1_loudestOf 49 = .ok (.aload_n 0, 1) := by decide +kernel
theorem dX1_loudestOf_50 : decode cX1_loudestOf 50 = .ok (.getfield 44, 3) := by decide +kernel
theorem dX1_loudestOf_53 : decode cX1_loudestOf 53 = .ok (.getfield 73, 3) := by decide +kernel
theorem dX1_loudestOf_56 : decode cX1_loudestOf 56 = .ok (.iload_n 2, 1) := by decide +kernel
theorem dX1_loudestOf_57 : decode cX1_loudestOf 57 = .ok (.iaload, 1) := by decide +kernel
theorem dX1_loudestOf_58 : decode cX1_loudestOf 58 = .ok (.if_icmp .le 5, 3) := by decide +kernel
theorem dX1_loudestOf_61 : decode cX1_loudestOf 61 = .ok (.iload_n 3, 1) := by decide +kernel
theorem dX1_loudestOf_62 : decode cX1_loudestOf 62 = .ok (.istore_n 2, 1) := by decide +kernel
theorem dX1_loudestOf_63 : decode cX1_loudestOf 63 = .ok (.iinc 3 1, 3) := by decide +kernel
theorem dX1_loudestOf_66 : decode cX1_loudestOf 66 = .ok (.goto (-62), 3) := by decide +kernel
theorem dX1_loudestOf_69 : decode cX1_loudestOf 69 = .ok (.iload_n 2, 1) := by decide +kernel
theorem dX1_loudestOf_70 : decode cX1_loudestOf 70 = .ok (.iconst 0, 1) := by decide +kernel
theorem dX1_loudestOf_71 : decode cX1_loudestOf 71 = .ok (.invokestatic 111, 3) := by decide +kernel
theorem dX1_loudestOf_74 : decode cX1_loudestOf 74 = .ok (.ireturn, 1) := by decide +kernel
theorem dX1_tellWords_0 : decode cX1_tellWords 0 = .ok (.aload_n 0, 1) := by decide +kernel
theorem dX1_tellWords_1 : decode cX1_tellWords 1 = .ok (.getfield 20, 3) := by decide +kernel
theorem dX1_tellWords_4 : decode cX1_tellWords 4 = .ok (.iconst 0, 1) := by decide +kernel
theorem dX1_tellWords_5 : decode cX1_tellWords 5 = .ok (.aload_n 0, 1) := by decide +kernel
theorem dX1_tellWords_6 : decode cX1_tellWords 6 = .ok (.getfield 44, 3) := by decide +kernel
theorem dX1_tellWords_9 : decode cX1_tellWords 9 = .ok (.getfield 114, 3) := by decide +kernel
theorem dX1_tellWords_12 : decode cX1_tellWords 12 = .ok (.iload_n 1, 1) := by decide +kernel
theorem dX1_tellWords_13 : decode cX1_tellWords 13 = .ok (.iaload, 1) := by decide +kernel
theorem dX1_tellWords_14 : decode cX1_tellWords 14 = .ok (.i2l, 1) := by decide +kernel
theorem dX1_tellWords_15 : decode cX1_tellWords 15 = .ok (.lastore, 1) := by decide +kernel
theorem dX1_tellWords_16 : decode cX1_tellWords 16 = .ok (.aload_n 0, 1) := by decide +kernel
theorem dX1_tellWords_17 : decode cX1_tellWords 17 = .ok (.getfield 20, 3) := by decide +kernel
theorem dX1_tellWords_20 : decode cX1_tellWords 20 = .ok (.iconst 1, 1) := by decide +kernel
theorem dX1_tellWords_21 : decode cX1_tellWords 21 = .ok (.aload_n 0, 1) := by decide +kernel
theorem dX1_tellWords_22 : decode cX1_tellWords 22 = .ok (.getfield 44, 3) := by decide +kernel
theorem dX1_tellWords_25 : decode cX1_tellWords 25 = .ok (.getfield 73, 3) := by decide +kernel
theorem dX1_tellWords_28 : decode cX1_tellWords 28 = .ok (.iload_n 1, 1) := by decide +kernel
theorem dX1_tellWords_29 : decode cX1_tellWords 29 = .ok (.iaload, 1) := by decide +kernel
theorem dX1_tellWords_30 : decode cX1_tellWords 30 = .ok (.i2l, 1) := by decide +kernel
theorem dX1_tellWords_31 : decode cX1_tellWords 31 = .ok (.lastore, 1) := by decide +kernel
theorem dX1_tellWords_32 : decode cX1_tellWords 32 = .ok (.aload_n 0, 1) := by decide +kernel
theorem dX1_tellWords_33 : decode cX1_tellWords 33 = .ok (.getfield 20, 3) := by decide +kernel
theorem dX1_tellWords_36 : decode cX1_tellWords 36 = .ok (.iconst 2, 1) := by decide +kernel
theorem dX1_tellWords_37 : decode cX1_tellWords 37 = .ok (.aload_n 0, 1) := by decide +kernel
theorem dX1_tellWords_38 : decode cX1_tellWords 38 = .ok (.getfield 44, 3) := by decide +kernel
theorem dX1_tellWords_41 : decode cX1_tellWords 41 = .ok (.getfield 117, 3) := by decide +kernel
theorem dX1_tellWords_44 : decode cX1_tellWords 44 = .ok (.iload_n 1, 1) := by decide +kernel
theorem dX1_tellWords_45 : decode cX1_tellWords 45 = .ok (.iaload, 1) := by decide +kernel
theorem dX1_tellWords_46 : decode cX1_tellWords 46 = .ok (.i2l, 1) := by decide +kernel
theorem dX1_tellWords_47 : decode cX1_tellWords 47 = .ok (.lastore, 1) := by decide +kernel
theorem dX1_tellWords_48 : decode cX1_tellWords 48 = .ok (.aload_n 0, 1) := by decide +kernel
theorem dX1_tellWords_49 : decode cX1_tellWords 49 = .ok (.getfield 20, 3) := by decide +kernel
theorem dX1_tellWords_52 : decode cX1_tellWords 52 = .ok (.iconst 3, 1) := by decide +kernel
theorem dX1_tellWords_53 : decode cX1_tellWords 53 = .ok (.aload_n 0, 1) := by decide +kernel
theorem dX1_tellWords_54 : decode cX1_tellWords 54 = .ok (.getfield 44, 3) := by decide +kernel
theorem dX1_tellWords_57 : decode cX1_tellWords 57 = .ok (.getfield 120, 3) := by decide +kernel
theorem dX1_tellWords_60 : decode cX1_tellWords 60 = .ok (.iload_n 1, 1) := by decide +kernel
theorem dX1_tellWords_61 : decode cX1_tellWords 61 = .ok (.iaload, 1) := by decide +kernel
theorem dX1_tellWords_62 : decode cX1_tellWords 62 = .ok (.i2l, 1) := by decide +kernel
theorem dX1_tellWords_63 : decode cX1_tellWords 63 = .ok (.lastore, 1) := by decide +kernel
theorem dX1_tellWords_64 : decode cX1_tellWords 64 = .ok (.aload_n 0, 1) := by decide +kernel
theorem dX1_tellWords_65 : decode cX1_tellWords 65 = .ok (.getfield 20, 3) := by decide +kernel
theorem dX1_tellWords_68 : decode cX1_tellWords 68 = .ok (.iconst 4, 1) := by decide +kernel
theorem dX1_tellWords_69 : decode cX1_tellWords 69 = .ok (.aload_n 0, 1) := by decide +kernel
theorem dX1_tellWords_70 : decode cX1_tellWords 70 = .ok (.getfield 44, 3) := by decide +kernel
theorem dX1_tellWords_73 : decode cX1_tellWords 73 = .ok (.iload_n 1, 1) := by decide +kernel
theorem dX1_tellWords_74 : decode cX1_tellWords 74 = .ok (.invokevirtual 123, 3) := by decide +kernel
theorem dX1_tellWords_77 : decode cX1_tellWords 77 = .ok (.i2l, 1) := by decide +kernel
theorem dX1_tellWords_78 : decode cX1_tellWords 78 = .ok (.lastore, 1) := by decide +kernel
theorem dX1_tellWords_79 : decode cX1_tellWords 79 = .ok (.aload_n 0, 1) := by decide +kernel
theorem dX1_tellWords_80 : decode cX1_tellWords 80 = .ok (.getfield 20, 3) := by decide +kernel
theorem dX1_tellWords_83 : decode cX1_tellWords 83 = .ok (.iconst 5, 1) := by decide +kernel
theorem dX1_tellWords_84 : decode cX1_tellWords 84 = .ok (.iload_n 1, 1) := by decide +kernel
theorem dX1_tellWords_85 : decode cX1_tellWords 85 = .ok (.i2l, 1) := by decide +kernel
theorem dX1_tellWords_86 : decode cX1_tellWords 86 = .ok (.lastore, 1) := by decide +kernel
theorem dX1_tellWords_87 : decode cX1_tellWords 87 = .ok (.aload_n 0, 1) := by decide +kernel
theorem dX1_tellWords_88 : decode cX1_tellWords 88 = .ok (.getfield 20, 3) := by decide +kernel
theorem dX1_tellWords_91 : decode cX1_tellWords 91 = .ok (.bipush 6, 2) := by decide +kernel
theorem dX1_tellWords_93 : decode cX1_tellWords 93 = .ok (.aload_n 0, 1) := by decide +kernel
theorem dX1_tellWords_94 : decode cX1_tellWords 94 = .ok (.getfield 44, 3) := by decide +kernel
theorem dX1_tellWords_97 : decode cX1_tellWords 97 = .ok (.getfield 126, 3) := by decide +kernel
theorem dX1_tellWords_100 : decode cX1_tellWords 100 = .ok (.aload_n 0, 1) := by decide +kernel
theorem dX1_tellWords_101 : decode cX1_tellWords 101 = .ok (.getfield 52, 3) := by decide +kernel
theorem dX1_tellWords_104 : decode cX1_tellWords 104 = .ok (.iaload, 1) := by decide +kernel
theorem dX1_tellWords_105 : decode cX1_tellWords 105 = .ok (.i2l, 1) := by decide +kernel
theorem dX1_tellWords_106 : decode cX1_tellWords 106 = .ok (.lastore, 1) := by decide +kernel
theorem dX1_tellWords_107 : decode cX1_tellWords 107 = .ok (.aload_n 0, 1) := by decide +kernel
theorem dX1_tellWords_108 : decode cX1_tellWords 108 = .ok (.getfield 20, 3) := by decide +kernel
theorem dX1_tellWords_111 : decode cX1_tellWords 111 = .ok (.bipush 7, 2) := by decide +kernel
theorem dX1_tellWords_113 : decode cX1_tellWords 113 = .ok (.aload_n 0, 1) := by decide +kernel
theorem dX1_tellWords_114 : decode cX1_tellWords 114 = .ok (.getfield 44, 3) := by decide +kernel
theorem dX1_tellWords_117 : decode cX1_tellWords 117 = .ok (.getfield 129, 3) := by decide +kernel
theorem dX1_tellWords_120 : decode cX1_tellWords 120 = .ok (.aload_n 0, 1) := by decide +kernel
theorem dX1_tellWords_121 : decode cX1_tellWords 121 = .ok (.getfield 52, 3) := by decide +kernel
theorem dX1_tellWords_124 : decode cX1_tellWords 124 = .ok (.iaload, 1) := by decide +kernel
theorem dX1_tellWords_125 : decode cX1_tellWords 125 = .ok (.i2l, 1) := by decide +kernel
theorem dX1_tellWords_126 : decode cX1_tellWords 126 = .ok (.lastore, 1) := by decide +kernel
theorem dX1_tellWords_127 : decode cX1_tellWords 127 = .ok (.aload_n 0, 1) := by decide +kernel
theorem dX1_tellWords_128 : decode cX1_tellWords 128 = .ok (.getfield 20, 3) := by decide +kernel
theorem dX1_tellWords_131 : decode cX1_tellWords 131 = .ok (.bipush 8, 2) := by decide +kernel
theorem dX1_tellWords_133 : decode cX1_tellWords 133 = .ok (.iload_n 2, 1) := by decide +kernel
theorem dX1_tellWords_134 : decode cX1_tellWords 134 = .ok (.i2l, 1) := by decide +kernel
theorem dX1_tellWords_135 : decode cX1_tellWords 135 = .ok (.lastore, 1) := by decide +kernel
theorem dX1_tellWords_136 : decode cX1_tellWords 136 = .ok (.aload_n 0, 1) := by decide +kernel
theorem dX1_tellWords_137 : decode cX1_tellWords 137 = .ok (.getfield 20, 3) := by decide +kernel
theorem dX1_tellWords_140 : decode cX1_tellWords 140 = .ok (.bipush 9, 2) := by decide +kernel
theorem dX1_tellWords_142 : decode cX1_tellWords 142 = .ok (.iload_n 3, 1) := by decide +kernel
theorem dX1_tellWords_143 : decode cX1_tellWords 143 = .ok (.i2l, 1) := by decide +kernel
theorem dX1_tellWords_144 : decode cX1_tellWords 144 = .ok (.lastore, 1) := by decide +kernel
theorem dX1_tellWords_145 : decode cX1_tellWords 145 = .ok (.return_, 1) := by decide +kernel
theorem dX1_putInOrder_0 : decode cX1_putInOrder 0 = .ok (.aload_n 0, 1) := by decide +kernel
theorem dX1_putInOrder_1 : decode cX1_putInOrder 1 = .ok (.getfield 70, 3) := by decide +kernel
theorem dX1_putInOrder_4 : decode cX1_putInOrder 4 = .ok (.istore_n 2, 1) := by decide +kernel
theorem dX1_putInOrder_5 : decode cX1_putInOrder 5 = .ok (.iload_n 2, 1) := by decide +kernel
theorem dX1_putInOrder_6 : decode cX1_putInOrder 6 = .ok (.ifCond .le 43, 3) := by decide +kernel
theorem dX1_putInOrder_9 : decode cX1_putInOrder 9 = .ok (.aload_n 0, 1) := by decide +kernel
theorem dX1_putInOrder_10 : decode cX1_putInOrder 10 = .ok (.aload_n 0, 1) := by decide +kernel
theorem dX1_putInOrder_11 : decode cX1_putInOrder 11 = .ok (.getfield 32, 3) := by decide +kernel
theorem dX1_putInOrder_14 : decode cX1_putInOrder 14 = .ok (.iload_n 2, 1) := by decide +kernel
theorem dX1_putInOrder_15 : decode cX1_putInOrder 15 = .ok (.iconst 1, 1) := by decide +kernel
theorem dX1_putInOrder_16 : decode cX1_putInOrder 16 = .ok (.isub, 1) := by decide +kernel
theorem dX1_putInOrder_17 : decode cX1_putInOrder 17 = .ok (.iaload, 1) := by decide +kernel
theorem dX1_putInOrder_18 : decode cX1_putInOrder 18 = .ok (.invokevirtual 132, 3) := by decide +kernel
theorem dX1_putInOrder_21 : decode cX1_putInOrder 21 = .ok (.aload_n 0, 1) := by decide +kernel
theorem dX1_putInOrder_22 : decode cX1_putInOrder 22 = .ok (.iload_n 1, 1) := by decide +kernel
theorem dX1_putInOrder_23 : decode cX1_putInOrder 23 = .ok (.invokevirtual 132, 3) := by decide +kernel
theorem dX1_putInOrder_26 : decode cX1_putInOrder 26 = .ok (.if_icmp .le 23, 3) := by decide +kernel
theorem dX1_putInOrder_29 : decode cX1_putInOrder 29 = .ok (.aload_n 0, 1) := by decide +kernel
theorem dX1_putInOrder_30 : decode cX1_putInOrder 30 = .ok (.getfield 32, 3) := by decide +kernel
theorem dX1_putInOrder_33 : decode cX1_putInOrder 33 = .ok (.iload_n 2, 1) := by decide +kernel
theorem dX1_putInOrder_34 : decode cX1_putInOrder 34 = .ok (.aload_n 0, 1) := by decide +kernel
theorem dX1_putInOrder_35 : decode cX1_putInOrder 35 = .ok (.getfield 32, 3) := by decide +kernel
theorem dX1_putInOrder_38 : decode cX1_putInOrder 38 = .ok (.iload_n 2, 1) := by decide +kernel
theorem dX1_putInOrder_39 : decode cX1_putInOrder 39 = .ok (.iconst 1, 1) := by decide +kernel
theorem dX1_putInOrder_40 : decode cX1_putInOrder 40 = .ok (.isub, 1) := by decide +kernel
theorem dX1_putInOrder_41 : decode cX1_putInOrder 41 = .ok (.iaload, 1) := by decide +kernel
theorem dX1_putInOrder_42 : decode cX1_putInOrder 42 = .ok (.iastore, 1) := by decide +kernel
theorem dX1_putInOrder_43 : decode cX1_putInOrder 43 = .ok (.iinc 2 (-1), 3) := by decide +kernel
theorem dX1_putInOrder_46 : decode cX1_putInOrder 46 = .ok (.goto (-41), 3) := by decide +kernel
theorem dX1_putInOrder_49 : decode cX1_putInOrder 49 = .ok (.aload_n 0, 1) := by decide +kernel
theorem dX1_putInOrder_50 : decode cX1_putInOrder 50 = .ok (.getfield 32, 3) := by decide +kernel
theorem dX1_putInOrder_53 : decode cX1_putInOrder 53 = .ok (.iload_n 2, 1) := by decide +kernel
theorem dX1_putInOrder_54 : decode cX1_putInOrder 54 = .ok (.iload_n 1, 1) := by decide +kernel
theorem dX1_putInOrder_55 : decode cX1_putInOrder 55 = .ok (.iastore, 1) := by decide +kernel
theorem dX1_putInOrder_56 : decode cX1_putInOrder 56 = .ok (.aload_n 0, 1) := by decide +kernel
theorem dX1_putInOrder_57 : decode cX1_putInOrder 57 = .ok (.dup, 1) := by decide +kernel
theorem dX1_putInOrder_58 : decode cX1_putInOrder 58 = .ok (.getfield 70, 3) := by decide +kernel
theorem dX1_putInOrder_61 : decode cX1_putInOrder 61 = .ok (.iconst 1, 1) := by decide +kernel
theorem dX1_putInOrder_62 : decode cX1_putInOrder 62 = .ok (.iadd, 1) := by decide +kernel
theorem dX1_putInOrder_63 : decode cX1_putInOrder 63 = .ok (.putfield 70, 3) := by decide +kernel
theorem dX1_putInOrder_66 : decode cX1_putInOrder 66 = .ok (.return_, 1) := by decide +kernel
theorem dX1_gatherTones_0 : decode cX1_gatherTones 0 = .ok (.aload_n 0, 1) := by decide +kernel
theorem dX1_gatherTones_1 : decode cX1_gatherTones 1 = .ok (.iconst 0, 1) := by decide +kernel
theorem dX1_gatherTones_2 : decode cX1_gatherTones 2 = .ok (.putfield 135, 3) := by decide +kernel
theorem dX1_gatherTones_5 : decode cX1_gatherTones 5 = .ok (.iconst 0, 1) := by decide +kernel
theorem dX1_gatherTones_6 : decode cX1_gatherTones 6 = .ok (.istore_n 1, 1) := by decide +kernel
theorem dX1_gatherTones_7 : decode cX1_gatherTones 7 = .ok (.iload_n 1, 1) := by decide +kernel
theorem dX1_gatherTones_8 : decode cX1_gatherTones 8 = .ok (.aload_n 0, 1) := by decide +kernel
theorem dX1_gatherTones_9 : decode cX1_gatherTones 9 = .ok (.getfield 70, 3) := by decide +kernel
theorem dX1_gatherTones_12 : decode cX1_gatherTones 12 = .ok (.if_icmp .ge 127, 3) := by decide +kernel
theorem dX1_gatherTones_15 : decode cX1_gatherTones 15 = .ok (.aload_n 0, 1) := by decide +kernel
theorem dX1_gatherTones_16 : decode cX1_gatherTones 16 = .ok (.getfield 32, 3) := by decide +kernel
theorem dX1_gatherTones_19 : decode cX1_gatherTones 19 = .ok (.iload_n 1, 1) := by decide +kernel
theorem dX1_gatherTones_20 : decode cX1_gatherTones 20 = .ok (.iaload, 1) := by decide +kernel
theorem dX1_gatherTones_21 : decode cX1_gatherTones 21 = .ok (.istore_n 2, 1) := by decide +kernel
theorem dX1_gatherTones_22 : decode cX1_gatherTones 22 = .ok (.aload_n 0, 1) := by decide +kernel
theorem dX1_gatherTones_23 : decode cX1_gatherTones 23 = .ok (.getfield 135, 3) := by decide +kernel
theorem dX1_gatherTones_26 : decode cX1_gatherTones 26 = .ok (.iconst 1, 1) := by decide +kernel
theorem dX1_gatherTones_27 : decode cX1_gatherTones 27 = .ok (.isub, 1) := by decide +kernel
theorem dX1_gatherTones_28 : decode cX1_gatherTones 28 = .ok (.istore_n 3, 1) := by decide +kernel
theorem dX1_gatherTones_29 : decode cX1_gatherTones 29 = .ok (.iload_n 3, 1) := by decide +kernel
theorem dX1_gatherTones_30 : decode cX1_gatherTones 30 = .ok (.ifCond .lt 55, 3) := by decide +kernel
theorem dX1_gatherTones_33 : decode cX1_gatherTones 33 = .ok (.aload_n 0, 1) := by decide +kernel
theorem dX1_gatherTones_34 : decode cX1_gatherTones 34 = .ok (.aload_n 0, 1) := by decide +kernel
theorem dX1_gatherTones_35 : decode cX1_gatherTones 35 = .ok (.iload_n 2, 1) := by decide +kernel
theorem dX1_gatherTones_36 : decode cX1_gatherTones 36 = .ok (.invokevirtual 132, 3) := by decide +kernel
theorem dX1_gatherTones_39 : decode cX1_gatherTones 39 = .ok (.aload_n 0, 1) := by decide +kernel
theorem dX1_gatherTones_40 : decode cX1_gatherTones 40 = .ok (.getfield 35, 3) := by decide +kernel
theorem dX1_gatherTones_43 : decode cX1_gatherTones 43 = .ok (.iload_n 3, 1) := by decide +kernel
theorem dX1_gatherTones_44 : decode cX1_gatherTones 44 = .ok (.iaload, 1) := by decide +kernel
theorem dX1_gatherTones_45 : decode cX1_gatherTones 45 = .ok (.isub, 1) := by decide +kernel
theorem dX1_gatherTones_46 : decode cX1_gatherTones 46 = .ok (.invokevirtual 138, 3) := by decide +kernel
theorem dX1_gatherTones_49 : decode cX1_gatherTones 49 = .ok (.ifCond .eq 36, 3) := by decide +kernel
theorem dX1_gatherTones_52 : decode cX1_gatherTones 52 = .ok (.aload_n 0, 1) := by decide +kernel
theorem dX1_gatherTones_53 : decode cX1_gatherTones 53 = .ok (.getfield 38, 3) := by decide +kernel
theorem dX1_gatherTones_56 : decode cX1_gatherTones 56 = .ok (.iload_n 3, 1) := by decide +kernel
theorem dX1_gatherTones_57 : decode cX1_gatherTones 57 = .ok (.dup2, 1) := by decide +kernel
theorem dX1_gatherTones_58 : decode cX1_gatherTones 58 = .ok (.iaload, 1) := by decide +kernel
theorem dX1_gatherTones_59 : decode cX1_gatherTones 59 = .ok (.aload_n 0, 1) := by decide +kernel
theorem dX1_gatherTones_60 : decode cX1_gatherTones 60 = .ok (.iload_n 2, 1) := by decide +kernel
theorem dX1_gatherTones_61 : decode cX1_gatherTones 61 = .ok (.invokevirtual 142, 3) := by decide +kernel
theorem dX1_gatherTones_64 : decode cX1_gatherTones 64 = .ok (.iadd, 1) := by decide +kernel
theorem dX1_gatherTones_65 : decode cX1_gatherTones 65 = .ok (.iastore, 1) := by decide +kernel
theorem dX1_gatherTones_66 : decode cX1_gatherTones 66 = .ok (.aload_n 0, 1) := by decide +kernel
theorem dX1_gatherTones_67 : decode cX1_gatherTones 67 = .ok (.getfield 41, 3) := by decide +kernel
theorem dX1_gatherTones_70 : decode cX1_gatherTones 70 = .ok (.iload_n 3, 1) := by decide +kernel
theorem dX1_gatherTones_71 : decode cX1_gatherTones 71 = .ok (.aload_n 0, 1) := by decide +kernel
theorem dX1_gatherTones_72 : decode cX1_gatherTones 72 = .ok (.getfield 41, 3) := by decide +kernel
theorem dX1_gatherTones_75 : decode cX1_gatherTones 75 = .ok (.iload_n 3, 1) := by decide +kernel
theorem dX1_gatherTones_76 : decode cX1_gatherTones 76 = .ok (.iaload, 1) := by decide +kernel
theorem dX1_gatherTones_77 : decode cX1_gatherTones 77 = .ok (.iload_n 2, 1) := by decide +kernel
theorem dX1_gatherTones_78 : decode cX1_gatherTones 78 = .ok (.invokestatic 145, 3) := by decide +kernel
theorem dX1_gatherTones_81 : decode cX1_gatherTones 81 = .ok (.iastore, 1) := by decide +kernel
theorem dX1_gatherTones_82 : decode cX1_gatherTones 82 = .ok (.goto 51, 3) := by decide +kernel
theorem dX1_gatherTones_85 : decode cX1_gatherTones 85 = .ok (.aload_n 0, 1) := by decide +kernel
theorem dX1_gatherTones_86 : decode cX1_gatherTones 86 = .ok (.getfield 35, 3) := by decide +kernel
theorem dX1_gatherTones_89 : decode cX1_gatherTones 89 = .ok (.aload_n 0, 1) := by decide +kernel
theorem dX1_gatherTones_90 : decode cX1_gatherTones 90 = .ok (.getfield 135, 3) := by decide +kernel
theorem dX1_gatherTones_93 : decode cX1_gatherTones 93 = .ok (.aload_n 0, 1) := by decide +kernel
theorem dX1_gatherTones_94 : decode cX1_gatherTones 94 = .ok (.iload_n 2, 1) := by decide +kernel
theorem dX1_gatherTones_95 : decode cX1_gatherTones 95 = .ok (.invokevirtual 132, 3) := by decide +kernel
theorem dX1_gatherTones_98 : decode cX1_gatherTones 98 = .ok (.iastore, 1) := by decide +kernel
theorem dX1_gatherTones_99 : decode cX1_gatherTones 99 = .ok (.aload_n 0, 1) := by decide +kernel
theorem dX1_gatherTones_100 : decode cX1_gatherTones 100 = .ok (.getfield 38, 3) := by decide +kernel
theorem dX1_gatherTones_103 : decode cX1_gatherTones 103 = .ok (.aload_n 0, 1) := by decide +kernel
theorem dX1_gatherTones_104 : decode cX1_gatherTones 104 = .ok (.getfield 135, 3) := by decide +kernel
theorem dX1_gatherTones_107 : decode cX1_gatherTones 107 = .ok (.aload_n 0, 1) := by decide +kernel
theorem dX1_gatherTones_108 : decode cX1_gatherTones 108 = .ok (.iload_n 2, 1) := by decide +kernel
theorem dX1_gatherTones_109 : decode cX1_gatherTones 109 = .ok (.invokevirtual 142, 3) := by decide +kernel
theorem dX1_gatherTones_112 : decode cX1_gatherTones 112 = .ok (.iastore, 1) := by decide +kernel
theorem dX1_gatherTones_113 : decode cX1_gatherTones 113 = .ok (.aload_n 0, 1) := by decide +kernel
theorem dX1_gatherTones_114 : decode cX1_gatherTones 114 = .ok (.getfield 41, 3) := by decide +kernel
theorem dX1_gatherTones_117 : decode cX1_gatherTones 117 = .ok (.aload_n 0, 1) := by decide +kernel
theorem dX1_gatherTones_118 : decode cX1_gatherTones 118 = .ok (.getfield 135, 3) := by decide +kernel
theorem dX1_gatherTones_121 : decode cX1_gatherTones 121 = .ok (.iload_n 2, 1) := by decide +kernel
theorem dX1_gatherTones_122 : decode cX1_gatherTones 122 = .ok (.iastore, 1) := by decide +kernel
theorem dX1_gatherTones_123 : decode cX1_gatherTones 123 = .ok (.aload_n 0, 1) := by decide +kernel
theorem dX1_gatherTones_124 : decode cX1_gatherTones 124 = .ok (.dup, 1) := by decide +kernel
theorem dX1_gatherTones_125 : decode cX1_gatherTones 125 = .ok (.getfield 135, 3) := by decide +kernel
theorem dX1_gatherTones_128 : decode cX1_gatherTones 128 = .ok (.iconst 1, 1) := by decide +kernel
theorem dX1_gatherTones_129 : decode cX1_gatherTones 129 = .ok (.iadd, 1) := by decide +kernel
theorem dX1_gatherTones_130 : decode cX1_gatherTones 130 = .ok (.putfield 135, 3) := by decide +kernel
theorem dX1_gatherTones_133 : decode cX1_gatherTones 133 = .ok (.iinc 1 1, 3) := by decide +kernel
theorem dX1_gatherTones_136 : decode cX1_gatherTones 136 = .ok (.goto (-129), 3) := by decide +kernel
theorem dX1_gatherTones_139 : decode cX1_gatherTones 139 = .ok (.return_, 1) := by decide +kernel
theorem dX1_isWithin_0 : decode cX1_isWithin 0 = .ok (.iload_n 1, 1) := by decide +kernel
theorem dX1_isWithin_1 : decode cX1_isWithin 1 = .ok (.aload_n 0, 1) := by decide +kernel
theorem dX1_isWithin_2 : decode cX1_isWithin 2 = .ok (.getfield 44, 3) := by decide +kernel
theorem dX1_isWithin_5 : decode cX1_isWithin 5 = .ok (.getfield 147, 3) := by decide +kernel
theorem dX1_isWithin_8 : decode cX1_isWithin 8 = .ok (.if_icmp .lt 7, 3) := by decide +kernel
theorem dX1_isWithin_11 : decode cX1_isWithin 11 = .ok (.iload_n 1, 1) := by decide +kernel
theorem dX1_isWithin_12 : decode cX1_isWithin 12 = .ok (.ifCond .ne 7, 3) := by decide +kernel
theorem dX1_isWithin_15 : decode cX1_isWithin 15 = .ok (.iconst 1, 1) := by decide +kernel
theorem dX1_isWithin_16 : decode cX1_isWithin 16 = .ok (.goto 4, 3) := by decide +kernel
theorem dX1_isWithin_19 : decode cX1_isWithin 19 = .ok (.iconst 0, 1) := by decide +kernel
theorem dX1_isWithin_20 : decode cX1_isWithin 20 = .ok (.ireturn, 1) := by decide +kernel
theorem dX2_init_0 : decode cX2_init 0 = .ok (.aload_n 0, 1) := by decide +kernel
theorem dX2_init_1 : decode cX2_init 1 = .ok (.invokespecial 3, 3) := by decide +kernel
theorem dX2_init_4 : decode cX2_init 4 = .ok (.aload_n 0, 1) := by decide +kernel
theorem dX2_init_5 : decode cX2_init 5 = .ok (.bipush 10, 2) := by decide +kernel
theorem dX2_init_7 : decode cX2_init 7 = .ok (.newarray .int, 2) := by decide +kernel
theorem dX2_init_9 : decode cX2_init 9 = .ok (.putfield 9, 3) := by decide +kernel
theorem dX2_init_12 : decode cX2_init 12 = .ok (.aload_n 0, 1) := by decide +kernel
theorem dX2_init_13 : decode cX2_init 13 = .ok (.sipush 1024, 3) := by decide +kernel
theorem dX2_init_16 : decode cX2_init 16 = .ok (.newarray .boolean, 2) := by decide +kernel
theorem dX2_init_18 : decode cX2_init 18 = .ok (.putfield 15, 3) := by decide +kernel
theorem dX2_init_21 : decode cX2_init 21 = .ok (.aload_n 0, 1) := by decide +kernel
theorem dX2_init_22 : decode cX2_init 22 = .ok (.sipush 1024, 3) := by decide +kernel
theorem dX2_init_25 : decode cX2_init 25 = .ok (.newarray .int, 2) := by decide +kernel
theorem dX2_init_27 : decode cX2_init 27 = .ok (.putfield 19, 3) := by decide +kernel
theorem dX2_init_30 : decode cX2_init 30 = .ok (.aload_n 0, 1) := by decide +kernel
theorem dX2_init_31 : decode cX2_init 31 = .ok (.sipush 4096, 3) := by decide +kernel
theorem dX2_init_34 : decode cX2_init 34 = .ok (.newarray .boolean, 2) := by decide +kernel
theorem dX2_init_36 : decode cX2_init 36 = .ok (.putfield 22, 3) := by decide +kernel
theorem dX2_init_39 : decode cX2_init 39 = .ok (.aload_n 0, 1) := by decide +kernel
theorem dX2_init_40 : decode cX2_init 40 = .ok (.sipush 201, 3) := by decide +kernel
theorem dX2_init_43 : decode cX2_init 43 = .ok (.newarray .boolean, 2) := by decide +kernel
theorem dX2_init_45 : decode cX2_init 45 = .ok (.putfield 25, 3) := by decide +kernel
theorem dX2_init_48 : decode cX2_init 48 = .ok (.aload_n 0, 1) := by decide +kernel
theorem dX2_init_49 : decode cX2_init 49 = .ok (.aload_n 1, 1) := by decide +kernel
theorem dX2_init_50 : decode cX2_init 50 = .ok (.putfield 28, 3) := by decide +kernel
theorem dX2_init_53 : decode cX2_init 53 = .ok (.aload_n 0, 1) := by decide +kernel
theorem dX2_init_54 : decode cX2_init 54 = .ok (.aload_n 2, 1) := by decide +kernel
theorem dX2_init_55 : decode cX2_init 55 = .ok (.putfield 32, 3) := by decide +kernel
theorem dX2_init_58 : decode cX2_init 58 = .ok (.return_, 1) := by decide +kernel
theorem dX2_fitting_0 : decode cX2_fitting 0 = .ok (.iconst 0, 1) := by decide +kernel
theorem dX2_fitting_1 : decode cX2_fitting 1 = .ok (.istore_n 3, 1) := by decide +kernel
theorem dX2_fitting_2 : decode cX2_fitting 2 = .ok (.bipush (-2), 2) := by decide +kernel
theorem dX2_fitting_4 : decode cX2_fitting 4 = .ok (.istore 4, 2) := by decide +kernel
theorem dX2_fitting_6 : decode cX2_fitting 6 = .ok (.bipush (-2), 2) := by decide +kernel
theorem dX2_fitting_8 : decode cX2_fitting 8 = .ok (.istore 5, 2) := by decide +kernel
theorem dX2_fitting_10 : decode cX2_fitting 10 = .ok (.bipush (-2), 2) := by decide +kernel
theorem dX2_fitting_12 : decode cX2_fitting 12 = .ok (.istore 6, 2) := by decide +kernel
theorem dX2_fitting_14 : decode cX2_fitting 14 = .ok (.bipush (-2), 2) := by decide +kernel
theorem dX2_fitting_16 : decode cX2_fitting 16 = .ok (.istore 7, 2) := by decide +kernel
theorem dX2_fitting_18 : decode cX2_fitting 18 = .ok (.iconst 1, 1) := by decide +kernel
theorem dX2_fitting_19 : decode cX2_fitting 19 = .ok (.iload_n 1, 1) := by decide +kernel
theorem dX2_fitting_20 : decode cX2_fitting 20 = .ok (.invokestatic 36, 3) := by decide +kernel
theorem dX2_fitting_23 : decode cX2_fitting 23 = .ok (.ishl, 1) := by decide +kernel
theorem dX2_fitting_24 : decode cX2_fitting 24 = .ok (.istore 8, 2) := by decide +kernel
theorem dX2_fitting_26 : decode cX2_fitting 26 = .ok (.iconst 0, 1) := by decide +kernel
theorem dX2_fitting_27 : decode cX2_fitting 27 = .ok (.istore 9, 2) := by decide +kernel
theorem dX2_fitting_29 : decode cX2_fitting 29 = .ok (.aload_n 0, 1) := by decide +kernel
theorem dX2_fitting_30 : decode cX2_fitting 30 = .ok (.getfield 32, 3) := by decide +kernel
theorem dX2_fitting_33 : decode cX2_fitting 33 = .ok (.iload_n 1, 1) := by decide +kernel
theorem dX2_fitting_34 : decode cX2_fitting 34 = .ok (.bipush 12, 2) := by decide +kernel
theorem dX2_fitting_36 : decode cX2_fitting 36 = .ok (.invokevirtual 42, 3) := by decide +kernel
theorem dX2_fitting_39 : decode cX2_fitting 39 = .ok (.iconst 0, 1) := by decide +kernel
theorem dX2_fitting_40 : decode cX2_fitting 40 = .ok (.istore 10, 2) := by decide +kernel
theorem dX2_fitting_42 : decode cX2_fitting 42 = .ok (.iload 10, 2) := by decide +kernel
theorem dX2_fitting_44 : decode cX2_fitting 44 = .ok (.iload 8, 2) := by decide +kernel
theorem dX2_fitting_46 : decode cX2_fitting 46 = .ok (.if_icmp .ge 142, 3) := by decide +kernel
theorem dX2_fitting_49 : decode cX2_fitting 49 = .ok (.aload_n 0, 1) := by decide +kernel
theorem dX2_fitting_50 : decode cX2_fitting 50 = .ok (.getfield 32, 3) := by decide +kernel
theorem dX2_fitting_53 : decode cX2_fitting 53 = .ok (.aload_n 0, 1) := by decide +kernel
theorem dX2_fitting_54 : decode cX2_fitting 54 = .ok (.getfield 32, 3) := by decide +kernel
theorem dX2_fitting_57 : decode cX2_fitting 57 = .ok (.iload 9, 2) := by decide +kernel
theorem dX2_fitting_59 : decode cX2_fitting 59 = .ok (.invokevirtual 48, 3) := by decide +kernel
theorem dX2_fitting_62 : decode cX2_fitting 62 = .ok (.aload_n 0, 1) := by decide +kernel
theorem dX2_fitting_63 : decode cX2_fitting 63 = .ok (.getfield 28, 3) := by decide +kernel
theorem dX2_fitting_66 : decode cX2_fitting 66 = .ok (.getfield 51, 3) := by decide +kernel
theorem dX2_fitting_69 : decode cX2_fitting 69 = .ok (.aload_n 0, 1) := by decide +kernel
theorem dX2_fitting_70 : decode cX2_fitting 70 = .ok (.getfield 28, 3) := by decide +kernel
theorem dX2_fitting_73 : decode cX2_fitting 73 = .ok (.getfield 56, 3) := by decide +kernel
theorem dX2_fitting_76 : decode cX2_fitting 76 = .ok (.invokevirtual 60, 3) := by decide +kernel
theorem dX2_fitting_79 : decode cX2_fitting 79 = .ok (.ifCond .eq 95, 3) := by decide +kernel
theorem dX2_fitting_82 : decode cX2_fitting 82 = .ok (.aload_n 0, 1) := by decide +kernel
theorem dX2_fitting_83 : decode cX2_fitting 83 = .ok (.getfield 32, 3) := by decide +kernel
theorem dX2_fitting_86 : decode cX2_fitting 86 = .ok (.iload 9, 2) := by decide +kernel
theorem dX2_fitting_88 : decode cX2_fitting 88 = .ok (.invokevirtual 64, 3) := by decide +kernel
theorem dX2_fitting_91 : decode cX2_fitting 91 = .ok (.istore 11, 2) := by decide +kernel
theorem dX2_fitting_93 : decode cX2_fitting 93 = .ok (.iload_n 3, 1) := by decide +kernel
theorem dX2_fitting_94 : decode cX2_fitting 94 = .ok (.ifCond .ne 8, 3) := by decide +kernel
theorem dX2_fitting_97 : decode cX2_fitting 97 = .ok (.iload 9, 2) := by decide +kernel
theorem dX2_fitting_99 : decode cX2_fitting 99 = .ok (.goto 5, 3) := by decide +kernel
theorem dX2_fitting_102 : decode cX2_fitting 102 = .ok (.iload 4, 2) := by decide +kernel
theorem dX2_fitting_104 : decode cX2_fitting 104 = .ok (.istore 4, 2) := by decide +kernel
theorem dX2_fitting_106 : decode cX2_fitting 106 = .ok (.iload_n 3, 1) := by decide +kernel
theorem dX2_fitting_107 : decode cX2_fitting 107 = .ok (.ifCond .ne 8, 3) := by decide +kernel
theorem dX2_fitting_110 : decode cX2_fitting 110 = .ok (.iload 11, 2) := by decide +kernel
theorem dX2_fitting_112 : decode cX2_fitting 112 = .ok (.goto 10, 3) := by decide +kernel
theorem dX2_fitting_115 : decode cX2_fitting 115 = .ok (.iload 5, 2) := by decide +kernel
theorem dX2_fitting_117 : decode cX2_fitting 117 = .ok (.iload 11, 2) := by decide +kernel
theorem dX2_fitting_119 : decode cX2_fitting 119 = .ok (.invokestatic 67, 3) := by decide +kernel
theorem dX2_fitting_122 : decode cX2_fitting 122 = .ok (.istore 5, 2) := by decide +kernel
theorem dX2_fitting_124 : decode cX2_fitting 124 = .ok (.iload 6, 2) := by decide +kernel
theorem dX2_fitting_126 : decode cX2_fitting 126 = .ok (.iload 11, 2) := by decide +kernel
theorem dX2_fitting_128 : decode cX2_fitting 128 = .ok (.invokestatic 73, 3) := by decide +kernel
theorem dX2_fitting_131 : decode cX2_fitting 131 = .ok (.istore 6, 2) := by decide +kernel
theorem dX2_fitting_133 : decode cX2_fitting 133 = .ok (.iload_n 3, 1) := by decide +kernel
theorem dX2_fitting_134 : decode cX2_fitting 134 = .ok (.ifCond .eq 16, 3) := by decide +kernel
theorem dX2_fitting_137 : decode cX2_fitting 137 = .ok (.iload 9, 2) := by decide +kernel
theorem dX2_fitting_139 : decode cX2_fitting 139 = .ok (.invokestatic 36, 3) := by decide +kernel
theorem dX2_fitting_142 : decode cX2_fitting 142 = .ok (.iload 7, 2) := by decide +kernel
theorem dX2_fitting_144 : decode cX2_fitting 144 = .ok (.invokestatic 36, 3) := by decide +kernel
theorem dX2_fitting_147 : decode cX2_fitting 147 = .ok (.if_icmp .ge 7, 3) := by decide +kernel
theorem dX2_fitting_150 : decode cX2_fitting 150 = .ok (.iconst 1, 1) := by decide +kernel
theorem dX2_fitting_151 : decode cX2_fitting 151 = .ok (.goto 4, 3) := by decide +kernel
theorem dX2_fitting_154 : decode cX2_fitting 154 = .ok (.iconst 0, 1) := by decide +kernel
theorem dX2_fitting_155 : decode cX2_fitting 155 = .ok (.istore 12, 2) := by decide +kernel
theorem dX2_fitting_157 : decode cX2_fitting 157 = .ok (.iload 12, 2) := by decide +kernel
theorem dX2_fitting_159 : decode cX2_fitting 159 = .ok (.ifCond .eq 8, 3) := by decide +kernel
theorem dX2_fitting_162 : decode cX2_fitting 162 = .ok (.iload 9, 2) := by decide +kernel
theorem dX2_fitting_164 : decode cX2_fitting 164 = .ok (.goto 5, 3) := by decide +kernel
theorem dX2_fitting_167 : decode cX2_fitting 167 = .ok (.iload 7, 2) := by decide +kernel
theorem dX2_fitting_169 : decode cX2_fitting 169 = .ok (.istore 7, 2) := by decide +kernel
theorem dX2_fitting_171 : decode cX2_fitting 171 = .ok (.iinc 3 1, 3) := by decide +kernel
theorem dX2_fitting_174 : decode cX2_fitting 174 = .ok (.iload 9, 2) := by decide +kernel
theorem dX2_fitting_176 : decode cX2_fitting 176 = .ok (.iload_n 1, 1) := by decide +kernel
theorem dX2_fitting_177 : decode cX2_fitting 177 = .ok (.invokestatic 76, 3) := by decide +kernel
theorem dX2_fitting_180 : decode cX2_fitting 180 = .ok (.istore 9, 2) := by decide +kernel
theorem dX2_fitting_182 : decode cX2_fitting 182 = .ok (.iinc 10 1, 3) := by decide +kernel
theorem dX2_fitting_185 : decode cX2_fitting 185 = .ok (.goto (-143), 3) := by decide +kernel
theorem dX2_fitting_188 : decode cX2_fitting 188 = .ok (.iload_n 2, 1) := by decide +kernel
theorem dX2_fitting_189 : decode cX2_fitting 189 = .ok (.tableswitch 42 0 3 #[31, 33, 36, 39], 31) := by decide +kernel
theorem dX2_fitting_220 : decode cX2_fitting 220 = .ok (.iload_n 3, 1) := by decide +kernel
theorem dX2_fitting_221 : decode cX2_fitting 221 = .ok (.ireturn, 1) := by decide +kernel
theorem dX2_fitting_222 : decode cX2_fitting 222 = .ok (.iload 4, 2) := by decide +kernel
theorem dX2_fitting_224 : decode cX2_fitting 224 = .ok (.ireturn, 1) := by decide +kernel
theorem dX2_fitting_225 : decode cX2_fitting 225 = .ok (.iload 5, 2) := by decide +kernel
theorem dX2_fitting_227 : decode cX2_fitting 227 = .ok (.ireturn, 1) := by decide +kernel
theorem dX2_fitting_228 : decode cX2_fitting 228 = .ok (.iload 6, 2) := by decide +kernel
theorem dX2_fitting_230 : decode cX2_fitting 230 = .ok (.ireturn, 1) := by decide +kernel
theorem dX2_fitting_231 : decode cX2_fitting 231 = .ok (.iload_n 3, 1) := by decide +kernel
theorem dX2_fitting_232 : decode cX2_fitting 232 = .ok (.ifCond .ne 8, 3) := by decide +kernel
theorem dX2_fitting_235 : decode cX2_fitting 235 = .ok (.bipush (-2), 2) := by decide +kernel
theorem dX2_fitting_237 : decode cX2_fitting 237 = .ok (.goto 12, 3) := by decide +kernel
theorem dX2_fitting_240 : decode cX2_fitting 240 = .ok (.aload_n 0, 1) := by decide +kernel
theorem dX2_fitting_241 : decode cX2_fitting 241 = .ok (.getfield 32, 3) := by decide +kernel
theorem dX2_fitting_244 : decode cX2_fitting 244 = .ok (.iload 7, 2) := by decide +kernel
theorem dX2_fitting_246 : decode cX2_fitting 246 = .ok (.invokevirtual 64, 3) := by decide +kernel
theorem dX2_fitting_249 : decode cX2_fitting 249 = .ok (.ireturn, 1) := by decide +kernel
theorem dX2_mistakes_0 : decode cX2_mistakes 0 = .ok (.bipush (-2), 2) := by decide +kernel
theorem dX2_mistakes_2 : decode cX2_mistakes 2 = .ok (.istore 4, 2) := by decide +kernel
theorem dX2_mistakes_4 : decode cX2_mistakes 4 = .ok (.bipush (-2), 2) := by decide +kernel
theorem dX2_mistakes_6 : decode cX2_mistakes 6 = .ok (.istore 5, 2) := by decide +kernel
theorem dX2_mistakes_8 : decode cX2_mistakes 8 = .ok (.iconst 0, 1) := by decide +kernel
theorem dX2_mistakes_9 : decode cX2_mistakes 9 = .ok (.istore 6, 2) := by decide +kernel
theorem dX2_mistakes_11 : decode cX2_mistakes 11 = .ok (.iconst 1, 1) := by decide +kernel
theorem dX2_mistakes_12 : decode cX2_mistakes 12 = .ok (.iload_n 1, 1) := by decide +kernel
theorem dX2_mistakes_13 : decode cX2_mistakes 13 = .ok (.invokestatic 36, 3) := by decide +kernel
theorem dX2_mistakes_16 : decode cX2_mistakes 16 = .ok (.ishl, 1) := by decide +kernel
theorem dX2_mistakes_17 : decode cX2_mistakes 17 = .ok (.istore 7, 2) := by decide +kernel
theorem dX2_mistakes_19 : decode cX2_mistakes 19 = .ok (.iconst 0, 1) := by decide +kernel
theorem dX2_mistakes_20 : decode cX2_mistakes 20 = .ok (.istore 8, 2) := by decide +kernel
theorem dX2_mistakes_22 : decode cX2_mistakes 22 = .ok (.aload_n 0, 1) := by decide +kernel
theorem dX2_mistakes_23 : decode cX2_mistakes 23 = .ok (.getfield 32, 3) := by decide +kernel
theorem dX2_mistakes_26 : decode cX2_mistakes 26 = .ok (.iload_n 1, 1) := by decide +kernel
theorem dX2_mistakes_27 : decode cX2_mistakes 27 = .ok (.iload_n 2, 1) := by decide +kernel
theorem dX2_mistakes_28 : decode cX2_mistakes 28 = .ok (.invokevirtual 42, 3) := by decide +kernel
theorem dX2_mistakes_31 : decode cX2_mistakes 31 = .ok (.aload_n 0, 1) := by decide +kernel
theorem dX2_mistakes_32 : decode cX2_mistakes 32 = .ok (.getfield 32, 3) := by decide +kernel
theorem dX2_mistakes_35 : decode cX2_mistakes 35 = .ok (.invokevirtual 79, 3) := by decide +kernel
theorem dX2_mistakes_38 : decode cX2_mistakes 38 = .ok (.iconst 0, 1) := by decide +kernel
theorem dX2_mistakes_39 : decode cX2_mistakes 39 = .ok (.istore 9, 2) := by decide +kernel
theorem dX2_mistakes_41 : decode cX2_mistakes 41 = .ok (.iload 9, 2) := by decide +kernel
theorem dX2_mistakes_43 : decode cX2_mistakes 43 = .ok (.iload 7, 2) := by decide +kernel
theorem dX2_mistakes_45 : decode cX2_mistakes 45 = .ok (.if_icmp .ge 109, 3) := by decide +kernel
theorem dX2_mistakes_48 : decode cX2_mistakes 48 = .ok (.iload 8, 2) := by decide +kernel
theorem dX2_mistakes_50 : decode cX2_mistakes 50 = .ok (.invokestatic 36, 3) := by decide +kernel
theorem dX2_mistakes_53 : decode cX2_mistakes 53 = .ok (.iload_n 2, 1) := by decide +kernel
theorem dX2_mistakes_54 : decode cX2_mistakes 54 = .ok (.if_icmp .gt 86, 3) := by decide +kernel
theorem dX2_mistakes_57 : decode cX2_mistakes 57 = .ok (.aload_n 0, 1) := by decide +kernel
theorem dX2_mistakes_58 : decode cX2_mistakes 58 = .ok (.getfield 32, 3) := by decide +kernel
theorem dX2_mistakes_61 : decode cX2_mistakes 61 = .ok (.iload 8, 2) := by decide +kernel
theorem dX2_mistakes_63 : decode cX2_mistakes 63 = .ok (.invokevirtual 82, 3) := by decide +kernel
theorem dX2_mistakes_66 : decode cX2_mistakes 66 = .ok (.istore 10, 2) := by decide +kernel
theorem dX2_mistakes_68 : decode cX2_mistakes 68 = .ok (.iload 6, 2) := by decide +kernel
theorem dX2_mistakes_70 : decode cX2_mistakes 70 = .ok (.iload 10, 2) := by decide +kernel
theorem dX2_mistakes_72 : decode cX2_mistakes 72 = .ok (.iload 8, 2) := by decide +kernel
theorem dX2_mistakes_74 : decode cX2_mistakes 74 = .ok (.if_icmp .ne 7, 3) := by decide +kernel
theorem dX2_mistakes_77 : decode cX2_mistakes 77 = .ok (.iconst 1, 1) := by decide +kernel
theorem dX2_mistakes_78 : decode cX2_mistakes 78 = .ok (.goto 4, 3) := by decide +kernel
theorem dX2_mistakes_81 : decode cX2_mistakes 81 = .ok (.iconst 0, 1) := by decide +kernel
theorem dX2_mistakes_82 : decode cX2_mistakes 82 = .ok (.iadd, 1) := by decide +kernel
theorem dX2_mistakes_83 : decode cX2_mistakes 83 = .ok (.istore 6, 2) := by decide +kernel
theorem dX2_mistakes_85 : decode cX2_mistakes 85 = .ok (.iload 4, 2) := by decide +kernel
theorem dX2_mistakes_87 : decode cX2_mistakes 87 = .ok (.bipush (-2), 2) := by decide +kernel
theorem dX2_mistakes_89 : decode cX2_mistakes 89 = .ok (.if_icmp .eq 10, 3) := by decide +kernel
theorem dX2_mistakes_92 : decode cX2_mistakes 92 = .ok (.iload 10, 2) := by decide +kernel
theorem dX2_mistakes_94 : decode cX2_mistakes 94 = .ok (.iload 4, 2) := by decide +kernel
theorem dX2_mistakes_96 : decode cX2_mistakes 96 = .ok (.if_icmp .ge 7, 3) := by decide +kernel
theorem dX2_mistakes_99 : decode cX2_mistakes 99 = .ok (.iconst 1, 1) := by decide +kernel
theorem dX2_mistakes_100 : decode cX2_mistakes 100 = .ok (.goto 4, 3) := by decide +kernel
theorem dX2_mistakes_103 : decode cX2_mistakes 103 = .ok (.iconst 0, 1) := by decide +kernel
theorem dX2_mistakes_104 : decode cX2_mistakes 104 = .ok (.istore 11, 2) := by decide +kernel
theorem dX2_mistakes_106 : decode cX2_mistakes 106 = .ok (.iload 11, 2) := by decide +kernel
theorem dX2_mistakes_108 : decode cX2_mistakes 108 = .ok (.ifCond .eq 32, 3) := by decide +kernel
theorem dX2_mistakes_111 : decode cX2_mistakes 111 = .ok (.aload_n 0, 1) := by decide +kernel
theorem dX2_mistakes_112 : decode cX2_mistakes 112 = .ok (.getfield 32, 3) := by decide +kernel
theorem dX2_mistakes_115 : decode cX2_mistakes 115 = .ok (.iload 10, 2) := by decide +kernel
theorem dX2_mistakes_117 : decode cX2_mistakes 117 = .ok (.invokevirtual 64, 3) := by decide +kernel
theorem dX2_mistakes_120 : decode cX2_mistakes 120 = .ok (.aload_n 0, 1) := by decide +kernel
theorem dX2_mistakes_121 : decode cX2_mistakes 121 = .ok (.getfield 32, 3) := by decide +kernel
theorem dX2_mistakes_124 : decode cX2_mistakes 124 = .ok (.iload 8, 2) := by decide +kernel
theorem dX2_mistakes_126 : decode cX2_mistakes 126 = .ok (.invokevirtual 64, 3) := by decide +kernel
theorem dX2_mistakes_129 : decode cX2_mistakes 129 = .ok (.if_icmp .eq 11, 3) := by decide +kernel
theorem dX2_mistakes_132 : decode cX2_mistakes 132 = .ok (.iload 10, 2) := by decide +kernel
theorem dX2_mistakes_134 : decode cX2_mistakes 134 = .ok (.istore 4, 2) := by decide +kernel
theorem dX2_mistakes_136 : decode cX2_mistakes 136 = .ok (.iload 8, 2) := by decide +kernel
theorem dX2_mistakes_138 : decode cX2_mistakes 138 = .ok (.istore 5, 2) := by decide +kernel
theorem dX2_mistakes_140 : decode cX2_mistakes 140 = .ok (.iload 8, 2) := by decide +kernel
theorem dX2_mistakes_142 : decode cX2_mistakes 142 = .ok (.iload_n 1, 1) := by decide +kernel
theorem dX2_mistakes_143 : decode cX2_mistakes 143 = .ok (.invokestatic 76, 3) := by decide +kernel
theorem dX2_mistakes_146 : decode cX2_mistakes 146 = .ok (.istore 8, 2) := by decide +kernel
theorem dX2_mistakes_148 : decode cX2_mistakes 148 = .ok (.iinc 9 1, 3) := by decide +kernel
theorem dX2_mistakes_151 : decode cX2_mistakes 151 = .ok (.goto (-110), 3) := by decide +kernel
theorem dX2_mistakes_154 : decode cX2_mistakes 154 = .ok (.iload_n 3, 1) := by decide +kernel
theorem dX2_mistakes_155 : decode cX2_mistakes 155 = .ok (.lookupswitch 31 #[(0, 25), (1, 28)], 25) := by decide +kernel
theorem dX2_mistakes_180 : decode cX2_mistakes 180 = .ok (.iload 4, 2) := by decide +kernel
theorem dX2_mistakes_182 : decode cX2_mistakes 182 = .ok (.ireturn, 1) := by decide +kernel
theorem dX2_mistakes_183 : decode cX2_mistakes 183 = .ok (.iload 5, 2) := by decide +kernel
theorem dX2_mistakes_185 : decode cX2_mistakes 185 = .ok (.ireturn, 1) := by decide +kernel
theorem dX2_mistakes_186 : decode cX2_mistakes 186 = .ok (.iload 6, 2) := by decide +kernel
theorem dX2_mistakes_188 : decode cX2_mistakes 188 = .ok (.ireturn, 1) := by decide +kernel
theorem dX2_forgetClashes_0 : decode cX2_forgetClashes 0 = .ok (.iconst 0, 1) := by decide +kernel
theorem dX2_forgetClashes_1 : decode cX2_forgetClashes 1 = .ok (.istore_n 1, 1) := by decide +kernel
theorem dX2_forgetClashes_2 : decode cX2_forgetClashes 2 = .ok (.iload_n 1, 1) := by decide +kernel
theorem dX2_forgetClashes_3 : decode cX2_forgetClashes 3 = .ok (.bipush 10, 2) := by decide +kernel
theorem dX2_forgetClashes_5 : decode cX2_forgetClashes 5 = .ok (.if_icmp .ge 16, 3) := by decide +kernel
theorem dX2_forgetClashes_8 : decode cX2_forgetClashes 8 = .ok (.aload_n 0, 1) := by decide +kernel
theorem dX2_forgetClashes_9 : decode cX2_forgetClashes 9 = .ok (.getfield 9, 3) := by decide +kernel
theorem dX2_forgetClashes_12 : decode cX2_forgetClashes 12 = .ok (.iload_n 1, 1) := by decide +kernel
theorem dX2_forgetClashes_13 : decode cX2_forgetClashes 13 = .ok (.iconst 0, 1) := by decide +kernel
theorem dX2_forgetClashes_14 : decode cX2_forgetClashes 14 = .ok (.iastore, 1) := by decide +kernel
theorem dX2_forgetClashes_15 : decode cX2_forgetClashes 15 = .ok (.iinc 1 1, 3) := by decide +kernel
theorem dX2_forgetClashes_18 : decode cX2_forgetClashes 18 = .ok (.goto (-16), 3) := by decide +kernel
theorem dX2_forgetClashes_21 : decode cX2_forgetClashes 21 = .ok (.return_, 1) := by decide +kernel
theorem dX2_findClashes_0 : decode cX2_findClashes 0 = .ok (.iconst 0, 1) := by decide +kernel
theorem dX2_findClashes_1 : decode cX2_findClashes 1 = .ok (.istore_n 2, 1) := by decide +kernel
theorem dX2_findClashes_2 : decode cX2_findClashes 2 = .ok (.iconst 0, 1) := by decide +kernel
theorem dX2_findClashes_3 : decode cX2_findClashes 3 = .ok (.istore_n 3, 1) := by decide +kernel
theorem dX2_findClashes_4 : decode cX2_findClashes 4 = .ok (.iload_n 3, 1) := by decide +kernel
theorem dX2_findClashes_5 : decode cX2_findClashes 5 = .ok (.aload_n 0, 1) := by decide +kernel
theorem dX2_findClashes_6 : decode cX2_findClashes 6 = .ok (.getfield 28, 3) := by decide +kernel
theorem dX2_findClashes_9 : decode cX2_findClashes 9 = .ok (.getfield 85, 3) := by decide +kernel
theorem dX2_findClashes_12 : decode cX2_findClashes 12 = .ok (.if_icmp .ge 122, 3) := by decide +kernel
theorem dX2_findClashes_15 : decode cX2_findClashes 15 = .ok (.iconst 0, 1) := by decide +kernel
theorem dX2_findClashes_16 : decode cX2_findClashes 16 = .ok (.istore 4, 2) := by decide +kernel
theorem dX2_findClashes_18 : decode cX2_findClashes 18 = .ok (.iload 4, 2) := by decide +kernel
theorem dX2_findClashes_20 : decode cX2_findClashes 20 = .ok (.iload_n 3, 1) := by decide +kernel
theorem dX2_findClashes_21 : decode cX2_findClashes 21 = .ok (.if_icmp .ge 107, 3) := by decide +kernel
theorem dX2_findClashes_24 : decode cX2_findClashes 24 = .ok (.aload_n 0, 1) := by decide +kernel
theorem dX2_findClashes_25 : decode cX2_findClashes 25 = .ok (.getfield 28, 3) := by decide +kernel
theorem dX2_findClashes_28 : decode cX2_findClashes 28 = .ok (.getfield 88, 3) := by decide +kernel
theorem dX2_findClashes_31 : decode cX2_findClashes 31 = .ok (.iload_n 3, 1) := by decide +kernel
theorem dX2_findClashes_32 : decode cX2_findClashes 32 = .ok (.iaload, 1) := by decide +kernel
theorem dX2_findClashes_33 : decode cX2_findClashes 33 = .ok (.iload_n 1, 1) := by decide +kernel
theorem dX2_findClashes_34 : decode cX2_findClashes 34 = .ok (.if_icmp .ne 88, 3) := by decide +kernel
theorem dX2_findClashes_37 : decode cX2_findClashes 37 = .ok (.aload_n 0, 1) := by decide +kernel
theorem dX2_findClashes_38 : decode cX2_findClashes 38 = .ok (.getfield 28, 3) := by decide +kernel
theorem dX2_findClashes_41 : decode cX2_findClashes 41 = .ok (.getfield 88, 3) := by decide +kernel
theorem dX2_findClashes_44 : decode cX2_findClashes 44 = .ok (.iload 4, 2) := by decide +kernel
theorem dX2_findClashes_46 : decode cX2_findClashes 46 = .ok (.iaload, 1) := by decide +kernel
theorem dX2_findClashes_47 : decode cX2_findClashes 47 = .ok (.iload_n 1, 1) := by decide +kernel
theorem dX2_findClashes_48 : decode cX2_findClashes 48 = .ok (.if_icmp .ne 74, 3) := by decide +kernel
theorem dX2_findClashes_51 : decode cX2_findClashes 51 = .ok (.aload_n 0, 1) := by decide +kernel
theorem dX2_findClashes_52 : decode cX2_findClashes 52 = .ok (.getfield 32, 3) := by decide +kernel
theorem dX2_findClashes_55 : decode cX2_findClashes 55 = .ok (.aload_n 0, 1) := by decide +kernel
theorem dX2_findClashes_56 : decode cX2_findClashes 56 = .ok (.getfield 28, 3) := by decide +kernel
theorem dX2_findClashes_59 : decode cX2_findClashes 59 = .ok (.getfield 91, 3) := by decide +kernel
theorem dX2_findClashes_62 : decode cX2_findClashes 62 = .ok (.iload_n 3, 1) := by decide +kernel
theorem dX2_findClashes_63 : decode cX2_findClashes 63 = .ok (.iaload, 1) := by decide +kernel
theorem dX2_findClashes_64 : decode cX2_findClashes 64 = .ok (.aload_n 0, 1) := by decide +kernel
theorem dX2_findClashes_65 : decode cX2_findClashes 65 = .ok (.getfield 28, 3) := by decide +kernel
theorem dX2_findClashes_68 : decode cX2_findClashes 68 = .ok (.getfield 91, 3) := by decide +kernel
theorem dX2_findClashes_71 : decode cX2_findClashes 71 = .ok (.iload 4, 2) := by decide +kernel
theorem dX2_findClashes_73 : decode cX2_findClashes 73 = .ok (.iaload, 1) := by decide +kernel
theorem dX2_findClashes_74 : decode cX2_findClashes 74 = .ok (.ior, 1) := by decide +kernel
theorem dX2_findClashes_75 : decode cX2_findClashes 75 = .ok (.bipush 12, 2) := by decide +kernel
theorem dX2_findClashes_77 : decode cX2_findClashes 77 = .ok (.invokevirtual 42, 3) := by decide +kernel
theorem dX2_findClashes_80 : decode cX2_findClashes 80 = .ok (.aload_n 0, 1) := by decide +kernel
theorem dX2_findClashes_81 : decode cX2_findClashes 81 = .ok (.aload_n 0, 1) := by decide +kernel
theorem dX2_findClashes_82 : decode cX2_findClashes 82 = .ok (.getfield 28, 3) := by decide +kernel
theorem dX2_findClashes_85 : decode cX2_findClashes 85 = .ok (.getfield 91, 3) := by decide +kernel
theorem dX2_findClashes_88 : decode cX2_findClashes 88 = .ok (.iload_n 3, 1) := by decide +kernel
theorem dX2_findClashes_89 : decode cX2_findClashes 89 = .ok (.iaload, 1) := by decide +kernel
theorem dX2_findClashes_90 : decode cX2_findClashes 90 = .ok (.aload_n 0, 1) := by decide +kernel
theorem dX2_findClashes_91 : decode cX2_findClashes 91 = .ok (.getfield 28, 3) := by decide +kernel
theorem dX2_findClashes_94 : decode cX2_findClashes 94 = .ok (.getfield 91, 3) := by decide +kernel
theorem dX2_findClashes_97 : decode cX2_findClashes 97 = .ok (.iload 4, 2) := by decide +kernel
theorem dX2_findClashes_99 : decode cX2_findClashes 99 = .ok (.iaload, 1) := by decide +kernel
theorem dX2_findClashes_100 : decode cX2_findClashes 100 = .ok (.invokevirtual 94, 3) := by decide +kernel
theorem dX2_findClashes_103 : decode cX2_findClashes 103 = .ok (.ifCond .eq 19, 3) := by decide +kernel
theorem dX2_findClashes_106 : decode cX2_findClashes 106 = .ok (.aload_n 0, 1) := by decide +kernel
theorem dX2_findClashes_107 : decode cX2_findClashes 107 = .ok (.getfield 9, 3) := by decide +kernel
theorem dX2_findClashes_110 : decode cX2_findClashes 110 = .ok (.iload_n 3, 1) := by decide +kernel
theorem dX2_findClashes_111 : decode cX2_findClashes 111 = .ok (.dup2, 1) := by decide +kernel
theorem dX2_findClashes_112 : decode cX2_findClashes 112 = .ok (.iaload, 1) := by decide +kernel
theorem dX2_findClashes_113 : decode cX2_findClashes 113 = .ok (.iconst 1, 1) := by decide +kernel
theorem dX2_findClashes_114 : decode cX2_findClashes 114 = .ok (.iload 4, 2) := by decide +kernel
theorem dX2_findClashes_116 : decode cX2_findClashes 116 = .ok (.ishl, 1) := by decide +kernel
theorem dX2_findClashes_117 : decode cX2_findClashes 117 = .ok (.ior, 1) := by decide +kernel
theorem dX2_findClashes_118 : decode cX2_findClashes 118 = .ok (.iastore, 1) := by decide +kernel
theorem dX2_findClashes_119 : decode cX2_findClashes 119 = .ok (.iinc 2 1, 3) := by decide +kernel
theorem dX2_findClashes_122 : decode cX2_findClashes 122 = .ok (.iinc 4 1, 3) := by decide +kernel
theorem dX2_findClashes_125 : decode cX2_findClashes 125 = .ok (.goto (-107), 3) := by decide +kernel
theorem dX2_findClashes_128 : decode cX2_findClashes 128 = .ok (.iinc 3 1, 3) := by decide +kernel
theorem dX2_findClashes_131 : decode cX2_findClashes 131 = .ok (.goto (-127), 3) := by decide +kernel
theorem dX2_findClashes_134 : decode cX2_findClashes 134 = .ok (.iload_n 2, 1) := by decide +kernel
theorem dX2_findClashes_135 : decode cX2_findClashes 135 = .ok (.ireturn, 1) := by decide +kernel
theorem dX2_isClash_0 : decode cX2_isClash 0 = .ok (.iload_n 1, 1) := by decide +kernel
theorem dX2_isClash_1 : decode cX2_isClash 1 = .ok (.iload_n 2, 1) := by decide +kernel
theorem dX2_isClash_2 : decode cX2_isClash 2 = .ok (.ior, 1) := by decide +kernel
theorem dX2_isClash_3 : decode cX2_isClash 3 = .ok (.istore_n 3, 1) := by decide +kernel
theorem dX2_isClash_4 : decode cX2_isClash 4 = .ok (.iconst 1, 1) := by decide +kernel
theorem dX2_isClash_5 : decode cX2_isClash 5 = .ok (.iload_n 3, 1) := by decide +kernel
theorem dX2_isClash_6 : decode cX2_isClash 6 = .ok (.invokestatic 36, 3) := by decide +kernel
theorem dX2_isClash_9 : decode cX2_isClash 9 = .ok (.ishl, 1) := by decide +kernel
theorem dX2_isClash_10 : decode cX2_isClash 10 = .ok (.istore 4, 2) := by decide +kernel
theorem dX2_isClash_12 : decode cX2_isClash 12 = .ok (.iconst 0, 1) := by decide +kernel
theorem dX2_isClash_13 : decode cX2_isClash 13 = .ok (.istore 5, 2) := by decide +kernel
theorem dX2_isClash_15 : decode cX2_isClash 15 = .ok (.iload_n 1, 1) := by decide +kernel
theorem dX2_isClash_16 : decode cX2_isClash 16 = .ok (.iload_n 2, 1) := by decide +kernel
theorem dX2_isClash_17 : decode cX2_isClash 17 = .ok (.iand, 1) := by decide +kernel
theorem dX2_isClash_18 : decode cX2_isClash 18 = .ok (.ifCond .eq 7, 3) := by decide +kernel
theorem dX2_isClash_21 : decode cX2_isClash 21 = .ok (.iconst 1, 1) := by decide +kernel
theorem dX2_isClash_22 : decode cX2_isClash 22 = .ok (.goto 4, 3) := by decide +kernel
theorem dX2_isClash_25 : decode cX2_isClash 25 = .ok (.iconst 0, 1) := by decide +kernel
theorem dX2_isClash_26 : decode cX2_isClash 26 = .ok (.istore 6, 2) := by decide +kernel
theorem dX2_isClash_28 : decode cX2_isClash 28 = .ok (.iconst 0, 1) := by decide +kernel
theorem dX2_isClash_29 : decode cX2_isClash 29 = .ok (.istore 7, 2) := by decide +kernel
theorem dX2_isClash_31 : decode cX2_isClash 31 = .ok (.iload 7, 2) := by decide +kernel
theorem dX2_isClash_33 : decode cX2_isClash 33 = .ok (.iload 4, 2) := by decide +kernel
theorem dX2_isClash_35 : decode cX2_isClash 35 = .ok (.if_icmp .ge 81, 3) := by decide +kernel
theorem dX2_isClash_38 : decode cX2_isClash 38 = .ok (.iload 6, 2) := by decide +kernel
theorem dX2_isClash_40 : decode cX2_isClash 40 = .ok (.ifCond .ne 76, 3) := by decide +kernel
theorem dX2_isClash_43 : decode cX2_isClash 43 = .ok (.aload_n 0, 1) := by decide +kernel
theorem dX2_isClash_44 : decode cX2_isClash 44 = .ok (.getfield 32, 3) := by decide +kernel
theorem dX2_isClash_47 : decode cX2_isClash 47 = .ok (.iload 5, 2) := by decide +kernel
theorem dX2_isClash_49 : decode cX2_isClash 49 = .ok (.invokevirtual 48, 3) := by decide +kernel
theorem dX2_isClash_52 : decode cX2_isClash 52 = .ok (.aload_n 0, 1) := by decide +kernel
theorem dX2_isClash_53 : decode cX2_isClash 53 = .ok (.getfield 32, 3) := by decide +kernel
theorem dX2_isClash_56 : decode cX2_isClash 56 = .ok (.iload_n 3, 1) := by decide +kernel
theorem dX2_isClash_57 : decode cX2_isClash 57 = .ok (.invokevirtual 48, 3) := by decide +kernel
theorem dX2_isClash_60 : decode cX2_isClash 60 = .ok (.if_icmp .ne 7, 3) := by decide +kernel
theorem dX2_isClash_63 : decode cX2_isClash 63 = .ok (.iconst 1, 1) := by decide +kernel
theorem dX2_isClash_64 : decode cX2_isClash 64 = .ok (.goto 4, 3) := by decide +kernel
theorem dX2_isClash_67 : decode cX2_isClash 67 = .ok (.iconst 0, 1) := by decide +kernel
theorem dX2_isClash_68 : decode cX2_isClash 68 = .ok (.istore 8, 2) := by decide +kernel
theorem dX2_isClash_70 : decode cX2_isClash 70 = .ok (.iload 8, 2) := by decide +kernel
theorem dX2_isClash_72 : decode cX2_isClash 72 = .ok (.ifCond .eq 27, 3) := by decide +kernel
theorem dX2_isClash_75 : decode cX2_isClash 75 = .ok (.aload_n 0, 1) := by decide +kernel
theorem dX2_isClash_76 : decode cX2_isClash 76 = .ok (.getfield 32, 3) := by decide +kernel
theorem dX2_isClash_79 : decode cX2_isClash 79 = .ok (.iload 5, 2) := by decide +kernel
theorem dX2_isClash_81 : decode cX2_isClash 81 = .ok (.invokevirtual 64, 3) := by decide +kernel
theorem dX2_isClash_84 : decode cX2_isClash 84 = .ok (.aload_n 0, 1) := by decide +kernel
theorem dX2_isClash_85 : decode cX2_isClash 85 = .ok (.getfield 32, 3) := by decide +kernel
theorem dX2_isClash_88 : decode cX2_isClash 88 = .ok (.iload_n 3, 1) := by decide +kernel
theorem dX2_isClash_89 : decode cX2_isClash 89 = .ok (.invokevirtual 64, 3) := by decide +kernel
theorem dX2_isClash_92 : decode cX2_isClash 92 = .ok (.if_icmp .eq 7, 3) := by decide +kernel
theorem dX2_isClash_95 : decode cX2_isClash 95 = .ok (.iconst 1, 1) := by decide +kernel
theorem dX2_isClash_96 : decode cX2_isClash 96 = .ok (.goto 4, 3) := by decide +kernel
theorem dX2_isClash_99 : decode cX2_isClash 99 = .ok (.iconst 0, 1) := by decide +kernel
theorem dX2_isClash_100 : decode cX2_isClash 100 = .ok (.istore 6, 2) := by decide +kernel
theorem dX2_isClash_102 : decode cX2_isClash 102 = .ok (.iload 5, 2) := by decide +kernel
theorem dX2_isClash_104 : decode cX2_isClash 104 = .ok (.iload_n 3, 1) := by decide +kernel
theorem dX2_isClash_105 : decode cX2_isClash 105 = .ok (.invokestatic 76, 3) := by decide +kernel
theorem dX2_isClash_108 : decode cX2_isClash 108 = .ok (.istore 5, 2) := by decide +kernel
theorem dX2_isClash_110 : decode cX2_isClash 110 = .ok (.iinc 7 1, 3) := by decide +kernel
theorem dX2_isClash_113 : decode cX2_isClash 113 = .ok (.goto (-82), 3) := by decide +kernel
theorem dX2_isClash_116 : decode cX2_isClash 116 = .ok (.iload 6, 2) := by decide +kernel
theorem dX2_isClash_118 : decode cX2_isClash 118 = .ok (.ireturn, 1) := by decide +kernel
theorem dX2_fewestRounds_0 : decode cX2_fewestRounds 0 = .ok (.aload_n 0, 1) := by decide +kernel
theorem dX2_fewestRounds_1 : decode cX2_fewestRounds 1 = .ok (.getfield 15, 3) := by decide +kernel
theorem dX2_fewestRounds_4 : decode cX2_fewestRounds 4 = .ok (.iconst 0, 1) := by decide +kernel
theorem dX2_fewestRounds_5 : decode cX2_fewestRounds 5 = .ok (.iconst 1, 1) := by decide +kernel
theorem dX2_fewestRounds_6 : decode cX2_fewestRounds 6 = .ok (.bastore, 1) := by decide +kernel
theorem dX2_fewestRounds_7 : decode cX2_fewestRounds 7 = .ok (.aload_n 0, 1) := by decide +kernel
theorem dX2_fewestRounds_8 : decode cX2_fewestRounds 8 = .ok (.getfield 19, 3) := by decide +kernel
theorem dX2_fewestRounds_11 : decode cX2_fewestRounds 11 = .ok (.iconst 0, 1) := by decide +kernel
theorem dX2_fewestRounds_12 : decode cX2_fewestRounds 12 = .ok (.iconst 0, 1) := by decide +kernel
theorem dX2_fewestRounds_13 : decode cX2_fewestRounds 13 = .ok (.iastore, 1) := by decide +kernel
theorem dX2_fewestRounds_14 : decode cX2_fewestRounds 14 = .ok (.iconst 1, 1) := by decide +kernel
theorem dX2_fewestRounds_15 : decode cX2_fewestRounds 15 = .ok (.istore_n 1, 1) := by decide +kernel
theorem dX2_fewestRounds_16 : decode cX2_fewestRounds 16 = .ok (.iload_n 1, 1) := by decide +kernel
theorem dX2_fewestRounds_17 : decode cX2_fewestRounds 17 = .ok (.iconst 1, 1) := by decide +kernel
theorem dX2_fewestRounds_18 : decode cX2_fewestRounds 18 = .ok (.aload_n 0, 1) := by decide +kernel
theorem dX2_fewestRounds_19 : decode cX2_fewestRounds 19 = .ok (.getfield 28, 3) := by decide +kernel
theorem dX2_fewestRounds_22 : decode cX2_fewestRounds 22 = .ok (.getfield 85, 3) := by decide +kernel
theorem dX2_fewestRounds_25 : decode cX2_fewestRounds 25 = .ok (.ishl, 1) := by decide +kernel
theorem dX2_fewestRounds_26 : decode cX2_fewestRounds 26 = .ok (.if_icmp .ge 79, 3) := by decide +kernel
theorem dX2_fewestRounds_29 : decode cX2_fewestRounds 29 = .ok (.bipush 31, 2) := by decide +kernel
theorem dX2_fewestRounds_31 : decode cX2_fewestRounds 31 = .ok (.iload_n 1, 1) := by decide +kernel
theorem dX2_fewestRounds_32 : decode cX2_fewestRounds 32 = .ok (.invokestatic 98, 3) := by decide +kernel
theorem dX2_fewestRounds_35 : decode cX2_fewestRounds 35 = .ok (.isub, 1) := by decide +kernel
theorem dX2_fewestRounds_36 : decode cX2_fewestRounds 36 = .ok (.istore_n 2, 1) := by decide +kernel
theorem dX2_fewestRounds_37 : decode cX2_fewestRounds 37 = .ok (.iload_n 1, 1) := by decide +kernel
theorem dX2_fewestRounds_38 : decode cX2_fewestRounds 38 = .ok (.iconst 1, 1) := by decide +kernel
theorem dX2_fewestRounds_39 : decode cX2_fewestRounds 39 = .ok (.iload_n 2, 1) := by decide +kernel
theorem dX2_fewestRounds_40 : decode cX2_fewestRounds 40 = .ok (.ishl, 1) := by decide +kernel
theorem dX2_fewestRounds_41 : decode cX2_fewestRounds 41 = .ok (.ixor, 1) := by decide +kernel
theorem dX2_fewestRounds_42 : decode cX2_fewestRounds 42 = .ok (.istore_n 3, 1) := by decide +kernel
theorem dX2_fewestRounds_43 : decode cX2_fewestRounds 43 = .ok (.aload_n 0, 1) := by decide +kernel
theorem dX2_fewestRounds_44 : decode cX2_fewestRounds 44 = .ok (.getfield 15, 3) := by decide +kernel
theorem dX2_fewestRounds_47 : decode cX2_fewestRounds 47 = .ok (.iload_n 1, 1) := by decide +kernel
theorem dX2_fewestRounds_48 : decode cX2_fewestRounds 48 = .ok (.aload_n 0, 1) := by decide +kernel
theorem dX2_fewestRounds_49 : decode cX2_fewestRounds 49 = .ok (.getfield 15, 3) := by decide +kernel
theorem dX2_fewestRounds_52 : decode cX2_fewestRounds 52 = .ok (.iload_n 3, 1) := by decide +kernel
theorem dX2_fewestRounds_53 : decode cX2_fewestRounds 53 = .ok (.baload, 1) := by decide +kernel
theorem dX2_fewestRounds_54 : decode cX2_fewestRounds 54 = .ok (.ifCond .eq 18, 3) := by decide +kernel
theorem dX2_fewestRounds_57 : decode cX2_fewestRounds 57 = .ok (.aload_n 0, 1) := by decide +kernel
theorem dX2_fewestRounds_58 : decode cX2_fewestRounds 58 = .ok (.getfield 9, 3) := by decide +kernel
theorem dX2_fewestRounds_61 : decode cX2_fewestRounds 61 = .ok (.iload_n 2, 1) := by decide +kernel
theorem dX2_fewestRounds_62 : decode cX2_fewestRounds 62 = .ok (.iaload, 1) := by decide +kernel
theorem dX2_fewestRounds_63 : decode cX2_fewestRounds 63 = .ok (.iload_n 3, 1) := by decide +kernel
theorem dX2_fewestRounds_64 : decode cX2_fewestRounds 64 = .ok (.iand, 1) := by decide +kernel
theorem dX2_fewestRounds_65 : decode cX2_fewestRounds 65 = .ok (.ifCond .ne 7, 3) := by decide +kernel
theorem dX2_fewestRounds_68 : decode cX2_fewestRounds 68 = .ok (.iconst 1, 1) := by decide +kernel
theorem dX2_fewestRounds_69 : decode cX2_fewestRounds 69 = .ok (.goto 4, 3) := by decide +kernel
theorem dX2_fewestRounds_72 : decode cX2_fewestRounds 72 = .ok (.iconst 0, 1) := by decide +kernel
theorem dX2_fewestRounds_73 : decode cX2_fewestRounds 73 = .ok (.bastore, 1) := by decide +kernel
theorem dX2_fewestRounds_74 : decode cX2_fewestRounds 74 = .ok (.aload_n 0, 1) := by decide +kernel
theorem dX2_fewestRounds_75 : decode cX2_fewestRounds 75 = .ok (.getfield 19, 3) := by decide +kernel
theorem dX2_fewestRounds_78 : decode cX2_fewestRounds 78 = .ok (.iload_n 1, 1) := by decide +kernel
theorem dX2_fewestRounds_79 : decode cX2_fewestRounds 79 = .ok (.aload_n 0, 1) := by decide +kernel
theorem dX2_fewestRounds_80 : decode cX2_fewestRounds 80 = .ok (.getfield 15, 3) := by decide +kernel
theorem dX2_fewestRounds_83 : decode cX2_fewestRounds 83 = .ok (.iload_n 1, 1) := by decide +kernel
theorem dX2_fewestRounds_84 : decode cX2_fewestRounds 84 = .ok (.baload, 1) := by decide +kernel
theorem dX2_fewestRounds_85 : decode cX2_fewestRounds 85 = .ok (.ifCond .eq 7, 3) := by decide +kernel
theorem dX2_fewestRounds_88 : decode cX2_fewestRounds 88 = .ok (.iconst 1, 1) := by decide +kernel
theorem dX2_fewestRounds_89 : decode cX2_fewestRounds 89 = .ok (.goto 9, 3) := by decide +kernel
theorem dX2_fewestRounds_92 : decode cX2_fewestRounds 92 = .ok (.aload_n 0, 1) := by decide +kernel
theorem dX2_fewestRounds_93 : decode cX2_fewestRounds 93 = .ok (.iload_n 1, 1) := by decide +kernel
theorem dX2_fewestRounds_94 : decode cX2_fewestRounds 94 = .ok (.iload_n 3, 1) := by decide +kernel
theorem dX2_fewestRounds_95 : decode cX2_fewestRounds 95 = .ok (.invokevirtual 101, 3) := by decide +kernel
theorem dX2_fewestRounds_98 : decode cX2_fewestRounds 98 = .ok (.iastore, 1) := by decide +kernel
theorem dX2_fewestRounds_99 : decode cX2_fewestRounds 99 = .ok (.iinc 1 1, 3) := by decide +kernel
theorem dX2_fewestRounds_102 : decode cX2_fewestRounds 102 = .ok (.goto (-86), 3) := by decide +kernel
theorem dX2_fewestRounds_105 : decode cX2_fewestRounds 105 = .ok (.aload_n 0, 1) := by decide +kernel
theorem dX2_fewestRounds_106 : decode cX2_fewestRounds 106 = .ok (.getfield 19, 3) := by decide +kernel
theorem dX2_fewestRounds_109 : decode cX2_fewestRounds 109 = .ok (.iconst 1, 1) := by decide +kernel
theorem dX2_fewestRounds_110 : decode cX2_fewestRounds 110 = .ok (.aload_n 0, 1) := by decide +kernel
theorem dX2_fewestRounds_111 : decode cX2_fewestRounds 111 = .ok (.getfield 28, 3) := by decide +kernel
theorem dX2_fewestRounds_114 : decode cX2_fewestRounds 114 = .ok (.getfield 85, 3) := by decide +kernel
theorem dX2_fewestRounds_117 : decode cX2_fewestRounds 117 = .ok (.ishl, 1) := by decide +kernel
theorem dX2_fewestRounds_118 : decode cX2_fewestRounds 118 = .ok (.iconst 1, 1) := by decide +kernel
theorem dX2_fewestRounds_119 : decode cX2_fewestRounds 119 = .ok (.isub, 1) := by decide +kernel
theorem dX2_fewestRounds_120 : decode cX2_fewestRounds 120 = .ok (.iaload, 1) := by decide +kernel
theorem dX2_fewestRounds_121 : decode cX2_fewestRounds 121 = .ok (.ireturn, 1) := by decide +kernel
theorem dX2_fewestSplit_0 : decode cX2_fewestSplit 0 = .ok (.bipush 10, 2) := by decide +kernel
theorem dX2_fewestSplit_2 : decode cX2_fewestSplit 2 = .ok (.istore_n 3, 1) := by decide +kernel
theorem dX2_fewestSplit_3 : decode cX2_fewestSplit 3 = .ok (.iconst 1, 1) := by decide +kernel
theorem dX2_fewestSplit_4 : decode cX2_fewestSplit 4 = .ok (.iload_n 2, 1) := by decide +kernel
theorem dX2_fewestSplit_5 : decode cX2_fewestSplit 5 = .ok (.invokestatic 36, 3) := by decide +kernel
theorem dX2_fewestSplit_8 : decode cX2_fewestSplit 8 = .ok (.ishl, 1) := by decide +kernel
theorem dX2_fewestSplit_9 : decode cX2_fewestSplit 9 = .ok (.istore 4, 2) := by decide +kernel
theorem dX2_fewestSplit_11 : decode cX2_fewestSplit 11 = .ok (.iconst 0, 1) := by decide +kernel
theorem dX2_fewestSplit_12 : decode cX2_fewestSplit 12 = .ok (.istore 5, 2) := by decide +kernel
theorem dX2_fewestSplit_14 : decode cX2_fewestSplit 14 = .ok (.iconst 0, 1) := by decide +kernel
theorem dX2_fewestSplit_15 : decode cX2_fewestSplit 15 = .ok (.istore 6, 2) := by decide +kernel
theorem dX2_fewestSplit_17 : decode cX2_fewestSplit 17 = .ok (.iload 6, 2) := by decide +kernel
theorem dX2_fewestSplit_19 : decode cX2_fewestSplit 19 = .ok (.iload 4, 2) := by decide +kernel
theorem dX2_fewestSplit_21 : decode cX2_fewestSplit 21 = .ok (.if_icmp .ge 43, 3) := by decide +kernel
theorem dX2_fewestSplit_24 : decode cX2_fewestSplit 24 = .ok (.aload_n 0, 1) := by decide +kernel
theorem dX2_fewestSplit_25 : decode cX2_fewestSplit 25 = .ok (.getfield 15, 3) := by decide +kernel
theorem dX2_fewestSplit_28 : decode cX2_fewestSplit 28 = .ok (.iload_n 1, 1) := by decide +kernel
theorem dX2_fewestSplit_29 : decode cX2_fewestSplit 29 = .ok (.iload 5, 2) := by decide +kernel
theorem dX2_fewestSplit_31 : decode cX2_fewestSplit 31 = .ok (.ixor, 1) := by decide +kernel
theorem dX2_fewestSplit_32 : decode cX2_fewestSplit 32 = .ok (.baload, 1) := by decide +kernel
theorem dX2_fewestSplit_33 : decode cX2_fewestSplit 33 = .ok (.ifCond .eq 17, 3) := by decide +kernel
theorem dX2_fewestSplit_36 : decode cX2_fewestSplit 36 = .ok (.iload_n 3, 1) := by decide +kernel
theorem dX2_fewestSplit_37 : decode cX2_fewestSplit 37 = .ok (.iconst 1, 1) := by decide +kernel
theorem dX2_fewestSplit_38 : decode cX2_fewestSplit 38 = .ok (.aload_n 0, 1) := by decide +kernel
theorem dX2_fewestSplit_39 : decode cX2_fewestSplit 39 = .ok (.getfield 19, 3) := by decide +kernel
theorem dX2_fewestSplit_42 : decode cX2_fewestSplit 42 = .ok (.iload 5, 2) := by decide +kernel
theorem dX2_fewestSplit_44 : decode cX2_fewestSplit 44 = .ok (.iaload, 1) := by decide +kernel
theorem dX2_fewestSplit_45 : decode cX2_fewestSplit 45 = .ok (.iadd, 1) := by decide +kernel
theorem dX2_fewestSplit_46 : decode cX2_fewestSplit 46 = .ok (.invokestatic 67, 3) := by decide +kernel
theorem dX2_fewestSplit_49 : decode cX2_fewestSplit 49 = .ok (.istore_n 3, 1) := by decide +kernel
theorem dX2_fewestSplit_50 : decode cX2_fewestSplit 50 = .ok (.iload 5, 2) := by decide +kernel
theorem dX2_fewestSplit_52 : decode cX2_fewestSplit 52 = .ok (.iload_n 2, 1) := by decide +kernel
theorem dX2_fewestSplit_53 : decode cX2_fewestSplit 53 = .ok (.invokestatic 76, 3) := by decide +kernel
theorem dX2_fewestSplit_56 : decode cX2_fewestSplit 56 = .ok (.istore 5, 2) := by decide +kernel
theorem dX2_fewestSplit_58 : decode cX2_fewestSplit 58 = .ok (.iinc 6 1, 3) := by decide +kernel
theorem dX2_fewestSplit_61 : decode cX2_fewestSplit 61 = .ok (.goto (-44), 3) := by decide +kernel
theorem dX2_fewestSplit_64 : decode cX2_fewestSplit 64 = .ok (.iload_n 3, 1) := by decide +kernel
theorem dX2_fewestSplit_65 : decode cX2_fewestSplit 65 = .ok (.ireturn, 1) := by decide +kernel
theorem dX2_smallestLand_0 : decode cX2_smallestLand 0 = .ok (.bipush (-2), 2) := by decide +kernel
theorem dX2_smallestLand_2 : decode cX2_smallestLand 2 = .ok (.istore_n 3, 1) := by decide +kernel
theorem dX2_smallestLand_3 : decode cX2_smallestLand 3 = .ok (.bipush 13, 2) := by decide +kernel
theorem dX2_smallestLand_5 : decode cX2_smallestLand 5 = .ok (.istore 4, 2) := by decide +kernel
theorem dX2_smallestLand_7 : decode cX2_smallestLand 7 = .ok (.aload_n 0, 1) := by decide +kernel
theorem dX2_smallestLand_8 : decode cX2_smallestLand 8 = .ok (.getfield 32, 3) := by decide +kernel
theorem dX2_smallestLand_11 : decode cX2_smallestLand 11 = .ok (.iconst 1, 1) := by decide +kernel
theorem dX2_smallestLand_12 : decode cX2_smallestLand 12 = .ok (.aload_n 0, 1) := by decide +kernel
theorem dX2_smallestLand_13 : decode cX2_smallestLand 13 = .ok (.getfield 28, 3) := by decide +kernel
theorem dX2_smallestLand_16 : decode cX2_smallestLand 16 = .ok (.getfield 104, 3) := by decide +kernel
theorem dX2_smallestLand_19 : decode cX2_smallestLand 19 = .ok (.getfield 108, 3) := by decide +kernel
theorem dX2_smallestLand_22 : decode cX2_smallestLand 22 = .ok (.ishl, 1) := by decide +kernel
theorem dX2_smallestLand_23 : decode cX2_smallestLand 23 = .ok (.iconst 1, 1) := by decide +kernel
theorem dX2_smallestLand_24 : decode cX2_smallestLand 24 = .ok (.isub, 1) := by decide +kernel
theorem dX2_smallestLand_25 : decode cX2_smallestLand 25 = .ok (.iload_n 2, 1) := by decide +kernel
theorem dX2_smallestLand_26 : decode cX2_smallestLand 26 = .ok (.invokevirtual 42, 3) := by decide +kernel
theorem dX2_smallestLand_29 : decode cX2_smallestLand 29 = .ok (.iconst 0, 1) := by decide +kernel
theorem dX2_smallestLand_30 : decode cX2_smallestLand 30 = .ok (.istore 5, 2) := by decide +kernel
theorem dX2_smallestLand_32 : decode cX2_smallestLand 32 = .ok (.iload 5, 2) := by decide +kernel
theorem dX2_smallestLand_34 : decode cX2_smallestLand 34 = .ok (.iconst 1, 1) := by decide +kernel
theorem dX2_smallestLand_35 : decode cX2_smallestLand 35 = .ok (.aload_n 0, 1) := by decide +kernel
theorem dX2_smallestLand_36 : decode cX2_smallestLand 36 = .ok (.getfield 28, 3) := by decide +kernel
theorem dX2_smallestLand_39 : decode cX2_smallestLand 39 = .ok (.getfield 104, 3) := by decide +kernel
theorem dX2_smallestLand_42 : decode cX2_smallestLand 42 = .ok (.getfield 108, 3) := by decide +kernel
theorem dX2_smallestLand_45 : decode cX2_smallestLand 45 = .ok (.ishl, 1) := by decide +kernel
theorem dX2_smallestLand_46 : decode cX2_smallestLand 46 = .ok (.if_icmp .ge 63, 3) := by decide +kernel
theorem dX2_smallestLand_49 : decode cX2_smallestLand 49 = .ok (.aload_n 0, 1) := by decide +kernel
theorem dX2_smallestLand_50 : decode cX2_smallestLand 50 = .ok (.getfield 22, 3) := by decide +kernel
theorem dX2_smallestLand_53 : decode cX2_smallestLand 53 = .ok (.iload 5, 2) := by decide +kernel
theorem dX2_smallestLand_55 : decode cX2_smallestLand 55 = .ok (.aload_n 0, 1) := by decide +kernel
theorem dX2_smallestLand_56 : decode cX2_smallestLand 56 = .ok (.iload 5, 2) := by decide +kernel
theorem dX2_smallestLand_58 : decode cX2_smallestLand 58 = .ok (.invokevirtual 113, 3) := by decide +kernel
theorem dX2_smallestLand_61 : decode cX2_smallestLand 61 = .ok (.bastore, 1) := by decide +kernel
theorem dX2_smallestLand_62 : decode cX2_smallestLand 62 = .ok (.aload_n 0, 1) := by decide +kernel
theorem dX2_smallestLand_63 : decode cX2_smallestLand 63 = .ok (.getfield 22, 3) := by decide +kernel
theorem dX2_smallestLand_66 : decode cX2_smallestLand 66 = .ok (.iload 5, 2) := by decide +kernel
theorem dX2_smallestLand_68 : decode cX2_smallestLand 68 = .ok (.baload, 1) := by decide +kernel
theorem dX2_smallestLand_69 : decode cX2_smallestLand 69 = .ok (.ifCond .ne 34, 3) := by decide +kernel
theorem dX2_smallestLand_72 : decode cX2_smallestLand 72 = .ok (.iload 5, 2) := by decide +kernel
theorem dX2_smallestLand_74 : decode cX2_smallestLand 74 = .ok (.invokestatic 36, 3) := by decide +kernel
theorem dX2_smallestLand_77 : decode cX2_smallestLand 77 = .ok (.iload 4, 2) := by decide +kernel
theorem dX2_smallestLand_79 : decode cX2_smallestLand 79 = .ok (.if_icmp .ge 24, 3) := by decide +kernel
theorem dX2_smallestLand_82 : decode cX2_smallestLand 82 = .ok (.aload_n 0, 1) := by decide +kernel
theorem dX2_smallestLand_83 : decode cX2_smallestLand 83 = .ok (.iload 5, 2) := by decide +kernel
theorem dX2_smallestLand_85 : decode cX2_smallestLand 85 = .ok (.iload_n 1, 1) := by decide +kernel
theorem dX2_smallestLand_86 : decode cX2_smallestLand 86 = .ok (.iload_n 2, 1) := by decide +kernel
theorem dX2_smallestLand_87 : decode cX2_smallestLand 87 = .ok (.invokevirtual 117, 3) := by decide +kernel
theorem dX2_smallestLand_90 : decode cX2_smallestLand 90 = .ok (.ifCond .eq 13, 3) := by decide +kernel
theorem dX2_smallestLand_93 : decode cX2_smallestLand 93 = .ok (.iload 5, 2) := by decide +kernel
theorem dX2_smallestLand_95 : decode cX2_smallestLand 95 = .ok (.istore_n 3, 1) := by decide +kernel
theorem dX2_smallestLand_96 : decode cX2_smallestLand 96 = .ok (.iload 5, 2) := by decide +kernel
theorem dX2_smallestLand_98 : decode cX2_smallestLand 98 = .ok (.invokestatic 36, 3) := by decide +kernel
theorem dX2_smallestLand_101 : decode cX2_smallestLand 101 = .ok (.istore 4, 2) := by decide +kernel
theorem dX2_smallestLand_103 : decode cX2_smallestLand 103 = .ok (.iinc 5 1, 3) := by decide +kernel
theorem dX2_smallestLand_106 : decode cX2_smallestLand 106 = .ok (.goto (-74), 3) := by decide +kernel
theorem dX2_smallestLand_109 : decode cX2_smallestLand 109 = .ok (.iload_n 3, 1) := by decide +kernel
theorem dX2_smallestLand_110 : decode cX2_smallestLand 110 = .ok (.ireturn, 1) := by decide +kernel
theorem dX2_hasUnsoundPart_0 : decode cX2_hasUnsoundPart 0 = .ok (.iconst 0, 1) := by decide +kernel
theorem dX2_hasUnsoundPart_1 : decode cX2_hasUnsoundPart 1 = .ok (.istore_n 2, 1) := by decide +kernel
theorem dX2_hasUnsoundPart_2 : decode cX2_hasUnsoundPart 2 = .ok (.iload_n 2, 1) := by decide +kernel
theorem dX2_hasUnsoundPart_3 : decode cX2_hasUnsoundPart 3 = .ok (.aload_n 0, 1) := by decide +kernel
theorem dX2_hasUnsoundPart_4 : decode cX2_hasUnsoundPart 4 = .ok (.getfield 28, 3) := by decide +kernel
theorem dX2_hasUnsoundPart_7 : decode cX2_hasUnsoundPart 7 = .ok (.getfield 104, 3) := by decide +kernel
theorem dX2_hasUnsoundPart_10 : decode cX2_hasUnsoundPart 10 = .ok (.getfield 108, 3) := by decide +kernel
theorem dX2_hasUnsoundPart_13 : decode cX2_hasUnsoundPart 13 = .ok (.if_icmp .ge 33, 3) := by decide +kernel
theorem dX2_hasUnsoundPart_16 : decode cX2_hasUnsoundPart 16 = .ok (.iload_n 1, 1) := by decide +kernel
theorem dX2_hasUnsoundPart_17 : decode cX2_hasUnsoundPart 17 = .ok (.iload_n 2, 1) := by decide +kernel
theorem dX2_hasUnsoundPart_18 : decode cX2_hasUnsoundPart 18 = .ok (.ishr, 1) := by decide +kernel
theorem dX2_hasUnsoundPart_19 : decode cX2_hasUnsoundPart 19 = .ok (.iconst 1, 1) := by decide +kernel
theorem dX2_hasUnsoundPart_20 : decode cX2_hasUnsoundPart 20 = .ok (.iand, 1) := by decide +kernel
theorem dX2_hasUnsoundPart_21 : decode cX2_hasUnsoundPart 21 = .ok (.iconst 1, 1) := by decide +kernel
theorem dX2_hasUnsoundPart_22 : decode cX2_hasUnsoundPart 22 = .ok (.if_icmp .ne 18, 3) := by decide +kernel
theorem dX2_hasUnsoundPart_25 : decode cX2_hasUnsoundPart 25 = .ok (.aload_n 0, 1) := by decide +kernel
theorem dX2_hasUnsoundPart_26 : decode cX2_hasUnsoundPart 26 = .ok (.getfield 22, 3) := by decide +kernel
theorem dX2_hasUnsoundPart_29 : decode cX2_hasUnsoundPart 29 = .ok (.iload_n 1, 1) := by decide +kernel
theorem dX2_hasUnsoundPart_30 : decode cX2_hasUnsoundPart 30 = .ok (.iconst 1, 1) := by decide +kernel
theorem dX2_hasUnsoundPart_31 : decode cX2_hasUnsoundPart 31 = .ok (.iload_n 2, 1) := by decide +kernel
theorem dX2_hasUnsoundPart_32 : decode cX2_hasUnsoundPart 32 = .ok (.ishl, 1) := by decide +kernel
theorem dX2_hasUnsoundPart_33 : decode cX2_hasUnsoundPart 33 = .ok (.ixor, 1) := by decide +kernel
theorem dX2_hasUnsoundPart_34 : decode cX2_hasUnsoundPart 34 = .ok (.baload, 1) := by decide +kernel
theorem dX2_hasUnsoundPart_35 : decode cX2_hasUnsoundPart 35 = .ok (.ifCond .eq 5, 3) := by decide +kernel
theorem dX2_hasUnsoundPart_38 : decode cX2_hasUnsoundPart 38 = .ok (.iconst 1, 1) := by decide +kernel
theorem dX2_hasUnsoundPart_39 : decode cX2_hasUnsoundPart 39 = .ok (.ireturn, 1) := by decide +kernel
theorem dX2_hasUnsoundPart_40 : decode cX2_hasUnsoundPart 40 = .ok (.iinc 2 1, 3) := by decide +kernel
theorem dX2_hasUnsoundPart_43 : decode cX2_hasUnsoundPart 43 = .ok (.goto (-41), 3) := by decide +kernel
theorem dX2_hasUnsoundPart_46 : decode cX2_hasUnsoundPart 46 = .ok (.iconst 0, 1) := by decide +kernel
theorem dX2_hasUnsoundPart_47 : decode cX2_hasUnsoundPart 47 = .ok (.ireturn, 1) := by decide +kernel
theorem dX2_isLand_0 : decode cX2_isLand 0 = .ok (.iconst 0, 1) := by decide +kernel
theorem dX2_isLand_1 : decode cX2_isLand 1 = .ok (.istore 4, 2) := by decide +kernel
theorem dX2_isLand_3 : decode cX2_isLand 3 = .ok (.iload 4, 2) := by decide +kernel
theorem dX2_isLand_5 : decode cX2_isLand 5 = .ok (.iload_n 2, 1) := by decide +kernel
theorem dX2_isLand_6 : decode cX2_isLand 6 = .ok (.if_icmp .gt 17, 3) := by decide +kernel
theorem dX2_isLand_9 : decode cX2_isLand 9 = .ok (.aload_n 0, 1) := by decide +kernel
theorem dX2_isLand_10 : decode cX2_isLand 10 = .ok (.getfield 25, 3) := by decide +kernel
theorem dX2_isLand_13 : decode cX2_isLand 13 = .ok (.iload 4, 2) := by decide +kernel
theorem dX2_isLand_15 : decode cX2_isLand 15 = .ok (.iconst 0, 1) := by decide +kernel
theorem dX2_isLand_16 : decode cX2_isLand 16 = .ok (.bastore, 1) := by decide +kernel
theorem dX2_isLand_17 : decode cX2_isLand 17 = .ok (.iinc 4 1, 3) := by decide +kernel
theorem dX2_isLand_20 : decode cX2_isLand 20 = .ok (.goto (-17), 3) := by decide +kernel
theorem dX2_isLand_23 : decode cX2_isLand 23 = .ok (.iload_n 2, 1) := by decide +kernel
theorem dX2_isLand_24 : decode cX2_isLand 24 = .ok (.istore 4, 2) := by decide +kernel
theorem dX2_isLand_26 : decode cX2_isLand 26 = .ok (.iconst 1, 1) := by decide +kernel
theorem dX2_isLand_27 : decode cX2_isLand 27 = .ok (.iload_n 1, 1) := by decide +kernel
theorem dX2_isLand_28 : decode cX2_isLand 28 = .ok (.invokestatic 36, 3) := by decide +kernel
theorem dX2_isLand_31 : decode cX2_isLand 31 = .ok (.ishl, 1) := by decide +kernel
theorem dX2_isLand_32 : decode cX2_isLand 32 = .ok (.istore 5, 2) := by decide +kernel
theorem dX2_isLand_34 : decode cX2_isLand 34 = .ok (.iconst 0, 1) := by decide +kernel
theorem dX2_isLand_35 : decode cX2_isLand 35 = .ok (.istore 6, 2) := by decide +kernel
theorem dX2_isLand_37 : decode cX2_isLand 37 = .ok (.aload_n 0, 1) := by decide +kernel
theorem dX2_isLand_38 : decode cX2_isLand 38 = .ok (.getfield 32, 3) := by decide +kernel
theorem dX2_isLand_41 : decode cX2_isLand 41 = .ok (.invokevirtual 79, 3) := by decide +kernel
theorem dX2_isLand_44 : decode cX2_isLand 44 = .ok (.iconst 0, 1) := by decide +kernel
theorem dX2_isLand_45 : decode cX2_isLand 45 = .ok (.istore 7, 2) := by decide +kernel
theorem dX2_isLand_47 : decode cX2_isLand 47 = .ok (.iload 7, 2) := by decide +kernel
theorem dX2_isLand_49 : decode cX2_isLand 49 = .ok (.iload 5, 2) := by decide +kernel
theorem dX2_isLand_51 : decode cX2_isLand 51 = .ok (.if_icmp .ge 100, 3) := by decide +kernel
theorem dX2_isLand_54 : decode cX2_isLand 54 = .ok (.iload 6, 2) := by decide +kernel
theorem dX2_isLand_56 : decode cX2_isLand 56 = .ok (.invokestatic 36, 3) := by decide +kernel
theorem dX2_isLand_59 : decode cX2_isLand 59 = .ok (.iload_n 3, 1) := by decide +kernel
theorem dX2_isLand_60 : decode cX2_isLand 60 = .ok (.if_icmp .gt 77, 3) := by decide +kernel
theorem dX2_isLand_63 : decode cX2_isLand 63 = .ok (.aload_n 0, 1) := by decide +kernel
theorem dX2_isLand_64 : decode cX2_isLand 64 = .ok (.getfield 32, 3) := by decide +kernel
theorem dX2_isLand_67 : decode cX2_isLand 67 = .ok (.iload 6, 2) := by decide +kernel
theorem dX2_isLand_69 : decode cX2_isLand 69 = .ok (.invokevirtual 64, 3) := by decide +kernel
theorem dX2_isLand_72 : decode cX2_isLand 72 = .ok (.istore 8, 2) := by decide +kernel
theorem dX2_isLand_74 : decode cX2_isLand 74 = .ok (.aload_n 0, 1) := by decide +kernel
theorem dX2_isLand_75 : decode cX2_isLand 75 = .ok (.getfield 32, 3) := by decide +kernel
theorem dX2_isLand_78 : decode cX2_isLand 78 = .ok (.aload_n 0, 1) := by decide +kernel
theorem dX2_isLand_79 : decode cX2_isLand 79 = .ok (.getfield 32, 3) := by decide +kernel
theorem dX2_isLand_82 : decode cX2_isLand 82 = .ok (.iload 6, 2) := by decide +kernel
theorem dX2_isLand_84 : decode cX2_isLand 84 = .ok (.invokevirtual 82, 3) := by decide +kernel
theorem dX2_isLand_87 : decode cX2_isLand 87 = .ok (.invokevirtual 64, 3) := by decide +kernel
theorem dX2_isLand_90 : decode cX2_isLand 90 = .ok (.iload 8, 2) := by decide +kernel
theorem dX2_isLand_92 : decode cX2_isLand 92 = .ok (.if_icmp .eq 12, 3) := by decide +kernel
theorem dX2_isLand_95 : decode cX2_isLand 95 = .ok (.aload_n 0, 1) := by decide +kernel
theorem dX2_isLand_96 : decode cX2_isLand 96 = .ok (.getfield 22, 3) := by decide +kernel
theorem dX2_isLand_99 : decode cX2_isLand 99 = .ok (.iload_n 1, 1) := by decide +kernel
theorem dX2_isLand_100 : decode cX2_isLand 100 = .ok (.iconst 1, 1) := by decide +kernel
theorem dX2_isLand_101 : decode cX2_isLand 101 = .ok (.bastore, 1) := by decide +kernel
theorem dX2_isLand_102 : decode cX2_isLand 102 = .ok (.iconst 0, 1) := by decide +kernel
theorem dX2_isLand_103 : decode cX2_isLand 103 = .ok (.ireturn, 1) := by decide +kernel
theorem dX2_isLand_104 : decode cX2_isLand 104 = .ok (.iload 8, 2) := by decide +kernel
theorem dX2_isLand_106 : decode cX2_isLand 106 = .ok (.iconst 1, 1) := by decide +kernel
theorem dX2_isLand_107 : decode cX2_isLand 107 = .ok (.if_icmp .lt 30, 3) := by decide +kernel
theorem dX2_isLand_110 : decode cX2_isLand 110 = .ok (.iload 8, 2) := by decide +kernel
theorem dX2_isLand_112 : decode cX2_isLand 112 = .ok (.iload_n 2, 1) := by decide +kernel
theorem dX2_isLand_113 : decode cX2_isLand 113 = .ok (.if_icmp .gt 24, 3) := by decide +kernel
theorem dX2_isLand_116 : decode cX2_isLand 116 = .ok (.aload_n 0, 1) := by decide +kernel
theorem dX2_isLand_117 : decode cX2_isLand 117 = .ok (.getfield 25, 3) := by decide +kernel
theorem dX2_isLand_120 : decode cX2_isLand 120 = .ok (.iload 8, 2) := by decide +kernel
theorem dX2_isLand_122 : decode cX2_isLand 122 = .ok (.baload, 1) := by decide +kernel
theorem dX2_isLand_123 : decode cX2_isLand 123 = .ok (.ifCond .ne 14, 3) := by decide +kernel
theorem dX2_isLand_126 : decode cX2_isLand 126 = .ok (.aload_n 0, 1) := by decide +kernel
theorem dX2_isLand_127 : decode cX2_isLand 127 = .ok (.getfield 25, 3) := by decide +kernel
theorem dX2_isLand_130 : decode cX2_isLand 130 = .ok (.iload 8, 2) := by decide +kernel
theorem dX2_isLand_132 : decode cX2_isLand 132 = .ok (.iconst 1, 1) := by decide +kernel
theorem dX2_isLand_133 : decode cX2_isLand 133 = .ok (.bastore, 1) := by decide +kernel
theorem dX2_isLand_134 : decode cX2_isLand 134 = .ok (.iinc 4 (-1), 3) := by decide +kernel
theorem dX2_isLand_137 : decode cX2_isLand 137 = .ok (.iload 6, 2) := by decide +kernel
theorem dX2_isLand_139 : decode cX2_isLand 139 = .ok (.iload_n 1, 1) := by decide +kernel
theorem dX2_isLand_140 : decode cX2_isLand 140 = .ok (.invokestatic 76, 3) := by decide +kernel
theorem dX2_isLand_143 : decode cX2_isLand 143 = .ok (.istore 6, 2) := by decide +kernel
theorem dX2_isLand_145 : decode cX2_isLand 145 = .ok (.iinc 7 1, 3) := by decide +kernel
theorem dX2_isLand_148 : decode cX2_isLand 148 = .ok (.goto (-101), 3) := by decide +kernel
theorem dX2_isLand_151 : decode cX2_isLand 151 = .ok (.iload 4, 2) := by decide +kernel
theorem dX2_isLand_153 : decode cX2_isLand 153 = .ok (.ifCond .ne 7, 3) := by decide +kernel
theorem dX2_isLand_156 : decode cX2_isLand 156 = .ok (.iconst 1, 1) := by decide +kernel
theorem dX2_isLand_157 : decode cX2_isLand 157 = .ok (.goto 4, 3) := by decide +kernel
theorem dX2_isLand_160 : decode cX2_isLand 160 = .ok (.iconst 0, 1) := by decide +kernel
theorem dX2_isLand_161 : decode cX2_isLand 161 = .ok (.ireturn, 1) := by decide +kernel
theorem dX3_init_0 : decode cX3_init 0 = .ok (.aload_n 0, 1) := by decide +kernel
theorem dX3_init_1 : decode cX3_init 1 = .ok (.invokespecial 3, 3) := by decide +kernel
theorem dX3_init_4 : decode cX3_init 4 = .ok (.aload_n 0, 1) := by decide +kernel
theorem dX3_init_5 : decode cX3_init 5 = .ok (.sipush 400, 3) := by decide +kernel
theorem dX3_init_8 : decode cX3_init 8 = .ok (.newarray .int, 2) := by decide +kernel
theorem dX3_init_10 : decode cX3_init 10 = .ok (.putfield 9, 3) := by decide +kernel
theorem dX3_init_13 : decode cX3_init 13 = .ok (.aload_n 0, 1) := by decide +kernel
theorem dX3_init_14 : decode cX3_init 14 = .ok (.bipush 12, 2) := by decide +kernel
theorem dX3_init_16 : decode cX3_init 16 = .ok (.newarray .int, 2) := by decide +kernel
theorem dX3_init_18 : decode cX3_init 18 = .ok (.putfield 15, 3) := by decide +kernel
theorem dX3_init_21 : decode cX3_init 21 = .ok (.aload_n 0, 1) := by decide +kernel
theorem dX3_init_22 : decode cX3_init 22 = .ok (.bipush 12, 2) := by decide +kernel
theorem dX3_init_24 : decode cX3_init 24 = .ok (.newarray .int, 2) := by decide +kernel
theorem dX3_init_26 : decode cX3_init 26 = .ok (.putfield 18, 3) := by decide +kernel
theorem dX3_init_29 : decode cX3_init 29 = .ok (.aload_n 0, 1) := by decide +kernel
theorem dX3_init_30 : decode cX3_init 30 = .ok (.bipush 12, 2) := by decide +kernel
theorem dX3_init_32 : decode cX3_init 32 = .ok (.newarray .int, 2) := by decide +kernel
theorem dX3_init_34 : decode cX3_init 34 = .ok (.putfield 21, 3) := by decide +kernel
theorem dX3_init_37 : decode cX3_init 37 = .ok (.aload_n 0, 1) := by decide +kernel
theorem dX3_init_38 : decode cX3_init 38 = .ok (.bipush 12, 2) := by decide +kernel
theorem dX3_init_40 : decode cX3_init 40 = .ok (.newarray .int, 2) := by decide +kernel
theorem dX3_init_42 : decode cX3_init 42 = .ok (.putfield 24, 3) := by decide +kernel
theorem dX3_init_45 : decode cX3_init 45 = .ok (.return_, 1) := by decide +kernel
theorem dX3_clear_0 : decode cX3_clear 0 = .ok (.aload_n 0, 1) := by decide +kernel
theorem dX3_clear_1 : decode cX3_clear 1 = .ok (.iconst 0, 1) := by decide +kernel
theorem dX3_clear_2 : decode cX3_clear 2 = .ok (.putfield 27, 3) := by decide +kernel
theorem dX3_clear_5 : decode cX3_clear 5 = .ok (.aload_n 0, 1) := by decide +kernel
theorem dX3_clear_6 : decode cX3_clear 6 = .ok (.iconst 0, 1) := by decide +kernel
theorem dX3_clear_7 : decode cX3_clear 7 = .ok (.putfield 31, 3) := by decide +kernel
theorem dX3_clear_10 : decode cX3_clear 10 = .ok (.return_, 1) := by decide +kernel
theorem dX3_isFull_0 : decode cX3_isFull 0 = .ok (.aload_n 0, 1) := by decide +kernel
theorem dX3_isFull_1 : decode cX3_isFull 1 = .ok (.getfield 31, 3) := by decide +kernel
theorem dX3_isFull_4 : decode cX3_isFull 4 = .ok (.bipush 12, 2) := by decide +kernel
theorem dX3_isFull_6 : decode cX3_isFull 6 = .ok (.if_icmp .lt 7, 3) := by decide +kernel
theorem dX3_isFull_9 : decode cX3_isFull 9 = .ok (.iconst 1, 1) := by decide +kernel
theorem dX3_isFull_10 : decode cX3_isFull 10 = .ok (.goto 4, 3) := by decide +kernel
theorem dX3_isFull_13 : decode cX3_isFull 13 = .ok (.iconst 0, 1) := by decide +kernel
theorem dX3_isFull_14 : decode cX3_isFull 14 = .ok (.ireturn, 1) := by decide +kernel
theorem dX3_addNumber_0 : decode cX3_addNumber 0 = .ok (.aload_n 0, 1) := by decide +kernel
theorem dX3_addNumber_1 : decode cX3_addNumber 1 = .ok (.getfield 27, 3) := by decide +kernel
theorem dX3_addNumber_4 : decode cX3_addNumber 4 = .ok (.aload_n 0, 1) := by decide +kernel
theorem dX3_addNumber_5 : decode cX3_addNumber 5 = .ok (.getfield 9, 3) := by decide +kernel
theorem dX3_addNumber_8 : decode cX3_addNumber 8 = .ok (.arraylength, 1) := by decide +kernel
theorem dX3_addNumber_9 : decode cX3_addNumber 9 = .ok (.if_icmp .ge 23, 3) := by decide +kernel
theorem dX3_addNumber_12 : decode cX3_addNumber 12 = .ok (.aload_n 0, 1) := by decide +kernel
theorem dX3_addNumber_13 : decode cX3_addNumber 13 = .ok (.getfield 9, 3) := by decide +kernel
theorem dX3_addNumber_16 : decode cX3_addNumber 16 = .ok (.aload_n 0, 1) := by decide +kernel
theorem dX3_addNumber_17 : decode cX3_addNumber 17 = .ok (.getfield 27, 3) := by decide +kernel
theorem dX3_addNumber_20 : decode cX3_addNumber 20 = .ok (.iload_n 1, 1) := by decide +kernel
theorem dX3_addNumber_21 : decode cX3_addNumber 21 = .ok (.iastore, 1) := by decide +kernel
theorem dX3_addNumber_22 : decode cX3_addNumber 22 = .ok (.aload_n 0, 1) := by decide +kernel
theorem dX3_addNumber_23 : decode cX3_addNumber 23 = .ok (.dup, 1) := by decide +kernel
theorem dX3_addNumber_24 : decode cX3_addNumber 24 = .ok (.getfield 27, 3) := by decide +kernel
theorem dX3_addNumber_27 : decode cX3_addNumber 27 = .ok (.iconst 1, 1) := by decide +kernel
theorem dX3_addNumber_28 : decode cX3_addNumber 28 = .ok (.iadd, 1) := by decide +kernel
theorem dX3_addNumber_29 : decode cX3_addNumber 29 = .ok (.putfield 27, 3) := by decide +kernel
theorem dX3_addNumber_32 : decode cX3_addNumber 32 = .ok (.return_, 1) := by decide +kernel
theorem dX3_addSign_0 : decode cX3_addSign 0 = .ok (.iload_n 1, 1) := by decide +kernel
theorem dX3_addSign_1 : decode cX3_addSign 1 = .ok (.ifCond .eq 36, 3) := by decide +kernel
theorem dX3_addSign_4 : decode cX3_addSign 4 = .ok (.aload_n 0, 1) := by decide +kernel
theorem dX3_addSign_5 : decode cX3_addSign 5 = .ok (.getfield 27, 3) := by decide +kernel
theorem dX3_addSign_8 : decode cX3_addSign 8 = .ok (.aload_n 0, 1) := by decide +kernel
theorem dX3_addSign_9 : decode cX3_addSign 9 = .ok (.getfield 9, 3) := by decide +kernel
theorem dX3_addSign_12 : decode cX3_addSign 12 = .ok (.arraylength, 1) := by decide +kernel
theorem dX3_addSign_13 : decode cX3_addSign 13 = .ok (.if_icmp .ge 24, 3) := by decide +kernel
theorem dX3_addSign_16 : decode cX3_addSign 16 = .ok (.aload_n 0, 1) := by decide +kernel
theorem dX3_addSign_17 : decode cX3_addSign 17 = .ok (.getfield 9, 3) := by decide +kernel
theorem dX3_addSign_20 : decode cX3_addSign 20 = .ok (.aload_n 0, 1) := by decide +kernel
theorem dX3_addSign_21 : decode cX3_addSign 21 = .ok (.getfield 27, 3) := by decide +kernel
theorem dX3_addSign_24 : decode cX3_addSign 24 = .ok (.iload_n 1, 1) := by decide +kernel
theorem dX3_addSign_25 : decode cX3_addSign 25 = .ok (.ineg, 1) := by decide +kernel
theorem dX3_addSign_26 : decode cX3_addSign 26 = .ok (.iastore, 1) := by decide +kernel
theorem dX3_addSign_27 : decode cX3_addSign 27 = .ok (.aload_n 0, 1) := by decide +kernel
theorem dX3_addSign_28 : decode cX3_addSign 28 = .ok (.dup, 1) := by decide +kernel
theorem dX3_addSign_29 : decode cX3_addSign 29 = .ok (.getfield 27, 3) := by decide +kernel
theorem dX3_addSign_32 : decode cX3_addSign 32 = .ok (.iconst 1, 1) := by decide +kernel
theorem dX3_addSign_33 : decode cX3_addSign 33 = .ok (.iadd, 1) := by decide +kernel
theorem dX3_addSign_34 : decode cX3_addSign 34 = .ok (.putfield 27, 3) := by decide +kernel
theorem dX3_addSign_37 : decode cX3_addSign 37 = .ok (.return_, 1) := by decide +kernel
theorem dX3_addClause_0 : decode cX3_addClause 0 = .ok (.aload_n 0, 1) := by decide +kernel
theorem dX3_addClause_1 : decode cX3_addClause 1 = .ok (.getfield 31, 3) := by decide +kernel
theorem dX3_addClause_4 : decode cX3_addClause 4 = .ok (.bipush 12, 2) := by decide +kernel
theorem dX3_addClause_6 : decode cX3_addClause 6 = .ok (.if_icmp .ge 56, 3) := by decide +kernel
theorem dX3_addClause_9 : decode cX3_addClause 9 = .ok (.aload_n 0, 1) := by decide +kernel
theorem dX3_addClause_10 : decode cX3_addClause 10 = .ok (.getfield 15, 3) := by decide +kernel
theorem dX3_addClause_13 : decode cX3_addClause 13 = .ok (.aload_n 0, 1) := by decide +kernel
theorem dX3_addClause_14 : decode cX3_addClause 14 = .ok (.getfield 31, 3) := by decide +kernel
theorem dX3_addClause_17 : decode cX3_addClause 17 = .ok (.iload_n 1, 1) := by decide +kernel
theorem dX3_addClause_18 : decode cX3_addClause 18 = .ok (.iastore, 1) := by decide +kernel
theorem dX3_addClause_19 : decode cX3_addClause 19 = .ok (.aload_n 0, 1) := by decide +kernel
theorem dX3_addClause_20 : decode cX3_addClause 20 = .ok (.getfield 18, 3) := by decide +kernel
theorem dX3_addClause_23 : decode cX3_addClause 23 = .ok (.aload_n 0, 1) := by decide +kernel
theorem dX3_addClause_24 : decode cX3_addClause 24 = .ok (.getfield 31, 3) := by decide +kernel
theorem dX3_addClause_27 : decode cX3_addClause 27 = .ok (.iload_n 2, 1) := by decide +kernel
theorem dX3_addClause_28 : decode cX3_addClause 28 = .ok (.iastore, 1) := by decide +kernel
theorem dX3_addClause_29 : decode cX3_addClause 29 = .ok (.aload_n 0, 1) := by decide +kernel
theorem dX3_addClause_30 : decode cX3_addClause 30 = .ok (.getfield 21, 3) := by decide +kernel
theorem dX3_addClause_33 : decode cX3_addClause 33 = .ok (.aload_n 0, 1) := by decide +kernel
theorem dX3_addClause_34 : decode cX3_addClause 34 = .ok (.getfield 31, 3) := by decide +kernel
theorem dX3_addClause_37 : decode cX3_addClause 37 = .ok (.iload_n 3, 1) := by decide +kernel
theorem dX3_addClause_38 : decode cX3_addClause 38 = .ok (.iastore, 1) := by decide +kernel
theorem dX3_addClause_39 : decode cX3_addClause 39 = .ok (.aload_n 0, 1) := by decide +kernel
theorem dX3_addClause_40 : decode cX3_addClause 40 = .ok (.getfield 24, 3) := by decide +kernel
theorem dX3_addClause_43 : decode cX3_addClause 43 = .ok (.aload_n 0, 1) := by decide +kernel
theorem dX3_addClause_44 : decode cX3_addClause 44 = .ok (.getfield 31, 3) := by decide +kernel
theorem dX3_addClause_47 : decode cX3_addClause 47 = .ok (.aload_n 0, 1) := by decide +kernel
theorem dX3_addClause_48 : decode cX3_addClause 48 = .ok (.getfield 27, 3) := by decide +kernel
theorem dX3_addClause_51 : decode cX3_addClause 51 = .ok (.iastore, 1) := by decide +kernel
theorem dX3_addClause_52 : decode cX3_addClause 52 = .ok (.aload_n 0, 1) := by decide +kernel
theorem dX3_addClause_53 : decode cX3_addClause 53 = .ok (.dup, 1) := by decide +kernel
theorem dX3_addClause_54 : decode cX3_addClause 54 = .ok (.getfield 31, 3) := by decide +kernel
theorem dX3_addClause_57 : decode cX3_addClause 57 = .ok (.iconst 1, 1) := by decide +kernel
theorem dX3_addClause_58 : decode cX3_addClause 58 = .ok (.iadd, 1) := by decide +kernel
theorem dX3_addClause_59 : decode cX3_addClause 59 = .ok (.putfield 31, 3) := by decide +kernel
theorem dX3_addClause_62 : decode cX3_addClause 62 = .ok (.return_, 1) := by decide +kernel
theorem dX3_told_0 : decode cX3_told 0 = .ok (.iconst 0, 1) := by decide +kernel
theorem dX3_told_1 : decode cX3_told 1 = .ok (.istore 6, 2) := by decide +kernel
theorem dX3_told_3 : decode cX3_told 3 = .ok (.iload 6, 2) := by decide +kernel
theorem dX3_told_5 : decode cX3_told 5 = .ok (.aload_n 0, 1) := by decide +kernel
theorem dX3_told_6 : decode cX3_told 6 = .ok (.getfield 31, 3) := by decide +kernel
theorem dX3_told_9 : decode cX3_told 9 = .ok (.if_icmp .ge 95, 3) := by decide +kernel
theorem dX3_told_12 : decode cX3_told 12 = .ok (.aload_n 0, 1) := by decide +kernel
theorem dX3_told_13 : decode cX3_told 13 = .ok (.getfield 15, 3) := by decide +kernel
theorem dX3_told_16 : decode cX3_told 16 = .ok (.iload 6, 2) := by decide +kernel
theorem dX3_told_18 : decode cX3_told 18 = .ok (.iaload, 1) := by decide +kernel
theorem dX3_told_19 : decode cX3_told 19 = .ok (.iload_n 1, 1) := by decide +kernel
theorem dX3_told_20 : decode cX3_told 20 = .ok (.if_icmp .ne 78, 3) := by decide +kernel
theorem dX3_told_23 : decode cX3_told 23 = .ok (.aload_n 0, 1) := by decide +kernel
theorem dX3_told_24 : decode cX3_told 24 = .ok (.getfield 21, 3) := by decide +kernel
theorem dX3_told_27 : decode cX3_told 27 = .ok (.iload 6, 2) := by decide +kernel
theorem dX3_told_29 : decode cX3_told 29 = .ok (.iaload, 1) := by decide +kernel
theorem dX3_told_30 : decode cX3_told 30 = .ok (.aload_n 0, 1) := by decide +kernel
theorem dX3_told_31 : decode cX3_told 31 = .ok (.getfield 24, 3) := by decide +kernel
theorem dX3_told_34 : decode cX3_told 34 = .ok (.iload 6, 2) := by decide +kernel
theorem dX3_told_36 : decode cX3_told 36 = .ok (.iaload, 1) := by decide +kernel
theorem dX3_told_37 : decode cX3_told 37 = .ok (.if_icmp .ne 7, 3) := by decide +kernel
theorem dX3_told_40 : decode cX3_told 40 = .ok (.iconst 1, 1) := by decide +kernel
theorem dX3_told_41 : decode cX3_told 41 = .ok (.goto 4, 3) := by decide +kernel
theorem dX3_told_44 : decode cX3_told 44 = .ok (.iconst 0, 1) := by decide +kernel
theorem dX3_told_45 : decode cX3_told 45 = .ok (.istore 7, 2) := by decide +kernel
theorem dX3_told_47 : decode cX3_told 47 = .ok (.iload 7, 2) := by decide +kernel
theorem dX3_told_49 : decode cX3_told 49 = .ok (.ifCond .ne 28, 3) := by decide +kernel
theorem dX3_told_52 : decode cX3_told 52 = .ok (.aload_n 0, 1) := by decide +kernel
theorem dX3_told_53 : decode cX3_told 53 = .ok (.aload_n 0, 1) := by decide +kernel
theorem dX3_told_54 : decode cX3_told 54 = .ok (.getfield 21, 3) := by decide +kernel
theorem dX3_told_57 : decode cX3_told 57 = .ok (.iload 6, 2) := by decide +kernel
theorem dX3_told_59 : decode cX3_told 59 = .ok (.iaload, 1) := by decide +kernel
theorem dX3_told_60 : decode cX3_told 60 = .ok (.aload_n 0, 1) := by decide +kernel
theorem dX3_told_61 : decode cX3_told 61 = .ok (.getfield 24, 3) := by decide +kernel
theorem dX3_told_64 : decode cX3_told 64 = .ok (.iload 6, 2) := by decide +kernel
theorem dX3_told_66 : decode cX3_told 66 = .ok (.iaload, 1) := by decide +kernel
theorem dX3_told_67 : decode cX3_told 67 = .ok (.aload_n 2, 1) := by decide +kernel
theorem dX3_told_68 : decode cX3_told 68 = .ok (.aload_n 3, 1) := by decide +kernel
theorem dX3_told_69 : decode cX3_told 69 = .ok (.invokevirtual 34, 3) := by decide +kernel
theorem dX3_told_72 : decode cX3_told 72 = .ok (.lconst 0, 1) := by decide +kernel
theorem dX3_told_73 : decode cX3_told 73 = .ok (.lcmp, 1) := by decide +kernel
theorem dX3_told_74 : decode cX3_told 74 = .ok (.ifCond .eq 24, 3) := by decide +kernel
theorem dX3_told_77 : decode cX3_told 77 = .ok (.aload_n 0, 1) := by decide +kernel
theorem dX3_told_78 : decode cX3_told 78 = .ok (.aload_n 0, 1) := by decide +kernel
theorem dX3_told_79 : decode cX3_told 79 = .ok (.getfield 18, 3) := by decide +kernel
theorem dX3_told_82 : decode cX3_told 82 = .ok (.iload 6, 2) := by decide +kernel
theorem dX3_told_84 : decode cX3_told 84 = .ok (.iaload, 1) := by decide +kernel
theorem dX3_told_85 : decode cX3_told 85 = .ok (.aload_n 0, 1) := by decide +kernel
theorem dX3_told_86 : decode cX3_told 86 = .ok (.getfield 21, 3) := by decide +kernel
theorem dX3_told_89 : decode cX3_told 89 = .ok (.iload 6, 2) := by decide +kernel
theorem dX3_told_91 : decode cX3_told 91 = .ok (.iaload, 1) := by decide +kernel
theorem dX3_told_92 : decode cX3_told 92 = .ok (.aload_n 2, 1) := by decide +kernel
theorem dX3_told_93 : decode cX3_told 93 = .ok (.aload_n 3, 1) := by decide +kernel
theorem dX3_told_94 : decode cX3_told 94 = .ok (.invokevirtual 34, 3) := by decide +kernel
theorem dX3_told_97 : decode cX3_told 97 = .ok (.lreturn, 1) := by decide +kernel
theorem dX3_told_98 : decode cX3_told 98 = .ok (.iinc 6 1, 3) := by decide +kernel
theorem dX3_told_101 : decode cX3_told 101 = .ok (.goto (-98), 3) := by decide +kernel
theorem dX3_told_104 : decode cX3_told 104 = .ok (.lload 4, 2) := by decide +kernel
theorem dX3_told_106 : decode cX3_told 106 = .ok (.lreturn, 1) := by decide +kernel
theorem dX3_valueOf_0 : decode cX3_valueOf 0 = .ok (.iconst 0, 1) := by decide +kernel
theorem dX3_valueOf_1 : decode cX3_valueOf 1 = .ok (.istore 5, 2) := by decide +kernel
theorem dX3_valueOf_3 : decode cX3_valueOf 3 = .ok (.iload_n 1, 1) := by decide +kernel
theorem dX3_valueOf_4 : decode cX3_valueOf 4 = .ok (.istore 6, 2) := by decide +kernel
theorem dX3_valueOf_6 : decode cX3_valueOf 6 = .ok (.iload 6, 2) := by decide +kernel
theorem dX3_valueOf_8 : decode cX3_valueOf 8 = .ok (.iload_n 2, 1) := by decide +kernel
theorem dX3_valueOf_9 : decode cX3_valueOf 9 = .ok (.if_icmp .ge 142, 3) := by decide +kernel
theorem dX3_valueOf_12 : decode cX3_valueOf 12 = .ok (.aload_n 0, 1) := by decide +kernel
theorem dX3_valueOf_13 : decode cX3_valueOf 13 = .ok (.getfield 9, 3) := by decide +kernel
theorem dX3_valueOf_16 : decode cX3_valueOf 16 = .ok (.iload 6, 2) := by decide +kernel
theorem dX3_valueOf_18 : decode cX3_valueOf 18 = .ok (.iaload, 1) := by decide +kernel
theorem dX3_valueOf_19 : decode cX3_valueOf 19 = .ok (.ineg, 1) := by decide +kernel
theorem dX3_valueOf_20 : decode cX3_valueOf 20 = .ok (.istore 7, 2) := by decide +kernel
theorem dX3_valueOf_22 : decode cX3_valueOf 22 = .ok (.iload 7, 2) := by decide +kernel
theorem dX3_valueOf_24 : decode cX3_valueOf 24 = .ok (.ifCond .gt 23, 3) := by decide +kernel
theorem dX3_valueOf_27 : decode cX3_valueOf 27 = .ok (.aload 4, 2) := by decide +kernel
theorem dX3_valueOf_29 : decode cX3_valueOf 29 = .ok (.iload 5, 2) := by decide +kernel
theorem dX3_valueOf_31 : decode cX3_valueOf 31 = .ok (.aload_n 0, 1) := by decide +kernel
theorem dX3_valueOf_32 : decode cX3_valueOf 32 = .ok (.getfield 9, 3) := by decide +kernel
theorem dX3_valueOf_35 : decode cX3_valueOf 35 = .ok (.iload 6, 2) := by decide +kernel
theorem dX3_valueOf_37 : decode cX3_valueOf 37 = .ok (.iaload, 1) := by decide +kernel
theorem dX3_valueOf_38 : decode cX3_valueOf 38 = .ok (.i2l, 1) := by decide +kernel
theorem dX3_valueOf_39 : decode cX3_valueOf 39 = .ok (.invokestatic 38, 3) := by decide +kernel
theorem dX3_valueOf_42 : decode cX3_valueOf 42 = .ok (.istore 5, 2) := by decide +kernel
theorem dX3_valueOf_44 : decode cX3_valueOf 44 = .ok (.goto 101, 3) := by decide +kernel
theorem dX3_valueOf_47 : decode cX3_valueOf 47 = .ok (.iload 7, 2) := by decide +kernel
theorem dX3_valueOf_49 : decode cX3_valueOf 49 = .ok (.bipush 16, 2) := by decide +kernel
theorem dX3_valueOf_51 : decode cX3_valueOf 51 = .ok (.if_icmp .lt 29, 3) := by decide +kernel
theorem dX3_valueOf_54 : decode cX3_valueOf 54 = .ok (.iload 7, 2) := by decide +kernel
theorem dX3_valueOf_56 : decode cX3_valueOf 56 = .ok (.bipush 25, 2) := by decide +kernel
theorem dX3_valueOf_58 : decode cX3_valueOf 58 = .ok (.if_icmp .gt 22, 3) := by decide +kernel
theorem dX3_valueOf_61 : decode cX3_valueOf 61 = .ok (.aload 4, 2) := by decide +kernel
theorem dX3_valueOf_63 : decode cX3_valueOf 63 = .ok (.iload 5, 2) := by decide +kernel
theorem dX3_valueOf_65 : decode cX3_valueOf 65 = .ok (.aload_n 3, 1) := by decide +kernel
theorem dX3_valueOf_66 : decode cX3_valueOf 66 = .ok (.iload 7, 2) := by decide +kernel
theorem dX3_valueOf_68 : decode cX3_valueOf 68 = .ok (.bipush 16, 2) := by decide +kernel
theorem dX3_valueOf_70 : decode cX3_valueOf 70 = .ok (.isub, 1) := by decide +kernel
theorem dX3_valueOf_71 : decode cX3_valueOf 71 = .ok (.laload, 1) := by decide +kernel
theorem dX3_valueOf_72 : decode cX3_valueOf 72 = .ok (.invokestatic 38, 3) := by decide +kernel
theorem dX3_valueOf_75 : decode cX3_valueOf 75 = .ok (.istore 5, 2) := by decide +kernel
theorem dX3_valueOf_77 : decode cX3_valueOf 77 = .ok (.goto 68, 3) := by decide +kernel
theorem dX3_valueOf_80 : decode cX3_valueOf 80 = .ok (.iload 7, 2) := by decide +kernel
theorem dX3_valueOf_82 : decode cX3_valueOf 82 = .ok (.bipush 30, 2) := by decide +kernel
theorem dX3_valueOf_84 : decode cX3_valueOf 84 = .ok (.if_icmp .ne 28, 3) := by decide +kernel
theorem dX3_valueOf_87 : decode cX3_valueOf 87 = .ok (.iload 5, 2) := by decide +kernel
theorem dX3_valueOf_89 : decode cX3_valueOf 89 = .ok (.iconst 1, 1) := by decide +kernel
theorem dX3_valueOf_90 : decode cX3_valueOf 90 = .ok (.if_icmp .lt 22, 3) := by decide +kernel
theorem dX3_valueOf_93 : decode cX3_valueOf 93 = .ok (.aload 4, 2) := by decide +kernel
theorem dX3_valueOf_95 : decode cX3_valueOf 95 = .ok (.iload 5, 2) := by decide +kernel
theorem dX3_valueOf_97 : decode cX3_valueOf 97 = .ok (.iconst 1, 1) := by decide +kernel
theorem dX3_valueOf_98 : decode cX3_valueOf 98 = .ok (.isub, 1) := by decide +kernel
theorem dX3_valueOf_99 : decode cX3_valueOf 99 = .ok (.lconst 1, 1) := by decide +kernel
theorem dX3_valueOf_100 : decode cX3_valueOf 100 = .ok (.aload 4, 2) := by decide +kernel
theorem dX3_valueOf_102 : decode cX3_valueOf 102 = .ok (.iload 5, 2) := by decide +kernel
theorem dX3_valueOf_104 : decode cX3_valueOf 104 = .ok (.iconst 1, 1) := by decide +kernel
theorem dX3_valueOf_105 : decode cX3_valueOf 105 = .ok (.isub, 1) := by decide +kernel
theorem dX3_valueOf_106 : decode cX3_valueOf 106 = .ok (.laload, 1) := by decide +kernel
theorem dX3_valueOf_107 : decode cX3_valueOf 107 = .ok (.lsub, 1) := by decide +kernel
theorem dX3_valueOf_108 : decode cX3_valueOf 108 = .ok (.lastore, 1) := by decide +kernel
theorem dX3_valueOf_109 : decode cX3_valueOf 109 = .ok (.goto 36, 3) := by decide +kernel
theorem dX3_valueOf_112 : decode cX3_valueOf 112 = .ok (.iload 5, 2) := by decide +kernel
theorem dX3_valueOf_114 : decode cX3_valueOf 114 = .ok (.iconst 2, 1) := by decide +kernel
theorem dX3_valueOf_115 : decode cX3_valueOf 115 = .ok (.if_icmp .lt 30, 3) := by decide +kernel
theorem dX3_valueOf_118 : decode cX3_valueOf 118 = .ok (.iinc 5 (-1), 3) := by decide +kernel
theorem dX3_valueOf_121 : decode cX3_valueOf 121 = .ok (.aload 4, 2) := by decide +kernel
theorem dX3_valueOf_123 : decode cX3_valueOf 123 = .ok (.iload 5, 2) := by decide +kernel
theorem dX3_valueOf_125 : decode cX3_valueOf 125 = .ok (.iconst 1, 1) := by decide +kernel
theorem dX3_valueOf_126 : decode cX3_valueOf 126 = .ok (.isub, 1) := by decide +kernel
theorem dX3_valueOf_127 : decode cX3_valueOf 127 = .ok (.iload 7, 2) := by decide +kernel
theorem dX3_valueOf_129 : decode cX3_valueOf 129 = .ok (.aload 4, 2) := by decide +kernel
theorem dX3_valueOf_131 : decode cX3_valueOf 131 = .ok (.iload 5, 2) := by decide +kernel
theorem dX3_valueOf_133 : decode cX3_valueOf 133 = .ok (.iconst 1, 1) := by decide +kernel
theorem dX3_valueOf_134 : decode cX3_valueOf 134 = .ok (.isub, 1) := by decide +kernel
theorem dX3_valueOf_135 : decode cX3_valueOf 135 = .ok (.laload, 1) := by decide +kernel
theorem dX3_valueOf_136 : decode cX3_valueOf 136 = .ok (.aload 4, 2) := by decide +kernel
theorem dX3_valueOf_138 : decode cX3_valueOf 138 = .ok (.iload 5, 2) := by decide +kernel
theorem dX3_valueOf_140 : decode cX3_valueOf 140 = .ok (.laload, 1) := by decide +kernel
theorem dX3_valueOf_141 : decode cX3_valueOf 141 = .ok (.invokestatic 44, 3) := by decide +kernel
theorem dX3_valueOf_144 : decode cX3_valueOf 144 = .ok (.lastore, 1) := by decide +kernel
theorem dX3_valueOf_145 : decode cX3_valueOf 145 = .ok (.iinc 6 1, 3) := by decide +kernel
theorem dX3_valueOf_148 : decode cX3_valueOf 148 = .ok (.goto (-142), 3) := by decide +kernel
theorem dX3_valueOf_151 : decode cX3_valueOf 151 = .ok (.iload 5, 2) := by decide +kernel
theorem dX3_valueOf_153 : decode cX3_valueOf 153 = .ok (.iconst 1, 1) := by decide +kernel
theorem dX3_valueOf_154 : decode cX3_valueOf 154 = .ok (.if_icmp .lt 10, 3) := by decide +kernel
theorem dX3_valueOf_157 : decode cX3_valueOf 157 = .ok (.aload 4, 2) := by decide +kernel
theorem dX3_valueOf_159 : decode cX3_valueOf 159 = .ok (.iconst 0, 1) := by decide +kernel
theorem dX3_valueOf_160 : decode cX3_valueOf 160 = .ok (.laload, 1) := by decide +kernel
theorem dX3_valueOf_161 : decode cX3_valueOf 161 = .ok (.goto 4, 3) := by decide +kernel
theorem dX3_valueOf_164 : decode cX3_valueOf 164 = .ok (.lconst 0, 1) := by decide +kernel
theorem dX3_valueOf_165 : decode cX3_valueOf 165 = .ok (.lreturn, 1) := by decide +kernel
theorem dX3_put_0 : decode cX3_put 0 = .ok (.iload_n 1, 1) := by decide +kernel
theorem dX3_put_1 : decode cX3_put 1 = .ok (.aload_n 0, 1) := by decide +kernel
theorem dX3_put_2 : decode cX3_put 2 = .ok (.arraylength, 1) := by decide +kernel
theorem dX3_put_3 : decode cX3_put 3 = .ok (.if_icmp .lt 5, 3) := by decide +kernel
theorem dX3_put_6 : decode cX3_put 6 = .ok (.iload_n 1, 1) := by decide +kernel
theorem dX3_put_7 : decode cX3_put 7 = .ok (.ireturn, 1) := by decide +kernel
theorem dX3_put_8 : decode cX3_put 8 = .ok (.aload_n 0, 1) := by decide +kernel
theorem dX3_put_9 : decode cX3_put 9 = .ok (.iload_n 1, 1) := by decide +kernel
theorem dX3_put_10 : decode cX3_put 10 = .ok (.lload_n 2, 1) := by decide +kernel
theorem dX3_put_11 : decode cX3_put 11 = .ok (.lastore, 1) := by decide +kernel
theorem dX3_put_12 : decode cX3_put 12 = .ok (.iload_n 1, 1) := by decide +kernel
theorem dX3_put_13 : decode cX3_put 13 = .ok (.iconst 1, 1) := by decide +kernel
theorem dX3_put_14 : decode cX3_put 14 = .ok (.iadd, 1) := by decide +kernel
theorem dX3_put_15 : decode cX3_put 15 = .ok (.ireturn, 1) := by decide +kernel
theorem dX3_joined_0 : decode cX3_joined 0 = .ok (.iload_n 0, 1) := by decide +kernel
theorem dX3_joined_1 : decode cX3_joined 1 = .ok (.tableswitch 231 6 32 #[123, 127, 131, 135, 149, 163, 175, 187, 199, 211, 231, 231, 231, 231, 231, 231, 231, 231, 231, 231, 231, 231, 231, 231, 231, 223, 227], 123) := by decide +kernel
theorem dX3_joined_124 : decode cX3_joined 124 = .ok (.lload_n 1, 1) := by decide +kernel
theorem dX3_joined_125 : decode cX3_joined 125 = .ok (.lload_n 3, 1) := by decide +kernel
theorem dX3_joined_126 : decode cX3_joined 126 = .ok (.ladd, 1) := by decide +kernel
theorem dX3_joined_127 : decode cX3_joined 127 = .ok (.lreturn, 1) := by decide +kernel
theorem dX3_joined_128 : decode cX3_joined 128 = .ok (.lload_n 1, 1) := by decide +kernel
theorem dX3_joined_129 : decode cX3_joined 129 = .ok (.lload_n 3, 1) := by decide +kernel
theorem dX3_joined_130 : decode cX3_joined 130 = .ok (.lsub, 1) := by decide +kernel
theorem dX3_joined_131 : decode cX3_joined 131 = .ok (.lreturn, 1) := by decide +kernel
theorem dX3_joined_132 : decode cX3_joined 132 = .ok (.lload_n 1, 1) := by decide +kernel
theorem dX3_joined_133 : decode cX3_joined 133 = .ok (.lload_n 3, 1) := by decide +kernel
theorem dX3_joined_134 : decode cX3_joined 134 = .ok (.lmul, 1) := by decide +kernel
theorem dX3_joined_135 : decode cX3_joined 135 = .ok (.lreturn, 1) := by decide +kernel
theorem dX3_joined_136 : decode cX3_joined 136 = .ok (.lload_n 3, 1) := by decide +kernel
theorem dX3_joined_137 : decode cX3_joined 137 = .ok (.lconst 0, 1) := by decide +kernel
theorem dX3_joined_138 : decode cX3_joined 138 = .ok (.lcmp, 1) := by decide +kernel
theorem dX3_joined_139 : decode cX3_joined 139 = .ok (.ifCond .ne 7, 3) := by decide +kernel
theorem dX3_joined_142 : decode cX3_joined 142 = .ok (.lconst 0, 1) := by decide +kernel
theorem dX3_joined_143 : decode cX3_joined 143 = .ok (.goto 6, 3) := by decide +kernel
theorem dX3_joined_146 : decode cX3_joined 146 = .ok (.lload_n 1, 1) := by decide +kernel
theorem dX3_joined_147 : decode cX3_joined 147 = .ok (.lload_n 3, 1) := by decide +kernel
theorem dX3_joined_148 : decode cX3_joined 148 = .ok (.ldiv, 1) := by decide +kernel
theorem dX3_joined_149 : decode cX3_joined 149 = .ok (.lreturn, 1) := by decide +kernel
theorem dX3_joined_150 : decode cX3_joined 150 = .ok (.lload_n 3, 1) := by decide +kernel
theorem dX3_joined_151 : decode cX3_joined 151 = .ok (.lconst 0, 1) := by decide +kernel
theorem dX3_joined_152 : decode cX3_joined 152 = .ok (.lcmp, 1) := by decide +kernel
theorem dX3_joined_153 : decode cX3_joined 153 = .ok (.ifCond .ne 7, 3) := by decide +kernel
theorem dX3_joined_156 : decode cX3_joined 156 = .ok (.lconst 0, 1) := by decide +kernel
theorem dX3_joined_157 : decode cX3_joined 157 = .ok (.goto 6, 3) := by decide +kernel
theorem dX3_joined_160 : decode cX3_joined 160 = .ok (.lload_n 1, 1) := by decide +kernel
theorem dX3_joined_161 : decode cX3_joined 161 = .ok (.lload_n 3, 1) := by decide +kernel
theorem dX3_joined_162 : decode cX3_joined 162 = .ok (.lrem, 1) := by decide +kernel
theorem dX3_joined_163 : decode cX3_joined 163 = .ok (.lreturn, 1) := by decide +kernel
theorem dX3_joined_164 : decode cX3_joined 164 = .ok (.lload_n 1, 1) := by decide +kernel
theorem dX3_joined_165 : decode cX3_joined 165 = .ok (.lload_n 3, 1) := by decide +kernel
theorem dX3_joined_166 : decode cX3_joined 166 = .ok (.lcmp, 1) := by decide +kernel
theorem dX3_joined_167 : decode cX3_joined 167 = .ok (.ifCond .ge 7, 3) := by decide +kernel
theorem dX3_joined_170 : decode cX3_joined 170 = .ok (.lconst 1, 1) := by decide +kernel
theorem dX3_joined_171 : decode cX3_joined 171 = .ok (.goto 4, 3) := by decide +kernel
theorem dX3_joined_174 : decode cX3_joined 174 = .ok (.lconst 0, 1) := by decide +kernel
theorem dX3_joined_175 : decode cX3_joined 175 = .ok (.lreturn, 1) := by decide +kernel
theorem dX3_joined_176 : decode cX3_joined 176 = .ok (.lload_n 1, 1) := by decide +kernel
theorem dX3_joined_177 : decode cX3_joined 177 = .ok (.lload_n 3, 1) := by decide +kernel
theorem dX3_joined_178 : decode cX3_joined 178 = .ok (.lcmp, 1) := by decide +kernel
theorem dX3_joined_179 : decode cX3_joined 179 = .ok (.ifCond .gt 7, 3) := by decide +kernel
theorem dX3_joined_182 : decode cX3_joined 182 = .ok (.lconst 1, 1) := by decide +kernel
theorem dX3_joined_183 : decode cX3_joined 183 = .ok (.goto 4, 3) := by decide +kernel
theorem dX3_joined_186 : decode cX3_joined 186 = .ok (.lconst 0, 1) := by decide +kernel
theorem dX3_joined_187 : decode cX3_joined 187 = .ok (.lreturn, 1) := by decide +kernel
theorem dX3_joined_188 : decode cX3_joined 188 = .ok (.lload_n 1, 1) := by decide +kernel
theorem dX3_joined_189 : decode cX3_joined 189 = .ok (.lload_n 3, 1) := by decide +kernel
theorem dX3_joined_190 : decode cX3_joined 190 = .ok (.lcmp, 1) := by decide +kernel
theorem dX3_joined_191 : decode cX3_joined 191 = .ok (.ifCond .ne 7, 3) := by decide +kernel
theorem dX3_joined_194 : decode cX3_joined 194 = .ok (.lconst 1, 1) := by decide +kernel
theorem dX3_joined_195 : decode cX3_joined 195 = .ok (.goto 4, 3) := by decide +kernel
theorem dX3_joined_198 : decode cX3_joined 198 = .ok (.lconst 0, 1) := by decide +kernel
theorem dX3_joined_199 : decode cX3_joined 199 = .ok (.lreturn, 1) := by decide +kernel
theorem dX3_joined_200 : decode cX3_joined 200 = .ok (.lload_n 1, 1) := by decide +kernel
theorem dX3_joined_201 : decode cX3_joined 201 = .ok (.lload_n 3, 1) := by decide +kernel
theorem dX3_joined_202 : decode cX3_joined 202 = .ok (.lcmp, 1) := by decide +kernel
theorem dX3_joined_203 : decode cX3_joined 203 = .ok (.ifCond .lt 7, 3) := by decide +kernel
theorem dX3_joined_206 : decode cX3_joined 206 = .ok (.lconst 1, 1) := by decide +kernel
theorem dX3_joined_207 : decode cX3_joined 207 = .ok (.goto 4, 3) := by decide +kernel
theorem dX3_joined_210 : decode cX3_joined 210 = .ok (.lconst 0, 1) := by decide +kernel
theorem dX3_joined_211 : decode cX3_joined 211 = .ok (.lreturn, 1) := by decide +kernel
theorem dX3_joined_212 : decode cX3_joined 212 = .ok (.lload_n 1, 1) := by decide +kernel
theorem dX3_joined_213 : decode cX3_joined 213 = .ok (.lload_n 3, 1) := by decide +kernel
theorem dX3_joined_214 : decode cX3_joined 214 = .ok (.lcmp, 1) := by decide +kernel
theorem dX3_joined_215 : decode cX3_joined 215 = .ok (.ifCond .le 7, 3) := by decide +kernel
theorem dX3_joined_218 : decode cX3_joined 218 = .ok (.lconst 1, 1) := by decide +kernel
theorem dX3_joined_219 : decode cX3_joined 219 = .ok (.goto 4, 3) := by decide +kernel
theorem dX3_joined_222 : decode cX3_joined 222 = .ok (.lconst 0, 1) := by decide +kernel
theorem dX3_joined_223 : decode cX3_joined 223 = .ok (.lreturn, 1) := by decide +kernel
theorem dX3_joined_224 : decode cX3_joined 224 = .ok (.lload_n 1, 1) := by decide +kernel
theorem dX3_joined_225 : decode cX3_joined 225 = .ok (.lload_n 3, 1) := by decide +kernel
theorem dX3_joined_226 : decode cX3_joined 226 = .ok (.land, 1) := by decide +kernel
theorem dX3_joined_227 : decode cX3_joined 227 = .ok (.lreturn, 1) := by decide +kernel
theorem dX3_joined_228 : decode cX3_joined 228 = .ok (.lload_n 1, 1) := by decide +kernel
theorem dX3_joined_229 : decode cX3_joined 229 = .ok (.lload_n 3, 1) := by decide +kernel
theorem dX3_joined_230 : decode cX3_joined 230 = .ok (.lor, 1) := by decide +kernel
theorem dX3_joined_231 : decode cX3_joined 231 = .ok (.lreturn, 1) := by decide +kernel
theorem dX3_joined_232 : decode cX3_joined 232 = .ok (.lconst 0, 1) := by decide +kernel
theorem dX3_joined_233 : decode cX3_joined 233 = .ok (.lreturn, 1) := by decide +kernel
theorem dX4_init_0 : decode cX4_init 0 = .ok (.aload_n 0, 1) := by decide +kernel
theorem dX4_init_1 : decode cX4_init 1 = .ok (.invokespecial 3, 3) := by decide +kernel
theorem dX4_init_4 : decode cX4_init 4 = .ok (.aload_n 0, 1) := by decide +kernel
theorem dX4_init_5 : decode cX4_init 5 = .ok (.aload_n 1, 1) := by decide +kernel
theorem dX4_init_6 : decode cX4_init 6 = .ok (.putfield 9, 3) := by decide +kernel
theorem dX4_init_9 : decode cX4_init 9 = .ok (.aload_n 0, 1) := by decide +kernel
theorem dX4_init_10 : decode cX4_init 10 = .ok (.new 15, 3) := by decide +kernel
theorem dX4_init_13 : decode cX4_init 13 = .ok (.dup, 1) := by decide +kernel
theorem dX4_init_14 : decode cX4_init 14 = .ok (.invokespecial 17, 3) := by decide +kernel
theorem dX4_init_17 : decode cX4_init 17 = .ok (.putfield 18, 3) := by decide +kernel
theorem dX4_init_20 : decode cX4_init 20 = .ok (.return_, 1) := by decide +kernel
theorem dX4_read_0 : decode cX4_read 0 = .ok (.aload_n 0, 1) := by decide +kernel
theorem dX4_read_1 : decode cX4_read 1 = .ok (.aload_n 1, 1) := by decide +kernel
theorem dX4_read_2 : decode cX4_read 2 = .ok (.putfield 18, 3) := by decide +kernel
theorem dX4_read_5 : decode cX4_read 5 = .ok (.aload_n 0, 1) := by decide +kernel
theorem dX4_read_6 : decode cX4_read 6 = .ok (.getfield 18, 3) := by decide +kernel
theorem dX4_read_9 : decode cX4_read 9 = .ok (.invokevirtual 22, 3) := by decide +kernel
theorem dX4_read_12 : decode cX4_read 12 = .ok (.aload_n 0, 1) := by decide +kernel
theorem dX4_read_13 : decode cX4_read 13 = .ok (.iconst 0, 1) := by decide +kernel
theorem dX4_read_14 : decode cX4_read 14 = .ok (.putfield 25, 3) := by decide +kernel
theorem dX4_read_17 : decode cX4_read 17 = .ok (.iconst 0, 1) := by decide +kernel
theorem dX4_read_18 : decode cX4_read 18 = .ok (.istore_n 2, 1) := by decide +kernel
theorem dX4_read_19 : decode cX4_read 19 = .ok (.iload_n 2, 1) := by decide +kernel
theorem dX4_read_20 : decode cX4_read 20 = .ok (.bipush 12, 2) := by decide +kernel
theorem dX4_read_22 : decode cX4_read 22 = .ok (.if_icmp .gt 44, 3) := by decide +kernel
theorem dX4_read_25 : decode cX4_read 25 = .ok (.aload_n 0, 1) := by decide +kernel
theorem dX4_read_26 : decode cX4_read 26 = .ok (.getfield 9, 3) := by decide +kernel
theorem dX4_read_29 : decode cX4_read 29 = .ok (.getfield 29, 3) := by decide +kernel
theorem dX4_read_32 : decode cX4_read 32 = .ok (.ifCond .ne 34, 3) := by decide +kernel
theorem dX4_read_35 : decode cX4_read 35 = .ok (.aload_n 0, 1) := by decide +kernel
theorem dX4_read_36 : decode cX4_read 36 = .ok (.invokevirtual 34, 3) := by decide +kernel
theorem dX4_read_39 : decode cX4_read 39 = .ok (.aload_n 0, 1) := by decide +kernel
theorem dX4_read_40 : decode cX4_read 40 = .ok (.getfield 9, 3) := by decide +kernel
theorem dX4_read_43 : decode cX4_read 43 = .ok (.invokevirtual 37, 3) := by decide +kernel
theorem dX4_read_46 : decode cX4_read 46 = .ok (.iconst 3, 1) := by decide +kernel
theorem dX4_read_47 : decode cX4_read 47 = .ok (.if_icmp .eq 6, 3) := by decide +kernel
theorem dX4_read_50 : decode cX4_read 50 = .ok (.goto 16, 3) := by decide +kernel
theorem dX4_read_53 : decode cX4_read 53 = .ok (.aload_n 0, 1) := by decide +kernel
theorem dX4_read_54 : decode cX4_read 54 = .ok (.getfield 9, 3) := by decide +kernel
theorem dX4_read_57 : decode cX4_read 57 = .ok (.invokevirtual 41, 3) := by decide +kernel
theorem dX4_read_60 : decode cX4_read 60 = .ok (.iinc 2 1, 3) := by decide +kernel
theorem dX4_read_63 : decode cX4_read 63 = .ok (.goto (-44), 3) := by decide +kernel
theorem dX4_read_66 : decode cX4_read 66 = .ok (.aload_n 0, 1) := by decide +kernel
theorem dX4_read_67 : decode cX4_read 67 = .ok (.getfield 9, 3) := by decide +kernel
theorem dX4_read_70 : decode cX4_read 70 = .ok (.invokevirtual 37, 3) := by decide +kernel
theorem dX4_read_73 : decode cX4_read 73 = .ok (.ifCond .eq 11, 3) := by decide +kernel
theorem dX4_read_76 : decode cX4_read 76 = .ok (.aload_n 0, 1) := by decide +kernel
theorem dX4_read_77 : decode cX4_read 77 = .ok (.getfield 9, 3) := by decide +kernel
theorem dX4_read_80 : decode cX4_read 80 = .ok (.iconst 0, 1) := by decide +kernel
theorem dX4_read_81 : decode cX4_read 81 = .ok (.invokevirtual 44, 3) := by decide +kernel
theorem dX4_read_84 : decode cX4_read 84 = .ok (.aload_n 0, 1) := by decide +kernel
theorem dX4_read_85 : decode cX4_read 85 = .ok (.getfield 9, 3) := by decide +kernel
theorem dX4_read_88 : decode cX4_read 88 = .ok (.getfield 29, 3) := by decide +kernel
theorem dX4_read_91 : decode cX4_read 91 = .ok (.ireturn, 1) := by decide +kernel
theorem dX4_readClause_0 : decode cX4_readClause 0 = .ok (.aload_n 0, 1) := by decide +kernel
theorem dX4_readClause_1 : decode cX4_readClause 1 = .ok (.getfield 9, 3) := by decide +kernel
theorem dX4_readClause_4 : decode cX4_readClause 4 = .ok (.invokevirtual 37, 3) := by decide +kernel
theorem dX4_readClause_7 : decode cX4_readClause 7 = .ok (.istore_n 1, 1) := by decide +kernel
theorem dX4_readClause_8 : decode cX4_readClause 8 = .ok (.iload_n 1, 1) := by decide +kernel
theorem dX4_readClause_9 : decode cX4_readClause 9 = .ok (.bipush 16, 2) := by decide +kernel
theorem dX4_readClause_11 : decode cX4_readClause 11 = .ok (.if_icmp .eq 18, 3) := by decide +kernel
theorem dX4_readClause_14 : decode cX4_readClause 14 = .ok (.iload_n 1, 1) := by decide +kernel
theorem dX4_readClause_15 : decode cX4_readClause 15 = .ok (.bipush 17, 2) := by decide +kernel
theorem dX4_readClause_17 : decode cX4_readClause 17 = .ok (.if_icmp .eq 12, 3) := by decide +kernel
theorem dX4_readClause_20 : decode cX4_readClause 20 = .ok (.aload_n 0, 1) := by decide +kernel
theorem dX4_readClause_21 : decode cX4_readClause 21 = .ok (.getfield 9, 3) := by decide +kernel
theorem dX4_readClause_24 : decode cX4_readClause 24 = .ok (.iconst 0, 1) := by decide +kernel
theorem dX4_readClause_25 : decode cX4_readClause 25 = .ok (.invokevirtual 44, 3) := by decide +kernel
theorem dX4_readClause_28 : decode cX4_readClause 28 = .ok (.return_, 1) := by decide +kernel
theorem dX4_readClause_29 : decode cX4_readClause 29 = .ok (.aload_n 0, 1) := by decide +kernel
theorem dX4_readClause_30 : decode cX4_readClause 30 = .ok (.getfield 18, 3) := by decide +kernel
theorem dX4_readClause_33 : decode cX4_readClause 33 = .ok (.invokevirtual 48, 3) := by decide +kernel
theorem dX4_readClause_36 : decode cX4_readClause 36 = .ok (.ifCond .eq 12, 3) := by decide +kernel
theorem dX4_readClause_39 : decode cX4_readClause 39 = .ok (.aload_n 0, 1) := by decide +kernel
theorem dX4_readClause_40 : decode cX4_readClause 40 = .ok (.getfield 9, 3) := by decide +kernel
theorem dX4_readClause_43 : decode cX4_readClause 43 = .ok (.iconst 4, 1) := by decide +kernel
theorem dX4_readClause_44 : decode cX4_readClause 44 = .ok (.invokevirtual 44, 3) := by decide +kernel
theorem dX4_readClause_47 : decode cX4_readClause 47 = .ok (.return_, 1) := by decide +kernel
theorem dX4_readClause_48 : decode cX4_readClause 48 = .ok (.aload_n 0, 1) := by decide +kernel
theorem dX4_readClause_49 : decode cX4_readClause 49 = .ok (.getfield 9, 3) := by decide +kernel
theorem dX4_readClause_52 : decode cX4_readClause 52 = .ok (.invokevirtual 41, 3) := by decide +kernel
theorem dX4_readClause_55 : decode cX4_readClause 55 = .ok (.aload_n 0, 1) := by decide +kernel
theorem dX4_readClause_56 : decode cX4_readClause 56 = .ok (.getfield 18, 3) := by decide +kernel
theorem dX4_readClause_59 : decode cX4_readClause 59 = .ok (.getfield 52, 3) := by decide +kernel
theorem dX4_readClause_62 : decode cX4_readClause 62 = .ok (.istore_n 2, 1) := by decide +kernel
theorem dX4_readClause_63 : decode cX4_readClause 63 = .ok (.aload_n 0, 1) := by decide +kernel
theorem dX4_readClause_64 : decode cX4_readClause 64 = .ok (.invokevirtual 55, 3) := by decide +kernel
theorem dX4_readClause_67 : decode cX4_readClause 67 = .ok (.aload_n 0, 1) := by decide +kernel
theorem dX4_readClause_68 : decode cX4_readClause 68 = .ok (.getfield 18, 3) := by decide +kernel
theorem dX4_readClause_71 : decode cX4_readClause 71 = .ok (.getfield 52, 3) := by decide +kernel
theorem dX4_readClause_74 : decode cX4_readClause 74 = .ok (.istore_n 3, 1) := by decide +kernel
theorem dX4_readClause_75 : decode cX4_readClause 75 = .ok (.aload_n 0, 1) := by decide +kernel
theorem dX4_readClause_76 : decode cX4_readClause 76 = .ok (.getfield 9, 3) := by decide +kernel
theorem dX4_readClause_79 : decode cX4_readClause 79 = .ok (.getfield 29, 3) := by decide +kernel
theorem dX4_readClause_82 : decode cX4_readClause 82 = .ok (.ifCond .ne 27, 3) := by decide +kernel
theorem dX4_readClause_85 : decode cX4_readClause 85 = .ok (.aload_n 0, 1) := by decide +kernel
theorem dX4_readClause_86 : decode cX4_readClause 86 = .ok (.getfield 9, 3) := by decide +kernel
theorem dX4_readClause_89 : decode cX4_readClause 89 = .ok (.invokevirtual 37, 3) := by decide +kernel
theorem dX4_readClause_92 : decode cX4_readClause 92 = .ok (.bipush 29, 2) := by decide +kernel
theorem dX4_readClause_94 : decode cX4_readClause 94 = .ok (.if_icmp .ne 15, 3) := by decide +kernel
theorem dX4_readClause_97 : decode cX4_readClause 97 = .ok (.aload_n 0, 1) := by decide +kernel
theorem dX4_readClause_98 : decode cX4_readClause 98 = .ok (.getfield 9, 3) := by decide +kernel
theorem dX4_readClause_101 : decode cX4_readClause 101 = .ok (.invokevirtual 41, 3) := by decide +kernel
theorem dX4_readClause_104 : decode cX4_readClause 104 = .ok (.aload_n 0, 1) := by decide +kernel
theorem dX4_readClause_105 : decode cX4_readClause 105 = .ok (.iconst 0, 1) := by decide +kernel
theorem dX4_readClause_106 : decode cX4_readClause 106 = .ok (.invokevirtual 58, 3) := by decide +kernel
theorem dX4_readClause_109 : decode cX4_readClause 109 = .ok (.aload_n 0, 1) := by decide +kernel
theorem dX4_readClause_110 : decode cX4_readClause 110 = .ok (.getfield 18, 3) := by decide +kernel
theorem dX4_readClause_113 : decode cX4_readClause 113 = .ok (.iload_n 1, 1) := by decide +kernel
theorem dX4_readClause_114 : decode cX4_readClause 114 = .ok (.iload_n 2, 1) := by decide +kernel
theorem dX4_readClause_115 : decode cX4_readClause 115 = .ok (.iload_n 3, 1) := by decide +kernel
theorem dX4_readClause_116 : decode cX4_readClause 116 = .ok (.invokevirtual 61, 3) := by decide +kernel
theorem dX4_readClause_119 : decode cX4_readClause 119 = .ok (.return_, 1) := by decide +kernel
theorem dX4_readSum_0 : decode cX4_readSum 0 = .ok (.iconst 0, 1) := by decide +kernel
theorem dX4_readSum_1 : decode cX4_readSum 1 = .ok (.istore_n 1, 1) := by decide +kernel
theorem dX4_readSum_2 : decode cX4_readSum 2 = .ok (.aload_n 0, 1) := by decide +kernel
theorem dX4_readSum_3 : decode cX4_readSum 3 = .ok (.invokevirtual 65, 3) := by decide +kernel
theorem dX4_readSum_6 : decode cX4_readSum 6 = .ok (.iconst 0, 1) := by decide +kernel
theorem dX4_readSum_7 : decode cX4_readSum 7 = .ok (.istore_n 2, 1) := by decide +kernel
theorem dX4_readSum_8 : decode cX4_readSum 8 = .ok (.iload_n 2, 1) := by decide +kernel
theorem dX4_readSum_9 : decode cX4_readSum 9 = .ok (.sipush 400, 3) := by decide +kernel
theorem dX4_readSum_12 : decode cX4_readSum 12 = .ok (.if_icmp .ge 90, 3) := by decide +kernel
theorem dX4_readSum_15 : decode cX4_readSum 15 = .ok (.aload_n 0, 1) := by decide +kernel
theorem dX4_readSum_16 : decode cX4_readSum 16 = .ok (.getfield 9, 3) := by decide +kernel
theorem dX4_readSum_19 : decode cX4_readSum 19 = .ok (.getfield 29, 3) := by decide +kernel
theorem dX4_readSum_22 : decode cX4_readSum 22 = .ok (.ifCond .ne 80, 3) := by decide +kernel
theorem dX4_readSum_25 : decode cX4_readSum 25 = .ok (.aload_n 0, 1) := by decide +kernel
theorem dX4_readSum_26 : decode cX4_readSum 26 = .ok (.getfield 9, 3) := by decide +kernel
theorem dX4_readSum_29 : decode cX4_readSum 29 = .ok (.invokevirtual 37, 3) := by decide +kernel
theorem dX4_readSum_32 : decode cX4_readSum 32 = .ok (.istore_n 3, 1) := by decide +kernel
theorem dX4_readSum_33 : decode cX4_readSum 33 = .ok (.iload_n 3, 1) := by decide +kernel
theorem dX4_readSum_34 : decode cX4_readSum 34 = .ok (.bipush 6, 2) := by decide +kernel
theorem dX4_readSum_36 : decode cX4_readSum 36 = .ok (.if_icmp .lt 66, 3) := by decide +kernel
theorem dX4_readSum_39 : decode cX4_readSum 39 = .ok (.iload_n 3, 1) := by decide +kernel
theorem dX4_readSum_40 : decode cX4_readSum 40 = .ok (.bipush 10, 2) := by decide +kernel
theorem dX4_readSum_42 : decode cX4_readSum 42 = .ok (.if_icmp .le 6, 3) := by decide +kernel
theorem dX4_readSum_45 : decode cX4_readSum 45 = .ok (.goto 57, 3) := by decide +kernel
theorem dX4_readSum_48 : decode cX4_readSum 48 = .ok (.aload_n 0, 1) := by decide +kernel
theorem dX4_readSum_49 : decode cX4_readSum 49 = .ok (.getfield 9, 3) := by decide +kernel
theorem dX4_readSum_52 : decode cX4_readSum 52 = .ok (.invokevirtual 41, 3) := by decide +kernel
theorem dX4_readSum_55 : decode cX4_readSum 55 = .ok (.iload_n 3, 1) := by decide +kernel
theorem dX4_readSum_56 : decode cX4_readSum 56 = .ok (.bipush 6, 2) := by decide +kernel
theorem dX4_readSum_58 : decode cX4_readSum 58 = .ok (.if_icmp .eq 9, 3) := by decide +kernel
theorem dX4_readSum_61 : decode cX4_readSum 61 = .ok (.iload_n 3, 1) := by decide +kernel
theorem dX4_readSum_62 : decode cX4_readSum 62 = .ok (.bipush 7, 2) := by decide +kernel
theorem dX4_readSum_64 : decode cX4_readSum 64 = .ok (.if_icmp .ne 20, 3) := by decide +kernel
theorem dX4_readSum_67 : decode cX4_readSum 67 = .ok (.aload_n 0, 1) := by decide +kernel
theorem dX4_readSum_68 : decode cX4_readSum 68 = .ok (.getfield 18, 3) := by decide +kernel
theorem dX4_readSum_71 : decode cX4_readSum 71 = .ok (.iload_n 1, 1) := by decide +kernel
theorem dX4_readSum_72 : decode cX4_readSum 72 = .ok (.invokevirtual 68, 3) := by decide +kernel
theorem dX4_readSum_75 : decode cX4_readSum 75 = .ok (.iload_n 3, 1) := by decide +kernel
theorem dX4_readSum_76 : decode cX4_readSum 76 = .ok (.istore_n 1, 1) := by decide +kernel
theorem dX4_readSum_77 : decode cX4_readSum 77 = .ok (.aload_n 0, 1) := by decide +kernel
theorem dX4_readSum_78 : decode cX4_readSum 78 = .ok (.invokevirtual 65, 3) := by decide +kernel
theorem dX4_readSum_81 : decode cX4_readSum 81 = .ok (.goto 15, 3) := by decide +kernel
theorem dX4_readSum_84 : decode cX4_readSum 84 = .ok (.aload_n 0, 1) := by decide +kernel
theorem dX4_readSum_85 : decode cX4_readSum 85 = .ok (.invokevirtual 65, 3) := by decide +kernel
theorem dX4_readSum_88 : decode cX4_readSum 88 = .ok (.aload_n 0, 1) := by decide +kernel
theorem dX4_readSum_89 : decode cX4_readSum 89 = .ok (.getfield 18, 3) := by decide +kernel
theorem dX4_readSum_92 : decode cX4_readSum 92 = .ok (.iload_n 3, 1) := by decide +kernel
theorem dX4_readSum_93 : decode cX4_readSum 93 = .ok (.invokevirtual 68, 3) := by decide +kernel
theorem dX4_readSum_96 : decode cX4_readSum 96 = .ok (.iinc 2 1, 3) := by decide +kernel
theorem dX4_readSum_99 : decode cX4_readSum 99 = .ok (.goto (-91), 3) := by decide +kernel
theorem dX4_readSum_102 : decode cX4_readSum 102 = .ok (.aload_n 0, 1) := by decide +kernel
theorem dX4_readSum_103 : decode cX4_readSum 103 = .ok (.getfield 18, 3) := by decide +kernel
theorem dX4_readSum_106 : decode cX4_readSum 106 = .ok (.iload_n 1, 1) := by decide +kernel
theorem dX4_readSum_107 : decode cX4_readSum 107 = .ok (.invokevirtual 68, 3) := by decide +kernel
theorem dX4_readSum_110 : decode cX4_readSum 110 = .ok (.return_, 1) := by decide +kernel
theorem dX4_readValue_0 : decode cX4_readValue 0 = .ok (.aload_n 0, 1) := by decide +kernel
theorem dX4_readValue_1 : decode cX4_readValue 1 = .ok (.getfield 9, 3) := by decide +kernel
theorem dX4_readValue_4 : decode cX4_readValue 4 = .ok (.invokevirtual 37, 3) := by decide +kernel
theorem dX4_readValue_7 : decode cX4_readValue 7 = .ok (.istore_n 1, 1) := by decide +kernel
theorem dX4_readValue_8 : decode cX4_readValue 8 = .ok (.iload_n 1, 1) := by decide +kernel
theorem dX4_readValue_9 : decode cX4_readValue 9 = .ok (.iconst 2, 1) := by decide +kernel
theorem dX4_readValue_10 : decode cX4_readValue 10 = .ok (.if_icmp .ne 7, 3) := by decide +kernel
theorem dX4_readValue_13 : decode cX4_readValue 13 = .ok (.iconst 1, 1) := by decide +kernel
theorem dX4_readValue_14 : decode cX4_readValue 14 = .ok (.goto 4, 3) := by decide +kernel
theorem dX4_readValue_17 : decode cX4_readValue 17 = .ok (.iconst 0, 1) := by decide +kernel
theorem dX4_readValue_18 : decode cX4_readValue 18 = .ok (.istore_n 2, 1) := by decide +kernel
theorem dX4_readValue_19 : decode cX4_readValue 19 = .ok (.iload_n 2, 1) := by decide +kernel
theorem dX4_readValue_20 : decode cX4_readValue 20 = .ok (.ifCond .ne 26, 3) := by decide +kernel
theorem dX4_readValue_23 : decode cX4_readValue 23 = .ok (.iload_n 1, 1) := by decide +kernel
theorem dX4_readValue_24 : decode cX4_readValue 24 = .ok (.bipush 16, 2) := by decide +kernel
theorem dX4_readValue_26 : decode cX4_readValue 26 = .ok (.if_icmp .lt 9, 3) := by decide +kernel
theorem dX4_readValue_29 : decode cX4_readValue 29 = .ok (.iload_n 1, 1) := by decide +kernel
theorem dX4_readValue_30 : decode cX4_readValue 30 = .ok (.bipush 25, 2) := by decide +kernel
theorem dX4_readValue_32 : decode cX4_readValue 32 = .ok (.if_icmp .le 14, 3) := by decide +kernel
theorem dX4_readValue_35 : decode cX4_readValue 35 = .ok (.aload_n 0, 1) := by decide +kernel
theorem dX4_readValue_36 : decode cX4_readValue 36 = .ok (.getfield 9, 3) := by decide +kernel
theorem dX4_readValue_39 : decode cX4_readValue 39 = .ok (.iconst 0, 1) := by decide +kernel
theorem dX4_readValue_40 : decode cX4_readValue 40 = .ok (.invokevirtual 44, 3) := by decide +kernel
theorem dX4_readValue_43 : decode cX4_readValue 43 = .ok (.goto 94, 3) := by decide +kernel
theorem dX4_readValue_46 : decode cX4_readValue 46 = .ok (.iload_n 2, 1) := by decide +kernel
theorem dX4_readValue_47 : decode cX4_readValue 47 = .ok (.ifCond .eq 24, 3) := by decide +kernel
theorem dX4_readValue_50 : decode cX4_readValue 50 = .ok (.aload_n 0, 1) := by decide +kernel
theorem dX4_readValue_51 : decode cX4_readValue 51 = .ok (.getfield 9, 3) := by decide +kernel
theorem dX4_readValue_54 : decode cX4_readValue 54 = .ok (.invokevirtual 71, 3) := by decide +kernel
theorem dX4_readValue_57 : decode cX4_readValue 57 = .ok (.ifCond .ge 14, 3) := by decide +kernel
theorem dX4_readValue_60 : decode cX4_readValue 60 = .ok (.aload_n 0, 1) := by decide +kernel
theorem dX4_readValue_61 : decode cX4_readValue 61 = .ok (.getfield 9, 3) := by decide +kernel
theorem dX4_readValue_64 : decode cX4_readValue 64 = .ok (.iconst 1, 1) := by decide +kernel
theorem dX4_readValue_65 : decode cX4_readValue 65 = .ok (.invokevirtual 44, 3) := by decide +kernel
theorem dX4_readValue_68 : decode cX4_readValue 68 = .ok (.goto 69, 3) := by decide +kernel
theorem dX4_readValue_71 : decode cX4_readValue 71 = .ok (.aload_n 0, 1) := by decide +kernel
theorem dX4_readValue_72 : decode cX4_readValue 72 = .ok (.getfield 25, 3) := by decide +kernel
theorem dX4_readValue_75 : decode cX4_readValue 75 = .ok (.bipush 60, 2) := by decide +kernel
theorem dX4_readValue_77 : decode cX4_readValue 77 = .ok (.if_icmp .lt 14, 3) := by decide +kernel
theorem dX4_readValue_80 : decode cX4_readValue 80 = .ok (.aload_n 0, 1) := by decide +kernel
theorem dX4_readValue_81 : decode cX4_readValue 81 = .ok (.getfield 9, 3) := by decide +kernel
theorem dX4_readValue_84 : decode cX4_readValue 84 = .ok (.iconst 3, 1) := by decide +kernel
theorem dX4_readValue_85 : decode cX4_readValue 85 = .ok (.invokevirtual 44, 3) := by decide +kernel
theorem dX4_readValue_88 : decode cX4_readValue 88 = .ok (.goto 49, 3) := by decide +kernel
theorem dX4_readValue_91 : decode cX4_readValue 91 = .ok (.aload_n 0, 1) := by decide +kernel
theorem dX4_readValue_92 : decode cX4_readValue 92 = .ok (.dup, 1) := by decide +kernel
theorem dX4_readValue_93 : decode cX4_readValue 93 = .ok (.getfield 25, 3) := by decide +kernel
theorem dX4_readValue_96 : decode cX4_readValue 96 = .ok (.iconst 1, 1) := by decide +kernel
theorem dX4_readValue_97 : decode cX4_readValue 97 = .ok (.iadd, 1) := by decide +kernel
theorem dX4_readValue_98 : decode cX4_readValue 98 = .ok (.putfield 25, 3) := by decide +kernel
theorem dX4_readValue_101 : decode cX4_readValue 101 = .ok (.iload_n 2, 1) := by decide +kernel
theorem dX4_readValue_102 : decode cX4_readValue 102 = .ok (.ifCond .eq 20, 3) := by decide +kernel
theorem dX4_readValue_105 : decode cX4_readValue 105 = .ok (.aload_n 0, 1) := by decide +kernel
theorem dX4_readValue_106 : decode cX4_readValue 106 = .ok (.getfield 18, 3) := by decide +kernel
theorem dX4_readValue_109 : decode cX4_readValue 109 = .ok (.aload_n 0, 1) := by decide +kernel
theorem dX4_readValue_110 : decode cX4_readValue 110 = .ok (.getfield 9, 3) := by decide +kernel
theorem dX4_readValue_113 : decode cX4_readValue 113 = .ok (.invokevirtual 71, 3) := by decide +kernel
theorem dX4_readValue_116 : decode cX4_readValue 116 = .ok (.invokevirtual 74, 3) := by decide +kernel
theorem dX4_readValue_119 : decode cX4_readValue 119 = .ok (.goto 11, 3) := by decide +kernel
theorem dX4_readValue_122 : decode cX4_readValue 122 = .ok (.aload_n 0, 1) := by decide +kernel
theorem dX4_readValue_123 : decode cX4_readValue 123 = .ok (.getfield 18, 3) := by decide +kernel
theorem dX4_readValue_126 : decode cX4_readValue 126 = .ok (.iload_n 1, 1) := by decide +kernel
theorem dX4_readValue_127 : decode cX4_readValue 127 = .ok (.invokevirtual 68, 3) := by decide +kernel
theorem dX4_readValue_130 : decode cX4_readValue 130 = .ok (.aload_n 0, 1) := by decide +kernel
theorem dX4_readValue_131 : decode cX4_readValue 131 = .ok (.getfield 9, 3) := by decide +kernel
theorem dX4_readValue_134 : decode cX4_readValue 134 = .ok (.invokevirtual 41, 3) := by decide +kernel
theorem dX4_readValue_137 : decode cX4_readValue 137 = .ok (.return_, 1) := by decide +kernel
theorem dX4_readTest_0 : decode cX4_readTest 0 = .ok (.iconst 0, 1) := by decide +kernel
theorem dX4_readTest_1 : decode cX4_readTest 1 = .ok (.istore_n 2, 1) := by decide +kernel
theorem dX4_readTest_2 : decode cX4_readTest 2 = .ok (.aload_n 0, 1) := by decide +kernel
theorem dX4_readTest_3 : decode cX4_readTest 3 = .ok (.iload_n 1, 1) := by decide +kernel
theorem dX4_readTest_4 : decode cX4_readTest 4 = .ok (.invokevirtual 77, 3) := by decide +kernel
theorem dX4_readTest_7 : decode cX4_readTest 7 = .ok (.iconst 0, 1) := by decide +kernel
theorem dX4_readTest_8 : decode cX4_readTest 8 = .ok (.istore_n 3, 1) := by decide +kernel
theorem dX4_readTest_9 : decode cX4_readTest 9 = .ok (.iload_n 3, 1) := by decide +kernel
theorem dX4_readTest_10 : decode cX4_readTest 10 = .ok (.sipush 400, 3) := by decide +kernel
theorem dX4_readTest_13 : decode cX4_readTest 13 = .ok (.if_icmp .ge 92, 3) := by decide +kernel
theorem dX4_readTest_16 : decode cX4_readTest 16 = .ok (.aload_n 0, 1) := by decide +kernel
theorem dX4_readTest_17 : decode cX4_readTest 17 = .ok (.getfield 9, 3) := by decide +kernel
theorem dX4_readTest_20 : decode cX4_readTest 20 = .ok (.getfield 29, 3) := by decide +kernel
theorem dX4_readTest_23 : decode cX4_readTest 23 = .ok (.ifCond .ne 82, 3) := by decide +kernel
theorem dX4_readTest_26 : decode cX4_readTest 26 = .ok (.aload_n 0, 1) := by decide +kernel
theorem dX4_readTest_27 : decode cX4_readTest 27 = .ok (.getfield 9, 3) := by decide +kernel
theorem dX4_readTest_30 : decode cX4_readTest 30 = .ok (.invokevirtual 37, 3) := by decide +kernel
theorem dX4_readTest_33 : decode cX4_readTest 33 = .ok (.istore 4, 2) := by decide +kernel
theorem dX4_readTest_35 : decode cX4_readTest 35 = .ok (.iload 4, 2) := by decide +kernel
theorem dX4_readTest_37 : decode cX4_readTest 37 = .ok (.bipush 31, 2) := by decide +kernel
theorem dX4_readTest_39 : decode cX4_readTest 39 = .ok (.if_icmp .eq 13, 3) := by decide +kernel
theorem dX4_readTest_42 : decode cX4_readTest 42 = .ok (.iload 4, 2) := by decide +kernel
theorem dX4_readTest_44 : decode cX4_readTest 44 = .ok (.bipush 32, 2) := by decide +kernel
theorem dX4_readTest_46 : decode cX4_readTest 46 = .ok (.if_icmp .eq 6, 3) := by decide +kernel
theorem dX4_readTest_49 : decode cX4_readTest 49 = .ok (.goto 56, 3) := by decide +kernel
theorem dX4_readTest_52 : decode cX4_readTest 52 = .ok (.aload_n 0, 1) := by decide +kernel
theorem dX4_readTest_53 : decode cX4_readTest 53 = .ok (.getfield 9, 3) := by decide +kernel
theorem dX4_readTest_56 : decode cX4_readTest 56 = .ok (.invokevirtual 41, 3) := by decide +kernel
theorem dX4_readTest_59 : decode cX4_readTest 59 = .ok (.iload 4, 2) := by decide +kernel
theorem dX4_readTest_61 : decode cX4_readTest 61 = .ok (.bipush 32, 2) := by decide +kernel
theorem dX4_readTest_63 : decode cX4_readTest 63 = .ok (.if_icmp .ne 22, 3) := by decide +kernel
theorem dX4_readTest_66 : decode cX4_readTest 66 = .ok (.aload_n 0, 1) := by decide +kernel
theorem dX4_readTest_67 : decode cX4_readTest 67 = .ok (.getfield 18, 3) := by decide +kernel
theorem dX4_readTest_70 : decode cX4_readTest 70 = .ok (.iload_n 2, 1) := by decide +kernel
theorem dX4_readTest_71 : decode cX4_readTest 71 = .ok (.invokevirtual 68, 3) := by decide +kernel
theorem dX4_readTest_74 : decode cX4_readTest 74 = .ok (.iload 4, 2) := by decide +kernel
theorem dX4_readTest_76 : decode cX4_readTest 76 = .ok (.istore_n 2, 1) := by decide +kernel
theorem dX4_readTest_77 : decode cX4_readTest 77 = .ok (.aload_n 0, 1) := by decide +kernel
theorem dX4_readTest_78 : decode cX4_readTest 78 = .ok (.iload_n 1, 1) := by decide +kernel
theorem dX4_readTest_79 : decode cX4_readTest 79 = .ok (.invokevirtual 77, 3) := by decide +kernel
theorem dX4_readTest_82 : decode cX4_readTest 82 = .ok (.goto 17, 3) := by decide +kernel
theorem dX4_readTest_85 : decode cX4_readTest 85 = .ok (.aload_n 0, 1) := by decide +kernel
theorem dX4_readTest_86 : decode cX4_readTest 86 = .ok (.iload_n 1, 1) := by decide +kernel
