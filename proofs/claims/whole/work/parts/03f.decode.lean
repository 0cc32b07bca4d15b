theorem dX10_pay_11 : decode cX10_pay 11 = .ok (.aload_n 0, 1) := by decide +kernel
theorem dX10_pay_12 : decode cX10_pay 12 = .ok (.iload_n 2, 1) := by decide +kernel
theorem dX10_pay_13 : decode cX10_pay 13 = .ok (.invokevirtual 153, 3) := by decide +kernel
theorem dX10_pay_16 : decode cX10_pay 16 = .ok (.ifCond .eq 11, 3) := by decide +kernel
theorem dX10_pay_19 : decode cX10_pay 19 = .ok (.iload 5, 2) := by decide +kernel
theorem dX10_pay_21 : decode cX10_pay 21 = .ok (.invokestatic 240, 3) := by decide +kernel
theorem dX10_pay_24 : decode cX10_pay 24 = .ok (.ifCond .ne 5, 3) := by decide +kernel
theorem dX10_pay_27 : decode cX10_pay 27 = .ok (.iconst (-1), 1) := by decide +kernel
theorem dX10_pay_28 : decode cX10_pay 28 = .ok (.ireturn, 1) := by decide +kernel
theorem dX10_pay_29 : decode cX10_pay 29 = .ok (.iload 6, 2) := by decide +kernel
theorem dX10_pay_31 : decode cX10_pay 31 = .ok (.ifCond .lt 9, 3) := by decide +kernel
theorem dX10_pay_34 : decode cX10_pay 34 = .ok (.iload 6, 2) := by decide +kernel
theorem dX10_pay_36 : decode cX10_pay 36 = .ok (.iconst 2, 1) := by decide +kernel
theorem dX10_pay_37 : decode cX10_pay 37 = .ok (.if_icmp .le 5, 3) := by decide +kernel
theorem dX10_pay_40 : decode cX10_pay 40 = .ok (.iconst (-1), 1) := by decide +kernel
theorem dX10_pay_41 : decode cX10_pay 41 = .ok (.ireturn, 1) := by decide +kernel
theorem dX10_pay_42 : decode cX10_pay 42 = .ok (.aload_n 0, 1) := by decide +kernel
theorem dX10_pay_43 : decode cX10_pay 43 = .ok (.getfield 69, 3) := by decide +kernel
theorem dX10_pay_46 : decode cX10_pay 46 = .ok (.aload_n 0, 1) := by decide +kernel
theorem dX10_pay_47 : decode cX10_pay 47 = .ok (.getfield 38, 3) := by decide +kernel
theorem dX10_pay_50 : decode cX10_pay 50 = .ok (.iload_n 1, 1) := by decide +kernel
theorem dX10_pay_51 : decode cX10_pay 51 = .ok (.aaload, 1) := by decide +kernel
theorem dX10_pay_52 : decode cX10_pay 52 = .ok (.iload_n 2, 1) := by decide +kernel
theorem dX10_pay_53 : decode cX10_pay 53 = .ok (.invokevirtual 183, 3) := by decide +kernel
theorem dX10_pay_56 : decode cX10_pay 56 = .ok (.aload_n 0, 1) := by decide +kernel
theorem dX10_pay_57 : decode cX10_pay 57 = .ok (.getfield 78, 3) := by decide +kernel
theorem dX10_pay_60 : decode cX10_pay 60 = .ok (.iload_n 3, 1) := by decide +kernel
theorem dX10_pay_61 : decode cX10_pay 61 = .ok (.iload 4, 2) := by decide +kernel
theorem dX10_pay_63 : decode cX10_pay 63 = .ok (.iload 5, 2) := by decide +kernel
theorem dX10_pay_65 : decode cX10_pay 65 = .ok (.invokevirtual 243, 3) := by decide +kernel
theorem dX10_pay_68 : decode cX10_pay 68 = .ok (.ifCond .ne 6, 3) := by decide +kernel
theorem dX10_pay_71 : decode cX10_pay 71 = .ok (.bipush (-2), 2) := by decide +kernel
theorem dX10_pay_73 : decode cX10_pay 73 = .ok (.ireturn, 1) := by decide +kernel
theorem dX10_pay_74 : decode cX10_pay 74 = .ok (.iload 6, 2) := by decide +kernel
theorem dX10_pay_76 : decode cX10_pay 76 = .ok (.lookupswitch 44 #[(0, 28), (1, 36)], 28) := by decide +kernel
theorem dX10_pay_104 : decode cX10_pay 104 = .ok (.aload_n 0, 1) := by decide +kernel
theorem dX10_pay_105 : decode cX10_pay 105 = .ok (.getfield 78, 3) := by decide +kernel
theorem dX10_pay_108 : decode cX10_pay 108 = .ok (.invokevirtual 246, 3) := by decide +kernel
theorem dX10_pay_111 : decode cX10_pay 111 = .ok (.ireturn, 1) := by decide +kernel
theorem dX10_pay_112 : decode cX10_pay 112 = .ok (.aload_n 0, 1) := by decide +kernel
theorem dX10_pay_113 : decode cX10_pay 113 = .ok (.getfield 78, 3) := by decide +kernel
theorem dX10_pay_116 : decode cX10_pay 116 = .ok (.getfield 249, 3) := by decide +kernel
theorem dX10_pay_119 : decode cX10_pay 119 = .ok (.ireturn, 1) := by decide +kernel
theorem dX10_pay_120 : decode cX10_pay 120 = .ok (.aload_n 0, 1) := by decide +kernel
theorem dX10_pay_121 : decode cX10_pay 121 = .ok (.getfield 78, 3) := by decide +kernel
theorem dX10_pay_124 : decode cX10_pay 124 = .ok (.getfield 252, 3) := by decide +kernel
theorem dX10_pay_127 : decode cX10_pay 127 = .ok (.ireturn, 1) := by decide +kernel
theorem dX10_done_0 : decode cX10_done 0 = .ok (.aload_n 0, 1) := by decide +kernel
theorem dX10_done_1 : decode cX10_done 1 = .ok (.iload_n 1, 1) := by decide +kernel
theorem dX10_done_2 : decode cX10_done 2 = .ok (.iload_n 3, 1) := by decide +kernel
theorem dX10_done_3 : decode cX10_done 3 = .ok (.iload 4, 2) := by decide +kernel
theorem dX10_done_5 : decode cX10_done 5 = .ok (.invokevirtual 237, 3) := by decide +kernel
theorem dX10_done_8 : decode cX10_done 8 = .ok (.ifCond .eq 19, 3) := by decide +kernel
theorem dX10_done_11 : decode cX10_done 11 = .ok (.aload_n 0, 1) := by decide +kernel
theorem dX10_done_12 : decode cX10_done 12 = .ok (.iload_n 2, 1) := by decide +kernel
theorem dX10_done_13 : decode cX10_done 13 = .ok (.invokevirtual 153, 3) := by decide +kernel
theorem dX10_done_16 : decode cX10_done 16 = .ok (.ifCond .eq 11, 3) := by decide +kernel
theorem dX10_done_19 : decode cX10_done 19 = .ok (.iload 5, 2) := by decide +kernel
theorem dX10_done_21 : decode cX10_done 21 = .ok (.invokestatic 240, 3) := by decide +kernel
theorem dX10_done_24 : decode cX10_done 24 = .ok (.ifCond .ne 5, 3) := by decide +kernel
theorem dX10_done_27 : decode cX10_done 27 = .ok (.iconst (-1), 1) := by decide +kernel
theorem dX10_done_28 : decode cX10_done 28 = .ok (.ireturn, 1) := by decide +kernel
theorem dX10_done_29 : decode cX10_done 29 = .ok (.aload_n 0, 1) := by decide +kernel
theorem dX10_done_30 : decode cX10_done 30 = .ok (.getfield 69, 3) := by decide +kernel
theorem dX10_done_33 : decode cX10_done 33 = .ok (.aload_n 0, 1) := by decide +kernel
theorem dX10_done_34 : decode cX10_done 34 = .ok (.getfield 38, 3) := by decide +kernel
theorem dX10_done_37 : decode cX10_done 37 = .ok (.iload_n 1, 1) := by decide +kernel
theorem dX10_done_38 : decode cX10_done 38 = .ok (.aaload, 1) := by decide +kernel
theorem dX10_done_39 : decode cX10_done 39 = .ok (.iload_n 2, 1) := by decide +kernel
theorem dX10_done_40 : decode cX10_done 40 = .ok (.invokevirtual 183, 3) := by decide +kernel
theorem dX10_done_43 : decode cX10_done 43 = .ok (.aload_n 0, 1) := by decide +kernel
theorem dX10_done_44 : decode cX10_done 44 = .ok (.getfield 78, 3) := by decide +kernel
theorem dX10_done_47 : decode cX10_done 47 = .ok (.iload_n 3, 1) := by decide +kernel
theorem dX10_done_48 : decode cX10_done 48 = .ok (.iload 4, 2) := by decide +kernel
theorem dX10_done_50 : decode cX10_done 50 = .ok (.iload 5, 2) := by decide +kernel
theorem dX10_done_52 : decode cX10_done 52 = .ok (.invokevirtual 243, 3) := by decide +kernel
theorem dX10_done_55 : decode cX10_done 55 = .ok (.ifCond .ne 6, 3) := by decide +kernel
theorem dX10_done_58 : decode cX10_done 58 = .ok (.bipush (-2), 2) := by decide +kernel
theorem dX10_done_60 : decode cX10_done 60 = .ok (.ireturn, 1) := by decide +kernel
theorem dX10_done_61 : decode cX10_done 61 = .ok (.aload_n 0, 1) := by decide +kernel
theorem dX10_done_62 : decode cX10_done 62 = .ok (.getfield 45, 3) := by decide +kernel
theorem dX10_done_65 : decode cX10_done 65 = .ok (.getfield 63, 3) := by decide +kernel
theorem dX10_done_68 : decode cX10_done 68 = .ok (.aload_n 0, 1) := by decide +kernel
theorem dX10_done_69 : decode cX10_done 69 = .ok (.getfield 78, 3) := by decide +kernel
theorem dX10_done_72 : decode cX10_done 72 = .ok (.getfield 249, 3) := by decide +kernel
theorem dX10_done_75 : decode cX10_done 75 = .ok (.aload_n 0, 1) := by decide +kernel
theorem dX10_done_76 : decode cX10_done 76 = .ok (.getfield 78, 3) := by decide +kernel
theorem dX10_done_79 : decode cX10_done 79 = .ok (.getfield 252, 3) := by decide +kernel
theorem dX10_done_82 : decode cX10_done 82 = .ok (.ior, 1) := by decide +kernel
theorem dX10_done_83 : decode cX10_done 83 = .ok (.invokevirtual 168, 3) := by decide +kernel
theorem dX10_done_86 : decode cX10_done 86 = .ok (.ifCond .ne 6, 3) := by decide +kernel
theorem dX10_done_89 : decode cX10_done 89 = .ok (.bipush (-2), 2) := by decide +kernel
theorem dX10_done_91 : decode cX10_done 91 = .ok (.ireturn, 1) := by decide +kernel
theorem dX10_done_92 : decode cX10_done 92 = .ok (.aload_n 0, 1) := by decide +kernel
theorem dX10_done_93 : decode cX10_done 93 = .ok (.getfield 45, 3) := by decide +kernel
theorem dX10_done_96 : decode cX10_done 96 = .ok (.getfield 63, 3) := by decide +kernel
theorem dX10_done_99 : decode cX10_done 99 = .ok (.aload_n 0, 1) := by decide +kernel
theorem dX10_done_100 : decode cX10_done 100 = .ok (.getfield 78, 3) := by decide +kernel
theorem dX10_done_103 : decode cX10_done 103 = .ok (.getfield 249, 3) := by decide +kernel
theorem dX10_done_106 : decode cX10_done 106 = .ok (.aload_n 0, 1) := by decide +kernel
theorem dX10_done_107 : decode cX10_done 107 = .ok (.getfield 78, 3) := by decide +kernel
theorem dX10_done_110 : decode cX10_done 110 = .ok (.getfield 252, 3) := by decide +kernel
theorem dX10_done_113 : decode cX10_done 113 = .ok (.ior, 1) := by decide +kernel
theorem dX10_done_114 : decode cX10_done 114 = .ok (.invokevirtual 171, 3) := by decide +kernel
theorem dX10_done_117 : decode cX10_done 117 = .ok (.aload_n 0, 1) := by decide +kernel
theorem dX10_done_118 : decode cX10_done 118 = .ok (.getfield 45, 3) := by decide +kernel
theorem dX10_done_121 : decode cX10_done 121 = .ok (.getfield 63, 3) := by decide +kernel
theorem dX10_done_124 : decode cX10_done 124 = .ok (.aload_n 0, 1) := by decide +kernel
theorem dX10_done_125 : decode cX10_done 125 = .ok (.getfield 78, 3) := by decide +kernel
theorem dX10_done_128 : decode cX10_done 128 = .ok (.getfield 249, 3) := by decide +kernel
theorem dX10_done_131 : decode cX10_done 131 = .ok (.iload 4, 2) := by decide +kernel
theorem dX10_done_133 : decode cX10_done 133 = .ok (.invokevirtual 255, 3) := by decide +kernel
theorem dX10_done_136 : decode cX10_done 136 = .ok (.aload_n 0, 1) := by decide +kernel
theorem dX10_done_137 : decode cX10_done 137 = .ok (.getfield 45, 3) := by decide +kernel
theorem dX10_done_140 : decode cX10_done 140 = .ok (.getfield 63, 3) := by decide +kernel
theorem dX10_done_143 : decode cX10_done 143 = .ok (.aload_n 0, 1) := by decide +kernel
theorem dX10_done_144 : decode cX10_done 144 = .ok (.getfield 78, 3) := by decide +kernel
theorem dX10_done_147 : decode cX10_done 147 = .ok (.getfield 252, 3) := by decide +kernel
theorem dX10_done_150 : decode cX10_done 150 = .ok (.iload_n 3, 1) := by decide +kernel
theorem dX10_done_151 : decode cX10_done 151 = .ok (.invokevirtual 255, 3) := by decide +kernel
theorem dX10_done_154 : decode cX10_done 154 = .ok (.aload_n 0, 1) := by decide +kernel
theorem dX10_done_155 : decode cX10_done 155 = .ok (.getfield 69, 3) := by decide +kernel
theorem dX10_done_158 : decode cX10_done 158 = .ok (.invokevirtual 114, 3) := by decide +kernel
theorem dX10_done_161 : decode cX10_done 161 = .ok (.aload_n 0, 1) := by decide +kernel
theorem dX10_done_162 : decode cX10_done 162 = .ok (.getfield 78, 3) := by decide +kernel
theorem dX10_done_165 : decode cX10_done 165 = .ok (.invokevirtual 246, 3) := by decide +kernel
theorem dX10_done_168 : decode cX10_done 168 = .ok (.ireturn, 1) := by decide +kernel
theorem dX10_prices_0 : decode cX10_prices 0 = .ok (.aload_n 0, 1) := by decide +kernel
theorem dX10_prices_1 : decode cX10_prices 1 = .ok (.iload_n 1, 1) := by decide +kernel
theorem dX10_prices_2 : decode cX10_prices 2 = .ok (.iload_n 3, 1) := by decide +kernel
theorem dX10_prices_3 : decode cX10_prices 3 = .ok (.iload 4, 2) := by decide +kernel
theorem dX10_prices_5 : decode cX10_prices 5 = .ok (.invokevirtual 237, 3) := by decide +kernel
theorem dX10_prices_8 : decode cX10_prices 8 = .ok (.ifCond .eq 24, 3) := by decide +kernel
theorem dX10_prices_11 : decode cX10_prices 11 = .ok (.aload_n 0, 1) := by decide +kernel
theorem dX10_prices_12 : decode cX10_prices 12 = .ok (.iload_n 2, 1) := by decide +kernel
theorem dX10_prices_13 : decode cX10_prices 13 = .ok (.invokevirtual 153, 3) := by decide +kernel
theorem dX10_prices_16 : decode cX10_prices 16 = .ok (.ifCond .eq 16, 3) := by decide +kernel
theorem dX10_prices_19 : decode cX10_prices 19 = .ok (.iload 5, 2) := by decide +kernel
theorem dX10_prices_21 : decode cX10_prices 21 = .ok (.ifCond .lt 11, 3) := by decide +kernel
theorem dX10_prices_24 : decode cX10_prices 24 = .ok (.iload 5, 2) := by decide +kernel
theorem dX10_prices_26 : decode cX10_prices 26 = .ok (.sipush 999, 3) := by decide +kernel
theorem dX10_prices_29 : decode cX10_prices 29 = .ok (.if_icmp .le 5, 3) := by decide +kernel
theorem dX10_prices_32 : decode cX10_prices 32 = .ok (.iconst (-1), 1) := by decide +kernel
theorem dX10_prices_33 : decode cX10_prices 33 = .ok (.ireturn, 1) := by decide +kernel
theorem dX10_prices_34 : decode cX10_prices 34 = .ok (.aload_n 0, 1) := by decide +kernel
theorem dX10_prices_35 : decode cX10_prices 35 = .ok (.getfield 69, 3) := by decide +kernel
theorem dX10_prices_38 : decode cX10_prices 38 = .ok (.aload_n 0, 1) := by decide +kernel
theorem dX10_prices_39 : decode cX10_prices 39 = .ok (.getfield 38, 3) := by decide +kernel
theorem dX10_prices_42 : decode cX10_prices 42 = .ok (.iload_n 1, 1) := by decide +kernel
theorem dX10_prices_43 : decode cX10_prices 43 = .ok (.aaload, 1) := by decide +kernel
theorem dX10_prices_44 : decode cX10_prices 44 = .ok (.iload_n 2, 1) := by decide +kernel
theorem dX10_prices_45 : decode cX10_prices 45 = .ok (.invokevirtual 183, 3) := by decide +kernel
theorem dX10_prices_48 : decode cX10_prices 48 = .ok (.aload_n 0, 1) := by decide +kernel
theorem dX10_prices_49 : decode cX10_prices 49 = .ok (.getfield 78, 3) := by decide +kernel
theorem dX10_prices_52 : decode cX10_prices 52 = .ok (.iload_n 3, 1) := by decide +kernel
theorem dX10_prices_53 : decode cX10_prices 53 = .ok (.iload 4, 2) := by decide +kernel
theorem dX10_prices_55 : decode cX10_prices 55 = .ok (.iload 5, 2) := by decide +kernel
theorem dX10_prices_57 : decode cX10_prices 57 = .ok (.invokevirtual 259, 3) := by decide +kernel
theorem dX10_prices_60 : decode cX10_prices 60 = .ok (.ireturn, 1) := by decide +kernel
theorem dX10_bestCounter_0 : decode cX10_bestCounter 0 = .ok (.aload_n 0, 1) := by decide +kernel
theorem dX10_bestCounter_1 : decode cX10_bestCounter 1 = .ok (.iload_n 1, 1) := by decide +kernel
theorem dX10_bestCounter_2 : decode cX10_bestCounter 2 = .ok (.iload_n 2, 1) := by decide +kernel
theorem dX10_bestCounter_3 : decode cX10_bestCounter 3 = .ok (.iload_n 3, 1) := by decide +kernel
theorem dX10_bestCounter_4 : decode cX10_bestCounter 4 = .ok (.invokevirtual 237, 3) := by decide +kernel
theorem dX10_bestCounter_7 : decode cX10_bestCounter 7 = .ok (.ifCond .eq 16, 3) := by decide +kernel
theorem dX10_bestCounter_10 : decode cX10_bestCounter 10 = .ok (.iload 4, 2) := by decide +kernel
theorem dX10_bestCounter_12 : decode cX10_bestCounter 12 = .ok (.ifCond .lt 11, 3) := by decide +kernel
theorem dX10_bestCounter_15 : decode cX10_bestCounter 15 = .ok (.iload 4, 2) := by decide +kernel
theorem dX10_bestCounter_17 : decode cX10_bestCounter 17 = .ok (.sipush 999, 3) := by decide +kernel
theorem dX10_bestCounter_20 : decode cX10_bestCounter 20 = .ok (.if_icmp .le 5, 3) := by decide +kernel
theorem dX10_bestCounter_23 : decode cX10_bestCounter 23 = .ok (.iconst (-1), 1) := by decide +kernel
theorem dX10_bestCounter_24 : decode cX10_bestCounter 24 = .ok (.ireturn, 1) := by decide +kernel
theorem dX10_bestCounter_25 : decode cX10_bestCounter 25 = .ok (.iconst (-1), 1) := by decide +kernel
theorem dX10_bestCounter_26 : decode cX10_bestCounter 26 = .ok (.istore 5, 2) := by decide +kernel
theorem dX10_bestCounter_28 : decode cX10_bestCounter 28 = .ok (.iconst (-1), 1) := by decide +kernel
theorem dX10_bestCounter_29 : decode cX10_bestCounter 29 = .ok (.istore 6, 2) := by decide +kernel
theorem dX10_bestCounter_31 : decode cX10_bestCounter 31 = .ok (.iconst 0, 1) := by decide +kernel
theorem dX10_bestCounter_32 : decode cX10_bestCounter 32 = .ok (.istore 7, 2) := by decide +kernel
theorem dX10_bestCounter_34 : decode cX10_bestCounter 34 = .ok (.iload 7, 2) := by decide +kernel
theorem dX10_bestCounter_36 : decode cX10_bestCounter 36 = .ok (.aload_n 0, 1) := by decide +kernel
theorem dX10_bestCounter_37 : decode cX10_bestCounter 37 = .ok (.getfield 45, 3) := by decide +kernel
theorem dX10_bestCounter_40 : decode cX10_bestCounter 40 = .ok (.getfield 63, 3) := by decide +kernel
theorem dX10_bestCounter_43 : decode cX10_bestCounter 43 = .ok (.getfield 262, 3) := by decide +kernel
theorem dX10_bestCounter_46 : decode cX10_bestCounter 46 = .ok (.if_icmp .ge 52, 3) := by decide +kernel
theorem dX10_bestCounter_49 : decode cX10_bestCounter 49 = .ok (.aload_n 0, 1) := by decide +kernel
theorem dX10_bestCounter_50 : decode cX10_bestCounter 50 = .ok (.getfield 69, 3) := by decide +kernel
theorem dX10_bestCounter_53 : decode cX10_bestCounter 53 = .ok (.aload_n 0, 1) := by decide +kernel
theorem dX10_bestCounter_54 : decode cX10_bestCounter 54 = .ok (.getfield 38, 3) := by decide +kernel
theorem dX10_bestCounter_57 : decode cX10_bestCounter 57 = .ok (.iload_n 1, 1) := by decide +kernel
theorem dX10_bestCounter_58 : decode cX10_bestCounter 58 = .ok (.aaload, 1) := by decide +kernel
theorem dX10_bestCounter_59 : decode cX10_bestCounter 59 = .ok (.iload 7, 2) := by decide +kernel
theorem dX10_bestCounter_61 : decode cX10_bestCounter 61 = .ok (.invokevirtual 183, 3) := by decide +kernel
theorem dX10_bestCounter_64 : decode cX10_bestCounter 64 = .ok (.aload_n 0, 1) := by decide +kernel
theorem dX10_bestCounter_65 : decode cX10_bestCounter 65 = .ok (.getfield 78, 3) := by decide +kernel
theorem dX10_bestCounter_68 : decode cX10_bestCounter 68 = .ok (.iload_n 2, 1) := by decide +kernel
theorem dX10_bestCounter_69 : decode cX10_bestCounter 69 = .ok (.iload_n 3, 1) := by decide +kernel
theorem dX10_bestCounter_70 : decode cX10_bestCounter 70 = .ok (.iload 4, 2) := by decide +kernel
theorem dX10_bestCounter_72 : decode cX10_bestCounter 72 = .ok (.invokevirtual 259, 3) := by decide +kernel
theorem dX10_bestCounter_75 : decode cX10_bestCounter 75 = .ok (.istore 8, 2) := by decide +kernel
theorem dX10_bestCounter_77 : decode cX10_bestCounter 77 = .ok (.iload 8, 2) := by decide +kernel
theorem dX10_bestCounter_79 : decode cX10_bestCounter 79 = .ok (.iload 6, 2) := by decide +kernel
theorem dX10_bestCounter_81 : decode cX10_bestCounter 81 = .ok (.if_icmp .le 11, 3) := by decide +kernel
theorem dX10_bestCounter_84 : decode cX10_bestCounter 84 = .ok (.iload 8, 2) := by decide +kernel
theorem dX10_bestCounter_86 : decode cX10_bestCounter 86 = .ok (.istore 6, 2) := by decide +kernel
theorem dX10_bestCounter_88 : decode cX10_bestCounter 88 = .ok (.iload 7, 2) := by decide +kernel
theorem dX10_bestCounter_90 : decode cX10_bestCounter 90 = .ok (.istore 5, 2) := by decide +kernel
theorem dX10_bestCounter_92 : decode cX10_bestCounter 92 = .ok (.iinc 7 1, 3) := by decide +kernel
theorem dX10_bestCounter_95 : decode cX10_bestCounter 95 = .ok (.goto (-61), 3) := by decide +kernel
theorem dX10_bestCounter_98 : decode cX10_bestCounter 98 = .ok (.iload 5, 2) := by decide +kernel
theorem dX10_bestCounter_100 : decode cX10_bestCounter 100 = .ok (.ireturn, 1) := by decide +kernel
theorem dX10_payment_0 : decode cX10_payment 0 = .ok (.iload_n 1, 1) := by decide +kernel
theorem dX10_payment_1 : decode cX10_payment 1 = .ok (.iconst (-1), 1) := by decide +kernel
theorem dX10_payment_2 : decode cX10_payment 2 = .ok (.if_icmp .ne 13, 3) := by decide +kernel
theorem dX10_payment_5 : decode cX10_payment 5 = .ok (.aload_n 0, 1) := by decide +kernel
theorem dX10_payment_6 : decode cX10_payment 6 = .ok (.getfield 45, 3) := by decide +kernel
theorem dX10_payment_9 : decode cX10_payment 9 = .ok (.iconst 0, 1) := by decide +kernel
theorem dX10_payment_10 : decode cX10_payment 10 = .ok (.putfield 265, 3) := by decide +kernel
theorem dX10_payment_13 : decode cX10_payment 13 = .ok (.iconst 0, 1) := by decide +kernel
theorem dX10_payment_14 : decode cX10_payment 14 = .ok (.ireturn, 1) := by decide +kernel
theorem dX10_payment_15 : decode cX10_payment 15 = .ok (.aload_n 0, 1) := by decide +kernel
theorem dX10_payment_16 : decode cX10_payment 16 = .ok (.iload_n 1, 1) := by decide +kernel
theorem dX10_payment_17 : decode cX10_payment 17 = .ok (.invokevirtual 153, 3) := by decide +kernel
theorem dX10_payment_20 : decode cX10_payment 20 = .ok (.ifCond .eq 27, 3) := by decide +kernel
theorem dX10_payment_23 : decode cX10_payment 23 = .ok (.aload_n 0, 1) := by decide +kernel
theorem dX10_payment_24 : decode cX10_payment 24 = .ok (.iload_n 2, 1) := by decide +kernel
theorem dX10_payment_25 : decode cX10_payment 25 = .ok (.invokevirtual 165, 3) := by decide +kernel
theorem dX10_payment_28 : decode cX10_payment 28 = .ok (.ifCond .eq 19, 3) := by decide +kernel
theorem dX10_payment_31 : decode cX10_payment 31 = .ok (.iload_n 2, 1) := by decide +kernel
theorem dX10_payment_32 : decode cX10_payment 32 = .ok (.ifCond .eq 15, 3) := by decide +kernel
theorem dX10_payment_35 : decode cX10_payment 35 = .ok (.aload_n 0, 1) := by decide +kernel
theorem dX10_payment_36 : decode cX10_payment 36 = .ok (.getfield 45, 3) := by decide +kernel
theorem dX10_payment_39 : decode cX10_payment 39 = .ok (.getfield 265, 3) := by decide +kernel
theorem dX10_payment_42 : decode cX10_payment 42 = .ok (.bipush 10, 2) := by decide +kernel
theorem dX10_payment_44 : decode cX10_payment 44 = .ok (.if_icmp .lt 6, 3) := by decide +kernel
theorem dX10_payment_47 : decode cX10_payment 47 = .ok (.bipush (-2), 2) := by decide +kernel
theorem dX10_payment_49 : decode cX10_payment 49 = .ok (.ireturn, 1) := by decide +kernel
theorem dX10_payment_50 : decode cX10_payment 50 = .ok (.aload_n 0, 1) := by decide +kernel
theorem dX10_payment_51 : decode cX10_payment 51 = .ok (.getfield 45, 3) := by decide +kernel
theorem dX10_payment_54 : decode cX10_payment 54 = .ok (.getfield 268, 3) := by decide +kernel
theorem dX10_payment_57 : decode cX10_payment 57 = .ok (.aload_n 0, 1) := by decide +kernel
theorem dX10_payment_58 : decode cX10_payment 58 = .ok (.getfield 45, 3) := by decide +kernel
theorem dX10_payment_61 : decode cX10_payment 61 = .ok (.getfield 265, 3) := by decide +kernel
theorem dX10_payment_64 : decode cX10_payment 64 = .ok (.iload_n 1, 1) := by decide +kernel
theorem dX10_payment_65 : decode cX10_payment 65 = .ok (.iastore, 1) := by decide +kernel
theorem dX10_payment_66 : decode cX10_payment 66 = .ok (.aload_n 0, 1) := by decide +kernel
theorem dX10_payment_67 : decode cX10_payment 67 = .ok (.getfield 45, 3) := by decide +kernel
theorem dX10_payment_70 : decode cX10_payment 70 = .ok (.getfield 271, 3) := by decide +kernel
theorem dX10_payment_73 : decode cX10_payment 73 = .ok (.aload_n 0, 1) := by decide +kernel
theorem dX10_payment_74 : decode cX10_payment 74 = .ok (.getfield 45, 3) := by decide +kernel
theorem dX10_payment_77 : decode cX10_payment 77 = .ok (.getfield 265, 3) := by decide +kernel
theorem dX10_payment_80 : decode cX10_payment 80 = .ok (.iload_n 2, 1) := by decide +kernel
theorem dX10_payment_81 : decode cX10_payment 81 = .ok (.iastore, 1) := by decide +kernel
theorem dX10_payment_82 : decode cX10_payment 82 = .ok (.aload_n 0, 1) := by decide +kernel
theorem dX10_payment_83 : decode cX10_payment 83 = .ok (.getfield 45, 3) := by decide +kernel
theorem dX10_payment_86 : decode cX10_payment 86 = .ok (.dup, 1) := by decide +kernel
theorem dX10_payment_87 : decode cX10_payment 87 = .ok (.getfield 265, 3) := by decide +kernel
theorem dX10_payment_90 : decode cX10_payment 90 = .ok (.iconst 1, 1) := by decide +kernel
theorem dX10_payment_91 : decode cX10_payment 91 = .ok (.iadd, 1) := by decide +kernel
theorem dX10_payment_92 : decode cX10_payment 92 = .ok (.putfield 265, 3) := by decide +kernel
theorem dX10_payment_95 : decode cX10_payment 95 = .ok (.aload_n 0, 1) := by decide +kernel
theorem dX10_payment_96 : decode cX10_payment 96 = .ok (.getfield 45, 3) := by decide +kernel
theorem dX10_payment_99 : decode cX10_payment 99 = .ok (.getfield 265, 3) := by decide +kernel
theorem dX10_payment_102 : decode cX10_payment 102 = .ok (.ireturn, 1) := by decide +kernel
theorem dX10_rounds_0 : decode cX10_rounds 0 = .ok (.aload_n 0, 1) := by decide +kernel
theorem dX10_rounds_1 : decode cX10_rounds 1 = .ok (.iload_n 1, 1) := by decide +kernel
theorem dX10_rounds_2 : decode cX10_rounds 2 = .ok (.invokevirtual 274, 3) := by decide +kernel
theorem dX10_rounds_5 : decode cX10_rounds 5 = .ok (.ifCond .eq 12, 3) := by decide +kernel
theorem dX10_rounds_8 : decode cX10_rounds 8 = .ok (.iload_n 2, 1) := by decide +kernel
theorem dX10_rounds_9 : decode cX10_rounds 9 = .ok (.ifCond .lt 8, 3) := by decide +kernel
theorem dX10_rounds_12 : decode cX10_rounds 12 = .ok (.iload_n 2, 1) := by decide +kernel
theorem dX10_rounds_13 : decode cX10_rounds 13 = .ok (.iconst 1, 1) := by decide +kernel
theorem dX10_rounds_14 : decode cX10_rounds 14 = .ok (.if_icmp .le 5, 3) := by decide +kernel
theorem dX10_rounds_17 : decode cX10_rounds 17 = .ok (.iconst (-1), 1) := by decide +kernel
theorem dX10_rounds_18 : decode cX10_rounds 18 = .ok (.ireturn, 1) := by decide +kernel
theorem dX10_rounds_19 : decode cX10_rounds 19 = .ok (.iconst 0, 1) := by decide +kernel
theorem dX10_rounds_20 : decode cX10_rounds 20 = .ok (.istore_n 3, 1) := by decide +kernel
theorem dX10_rounds_21 : decode cX10_rounds 21 = .ok (.aload_n 0, 1) := by decide +kernel
theorem dX10_rounds_22 : decode cX10_rounds 22 = .ok (.getfield 87, 3) := by decide +kernel
theorem dX10_rounds_25 : decode cX10_rounds 25 = .ok (.invokevirtual 277, 3) := by decide +kernel
theorem dX10_rounds_28 : decode cX10_rounds 28 = .ok (.iconst 0, 1) := by decide +kernel
theorem dX10_rounds_29 : decode cX10_rounds 29 = .ok (.istore 4, 2) := by decide +kernel
theorem dX10_rounds_31 : decode cX10_rounds 31 = .ok (.iload 4, 2) := by decide +kernel
theorem dX10_rounds_33 : decode cX10_rounds 33 = .ok (.aload_n 0, 1) := by decide +kernel
theorem dX10_rounds_34 : decode cX10_rounds 34 = .ok (.getfield 45, 3) := by decide +kernel
theorem dX10_rounds_37 : decode cX10_rounds 37 = .ok (.getfield 63, 3) := by decide +kernel
theorem dX10_rounds_40 : decode cX10_rounds 40 = .ok (.getfield 262, 3) := by decide +kernel
theorem dX10_rounds_43 : decode cX10_rounds 43 = .ok (.if_icmp .ge 36, 3) := by decide +kernel
theorem dX10_rounds_46 : decode cX10_rounds 46 = .ok (.aload_n 0, 1) := by decide +kernel
theorem dX10_rounds_47 : decode cX10_rounds 47 = .ok (.getfield 69, 3) := by decide +kernel
theorem dX10_rounds_50 : decode cX10_rounds 50 = .ok (.aload_n 0, 1) := by decide +kernel
theorem dX10_rounds_51 : decode cX10_rounds 51 = .ok (.getfield 38, 3) := by decide +kernel
theorem dX10_rounds_54 : decode cX10_rounds 54 = .ok (.iload_n 1, 1) := by decide +kernel
theorem dX10_rounds_55 : decode cX10_rounds 55 = .ok (.aaload, 1) := by decide +kernel
theorem dX10_rounds_56 : decode cX10_rounds 56 = .ok (.iload 4, 2) := by decide +kernel
theorem dX10_rounds_58 : decode cX10_rounds 58 = .ok (.invokevirtual 183, 3) := by decide +kernel
theorem dX10_rounds_61 : decode cX10_rounds 61 = .ok (.iload_n 3, 1) := by decide +kernel
theorem dX10_rounds_62 : decode cX10_rounds 62 = .ok (.aload_n 0, 1) := by decide +kernel
theorem dX10_rounds_63 : decode cX10_rounds 63 = .ok (.getfield 87, 3) := by decide +kernel
theorem dX10_rounds_66 : decode cX10_rounds 66 = .ok (.iload 4, 2) := by decide +kernel
theorem dX10_rounds_68 : decode cX10_rounds 68 = .ok (.invokevirtual 280, 3) := by decide +kernel
theorem dX10_rounds_71 : decode cX10_rounds 71 = .ok (.iadd, 1) := by decide +kernel
theorem dX10_rounds_72 : decode cX10_rounds 72 = .ok (.istore_n 3, 1) := by decide +kernel
theorem dX10_rounds_73 : decode cX10_rounds 73 = .ok (.iinc 4 1, 3) := by decide +kernel
theorem dX10_rounds_76 : decode cX10_rounds 76 = .ok (.goto (-45), 3) := by decide +kernel
theorem dX10_rounds_79 : decode cX10_rounds 79 = .ok (.iload_n 2, 1) := by decide +kernel
theorem dX10_rounds_80 : decode cX10_rounds 80 = .ok (.iconst 1, 1) := by decide +kernel
theorem dX10_rounds_81 : decode cX10_rounds 81 = .ok (.if_icmp .ne 7, 3) := by decide +kernel
theorem dX10_rounds_84 : decode cX10_rounds 84 = .ok (.iload_n 3, 1) := by decide +kernel
theorem dX10_rounds_85 : decode cX10_rounds 85 = .ok (.goto 10, 3) := by decide +kernel
theorem dX10_rounds_88 : decode cX10_rounds 88 = .ok (.aload_n 0, 1) := by decide +kernel
theorem dX10_rounds_89 : decode cX10_rounds 89 = .ok (.getfield 87, 3) := by decide +kernel
theorem dX10_rounds_92 : decode cX10_rounds 92 = .ok (.invokevirtual 283, 3) := by decide +kernel
theorem dX10_rounds_95 : decode cX10_rounds 95 = .ok (.ireturn, 1) := by decide +kernel
theorem dX10_land_0 : decode cX10_land 0 = .ok (.aload_n 0, 1) := by decide +kernel
theorem dX10_land_1 : decode cX10_land 1 = .ok (.iload_n 1, 1) := by decide +kernel
theorem dX10_land_2 : decode cX10_land 2 = .ok (.invokevirtual 274, 3) := by decide +kernel
theorem dX10_land_5 : decode cX10_land 5 = .ok (.ifCond .eq 22, 3) := by decide +kernel
theorem dX10_land_8 : decode cX10_land 8 = .ok (.aload_n 0, 1) := by decide +kernel
theorem dX10_land_9 : decode cX10_land 9 = .ok (.iload_n 2, 1) := by decide +kernel
theorem dX10_land_10 : decode cX10_land 10 = .ok (.invokevirtual 153, 3) := by decide +kernel
theorem dX10_land_13 : decode cX10_land 13 = .ok (.ifCond .eq 14, 3) := by decide +kernel
theorem dX10_land_16 : decode cX10_land 16 = .ok (.iload_n 3, 1) := by decide +kernel
theorem dX10_land_17 : decode cX10_land 17 = .ok (.ifCond .lt 10, 3) := by decide +kernel
theorem dX10_land_20 : decode cX10_land 20 = .ok (.iload_n 3, 1) := by decide +kernel
theorem dX10_land_21 : decode cX10_land 21 = .ok (.sipush 200, 3) := by decide +kernel
theorem dX10_land_24 : decode cX10_land 24 = .ok (.if_icmp .le 5, 3) := by decide +kernel
theorem dX10_land_27 : decode cX10_land 27 = .ok (.iconst (-1), 1) := by decide +kernel
theorem dX10_land_28 : decode cX10_land 28 = .ok (.ireturn, 1) := by decide +kernel
theorem dX10_land_29 : decode cX10_land 29 = .ok (.iload 4, 2) := by decide +kernel
theorem dX10_land_31 : decode cX10_land 31 = .ok (.iconst 1, 1) := by decide +kernel
theorem dX10_land_32 : decode cX10_land 32 = .ok (.if_icmp .lt 9, 3) := by decide +kernel
theorem dX10_land_35 : decode cX10_land 35 = .ok (.iload 4, 2) := by decide +kernel
theorem dX10_land_37 : decode cX10_land 37 = .ok (.iconst 4, 1) := by decide +kernel
theorem dX10_land_38 : decode cX10_land 38 = .ok (.if_icmp .le 5, 3) := by decide +kernel
theorem dX10_land_41 : decode cX10_land 41 = .ok (.iconst (-1), 1) := by decide +kernel
theorem dX10_land_42 : decode cX10_land 42 = .ok (.ireturn, 1) := by decide +kernel
theorem dX10_land_43 : decode cX10_land 43 = .ok (.aload_n 0, 1) := by decide +kernel
theorem dX10_land_44 : decode cX10_land 44 = .ok (.getfield 69, 3) := by decide +kernel
theorem dX10_land_47 : decode cX10_land 47 = .ok (.aload_n 0, 1) := by decide +kernel
theorem dX10_land_48 : decode cX10_land 48 = .ok (.getfield 38, 3) := by decide +kernel
theorem dX10_land_51 : decode cX10_land 51 = .ok (.iload_n 1, 1) := by decide +kernel
theorem dX10_land_52 : decode cX10_land 52 = .ok (.aaload, 1) := by decide +kernel
theorem dX10_land_53 : decode cX10_land 53 = .ok (.iload_n 2, 1) := by decide +kernel
theorem dX10_land_54 : decode cX10_land 54 = .ok (.invokevirtual 183, 3) := by decide +kernel
theorem dX10_land_57 : decode cX10_land 57 = .ok (.aload_n 0, 1) := by decide +kernel
theorem dX10_land_58 : decode cX10_land 58 = .ok (.getfield 87, 3) := by decide +kernel
theorem dX10_land_61 : decode cX10_land 61 = .ok (.iload_n 3, 1) := by decide +kernel
theorem dX10_land_62 : decode cX10_land 62 = .ok (.iload 4, 2) := by decide +kernel
theorem dX10_land_64 : decode cX10_land 64 = .ok (.invokevirtual 286, 3) := by decide +kernel
theorem dX10_land_67 : decode cX10_land 67 = .ok (.ireturn, 1) := by decide +kernel
theorem dX10_forger_0 : decode cX10_forger 0 = .ok (.iload_n 1, 1) := by decide +kernel
theorem dX10_forger_1 : decode cX10_forger 1 = .ok (.iconst 1, 1) := by decide +kernel
theorem dX10_forger_2 : decode cX10_forger 2 = .ok (.if_icmp .lt 22, 3) := by decide +kernel
theorem dX10_forger_5 : decode cX10_forger 5 = .ok (.iload_n 1, 1) := by decide +kernel
theorem dX10_forger_6 : decode cX10_forger 6 = .ok (.sipush 200, 3) := by decide +kernel
theorem dX10_forger_9 : decode cX10_forger 9 = .ok (.if_icmp .gt 15, 3) := by decide +kernel
theorem dX10_forger_12 : decode cX10_forger 12 = .ok (.iload_n 2, 1) := by decide +kernel
theorem dX10_forger_13 : decode cX10_forger 13 = .ok (.iconst 1, 1) := by decide +kernel
theorem dX10_forger_14 : decode cX10_forger 14 = .ok (.if_icmp .lt 10, 3) := by decide +kernel
theorem dX10_forger_17 : decode cX10_forger 17 = .ok (.iload_n 2, 1) := by decide +kernel
theorem dX10_forger_18 : decode cX10_forger 18 = .ok (.sipush 200, 3) := by decide +kernel
theorem dX10_forger_21 : decode cX10_forger 21 = .ok (.if_icmp .le 5, 3) := by decide +kernel
theorem dX10_forger_24 : decode cX10_forger 24 = .ok (.iconst (-1), 1) := by decide +kernel
theorem dX10_forger_25 : decode cX10_forger 25 = .ok (.ireturn, 1) := by decide +kernel
theorem dX10_forger_26 : decode cX10_forger 26 = .ok (.iconst 0, 1) := by decide +kernel
theorem dX10_forger_27 : decode cX10_forger 27 = .ok (.istore_n 3, 1) := by decide +kernel
theorem dX10_forger_28 : decode cX10_forger 28 = .ok (.iload_n 1, 1) := by decide +kernel
theorem dX10_forger_29 : decode cX10_forger 29 = .ok (.istore 4, 2) := by decide +kernel
theorem dX10_forger_31 : decode cX10_forger 31 = .ok (.iload 4, 2) := by decide +kernel
theorem dX10_forger_33 : decode cX10_forger 33 = .ok (.iconst 1, 1) := by decide +kernel
theorem dX10_forger_34 : decode cX10_forger 34 = .ok (.if_icmp .le 22, 3) := by decide +kernel
theorem dX10_forger_37 : decode cX10_forger 37 = .ok (.iinc 3 1, 3) := by decide +kernel
theorem dX10_forger_40 : decode cX10_forger 40 = .ok (.iload 4, 2) := by decide +kernel
theorem dX10_forger_42 : decode cX10_forger 42 = .ok (.iload_n 2, 1) := by decide +kernel
theorem dX10_forger_43 : decode cX10_forger 43 = .ok (.iload 4, 2) := by decide +kernel
theorem dX10_forger_45 : decode cX10_forger 45 = .ok (.iconst 2, 1) := by decide +kernel
theorem dX10_forger_46 : decode cX10_forger 46 = .ok (.idiv, 1) := by decide +kernel
theorem dX10_forger_47 : decode cX10_forger 47 = .ok (.invokestatic 289, 3) := by decide +kernel
theorem dX10_forger_50 : decode cX10_forger 50 = .ok (.isub, 1) := by decide +kernel
theorem dX10_forger_51 : decode cX10_forger 51 = .ok (.istore 4, 2) := by decide +kernel
theorem dX10_forger_53 : decode cX10_forger 53 = .ok (.goto (-22), 3) := by decide +kernel
theorem dX10_forger_56 : decode cX10_forger 56 = .ok (.iload_n 3, 1) := by decide +kernel
theorem dX10_forger_57 : decode cX10_forger 57 = .ok (.ireturn, 1) := by decide +kernel
theorem dX10_seed_0 : decode cX10_seed 0 = .ok (.iload_n 1, 1) := by decide +kernel
theorem dX10_seed_1 : decode cX10_seed 1 = .ok (.ifCond .ge 5, 3) := by decide +kernel
theorem dX10_seed_4 : decode cX10_seed 4 = .ok (.iconst (-1), 1) := by decide +kernel
theorem dX10_seed_5 : decode cX10_seed 5 = .ok (.ireturn, 1) := by decide +kernel
theorem dX10_seed_6 : decode cX10_seed 6 = .ok (.aload_n 0, 1) := by decide +kernel
theorem dX10_seed_7 : decode cX10_seed 7 = .ok (.getfield 45, 3) := by decide +kernel
theorem dX10_seed_10 : decode cX10_seed 10 = .ok (.getfield 294, 3) := by decide +kernel
theorem dX10_seed_13 : decode cX10_seed 13 = .ok (.istore_n 2, 1) := by decide +kernel
theorem dX10_seed_14 : decode cX10_seed 14 = .ok (.aload_n 0, 1) := by decide +kernel
theorem dX10_seed_15 : decode cX10_seed 15 = .ok (.getfield 45, 3) := by decide +kernel
theorem dX10_seed_18 : decode cX10_seed 18 = .ok (.iload_n 1, 1) := by decide +kernel
theorem dX10_seed_19 : decode cX10_seed 19 = .ok (.putfield 294, 3) := by decide +kernel
theorem dX10_seed_22 : decode cX10_seed 22 = .ok (.iload_n 2, 1) := by decide +kernel
theorem dX10_seed_23 : decode cX10_seed 23 = .ok (.ireturn, 1) := by decide +kernel
theorem dX10_year_0 : decode cX10_year 0 = .ok (.aload_n 0, 1) := by decide +kernel
theorem dX10_year_1 : decode cX10_year 1 = .ok (.getfield 45, 3) := by decide +kernel
theorem dX10_year_4 : decode cX10_year 4 = .ok (.getfield 63, 3) := by decide +kernel
theorem dX10_year_7 : decode cX10_year 7 = .ok (.getfield 117, 3) := by decide +kernel
theorem dX10_year_10 : decode cX10_year 10 = .ok (.istore_n 3, 1) := by decide +kernel
theorem dX10_year_11 : decode cX10_year 11 = .ok (.iload_n 3, 1) := by decide +kernel
theorem dX10_year_12 : decode cX10_year 12 = .ok (.iconst 1, 1) := by decide +kernel
theorem dX10_year_13 : decode cX10_year 13 = .ok (.if_icmp .lt 24, 3) := by decide +kernel
theorem dX10_year_16 : decode cX10_year 16 = .ok (.iload_n 1, 1) := by decide +kernel
theorem dX10_year_17 : decode cX10_year 17 = .ok (.iconst 1, 1) := by decide +kernel
theorem dX10_year_18 : decode cX10_year 18 = .ok (.if_icmp .lt 19, 3) := by decide +kernel
theorem dX10_year_21 : decode cX10_year 21 = .ok (.iload_n 1, 1) := by decide +kernel
theorem dX10_year_22 : decode cX10_year 22 = .ok (.sipush 500, 3) := by decide +kernel
theorem dX10_year_25 : decode cX10_year 25 = .ok (.if_icmp .gt 12, 3) := by decide +kernel
theorem dX10_year_28 : decode cX10_year 28 = .ok (.iload_n 2, 1) := by decide +kernel
theorem dX10_year_29 : decode cX10_year 29 = .ok (.ifCond .lt 8, 3) := by decide +kernel
theorem dX10_year_32 : decode cX10_year 32 = .ok (.iload_n 2, 1) := by decide +kernel
theorem dX10_year_33 : decode cX10_year 33 = .ok (.iconst 2, 1) := by decide +kernel
theorem dX10_year_34 : decode cX10_year 34 = .ok (.if_icmp .le 5, 3) := by decide +kernel
theorem dX10_year_37 : decode cX10_year 37 = .ok (.iconst (-1), 1) := by decide +kernel
theorem dX10_year_38 : decode cX10_year 38 = .ok (.ireturn, 1) := by decide +kernel
theorem dX10_year_39 : decode cX10_year 39 = .ok (.aload_n 0, 1) := by decide +kernel
theorem dX10_year_40 : decode cX10_year 40 = .ok (.getfield 56, 3) := by decide +kernel
theorem dX10_year_43 : decode cX10_year 43 = .ok (.aload_n 0, 1) := by decide +kernel
theorem dX10_year_44 : decode cX10_year 44 = .ok (.getfield 45, 3) := by decide +kernel
theorem dX10_year_47 : decode cX10_year 47 = .ok (.getfield 63, 3) := by decide +kernel
theorem dX10_year_50 : decode cX10_year 50 = .ok (.invokevirtual 297, 3) := by decide +kernel
theorem dX10_year_53 : decode cX10_year 53 = .ok (.aload_n 0, 1) := by decide +kernel
theorem dX10_year_54 : decode cX10_year 54 = .ok (.getfield 45, 3) := by decide +kernel
theorem dX10_year_57 : decode cX10_year 57 = .ok (.getfield 294, 3) := by decide +kernel
theorem dX10_year_60 : decode cX10_year 60 = .ok (.istore 4, 2) := by decide +kernel
theorem dX10_year_62 : decode cX10_year 62 = .ok (.iconst 0, 1) := by decide +kernel
theorem dX10_year_63 : decode cX10_year 63 = .ok (.istore 5, 2) := by decide +kernel
theorem dX10_year_65 : decode cX10_year 65 = .ok (.iload 5, 2) := by decide +kernel
theorem dX10_year_67 : decode cX10_year 67 = .ok (.iload_n 1, 1) := by decide +kernel
theorem dX10_year_68 : decode cX10_year 68 = .ok (.if_icmp .ge 62, 3) := by decide +kernel
theorem dX10_year_71 : decode cX10_year 71 = .ok (.iload 4, 2) := by decide +kernel
theorem dX10_year_73 : decode cX10_year 73 = .ok (.invokestatic 300, 3) := by decide +kernel
theorem dX10_year_76 : decode cX10_year 76 = .ok (.istore 4, 2) := by decide +kernel
theorem dX10_year_78 : decode cX10_year 78 = .ok (.iconst 1, 1) := by decide +kernel
theorem dX10_year_79 : decode cX10_year 79 = .ok (.iload 4, 2) := by decide +kernel
theorem dX10_year_81 : decode cX10_year 81 = .ok (.ldc_w 303, 3) := by decide +kernel
theorem dX10_year_84 : decode cX10_year 84 = .ok (.idiv, 1) := by decide +kernel
theorem dX10_year_85 : decode cX10_year 85 = .ok (.iload_n 3, 1) := by decide +kernel
theorem dX10_year_86 : decode cX10_year 86 = .ok (.irem, 1) := by decide +kernel
theorem dX10_year_87 : decode cX10_year 87 = .ok (.ishl, 1) := by decide +kernel
theorem dX10_year_88 : decode cX10_year 88 = .ok (.istore 6, 2) := by decide +kernel
theorem dX10_year_90 : decode cX10_year 90 = .ok (.iload 4, 2) := by decide +kernel
theorem dX10_year_92 : decode cX10_year 92 = .ok (.invokestatic 300, 3) := by decide +kernel
theorem dX10_year_95 : decode cX10_year 95 = .ok (.istore 4, 2) := by decide +kernel
theorem dX10_year_97 : decode cX10_year 97 = .ok (.aload_n 0, 1) := by decide +kernel
theorem dX10_year_98 : decode cX10_year 98 = .ok (.getfield 56, 3) := by decide +kernel
theorem dX10_year_101 : decode cX10_year 101 = .ok (.iload 6, 2) := by decide +kernel
theorem dX10_year_103 : decode cX10_year 103 = .ok (.invokevirtual 171, 3) := by decide +kernel
theorem dX10_year_106 : decode cX10_year 106 = .ok (.aload_n 0, 1) := by decide +kernel
theorem dX10_year_107 : decode cX10_year 107 = .ok (.getfield 56, 3) := by decide +kernel
theorem dX10_year_110 : decode cX10_year 110 = .ok (.iload 6, 2) := by decide +kernel
theorem dX10_year_112 : decode cX10_year 112 = .ok (.iload 4, 2) := by decide +kernel
theorem dX10_year_114 : decode cX10_year 114 = .ok (.ldc_w 303, 3) := by decide +kernel
theorem dX10_year_117 : decode cX10_year 117 = .ok (.idiv, 1) := by decide +kernel
theorem dX10_year_118 : decode cX10_year 118 = .ok (.bipush 6, 2) := by decide +kernel
theorem dX10_year_120 : decode cX10_year 120 = .ok (.irem, 1) := by decide +kernel
theorem dX10_year_121 : decode cX10_year 121 = .ok (.invokevirtual 255, 3) := by decide +kernel
theorem dX10_year_124 : decode cX10_year 124 = .ok (.iinc 5 1, 3) := by decide +kernel
theorem dX10_year_127 : decode cX10_year 127 = .ok (.goto (-62), 3) := by decide +kernel
theorem dX10_year_130 : decode cX10_year 130 = .ok (.aload_n 0, 1) := by decide +kernel
theorem dX10_year_131 : decode cX10_year 131 = .ok (.getfield 56, 3) := by decide +kernel
theorem dX10_year_134 : decode cX10_year 134 = .ok (.invokevirtual 304, 3) := by decide +kernel
theorem dX10_year_137 : decode cX10_year 137 = .ok (.istore 5, 2) := by decide +kernel
theorem dX10_year_139 : decode cX10_year 139 = .ok (.iload_n 2, 1) := by decide +kernel
theorem dX10_year_140 : decode cX10_year 140 = .ok (.lookupswitch 41 #[(0, 28), (1, 31)], 28) := by decide +kernel
theorem dX10_year_168 : decode cX10_year 168 = .ok (.iload 5, 2) := by decide +kernel
theorem dX10_year_170 : decode cX10_year 170 = .ok (.ireturn, 1) := by decide +kernel
theorem dX10_year_171 : decode cX10_year 171 = .ok (.aload_n 0, 1) := by decide +kernel
theorem dX10_year_172 : decode cX10_year 172 = .ok (.getfield 56, 3) := by decide +kernel
theorem dX10_year_175 : decode cX10_year 175 = .ok (.iload 5, 2) := by decide +kernel
theorem dX10_year_177 : decode cX10_year 177 = .ok (.invokevirtual 307, 3) := by decide +kernel
theorem dX10_year_180 : decode cX10_year 180 = .ok (.ireturn, 1) := by decide +kernel
theorem dX10_year_181 : decode cX10_year 181 = .ok (.aload_n 0, 1) := by decide +kernel
theorem dX10_year_182 : decode cX10_year 182 = .ok (.getfield 56, 3) := by decide +kernel
theorem dX10_year_185 : decode cX10_year 185 = .ok (.invokevirtual 310, 3) := by decide +kernel
theorem dX10_year_188 : decode cX10_year 188 = .ok (.ireturn, 1) := by decide +kernel
theorem dX10_drawn_0 : decode cX10_drawn 0 = .ok (.iload_n 0, 1) := by decide +kernel
theorem dX10_drawn_1 : decode cX10_drawn 1 = .ok (.i2l, 1) := by decide +kernel
theorem dX10_drawn_2 : decode cX10_drawn 2 = .ok (.ldc2_w 313, 3) := by decide +kernel
theorem dX10_drawn_5 : decode cX10_drawn 5 = .ok (.lmul, 1) := by decide +kernel
theorem dX10_drawn_6 : decode cX10_drawn 6 = .ok (.ldc2_w 315, 3) := by decide +kernel
theorem dX10_drawn_9 : decode cX10_drawn 9 = .ok (.ladd, 1) := by decide +kernel
theorem dX10_drawn_10 : decode cX10_drawn 10 = .ok (.ldc2_w 317, 3) := by decide +kernel
theorem dX10_drawn_13 : decode cX10_drawn 13 = .ok (.lrem, 1) := by decide +kernel
theorem dX10_drawn_14 : decode cX10_drawn 14 = .ok (.l2i, 1) := by decide +kernel
theorem dX10_drawn_15 : decode cX10_drawn 15 = .ok (.ireturn, 1) := by decide +kernel
theorem dX10_count_0 : decode cX10_count 0 = .ok (.iload_n 1, 1) := by decide +kernel
theorem dX10_count_1 : decode cX10_count 1 = .ok (.tableswitch 158 0 9 #[55, 66, 77, 88, 99, 104, 112, 120, 128, 133], 55) := by decide +kernel
theorem dX10_count_56 : decode cX10_count 56 = .ok (.aload_n 0, 1) := by decide +kernel
theorem dX10_count_57 : decode cX10_count 57 = .ok (.getfield 45, 3) := by decide +kernel
theorem dX10_count_60 : decode cX10_count 60 = .ok (.getfield 63, 3) := by decide +kernel
theorem dX10_count_63 : decode cX10_count 63 = .ok (.getfield 117, 3) := by decide +kernel
theorem dX10_count_66 : decode cX10_count 66 = .ok (.ireturn, 1) := by decide +kernel
theorem dX10_count_67 : decode cX10_count 67 = .ok (.aload_n 0, 1) := by decide +kernel
theorem dX10_count_68 : decode cX10_count 68 = .ok (.getfield 45, 3) := by decide +kernel
theorem dX10_count_71 : decode cX10_count 71 = .ok (.getfield 63, 3) := by decide +kernel
theorem dX10_count_74 : decode cX10_count 74 = .ok (.getfield 262, 3) := by decide +kernel
theorem dX10_count_77 : decode cX10_count 77 = .ok (.ireturn, 1) := by decide +kernel
theorem dX10_count_78 : decode cX10_count 78 = .ok (.aload_n 0, 1) := by decide +kernel
theorem dX10_count_79 : decode cX10_count 79 = .ok (.getfield 45, 3) := by decide +kernel
theorem dX10_count_82 : decode cX10_count 82 = .ok (.getfield 63, 3) := by decide +kernel
theorem dX10_count_85 : decode cX10_count 85 = .ok (.getfield 319, 3) := by decide +kernel
theorem dX10_count_88 : decode cX10_count 88 = .ok (.ireturn, 1) := by decide +kernel
theorem dX10_count_89 : decode cX10_count 89 = .ok (.aload_n 0, 1) := by decide +kernel
theorem dX10_count_90 : decode cX10_count 90 = .ok (.getfield 45, 3) := by decide +kernel
theorem dX10_count_93 : decode cX10_count 93 = .ok (.getfield 63, 3) := by decide +kernel
theorem dX10_count_96 : decode cX10_count 96 = .ok (.getfield 322, 3) := by decide +kernel
theorem dX10_count_99 : decode cX10_count 99 = .ok (.ireturn, 1) := by decide +kernel
theorem dX10_count_100 : decode cX10_count 100 = .ok (.aload_n 0, 1) := by decide +kernel
theorem dX10_count_101 : decode cX10_count 101 = .ok (.getfield 120, 3) := by decide +kernel
theorem dX10_count_104 : decode cX10_count 104 = .ok (.ireturn, 1) := by decide +kernel
theorem dX10_count_105 : decode cX10_count 105 = .ok (.aload_n 0, 1) := by decide +kernel
theorem dX10_count_106 : decode cX10_count 106 = .ok (.getfield 45, 3) := by decide +kernel
theorem dX10_count_109 : decode cX10_count 109 = .ok (.getfield 265, 3) := by decide +kernel
theorem dX10_count_112 : decode cX10_count 112 = .ok (.ireturn, 1) := by decide +kernel
theorem dX10_count_113 : decode cX10_count 113 = .ok (.aload_n 0, 1) := by decide +kernel
theorem dX10_count_114 : decode cX10_count 114 = .ok (.getfield 45, 3) := by decide +kernel
theorem dX10_count_117 : decode cX10_count 117 = .ok (.getfield 223, 3) := by decide +kernel
theorem dX10_count_120 : decode cX10_count 120 = .ok (.ireturn, 1) := by decide +kernel
theorem dX10_count_121 : decode cX10_count 121 = .ok (.aload_n 0, 1) := by decide +kernel
theorem dX10_count_122 : decode cX10_count 122 = .ok (.getfield 45, 3) := by decide +kernel
theorem dX10_count_125 : decode cX10_count 125 = .ok (.getfield 294, 3) := by decide +kernel
theorem dX10_count_128 : decode cX10_count 128 = .ok (.ireturn, 1) := by decide +kernel
theorem dX10_count_129 : decode cX10_count 129 = .ok (.aload_n 0, 1) := by decide +kernel
theorem dX10_count_130 : decode cX10_count 130 = .ok (.getfield 91, 3) := by decide +kernel
theorem dX10_count_133 : decode cX10_count 133 = .ok (.ireturn, 1) := by decide +kernel
theorem dX10_count_134 : decode cX10_count 134 = .ok (.aload_n 0, 1) := by decide +kernel
theorem dX10_count_135 : decode cX10_count 135 = .ok (.getfield 45, 3) := by decide +kernel
theorem dX10_count_138 : decode cX10_count 138 = .ok (.getfield 63, 3) := by decide +kernel
theorem dX10_count_141 : decode cX10_count 141 = .ok (.iconst 1, 1) := by decide +kernel
theorem dX10_count_142 : decode cX10_count 142 = .ok (.aload_n 0, 1) := by decide +kernel
theorem dX10_count_143 : decode cX10_count 143 = .ok (.getfield 45, 3) := by decide +kernel
theorem dX10_count_146 : decode cX10_count 146 = .ok (.getfield 63, 3) := by decide +kernel
theorem dX10_count_149 : decode cX10_count 149 = .ok (.getfield 117, 3) := by decide +kernel
theorem dX10_count_152 : decode cX10_count 152 = .ok (.ishl, 1) := by decide +kernel
theorem dX10_count_153 : decode cX10_count 153 = .ok (.iconst 1, 1) := by decide +kernel
theorem dX10_count_154 : decode cX10_count 154 = .ok (.isub, 1) := by decide +kernel
theorem dX10_count_155 : decode cX10_count 155 = .ok (.invokevirtual 325, 3) := by decide +kernel
theorem dX10_count_158 : decode cX10_count 158 = .ok (.ireturn, 1) := by decide +kernel
theorem dX10_count_159 : decode cX10_count 159 = .ok (.iload_n 1, 1) := by decide +kernel
theorem dX10_count_160 : decode cX10_count 160 = .ok (.bipush 10, 2) := by decide +kernel
theorem dX10_count_162 : decode cX10_count 162 = .ok (.isub, 1) := by decide +kernel
theorem dX10_count_163 : decode cX10_count 163 = .ok (.invokestatic 162, 3) := by decide +kernel
theorem dX10_count_166 : decode cX10_count 166 = .ok (.ifCond .eq 26, 3) := by decide +kernel
theorem dX10_count_169 : decode cX10_count 169 = .ok (.iload_n 1, 1) := by decide +kernel
theorem dX10_count_170 : decode cX10_count 170 = .ok (.bipush 10, 2) := by decide +kernel
theorem dX10_count_172 : decode cX10_count 172 = .ok (.if_icmp .lt 20, 3) := by decide +kernel
theorem dX10_count_175 : decode cX10_count 175 = .ok (.aload_n 0, 1) := by decide +kernel
theorem dX10_count_176 : decode cX10_count 176 = .ok (.getfield 45, 3) := by decide +kernel
theorem dX10_count_179 : decode cX10_count 179 = .ok (.getfield 63, 3) := by decide +kernel
theorem dX10_count_182 : decode cX10_count 182 = .ok (.iload_n 1, 1) := by decide +kernel
theorem dX10_count_183 : decode cX10_count 183 = .ok (.bipush 10, 2) := by decide +kernel
theorem dX10_count_185 : decode cX10_count 185 = .ok (.isub, 1) := by decide +kernel
theorem dX10_count_186 : decode cX10_count 186 = .ok (.invokevirtual 307, 3) := by decide +kernel
theorem dX10_count_189 : decode cX10_count 189 = .ok (.goto 4, 3) := by decide +kernel
theorem dX10_count_192 : decode cX10_count 192 = .ok (.iconst (-1), 1) := by decide +kernel
theorem dX10_count_193 : decode cX10_count 193 = .ok (.ireturn, 1) := by decide +kernel
theorem dX10_image_0 : decode cX10_image 0 = .ok (.iload_n 1, 1) := by decide +kernel
theorem dX10_image_1 : decode cX10_image 1 = .ok (.ifCond .lt 8, 3) := by decide +kernel
theorem dX10_image_4 : decode cX10_image 4 = .ok (.iload_n 1, 1) := by decide +kernel
theorem dX10_image_5 : decode cX10_image 5 = .ok (.iconst 4, 1) := by decide +kernel
theorem dX10_image_6 : decode cX10_image 6 = .ok (.if_icmp .lt 5, 3) := by decide +kernel
theorem dX10_image_9 : decode cX10_image 9 = .ok (.iconst (-1), 1) := by decide +kernel
theorem dX10_image_10 : decode cX10_image 10 = .ok (.ireturn, 1) := by decide +kernel
theorem dX10_image_11 : decode cX10_image 11 = .ok (.aload_n 0, 1) := by decide +kernel
theorem dX10_image_12 : decode cX10_image 12 = .ok (.getfield 49, 3) := by decide +kernel
theorem dX10_image_15 : decode cX10_image 15 = .ok (.iload_n 1, 1) := by decide +kernel
theorem dX10_image_16 : decode cX10_image 16 = .ok (.aaload, 1) := by decide +kernel
theorem dX10_image_17 : decode cX10_image 17 = .ok (.aload_n 0, 1) := by decide +kernel
theorem dX10_image_18 : decode cX10_image 18 = .ok (.getfield 45, 3) := by decide +kernel
theorem dX10_image_21 : decode cX10_image 21 = .ok (.invokevirtual 328, 3) := by decide +kernel
theorem dX10_image_24 : decode cX10_image 24 = .ok (.aload_n 0, 1) := by decide +kernel
theorem dX10_image_25 : decode cX10_image 25 = .ok (.getfield 49, 3) := by decide +kernel
theorem dX10_image_28 : decode cX10_image 28 = .ok (.iload_n 1, 1) := by decide +kernel
theorem dX10_image_29 : decode cX10_image 29 = .ok (.aaload, 1) := by decide +kernel
theorem dX10_image_30 : decode cX10_image 30 = .ok (.iconst 1, 1) := by decide +kernel
theorem dX10_image_31 : decode cX10_image 31 = .ok (.putfield 331, 3) := by decide +kernel
theorem dX10_image_34 : decode cX10_image 34 = .ok (.aload_n 0, 1) := by decide +kernel
theorem dX10_image_35 : decode cX10_image 35 = .ok (.getfield 45, 3) := by decide +kernel
theorem dX10_image_38 : decode cX10_image 38 = .ok (.getfield 63, 3) := by decide +kernel
theorem dX10_image_41 : decode cX10_image 41 = .ok (.getfield 117, 3) := by decide +kernel
theorem dX10_image_44 : decode cX10_image 44 = .ok (.ireturn, 1) := by decide +kernel
theorem dX10_back_0 : decode cX10_back 0 = .ok (.iload_n 1, 1) := by decide +kernel
theorem dX10_back_1 : decode cX10_back 1 = .ok (.ifCond .lt 20, 3) := by decide +kernel
theorem dX10_back_4 : decode cX10_back 4 = .ok (.iload_n 1, 1) := by decide +kernel
theorem dX10_back_5 : decode cX10_back 5 = .ok (.iconst 4, 1) := by decide +kernel
theorem dX10_back_6 : decode cX10_back 6 = .ok (.if_icmp .ge 15, 3) := by decide +kernel
theorem dX10_back_9 : decode cX10_back 9 = .ok (.aload_n 0, 1) := by decide +kernel
theorem dX10_back_10 : decode cX10_back 10 = .ok (.getfield 49, 3) := by decide +kernel
theorem dX10_back_13 : decode cX10_back 13 = .ok (.iload_n 1, 1) := by decide +kernel
theorem dX10_back_14 : decode cX10_back 14 = .ok (.aaload, 1) := by decide +kernel
theorem dX10_back_15 : decode cX10_back 15 = .ok (.getfield 331, 3) := by decide +kernel
theorem dX10_back_18 : decode cX10_back 18 = .ok (.ifCond .ne 5, 3) := by decide +kernel
theorem dX10_back_21 : decode cX10_back 21 = .ok (.iconst (-1), 1) := by decide +kernel
theorem dX10_back_22 : decode cX10_back 22 = .ok (.ireturn, 1) := by decide +kernel
theorem dX10_back_23 : decode cX10_back 23 = .ok (.aload_n 0, 1) := by decide +kernel
theorem dX10_back_24 : decode cX10_back 24 = .ok (.getfield 45, 3) := by decide +kernel
theorem dX10_back_27 : decode cX10_back 27 = .ok (.aload_n 0, 1) := by decide +kernel
theorem dX10_back_28 : decode cX10_back 28 = .ok (.getfield 49, 3) := by decide +kernel
theorem dX10_back_31 : decode cX10_back 31 = .ok (.iload_n 1, 1) := by decide +kernel
theorem dX10_back_32 : decode cX10_back 32 = .ok (.aaload, 1) := by decide +kernel
theorem dX10_back_33 : decode cX10_back 33 = .ok (.invokevirtual 328, 3) := by decide +kernel
theorem dX10_back_36 : decode cX10_back 36 = .ok (.aload_n 0, 1) := by decide +kernel
theorem dX10_back_37 : decode cX10_back 37 = .ok (.getfield 69, 3) := by decide +kernel
theorem dX10_back_40 : decode cX10_back 40 = .ok (.invokevirtual 114, 3) := by decide +kernel
theorem dX10_back_43 : decode cX10_back 43 = .ok (.aload_n 0, 1) := by decide +kernel
theorem dX10_back_44 : decode cX10_back 44 = .ok (.getfield 45, 3) := by decide +kernel
theorem dX10_back_47 : decode cX10_back 47 = .ok (.getfield 63, 3) := by decide +kernel
theorem dX10_back_50 : decode cX10_back 50 = .ok (.getfield 117, 3) := by decide +kernel
theorem dX10_back_53 : decode cX10_back 53 = .ok (.ireturn, 1) := by decide +kernel
theorem dX10_isLaw_0 : decode cX10_isLaw 0 = .ok (.iload_n 1, 1) := by decide +kernel
theorem dX10_isLaw_1 : decode cX10_isLaw 1 = .ok (.ifCond .lt 15, 3) := by decide +kernel
theorem dX10_isLaw_4 : decode cX10_isLaw 4 = .ok (.iload_n 1, 1) := by decide +kernel
theorem dX10_isLaw_5 : decode cX10_isLaw 5 = .ok (.aload_n 0, 1) := by decide +kernel
theorem dX10_isLaw_6 : decode cX10_isLaw 6 = .ok (.getfield 120, 3) := by decide +kernel
theorem dX10_isLaw_9 : decode cX10_isLaw 9 = .ok (.if_icmp .ge 7, 3) := by decide +kernel
theorem dX10_isLaw_12 : decode cX10_isLaw 12 = .ok (.iconst 1, 1) := by decide +kernel
theorem dX10_isLaw_13 : decode cX10_isLaw 13 = .ok (.goto 4, 3) := by decide +kernel
theorem dX10_isLaw_16 : decode cX10_isLaw 16 = .ok (.iconst 0, 1) := by decide +kernel
theorem dX10_isLaw_17 : decode cX10_isLaw 17 = .ok (.ireturn, 1) := by decide +kernel
theorem dX10_isCoin_0 : decode cX10_isCoin 0 = .ok (.iload_n 1, 1) := by decide +kernel
theorem dX10_isCoin_1 : decode cX10_isCoin 1 = .ok (.ifCond .lt 21, 3) := by decide +kernel
theorem dX10_isCoin_4 : decode cX10_isCoin 4 = .ok (.iload_n 1, 1) := by decide +kernel
theorem dX10_isCoin_5 : decode cX10_isCoin 5 = .ok (.aload_n 0, 1) := by decide +kernel
theorem dX10_isCoin_6 : decode cX10_isCoin 6 = .ok (.getfield 45, 3) := by decide +kernel
theorem dX10_isCoin_9 : decode cX10_isCoin 9 = .ok (.getfield 63, 3) := by decide +kernel
theorem dX10_isCoin_12 : decode cX10_isCoin 12 = .ok (.getfield 117, 3) := by decide +kernel
theorem dX10_isCoin_15 : decode cX10_isCoin 15 = .ok (.if_icmp .ge 7, 3) := by decide +kernel
theorem dX10_isCoin_18 : decode cX10_isCoin 18 = .ok (.iconst 1, 1) := by decide +kernel
theorem dX10_isCoin_19 : decode cX10_isCoin 19 = .ok (.goto 4, 3) := by decide +kernel
theorem dX10_isCoin_22 : decode cX10_isCoin 22 = .ok (.iconst 0, 1) := by decide +kernel
theorem dX10_isCoin_23 : decode cX10_isCoin 23 = .ok (.ireturn, 1) := by decide +kernel
theorem dX10_isCounter_0 : decode cX10_isCounter 0 = .ok (.iload_n 1, 1) := by decide +kernel
theorem dX10_isCounter_1 : decode cX10_isCounter 1 = .ok (.ifCond .lt 21, 3) := by decide +kernel
theorem dX10_isCounter_4 : decode cX10_isCounter 4 = .ok (.iload_n 1, 1) := by decide +kernel
theorem dX10_isCounter_5 : decode cX10_isCounter 5 = .ok (.aload_n 0, 1) := by decide +kernel
theorem dX10_isCounter_6 : decode cX10_isCounter 6 = .ok (.getfield 45, 3) := by decide +kernel
theorem dX10_isCounter_9 : decode cX10_isCounter 9 = .ok (.getfield 63, 3) := by decide +kernel
theorem dX10_isCounter_12 : decode cX10_isCounter 12 = .ok (.getfield 262, 3) := by decide +kernel
theorem dX10_isCounter_15 : decode cX10_isCounter 15 = .ok (.if_icmp .ge 7, 3) := by decide +kernel
theorem dX10_isCounter_18 : decode cX10_isCounter 18 = .ok (.iconst 1, 1) := by decide +kernel
theorem dX10_isCounter_19 : decode cX10_isCounter 19 = .ok (.goto 4, 3) := by decide +kernel
theorem dX10_isCounter_22 : decode cX10_isCounter 22 = .ok (.iconst 0, 1) := by decide +kernel
theorem dX10_isCounter_23 : decode cX10_isCounter 23 = .ok (.ireturn, 1) := by decide +kernel
theorem dX10_isPerson_0 : decode cX10_isPerson 0 = .ok (.iload_n 0, 1) := by decide +kernel
theorem dX10_isPerson_1 : decode cX10_isPerson 1 = .ok (.ifCond .lt 13, 3) := by decide +kernel
theorem dX10_isPerson_4 : decode cX10_isPerson 4 = .ok (.iload_n 0, 1) := by decide +kernel
theorem dX10_isPerson_5 : decode cX10_isPerson 5 = .ok (.bipush 6, 2) := by decide +kernel
theorem dX10_isPerson_7 : decode cX10_isPerson 7 = .ok (.if_icmp .ge 7, 3) := by decide +kernel
theorem dX10_isPerson_10 : decode cX10_isPerson 10 = .ok (.iconst 1, 1) := by decide +kernel
theorem dX10_isPerson_11 : decode cX10_isPerson 11 = .ok (.goto 4, 3) := by decide +kernel
theorem dX10_isPerson_14 : decode cX10_isPerson 14 = .ok (.iconst 0, 1) := by decide +kernel
theorem dX10_isPerson_15 : decode cX10_isPerson 15 = .ok (.ireturn, 1) := by decide +kernel
theorem dX10_isPrice_0 : decode cX10_isPrice 0 = .ok (.iload_n 0, 1) := by decide +kernel
theorem dX10_isPrice_1 : decode cX10_isPrice 1 = .ok (.ifCond .lt 14, 3) := by decide +kernel
theorem dX10_isPrice_4 : decode cX10_isPrice 4 = .ok (.iload_n 0, 1) := by decide +kernel
theorem dX10_isPrice_5 : decode cX10_isPrice 5 = .ok (.sipush 9999, 3) := by decide +kernel
theorem dX10_isPrice_8 : decode cX10_isPrice 8 = .ok (.if_icmp .gt 7, 3) := by decide +kernel
theorem dX10_isPrice_11 : decode cX10_isPrice 11 = .ok (.iconst 1, 1) := by decide +kernel
theorem dX10_isPrice_12 : decode cX10_isPrice 12 = .ok (.goto 4, 3) := by decide +kernel
theorem dX10_isPrice_15 : decode cX10_isPrice 15 = .ok (.iconst 0, 1) := by decide +kernel
theorem dX10_isPrice_16 : decode cX10_isPrice 16 = .ok (.ireturn, 1) := by decide +kernel
theorem dX10_isSet_0 : decode cX10_isSet 0 = .ok (.aload_n 0, 1) := by decide +kernel
theorem dX10_isSet_1 : decode cX10_isSet 1 = .ok (.getfield 45, 3) := by decide +kernel
theorem dX10_isSet_4 : decode cX10_isSet 4 = .ok (.getfield 63, 3) := by decide +kernel
theorem dX10_isSet_7 : decode cX10_isSet 7 = .ok (.getfield 262, 3) := by decide +kernel
theorem dX10_isSet_10 : decode cX10_isSet 10 = .ok (.ifCond .le 27, 3) := by decide +kernel
theorem dX10_isSet_13 : decode cX10_isSet 13 = .ok (.iload_n 1, 1) := by decide +kernel
theorem dX10_isSet_14 : decode cX10_isSet 14 = .ok (.ifCond .lt 23, 3) := by decide +kernel
theorem dX10_isSet_17 : decode cX10_isSet 17 = .ok (.iload_n 1, 1) := by decide +kernel
theorem dX10_isSet_18 : decode cX10_isSet 18 = .ok (.iconst 1, 1) := by decide +kernel
theorem dX10_isSet_19 : decode cX10_isSet 19 = .ok (.aload_n 0, 1) := by decide +kernel
theorem dX10_isSet_20 : decode cX10_isSet 20 = .ok (.getfield 45, 3) := by decide +kernel
theorem dX10_isSet_23 : decode cX10_isSet 23 = .ok (.getfield 63, 3) := by decide +kernel
theorem dX10_isSet_26 : decode cX10_isSet 26 = .ok (.getfield 117, 3) := by decide +kernel
theorem dX10_isSet_29 : decode cX10_isSet 29 = .ok (.ishl, 1) := by decide +kernel
theorem dX10_isSet_30 : decode cX10_isSet 30 = .ok (.if_icmp .ge 7, 3) := by decide +kernel
theorem dX10_isSet_33 : decode cX10_isSet 33 = .ok (.iconst 1, 1) := by decide +kernel
theorem dX10_isSet_34 : decode cX10_isSet 34 = .ok (.goto 4, 3) := by decide +kernel
theorem dX10_isSet_37 : decode cX10_isSet 37 = .ok (.iconst 0, 1) := by decide +kernel
theorem dX10_isSet_38 : decode cX10_isSet 38 = .ok (.ireturn, 1) := by decide +kernel
theorem dX10_isHearable_0 : decode cX10_isHearable 0 = .ok (.aload_n 0, 1) := by decide +kernel
theorem dX10_isHearable_1 : decode cX10_isHearable 1 = .ok (.iload_n 1, 1) := by decide +kernel
theorem dX10_isHearable_2 : decode cX10_isHearable 2 = .ok (.invokevirtual 274, 3) := by decide +kernel
theorem dX10_isHearable_5 : decode cX10_isHearable 5 = .ok (.ifCond .eq 23, 3) := by decide +kernel
theorem dX10_isHearable_8 : decode cX10_isHearable 8 = .ok (.aload_n 0, 1) := by decide +kernel
theorem dX10_isHearable_9 : decode cX10_isHearable 9 = .ok (.iload_n 2, 1) := by decide +kernel
theorem dX10_isHearable_10 : decode cX10_isHearable 10 = .ok (.invokevirtual 153, 3) := by decide +kernel
theorem dX10_isHearable_13 : decode cX10_isHearable 13 = .ok (.ifCond .eq 15, 3) := by decide +kernel
theorem dX10_isHearable_16 : decode cX10_isHearable 16 = .ok (.aload_n 0, 1) := by decide +kernel
theorem dX10_isHearable_17 : decode cX10_isHearable 17 = .ok (.iload_n 3, 1) := by decide +kernel
theorem dX10_isHearable_18 : decode cX10_isHearable 18 = .ok (.invokevirtual 165, 3) := by decide +kernel
theorem dX10_isHearable_21 : decode cX10_isHearable 21 = .ok (.ifCond .eq 7, 3) := by decide +kernel
theorem dX10_isHearable_24 : decode cX10_isHearable 24 = .ok (.iconst 1, 1) := by decide +kernel
theorem dX10_isHearable_25 : decode cX10_isHearable 25 = .ok (.goto 4, 3) := by decide +kernel
theorem dX10_isHearable_28 : decode cX10_isHearable 28 = .ok (.iconst 0, 1) := by decide +kernel
theorem dX10_isHearable_29 : decode cX10_isHearable 29 = .ok (.ireturn, 1) := by decide +kernel
theorem dX10_canDeal_0 : decode cX10_canDeal 0 = .ok (.aload_n 0, 1) := by decide +kernel
theorem dX10_canDeal_1 : decode cX10_canDeal 1 = .ok (.iload_n 1, 1) := by decide +kernel
theorem dX10_canDeal_2 : decode cX10_canDeal 2 = .ok (.invokevirtual 274, 3) := by decide +kernel
theorem dX10_canDeal_5 : decode cX10_canDeal 5 = .ok (.ifCond .eq 26, 3) := by decide +kernel
theorem dX10_canDeal_8 : decode cX10_canDeal 8 = .ok (.iload_n 2, 1) := by decide +kernel
theorem dX10_canDeal_9 : decode cX10_canDeal 9 = .ok (.invokestatic 162, 3) := by decide +kernel
theorem dX10_canDeal_12 : decode cX10_canDeal 12 = .ok (.ifCond .eq 19, 3) := by decide +kernel
theorem dX10_canDeal_15 : decode cX10_canDeal 15 = .ok (.iload_n 3, 1) := by decide +kernel
theorem dX10_canDeal_16 : decode cX10_canDeal 16 = .ok (.invokestatic 162, 3) := by decide +kernel
theorem dX10_canDeal_19 : decode cX10_canDeal 19 = .ok (.ifCond .eq 12, 3) := by decide +kernel
theorem dX10_canDeal_22 : decode cX10_canDeal 22 = .ok (.iload_n 2, 1) := by decide +kernel
theorem dX10_canDeal_23 : decode cX10_canDeal 23 = .ok (.iload_n 3, 1) := by decide +kernel
theorem dX10_canDeal_24 : decode cX10_canDeal 24 = .ok (.if_icmp .eq 7, 3) := by decide +kernel
theorem dX10_canDeal_27 : decode cX10_canDeal 27 = .ok (.iconst 1, 1) := by decide +kernel
theorem dX10_canDeal_28 : decode cX10_canDeal 28 = .ok (.goto 4, 3) := by decide +kernel
theorem dX10_canDeal_31 : decode cX10_canDeal 31 = .ok (.iconst 0, 1) := by decide +kernel
theorem dX10_canDeal_32 : decode cX10_canDeal 32 = .ok (.ireturn, 1) := by decide +kernel
theorem dX10_nextWithin_0 : decode cX10_nextWithin 0 = .ok (.iload_n 0, 1) := by decide +kernel
theorem dX10_nextWithin_1 : decode cX10_nextWithin 1 = .ok (.iload_n 1, 1) := by decide +kernel
theorem dX10_nextWithin_2 : decode cX10_nextWithin 2 = .ok (.isub, 1) := by decide +kernel
theorem dX10_nextWithin_3 : decode cX10_nextWithin 3 = .ok (.iload_n 1, 1) := by decide +kernel
theorem dX10_nextWithin_4 : decode cX10_nextWithin 4 = .ok (.iand, 1) := by decide +kernel
theorem dX10_nextWithin_5 : decode cX10_nextWithin 5 = .ok (.ireturn, 1) := by decide +kernel
theorem dX11_init_0 : decode cX11_init 0 = .ok (.aload_n 0, 1) := by decide +kernel
theorem dX11_init_1 : decode cX11_init 1 = .ok (.invokespecial 3, 3) := by decide +kernel
theorem dX11_init_4 : decode cX11_init 4 = .ok (.aload_n 0, 1) := by decide +kernel
theorem dX11_init_5 : decode cX11_init 5 = .ok (.bipush 7, 2) := by decide +kernel
theorem dX11_init_7 : decode cX11_init 7 = .ok (.newarray .int, 2) := by decide +kernel
theorem dX11_init_9 : decode cX11_init 9 = .ok (.putfield 9, 3) := by decide +kernel
theorem dX11_init_12 : decode cX11_init 12 = .ok (.aload_n 0, 1) := by decide +kernel
theorem dX11_init_13 : decode cX11_init 13 = .ok (.bipush 12, 2) := by decide +kernel
theorem dX11_init_15 : decode cX11_init 15 = .ok (.newarray .int, 2) := by decide +kernel
theorem dX11_init_17 : decode cX11_init 17 = .ok (.putfield 13, 3) := by decide +kernel
theorem dX11_init_20 : decode cX11_init 20 = .ok (.aload_n 0, 1) := by decide +kernel
theorem dX11_init_21 : decode cX11_init 21 = .ok (.bipush 12, 2) := by decide +kernel
theorem dX11_init_23 : decode cX11_init 23 = .ok (.newarray .int, 2) := by decide +kernel
theorem dX11_init_25 : decode cX11_init 25 = .ok (.putfield 16, 3) := by decide +kernel
theorem dX11_init_28 : decode cX11_init 28 = .ok (.aload_n 0, 1) := by decide +kernel
theorem dX11_init_29 : decode cX11_init 29 = .ok (.bipush 12, 2) := by decide +kernel
theorem dX11_init_31 : decode cX11_init 31 = .ok (.newarray .int, 2) := by decide +kernel
theorem dX11_init_33 : decode cX11_init 33 = .ok (.putfield 19, 3) := by decide +kernel
theorem dX11_init_36 : decode cX11_init 36 = .ok (.aload_n 0, 1) := by decide +kernel
theorem dX11_init_37 : decode cX11_init 37 = .ok (.bipush 12, 2) := by decide +kernel
theorem dX11_init_39 : decode cX11_init 39 = .ok (.newarray .int, 2) := by decide +kernel
theorem dX11_init_41 : decode cX11_init 41 = .ok (.putfield 22, 3) := by decide +kernel
theorem dX11_init_44 : decode cX11_init 44 = .ok (.aload_n 0, 1) := by decide +kernel
theorem dX11_init_45 : decode cX11_init 45 = .ok (.iconst 4, 1) := by decide +kernel
theorem dX11_init_46 : decode cX11_init 46 = .ok (.newarray .int, 2) := by decide +kernel
theorem dX11_init_48 : decode cX11_init 48 = .ok (.putfield 25, 3) := by decide +kernel
theorem dX11_init_51 : decode cX11_init 51 = .ok (.aload_n 0, 1) := by decide +kernel
theorem dX11_init_52 : decode cX11_init 52 = .ok (.iconst 4, 1) := by decide +kernel
theorem dX11_init_53 : decode cX11_init 53 = .ok (.newarray .int, 2) := by decide +kernel
theorem dX11_init_55 : decode cX11_init 55 = .ok (.putfield 28, 3) := by decide +kernel
theorem dX11_init_58 : decode cX11_init 58 = .ok (.aload_n 0, 1) := by decide +kernel
theorem dX11_init_59 : decode cX11_init 59 = .ok (.iconst 4, 1) := by decide +kernel
theorem dX11_init_60 : decode cX11_init 60 = .ok (.newarray .int, 2) := by decide +kernel
theorem dX11_init_62 : decode cX11_init 62 = .ok (.putfield 31, 3) := by decide +kernel
theorem dX11_init_65 : decode cX11_init 65 = .ok (.aload_n 0, 1) := by decide +kernel
theorem dX11_init_66 : decode cX11_init 66 = .ok (.bipush 12, 2) := by decide +kernel
theorem dX11_init_68 : decode cX11_init 68 = .ok (.newarray .int, 2) := by decide +kernel
theorem dX11_init_70 : decode cX11_init 70 = .ok (.putfield 34, 3) := by decide +kernel
theorem dX11_init_73 : decode cX11_init 73 = .ok (.aload_n 0, 1) := by decide +kernel
theorem dX11_init_74 : decode cX11_init 74 = .ok (.bipush 12, 2) := by decide +kernel
theorem dX11_init_76 : decode cX11_init 76 = .ok (.newarray .int, 2) := by decide +kernel
theorem dX11_init_78 : decode cX11_init 78 = .ok (.putfield 37, 3) := by decide +kernel
theorem dX11_init_81 : decode cX11_init 81 = .ok (.aload_n 0, 1) := by decide +kernel
theorem dX11_init_82 : decode cX11_init 82 = .ok (.bipush 12, 2) := by decide +kernel
theorem dX11_init_84 : decode cX11_init 84 = .ok (.newarray .int, 2) := by decide +kernel
theorem dX11_init_86 : decode cX11_init 86 = .ok (.putfield 40, 3) := by decide +kernel
theorem dX11_init_89 : decode cX11_init 89 = .ok (.aload_n 0, 1) := by decide +kernel
theorem dX11_init_90 : decode cX11_init 90 = .ok (.bipush 12, 2) := by decide +kernel
theorem dX11_init_92 : decode cX11_init 92 = .ok (.newarray .int, 2) := by decide +kernel
theorem dX11_init_94 : decode cX11_init 94 = .ok (.putfield 43, 3) := by decide +kernel
theorem dX11_init_97 : decode cX11_init 97 = .ok (.aload_n 0, 1) := by decide +kernel
theorem dX11_init_98 : decode cX11_init 98 = .ok (.iconst 4, 1) := by decide +kernel
theorem dX11_init_99 : decode cX11_init 99 = .ok (.newarray .int, 2) := by decide +kernel
theorem dX11_init_101 : decode cX11_init 101 = .ok (.putfield 46, 3) := by decide +kernel
theorem dX11_init_104 : decode cX11_init 104 = .ok (.aload_n 0, 1) := by decide +kernel
theorem dX11_init_105 : decode cX11_init 105 = .ok (.iconst 4, 1) := by decide +kernel
theorem dX11_init_106 : decode cX11_init 106 = .ok (.newarray .int, 2) := by decide +kernel
theorem dX11_init_108 : decode cX11_init 108 = .ok (.putfield 49, 3) := by decide +kernel
theorem dX11_init_111 : decode cX11_init 111 = .ok (.aload_n 0, 1) := by decide +kernel
theorem dX11_init_112 : decode cX11_init 112 = .ok (.bipush 12, 2) := by decide +kernel
theorem dX11_init_114 : decode cX11_init 114 = .ok (.newarray .int, 2) := by decide +kernel
theorem dX11_init_116 : decode cX11_init 116 = .ok (.putfield 52, 3) := by decide +kernel
theorem dX11_init_119 : decode cX11_init 119 = .ok (.aload_n 0, 1) := by decide +kernel
theorem dX11_init_120 : decode cX11_init 120 = .ok (.bipush 12, 2) := by decide +kernel
theorem dX11_init_122 : decode cX11_init 122 = .ok (.newarray .int, 2) := by decide +kernel
theorem dX11_init_124 : decode cX11_init 124 = .ok (.putfield 55, 3) := by decide +kernel
theorem dX11_init_127 : decode cX11_init 127 = .ok (.aload_n 0, 1) := by decide +kernel
theorem dX11_init_128 : decode cX11_init 128 = .ok (.bipush 12, 2) := by decide +kernel
theorem dX11_init_130 : decode cX11_init 130 = .ok (.newarray .int, 2) := by decide +kernel
theorem dX11_init_132 : decode cX11_init 132 = .ok (.putfield 58, 3) := by decide +kernel
theorem dX11_init_135 : decode cX11_init 135 = .ok (.aload_n 0, 1) := by decide +kernel
theorem dX11_init_136 : decode cX11_init 136 = .ok (.bipush 10, 2) := by decide +kernel
theorem dX11_init_138 : decode cX11_init 138 = .ok (.newarray .int, 2) := by decide +kernel
theorem dX11_init_140 : decode cX11_init 140 = .ok (.putfield 61, 3) := by decide +kernel
theorem dX11_init_143 : decode cX11_init 143 = .ok (.aload_n 0, 1) := by decide +kernel
theorem dX11_init_144 : decode cX11_init 144 = .ok (.bipush 10, 2) := by decide +kernel
theorem dX11_init_146 : decode cX11_init 146 = .ok (.newarray .int, 2) := by decide +kernel
theorem dX11_init_148 : decode cX11_init 148 = .ok (.putfield 64, 3) := by decide +kernel
theorem dX11_init_151 : decode cX11_init 151 = .ok (.aload_n 0, 1) := by decide +kernel
theorem dX11_init_152 : decode cX11_init 152 = .ok (.bipush 10, 2) := by decide +kernel
theorem dX11_init_154 : decode cX11_init 154 = .ok (.putfield 67, 3) := by decide +kernel
theorem dX11_init_157 : decode cX11_init 157 = .ok (.aload_n 0, 1) := by decide +kernel
theorem dX11_init_158 : decode cX11_init 158 = .ok (.sipush 400, 3) := by decide +kernel
theorem dX11_init_161 : decode cX11_init 161 = .ok (.newarray .byte, 2) := by decide +kernel
theorem dX11_init_163 : decode cX11_init 163 = .ok (.putfield 71, 3) := by decide +kernel
theorem dX11_init_166 : decode cX11_init 166 = .ok (.aload_n 0, 1) := by decide +kernel
theorem dX11_init_167 : decode cX11_init 167 = .ok (.sipush 1800, 3) := by decide +kernel
theorem dX11_init_170 : decode cX11_init 170 = .ok (.newarray .int, 2) := by decide +kernel
theorem dX11_init_172 : decode cX11_init 172 = .ok (.putfield 75, 3) := by decide +kernel
theorem dX11_init_175 : decode cX11_init 175 = .ok (.aload_n 0, 1) := by decide +kernel
theorem dX11_init_176 : decode cX11_init 176 = .ok (.sipush 1800, 3) := by decide +kernel
theorem dX11_init_179 : decode cX11_init 179 = .ok (.newarray .int, 2) := by decide +kernel
theorem dX11_init_181 : decode cX11_init 181 = .ok (.putfield 78, 3) := by decide +kernel
theorem dX11_init_184 : decode cX11_init 184 = .ok (.aload_n 0, 1) := by decide +kernel
theorem dX11_init_185 : decode cX11_init 185 = .ok (.bipush 6, 2) := by decide +kernel
theorem dX11_init_187 : decode cX11_init 187 = .ok (.newarray .int, 2) := by decide +kernel
theorem dX11_init_189 : decode cX11_init 189 = .ok (.putfield 81, 3) := by decide +kernel
theorem dX11_init_192 : decode cX11_init 192 = .ok (.aload_n 0, 1) := by decide +kernel
theorem dX11_init_193 : decode cX11_init 193 = .ok (.bipush 72, 2) := by decide +kernel
theorem dX11_init_195 : decode cX11_init 195 = .ok (.newarray .int, 2) := by decide +kernel
theorem dX11_init_197 : decode cX11_init 197 = .ok (.putfield 84, 3) := by decide +kernel
theorem dX11_init_200 : decode cX11_init 200 = .ok (.aload_n 0, 1) := by decide +kernel
theorem dX11_init_201 : decode cX11_init 201 = .ok (.bipush 72, 2) := by decide +kernel
theorem dX11_init_203 : decode cX11_init 203 = .ok (.newarray .int, 2) := by decide +kernel
theorem dX11_init_205 : decode cX11_init 205 = .ok (.putfield 87, 3) := by decide +kernel
theorem dX11_init_208 : decode cX11_init 208 = .ok (.aload_n 0, 1) := by decide +kernel
theorem dX11_init_209 : decode cX11_init 209 = .ok (.bipush 72, 2) := by decide +kernel
theorem dX11_init_211 : decode cX11_init 211 = .ok (.newarray .int, 2) := by decide +kernel
theorem dX11_init_213 : decode cX11_init 213 = .ok (.putfield 90, 3) := by decide +kernel
theorem dX11_init_216 : decode cX11_init 216 = .ok (.aload_n 0, 1) := by decide +kernel
theorem dX11_init_217 : decode cX11_init 217 = .ok (.bipush 72, 2) := by decide +kernel
theorem dX11_init_219 : decode cX11_init 219 = .ok (.newarray .int, 2) := by decide +kernel
theorem dX11_init_221 : decode cX11_init 221 = .ok (.putfield 93, 3) := by decide +kernel
theorem dX11_init_224 : decode cX11_init 224 = .ok (.aload_n 0, 1) := by decide +kernel
theorem dX11_init_225 : decode cX11_init 225 = .ok (.sipush 402, 3) := by decide +kernel
theorem dX11_init_228 : decode cX11_init 228 = .ok (.newarray .int, 2) := by decide +kernel
theorem dX11_init_230 : decode cX11_init 230 = .ok (.putfield 96, 3) := by decide +kernel
theorem dX11_init_233 : decode cX11_init 233 = .ok (.aload_n 0, 1) := by decide +kernel
theorem dX11_init_234 : decode cX11_init 234 = .ok (.bipush 10, 2) := by decide +kernel
theorem dX11_init_236 : decode cX11_init 236 = .ok (.newarray .long, 2) := by decide +kernel
theorem dX11_init_238 : decode cX11_init 238 = .ok (.putfield 99, 3) := by decide +kernel
theorem dX11_init_241 : decode cX11_init 241 = .ok (.aload_n 0, 1) := by decide +kernel
theorem dX11_init_242 : decode cX11_init 242 = .ok (.sipush 300, 3) := by decide +kernel
theorem dX11_init_245 : decode cX11_init 245 = .ok (.newarray .long, 2) := by decide +kernel
theorem dX11_init_247 : decode cX11_init 247 = .ok (.putfield 103, 3) := by decide +kernel
theorem dX11_init_250 : decode cX11_init 250 = .ok (.aload_n 0, 1) := by decide +kernel
theorem dX11_init_251 : decode cX11_init 251 = .ok (.bipush 12, 2) := by decide +kernel
theorem dX11_init_253 : decode cX11_init 253 = .ok (.newarray .int, 2) := by decide +kernel
theorem dX11_init_255 : decode cX11_init 255 = .ok (.putfield 106, 3) := by decide +kernel
theorem dX11_init_258 : decode cX11_init 258 = .ok (.aload_n 0, 1) := by decide +kernel
theorem dX11_init_259 : decode cX11_init 259 = .ok (.bipush 12, 2) := by decide +kernel
theorem dX11_init_261 : decode cX11_init 261 = .ok (.newarray .int, 2) := by decide +kernel
theorem dX11_init_263 : decode cX11_init 263 = .ok (.putfield 109, 3) := by decide +kernel
theorem dX11_init_266 : decode cX11_init 266 = .ok (.aload_n 0, 1) := by decide +kernel
theorem dX11_init_267 : decode cX11_init 267 = .ok (.bipush 12, 2) := by decide +kernel
theorem dX11_init_269 : decode cX11_init 269 = .ok (.newarray .int, 2) := by decide +kernel
theorem dX11_init_271 : decode cX11_init 271 = .ok (.putfield 112, 3) := by decide +kernel
theorem dX11_init_274 : decode cX11_init 274 = .ok (.aload_n 0, 1) := by decide +kernel
theorem dX11_init_275 : decode cX11_init 275 = .ok (.bipush 12, 2) := by decide +kernel
theorem dX11_init_277 : decode cX11_init 277 = .ok (.newarray .int, 2) := by decide +kernel
theorem dX11_init_279 : decode cX11_init 279 = .ok (.putfield 115, 3) := by decide +kernel
theorem dX11_init_282 : decode cX11_init 282 = .ok (.aload_n 0, 1) := by decide +kernel
theorem dX11_init_283 : decode cX11_init 283 = .ok (.bipush 12, 2) := by decide +kernel
theorem dX11_init_285 : decode cX11_init 285 = .ok (.newarray .int, 2) := by decide +kernel
theorem dX11_init_287 : decode cX11_init 287 = .ok (.putfield 118, 3) := by decide +kernel
theorem dX11_init_290 : decode cX11_init 290 = .ok (.aload_n 0, 1) := by decide +kernel
theorem dX11_init_291 : decode cX11_init 291 = .ok (.bipush 12, 2) := by decide +kernel
theorem dX11_init_293 : decode cX11_init 293 = .ok (.newarray .int, 2) := by decide +kernel
theorem dX11_init_295 : decode cX11_init 295 = .ok (.putfield 121, 3) := by decide +kernel
theorem dX11_init_298 : decode cX11_init 298 = .ok (.aload_n 0, 1) := by decide +kernel
theorem dX11_init_299 : decode cX11_init 299 = .ok (.sipush 4096, 3) := by decide +kernel
theorem dX11_init_302 : decode cX11_init 302 = .ok (.newarray .int, 2) := by decide +kernel
theorem dX11_init_304 : decode cX11_init 304 = .ok (.putfield 124, 3) := by decide +kernel
theorem dX11_init_307 : decode cX11_init 307 = .ok (.aload_n 0, 1) := by decide +kernel
theorem dX11_init_308 : decode cX11_init 308 = .ok (.ldc 127, 2) := by decide +kernel
theorem dX11_init_310 : decode cX11_init 310 = .ok (.newarray .int, 2) := by decide +kernel
theorem dX11_init_312 : decode cX11_init 312 = .ok (.putfield 128, 3) := by decide +kernel
theorem dX11_init_315 : decode cX11_init 315 = .ok (.aload_n 0, 1) := by decide +kernel
theorem dX11_init_316 : decode cX11_init 316 = .ok (.sipush 4096, 3) := by decide +kernel
theorem dX11_init_319 : decode cX11_init 319 = .ok (.newarray .long, 2) := by decide +kernel
theorem dX11_init_321 : decode cX11_init 321 = .ok (.putfield 131, 3) := by decide +kernel
theorem dX11_init_324 : decode cX11_init 324 = .ok (.aload_n 0, 1) := by decide +kernel
theorem dX11_init_325 : decode cX11_init 325 = .ok (.sipush 4096, 3) := by decide +kernel
theorem dX11_init_328 : decode cX11_init 328 = .ok (.newarray .boolean, 2) := by decide +kernel
theorem dX11_init_330 : decode cX11_init 330 = .ok (.putfield 134, 3) := by decide +kernel
theorem dX11_init_333 : decode cX11_init 333 = .ok (.aload_n 0, 1) := by decide +kernel
theorem dX11_init_334 : decode cX11_init 334 = .ok (.sipush 12000, 3) := by decide +kernel
theorem dX11_init_337 : decode cX11_init 337 = .ok (.newarray .boolean, 2) := by decide +kernel
theorem dX11_init_339 : decode cX11_init 339 = .ok (.putfield 138, 3) := by decide +kernel
theorem dX11_init_342 : decode cX11_init 342 = .ok (.aload_n 0, 1) := by decide +kernel
theorem dX11_init_343 : decode cX11_init 343 = .ok (.bipush 10, 2) := by decide +kernel
theorem dX11_init_345 : decode cX11_init 345 = .ok (.newarray .int, 2) := by decide +kernel
theorem dX11_init_347 : decode cX11_init 347 = .ok (.putfield 141, 3) := by decide +kernel
theorem dX11_init_350 : decode cX11_init 350 = .ok (.aload_n 0, 1) := by decide +kernel
theorem dX11_init_351 : decode cX11_init 351 = .ok (.sipush 1024, 3) := by decide +kernel
theorem dX11_init_354 : decode cX11_init 354 = .ok (.newarray .int, 2) := by decide +kernel
theorem dX11_init_356 : decode cX11_init 356 = .ok (.putfield 144, 3) := by decide +kernel
theorem dX11_init_359 : decode cX11_init 359 = .ok (.aload_n 0, 1) := by decide +kernel
theorem dX11_init_360 : decode cX11_init 360 = .ok (.sipush 4096, 3) := by decide +kernel
theorem dX11_init_363 : decode cX11_init 363 = .ok (.newarray .boolean, 2) := by decide +kernel
theorem dX11_init_365 : decode cX11_init 365 = .ok (.putfield 147, 3) := by decide +kernel
theorem dX11_init_368 : decode cX11_init 368 = .ok (.aload_n 0, 1) := by decide +kernel
theorem dX11_init_369 : decode cX11_init 369 = .ok (.sipush 201, 3) := by decide +kernel
theorem dX11_init_372 : decode cX11_init 372 = .ok (.newarray .boolean, 2) := by decide +kernel
theorem dX11_init_374 : decode cX11_init 374 = .ok (.putfield 150, 3) := by decide +kernel
theorem dX11_init_377 : decode cX11_init 377 = .ok (.aload_n 0, 1) := by decide +kernel
theorem dX11_init_378 : decode cX11_init 378 = .ok (.sipush 201, 3) := by decide +kernel
theorem dX11_init_381 : decode cX11_init 381 = .ok (.newarray .int, 2) := by decide +kernel
theorem dX11_init_383 : decode cX11_init 383 = .ok (.putfield 153, 3) := by decide +kernel
theorem dX11_init_386 : decode cX11_init 386 = .ok (.aload_n 0, 1) := by decide +kernel
theorem dX11_init_387 : decode cX11_init 387 = .ok (.bipush 12, 2) := by decide +kernel
theorem dX11_init_389 : decode cX11_init 389 = .ok (.newarray .int, 2) := by decide +kernel
theorem dX11_init_391 : decode cX11_init 391 = .ok (.putfield 156, 3) := by decide +kernel
theorem dX11_init_394 : decode cX11_init 394 = .ok (.aload_n 0, 1) := by decide +kernel
theorem dX11_init_395 : decode cX11_init 395 = .ok (.bipush 12, 2) := by decide +kernel
theorem dX11_init_397 : decode cX11_init 397 = .ok (.newarray .int, 2) := by decide +kernel
theorem dX11_init_399 : decode cX11_init 399 = .ok (.putfield 159, 3) := by decide +kernel
theorem dX11_init_402 : decode cX11_init 402 = .ok (.aload_n 0, 1) := by decide +kernel
theorem dX11_init_403 : decode cX11_init 403 = .ok (.sipush 520, 3) := by decide +kernel
theorem dX11_init_406 : decode cX11_init 406 = .ok (.newarray .int, 2) := by decide +kernel
theorem dX11_init_408 : decode cX11_init 408 = .ok (.putfield 162, 3) := by decide +kernel
theorem dX11_init_411 : decode cX11_init 411 = .ok (.aload_n 0, 1) := by decide +kernel
theorem dX11_init_412 : decode cX11_init 412 = .ok (.iconst 4, 1) := by decide +kernel
theorem dX11_init_413 : decode cX11_init 413 = .ok (.newarray .boolean, 2) := by decide +kernel
theorem dX11_init_415 : decode cX11_init 415 = .ok (.putfield 165, 3) := by decide +kernel
theorem dX11_init_418 : decode cX11_init 418 = .ok (.return_, 1) := by decide +kernel
theorem dX11_in_0 : decode cX11_in 0 = .ok (.lload_n 0, 1) := by decide +kernel
theorem dX11_in_1 : decode cX11_in 1 = .ok (.lload_n 2, 1) := by decide +kernel
theorem dX11_in_2 : decode cX11_in 2 = .ok (.lcmp, 1) := by decide +kernel
theorem dX11_in_3 : decode cX11_in 3 = .ok (.ifCond .lt 14, 3) := by decide +kernel
theorem dX11_in_6 : decode cX11_in 6 = .ok (.lload_n 0, 1) := by decide +kernel
theorem dX11_in_7 : decode cX11_in 7 = .ok (.lload 4, 2) := by decide +kernel
theorem dX11_in_9 : decode cX11_in 9 = .ok (.lcmp, 1) := by decide +kernel
theorem dX11_in_10 : decode cX11_in 10 = .ok (.ifCond .gt 7, 3) := by decide +kernel
theorem dX11_in_13 : decode cX11_in 13 = .ok (.iconst 1, 1) := by decide +kernel
theorem dX11_in_14 : decode cX11_in 14 = .ok (.goto 4, 3) := by decide +kernel
theorem dX11_in_17 : decode cX11_in 17 = .ok (.iconst 0, 1) := by decide +kernel
theorem dX11_in_18 : decode cX11_in 18 = .ok (.ireturn, 1) := by decide +kernel
theorem dX11_has_0 : decode cX11_has 0 = .ok (.iload_n 0, 1) := by decide +kernel
theorem dX11_has_1 : decode cX11_has 1 = .ok (.iload_n 1, 1) := by decide +kernel
theorem dX11_has_2 : decode cX11_has 2 = .ok (.ishr, 1) := by decide +kernel
theorem dX11_has_3 : decode cX11_has 3 = .ok (.iconst 1, 1) := by decide +kernel
theorem dX11_has_4 : decode cX11_has 4 = .ok (.iand, 1) := by decide +kernel
theorem dX11_has_5 : decode cX11_has 5 = .ok (.iconst 1, 1) := by decide +kernel
theorem dX11_has_6 : decode cX11_has 6 = .ok (.if_icmp .ne 7, 3) := by decide +kernel
theorem dX11_has_9 : decode cX11_has 9 = .ok (.iconst 1, 1) := by decide +kernel
theorem dX11_has_10 : decode cX11_has 10 = .ok (.goto 4, 3) := by decide +kernel
theorem dX11_has_13 : decode cX11_has 13 = .ok (.iconst 0, 1) := by decide +kernel
theorem dX11_has_14 : decode cX11_has 14 = .ok (.ireturn, 1) := by decide +kernel
theorem dX11_bits_0 : decode cX11_bits 0 = .ok (.iconst 0, 1) := by decide +kernel
theorem dX11_bits_1 : decode cX11_bits 1 = .ok (.istore_n 1, 1) := by decide +kernel
theorem dX11_bits_2 : decode cX11_bits 2 = .ok (.iload_n 0, 1) := by decide +kernel
theorem dX11_bits_3 : decode cX11_bits 3 = .ok (.istore_n 2, 1) := by decide +kernel
theorem dX11_bits_4 : decode cX11_bits 4 = .ok (.iload_n 2, 1) := by decide +kernel
theorem dX11_bits_5 : decode cX11_bits 5 = .ok (.ifCond .eq 15, 3) := by decide +kernel
theorem dX11_bits_8 : decode cX11_bits 8 = .ok (.iinc 1 1, 3) := by decide +kernel
theorem dX11_bits_11 : decode cX11_bits 11 = .ok (.iload_n 2, 1) := by decide +kernel
theorem dX11_bits_12 : decode cX11_bits 12 = .ok (.iload_n 2, 1) := by decide +kernel
theorem dX11_bits_13 : decode cX11_bits 13 = .ok (.iconst 1, 1) := by decide +kernel
theorem dX11_bits_14 : decode cX11_bits 14 = .ok (.isub, 1) := by decide +kernel
theorem dX11_bits_15 : decode cX11_bits 15 = .ok (.iand, 1) := by decide +kernel
theorem dX11_bits_16 : decode cX11_bits 16 = .ok (.istore_n 2, 1) := by decide +kernel
theorem dX11_bits_17 : decode cX11_bits 17 = .ok (.goto (-13), 3) := by decide +kernel
theorem dX11_bits_20 : decode cX11_bits 20 = .ok (.iload_n 1, 1) := by decide +kernel
theorem dX11_bits_21 : decode cX11_bits 21 = .ok (.ireturn, 1) := by decide +kernel
theorem dX11_held_0 : decode cX11_held 0 = .ok (.lload_n 0, 1) := by decide +kernel
theorem dX11_held_1 : decode cX11_held 1 = .ok (.lload_n 2, 1) := by decide +kernel
theorem dX11_held_2 : decode cX11_held 2 = .ok (.lcmp, 1) := by decide +kernel
theorem dX11_held_3 : decode cX11_held 3 = .ok (.ifCond .ge 7, 3) := by decide +kernel
theorem dX11_held_6 : decode cX11_held 6 = .ok (.lload_n 2, 1) := by decide +kernel
theorem dX11_held_7 : decode cX11_held 7 = .ok (.goto 16, 3) := by decide +kernel
theorem dX11_held_10 : decode cX11_held 10 = .ok (.lload_n 0, 1) := by decide +kernel
theorem dX11_held_11 : decode cX11_held 11 = .ok (.lload 4, 2) := by decide +kernel
theorem dX11_held_13 : decode cX11_held 13 = .ok (.lcmp, 1) := by decide +kernel
theorem dX11_held_14 : decode cX11_held 14 = .ok (.ifCond .le 8, 3) := by decide +kernel
theorem dX11_held_17 : decode cX11_held 17 = .ok (.lload 4, 2) := by decide +kernel
theorem dX11_held_19 : decode cX11_held 19 = .ok (.goto 4, 3) := by decide +kernel
theorem dX11_held_22 : decode cX11_held 22 = .ok (.lload_n 0, 1) := by decide +kernel
theorem dX11_held_23 : decode cX11_held 23 = .ok (.lreturn, 1) := by decide +kernel
theorem dX11_isCoin_0 : decode cX11_isCoin 0 = .ok (.iload_n 1, 1) := by decide +kernel
theorem dX11_isCoin_1 : decode cX11_isCoin 1 = .ok (.i2l, 1) := by decide +kernel
theorem dX11_isCoin_2 : decode cX11_isCoin 2 = .ok (.lconst 0, 1) := by decide +kernel
theorem dX11_isCoin_3 : decode cX11_isCoin 3 = .ok (.aload_n 0, 1) := by decide +kernel
theorem dX11_isCoin_4 : decode cX11_isCoin 4 = .ok (.getfield 9, 3) := by decide +kernel
theorem dX11_isCoin_7 : decode cX11_isCoin 7 = .ok (.iconst 0, 1) := by decide +kernel
theorem dX11_isCoin_8 : decode cX11_isCoin 8 = .ok (.iaload, 1) := by decide +kernel
theorem dX11_isCoin_9 : decode cX11_isCoin 9 = .ok (.iconst 1, 1) := by decide +kernel
theorem dX11_isCoin_10 : decode cX11_isCoin 10 = .ok (.isub, 1) := by decide +kernel
theorem dX11_isCoin_11 : decode cX11_isCoin 11 = .ok (.i2l, 1) := by decide +kernel
theorem dX11_isCoin_12 : decode cX11_isCoin 12 = .ok (.invokestatic 171, 3) := by decide +kernel
theorem dX11_isCoin_15 : decode cX11_isCoin 15 = .ok (.ireturn, 1) := by decide +kernel
theorem dX11_isCounter_0 : decode cX11_isCounter 0 = .ok (.iload_n 1, 1) := by decide +kernel
theorem dX11_isCounter_1 : decode cX11_isCounter 1 = .ok (.i2l, 1) := by decide +kernel
theorem dX11_isCounter_2 : decode cX11_isCounter 2 = .ok (.lconst 0, 1) := by decide +kernel
theorem dX11_isCounter_3 : decode cX11_isCounter 3 = .ok (.aload_n 0, 1) := by decide +kernel
theorem dX11_isCounter_4 : decode cX11_isCounter 4 = .ok (.getfield 9, 3) := by decide +kernel
theorem dX11_isCounter_7 : decode cX11_isCounter 7 = .ok (.iconst 1, 1) := by decide +kernel
theorem dX11_isCounter_8 : decode cX11_isCounter 8 = .ok (.iaload, 1) := by decide +kernel
theorem dX11_isCounter_9 : decode cX11_isCounter 9 = .ok (.iconst 1, 1) := by decide +kernel
theorem dX11_isCounter_10 : decode cX11_isCounter 10 = .ok (.isub, 1) := by decide +kernel
theorem dX11_isCounter_11 : decode cX11_isCounter 11 = .ok (.i2l, 1) := by decide +kernel
theorem dX11_isCounter_12 : decode cX11_isCounter 12 = .ok (.invokestatic 171, 3) := by decide +kernel
theorem dX11_isCounter_15 : decode cX11_isCounter 15 = .ok (.ireturn, 1) := by decide +kernel
theorem dX11_isSet_0 : decode cX11_isSet 0 = .ok (.aload_n 0, 1) := by decide +kernel
theorem dX11_isSet_1 : decode cX11_isSet 1 = .ok (.getfield 9, 3) := by decide +kernel
theorem dX11_isSet_4 : decode cX11_isSet 4 = .ok (.iconst 1, 1) := by decide +kernel
theorem dX11_isSet_5 : decode cX11_isSet 5 = .ok (.iaload, 1) := by decide +kernel
theorem dX11_isSet_6 : decode cX11_isSet 6 = .ok (.ifCond .le 27, 3) := by decide +kernel
theorem dX11_isSet_9 : decode cX11_isSet 9 = .ok (.iload_n 1, 1) := by decide +kernel
theorem dX11_isSet_10 : decode cX11_isSet 10 = .ok (.i2l, 1) := by decide +kernel
theorem dX11_isSet_11 : decode cX11_isSet 11 = .ok (.lconst 0, 1) := by decide +kernel
theorem dX11_isSet_12 : decode cX11_isSet 12 = .ok (.iconst 1, 1) := by decide +kernel
theorem dX11_isSet_13 : decode cX11_isSet 13 = .ok (.aload_n 0, 1) := by decide +kernel
theorem dX11_isSet_14 : decode cX11_isSet 14 = .ok (.getfield 9, 3) := by decide +kernel
theorem dX11_isSet_17 : decode cX11_isSet 17 = .ok (.iconst 0, 1) := by decide +kernel
theorem dX11_isSet_18 : decode cX11_isSet 18 = .ok (.iaload, 1) := by decide +kernel
theorem dX11_isSet_19 : decode cX11_isSet 19 = .ok (.ishl, 1) := by decide +kernel
theorem dX11_isSet_20 : decode cX11_isSet 20 = .ok (.iconst 1, 1) := by decide +kernel
theorem dX11_isSet_21 : decode cX11_isSet 21 = .ok (.isub, 1) := by decide +kernel
theorem dX11_isSet_22 : decode cX11_isSet 22 = .ok (.i2l, 1) := by decide +kernel
theorem dX11_isSet_23 : decode cX11_isSet 23 = .ok (.invokestatic 171, 3) := by decide +kernel
theorem dX11_isSet_26 : decode cX11_isSet 26 = .ok (.ifCond .eq 7, 3) := by decide +kernel
theorem dX11_isSet_29 : decode cX11_isSet 29 = .ok (.iconst 1, 1) := by decide +kernel
theorem dX11_isSet_30 : decode cX11_isSet 30 = .ok (.goto 4, 3) := by decide +kernel
theorem dX11_isSet_33 : decode cX11_isSet 33 = .ok (.iconst 0, 1) := by decide +kernel
theorem dX11_isSet_34 : decode cX11_isSet 34 = .ok (.ireturn, 1) := by decide +kernel
theorem dX11_isPerson_0 : decode cX11_isPerson 0 = .ok (.iload_n 0, 1) := by decide +kernel
theorem dX11_isPerson_1 : decode cX11_isPerson 1 = .ok (.i2l, 1) := by decide +kernel
theorem dX11_isPerson_2 : decode cX11_isPerson 2 = .ok (.lconst 0, 1) := by decide +kernel
theorem dX11_isPerson_3 : decode cX11_isPerson 3 = .ok (.ldc2_w 175, 3) := by decide +kernel
theorem dX11_isPerson_6 : decode cX11_isPerson 6 = .ok (.invokestatic 171, 3) := by decide +kernel
theorem dX11_isPerson_9 : decode cX11_isPerson 9 = .ok (.ireturn, 1) := by decide +kernel
theorem dX11_worthOf_0 : decode cX11_worthOf 0 = .ok (.iconst 0, 1) := by decide +kernel
theorem dX11_worthOf_1 : decode cX11_worthOf 1 = .ok (.istore_n 2, 1) := by decide +kernel
theorem dX11_worthOf_2 : decode cX11_worthOf 2 = .ok (.iconst 0, 1) := by decide +kernel
theorem dX11_worthOf_3 : decode cX11_worthOf 3 = .ok (.istore_n 3, 1) := by decide +kernel
theorem dX11_worthOf_4 : decode cX11_worthOf 4 = .ok (.iload_n 3, 1) := by decide +kernel
theorem dX11_worthOf_5 : decode cX11_worthOf 5 = .ok (.aload_n 0, 1) := by decide +kernel
theorem dX11_worthOf_6 : decode cX11_worthOf 6 = .ok (.getfield 9, 3) := by decide +kernel
theorem dX11_worthOf_9 : decode cX11_worthOf 9 = .ok (.iconst 0, 1) := by decide +kernel
theorem dX11_worthOf_10 : decode cX11_worthOf 10 = .ok (.iaload, 1) := by decide +kernel
theorem dX11_worthOf_11 : decode cX11_worthOf 11 = .ok (.if_icmp .ge 30, 3) := by decide +kernel
theorem dX11_worthOf_14 : decode cX11_worthOf 14 = .ok (.iload_n 2, 1) := by decide +kernel
theorem dX11_worthOf_15 : decode cX11_worthOf 15 = .ok (.iload_n 1, 1) := by decide +kernel
theorem dX11_worthOf_16 : decode cX11_worthOf 16 = .ok (.iload_n 3, 1) := by decide +kernel
theorem dX11_worthOf_17 : decode cX11_worthOf 17 = .ok (.invokestatic 177, 3) := by decide +kernel
theorem dX11_worthOf_20 : decode cX11_worthOf 20 = .ok (.ifCond .eq 12, 3) := by decide +kernel
theorem dX11_worthOf_23 : decode cX11_worthOf 23 = .ok (.aload_n 0, 1) := by decide +kernel
theorem dX11_worthOf_24 : decode cX11_worthOf 24 = .ok (.getfield 19, 3) := by decide +kernel
theorem dX11_worthOf_27 : decode cX11_worthOf 27 = .ok (.iload_n 3, 1) := by decide +kernel
theorem dX11_worthOf_28 : decode cX11_worthOf 28 = .ok (.iaload, 1) := by decide +kernel
theorem dX11_worthOf_29 : decode cX11_worthOf 29 = .ok (.goto 4, 3) := by decide +kernel
theorem dX11_worthOf_32 : decode cX11_worthOf 32 = .ok (.iconst 0, 1) := by decide +kernel
theorem dX11_worthOf_33 : decode cX11_worthOf 33 = .ok (.iadd, 1) := by decide +kernel
theorem dX11_worthOf_34 : decode cX11_worthOf 34 = .ok (.istore_n 2, 1) := by decide +kernel
theorem dX11_worthOf_35 : decode cX11_worthOf 35 = .ok (.iinc 3 1, 3) := by decide +kernel
theorem dX11_worthOf_38 : decode cX11_worthOf 38 = .ok (.goto (-34), 3) := by decide +kernel
theorem dX11_worthOf_41 : decode cX11_worthOf 41 = .ok (.iload_n 2, 1) := by decide +kernel
theorem dX11_worthOf_42 : decode cX11_worthOf 42 = .ok (.ireturn, 1) := by decide +kernel
theorem dX11_heldBy_0 : decode cX11_heldBy 0 = .ok (.iconst 0, 1) := by decide +kernel
theorem dX11_heldBy_1 : decode cX11_heldBy 1 = .ok (.istore_n 2, 1) := by decide +kernel
theorem dX11_heldBy_2 : decode cX11_heldBy 2 = .ok (.iconst 0, 1) := by decide +kernel
theorem dX11_heldBy_3 : decode cX11_heldBy 3 = .ok (.istore_n 3, 1) := by decide +kernel
theorem dX11_heldBy_4 : decode cX11_heldBy 4 = .ok (.iload_n 3, 1) := by decide +kernel
theorem dX11_heldBy_5 : decode cX11_heldBy 5 = .ok (.aload_n 0, 1) := by decide +kernel
theorem dX11_heldBy_6 : decode cX11_heldBy 6 = .ok (.getfield 9, 3) := by decide +kernel
theorem dX11_heldBy_9 : decode cX11_heldBy 9 = .ok (.iconst 0, 1) := by decide +kernel
theorem dX11_heldBy_10 : decode cX11_heldBy 10 = .ok (.iaload, 1) := by decide +kernel
theorem dX11_heldBy_11 : decode cX11_heldBy 11 = .ok (.if_icmp .ge 29, 3) := by decide +kernel
theorem dX11_heldBy_14 : decode cX11_heldBy 14 = .ok (.iload_n 2, 1) := by decide +kernel
theorem dX11_heldBy_15 : decode cX11_heldBy 15 = .ok (.aload_n 0, 1) := by decide +kernel
theorem dX11_heldBy_16 : decode cX11_heldBy 16 = .ok (.getfield 52, 3) := by decide +kernel
theorem dX11_heldBy_19 : decode cX11_heldBy 19 = .ok (.iload_n 3, 1) := by decide +kernel
theorem dX11_heldBy_20 : decode cX11_heldBy 20 = .ok (.iaload, 1) := by decide +kernel
theorem dX11_heldBy_21 : decode cX11_heldBy 21 = .ok (.iload_n 1, 1) := by decide +kernel
theorem dX11_heldBy_22 : decode cX11_heldBy 22 = .ok (.if_icmp .ne 9, 3) := by decide +kernel
theorem dX11_heldBy_25 : decode cX11_heldBy 25 = .ok (.iconst 1, 1) := by decide +kernel
theorem dX11_heldBy_26 : decode cX11_heldBy 26 = .ok (.iload_n 3, 1) := by decide +kernel
theorem dX11_heldBy_27 : decode cX11_heldBy 27 = .ok (.ishl, 1) := by decide +kernel
theorem dX11_heldBy_28 : decode cX11_heldBy 28 = .ok (.goto 4, 3) := by decide +kernel
theorem dX11_heldBy_31 : decode cX11_heldBy 31 = .ok (.iconst 0, 1) := by decide +kernel
theorem dX11_heldBy_32 : decode cX11_heldBy 32 = .ok (.ior, 1) := by decide +kernel
theorem dX11_heldBy_33 : decode cX11_heldBy 33 = .ok (.istore_n 2, 1) := by decide +kernel
theorem dX11_heldBy_34 : decode cX11_heldBy 34 = .ok (.iinc 3 1, 3) := by decide +kernel
theorem dX11_heldBy_37 : decode cX11_heldBy 37 = .ok (.goto (-33), 3) := by decide +kernel
theorem dX11_heldBy_40 : decode cX11_heldBy 40 = .ok (.iload_n 2, 1) := by decide +kernel
theorem dX11_heldBy_41 : decode cX11_heldBy 41 = .ok (.ireturn, 1) := by decide +kernel
theorem dX11_feed_0 : decode cX11_feed 0 = .ok (.aload_n 0, 1) := by decide +kernel
theorem dX11_feed_1 : decode cX11_feed 1 = .ok (.getfield 181, 3) := by decide +kernel
theorem dX11_feed_4 : decode cX11_feed 4 = .ok (.bipush 20, 2) := by decide +kernel
theorem dX11_feed_6 : decode cX11_feed 6 = .ok (.iadd, 1) := by decide +kernel
theorem dX11_feed_7 : decode cX11_feed 7 = .ok (.sipush 400, 3) := by decide +kernel
theorem dX11_feed_10 : decode cX11_feed 10 = .ok (.if_icmp .le 5, 3) := by decide +kernel
theorem dX11_feed_13 : decode cX11_feed 13 = .ok (.iconst (-1), 1) := by decide +kernel
theorem dX11_feed_14 : decode cX11_feed 14 = .ok (.ireturn, 1) := by decide +kernel
theorem dX11_feed_15 : decode cX11_feed 15 = .ok (.aload_n 0, 1) := by decide +kernel
theorem dX11_feed_16 : decode cX11_feed 16 = .ok (.iload_n 1, 1) := by decide +kernel
theorem dX11_feed_17 : decode cX11_feed 17 = .ok (.invokevirtual 184, 3) := by decide +kernel
theorem dX11_feed_20 : decode cX11_feed 20 = .ok (.aload_n 0, 1) := by decide +kernel
theorem dX11_feed_21 : decode cX11_feed 21 = .ok (.iload_n 2, 1) := by decide +kernel
theorem dX11_feed_22 : decode cX11_feed 22 = .ok (.invokevirtual 184, 3) := by decide +kernel
theorem dX11_feed_25 : decode cX11_feed 25 = .ok (.aload_n 0, 1) := by decide +kernel
theorem dX11_feed_26 : decode cX11_feed 26 = .ok (.iload_n 3, 1) := by decide +kernel
theorem dX11_feed_27 : decode cX11_feed 27 = .ok (.invokevirtual 184, 3) := by decide +kernel
theorem dX11_feed_30 : decode cX11_feed 30 = .ok (.aload_n 0, 1) := by decide +kernel
theorem dX11_feed_31 : decode cX11_feed 31 = .ok (.iload 4, 2) := by decide +kernel
theorem dX11_feed_33 : decode cX11_feed 33 = .ok (.invokevirtual 184, 3) := by decide +kernel
theorem dX11_feed_36 : decode cX11_feed 36 = .ok (.aload_n 0, 1) := by decide +kernel
theorem dX11_feed_37 : decode cX11_feed 37 = .ok (.iload 5, 2) := by decide +kernel
theorem dX11_feed_39 : decode cX11_feed 39 = .ok (.invokevirtual 184, 3) := by decide +kernel
theorem dX11_feed_42 : decode cX11_feed 42 = .ok (.aload_n 0, 1) := by decide +kernel
theorem dX11_feed_43 : decode cX11_feed 43 = .ok (.getfield 181, 3) := by decide +kernel
theorem dX11_feed_46 : decode cX11_feed 46 = .ok (.ireturn, 1) := by decide +kernel
theorem dX11_put_0 : decode cX11_put 0 = .ok (.bipush 24, 2) := by decide +kernel
theorem dX11_put_2 : decode cX11_put 2 = .ok (.istore_n 2, 1) := by decide +kernel
theorem dX11_put_3 : decode cX11_put 3 = .ok (.iload_n 2, 1) := by decide +kernel
theorem dX11_put_4 : decode cX11_put 4 = .ok (.ifCond .lt 32, 3) := by decide +kernel
theorem dX11_put_7 : decode cX11_put 7 = .ok (.aload_n 0, 1) := by decide +kernel
theorem dX11_put_8 : decode cX11_put 8 = .ok (.getfield 71, 3) := by decide +kernel
theorem dX11_put_11 : decode cX11_put 11 = .ok (.aload_n 0, 1) := by decide +kernel
theorem dX11_put_12 : decode cX11_put 12 = .ok (.getfield 181, 3) := by decide +kernel
theorem dX11_put_15 : decode cX11_put 15 = .ok (.iload_n 1, 1) := by decide +kernel
theorem dX11_put_16 : decode cX11_put 16 = .ok (.iload_n 2, 1) := by decide +kernel
theorem dX11_put_17 : decode cX11_put 17 = .ok (.ishr, 1) := by decide +kernel
theorem dX11_put_18 : decode cX11_put 18 = .ok (.i2b, 1) := by decide +kernel
theorem dX11_put_19 : decode cX11_put 19 = .ok (.bastore, 1) := by decide +kernel
theorem dX11_put_20 : decode cX11_put 20 = .ok (.aload_n 0, 1) := by decide +kernel
theorem dX11_put_21 : decode cX11_put 21 = .ok (.dup, 1) := by decide +kernel
theorem dX11_put_22 : decode cX11_put 22 = .ok (.getfield 181, 3) := by decide +kernel
theorem dX11_put_25 : decode cX11_put 25 = .ok (.iconst 1, 1) := by decide +kernel
theorem dX11_put_26 : decode cX11_put 26 = .ok (.iadd, 1) := by decide +kernel
theorem dX11_put_27 : decode cX11_put 27 = .ok (.putfield 181, 3) := by decide +kernel
theorem dX11_put_30 : decode cX11_put 30 = .ok (.iinc 2 (-8), 3) := by decide +kernel
theorem dX11_put_33 : decode cX11_put 33 = .ok (.goto (-30), 3) := by decide +kernel
theorem dX11_put_36 : decode cX11_put 36 = .ok (.return_, 1) := by decide +kernel
theorem dX11_end_0 : decode cX11_end 0 = .ok (.iload_n 1, 1) := by decide +kernel
theorem dX11_end_1 : decode cX11_end 1 = .ok (.ifCond .lt 11, 3) := by decide +kernel
theorem dX11_end_4 : decode cX11_end 4 = .ok (.iload_n 1, 1) := by decide +kernel
theorem dX11_end_5 : decode cX11_end 5 = .ok (.aload_n 0, 1) := by decide +kernel
theorem dX11_end_6 : decode cX11_end 6 = .ok (.getfield 181, 3) := by decide +kernel
theorem dX11_end_9 : decode cX11_end 9 = .ok (.if_icmp .le 5, 3) := by decide +kernel
theorem dX11_end_12 : decode cX11_end 12 = .ok (.iconst (-1), 1) := by decide +kernel
theorem dX11_end_13 : decode cX11_end 13 = .ok (.ireturn, 1) := by decide +kernel
theorem dX11_end_14 : decode cX11_end 14 = .ok (.aload_n 0, 1) := by decide +kernel
theorem dX11_end_15 : decode cX11_end 15 = .ok (.iload_n 1, 1) := by decide +kernel
theorem dX11_end_16 : decode cX11_end 16 = .ok (.putfield 181, 3) := by decide +kernel
theorem dX11_end_19 : decode cX11_end 19 = .ok (.iload_n 1, 1) := by decide +kernel
theorem dX11_end_20 : decode cX11_end 20 = .ok (.ireturn, 1) := by decide +kernel
theorem dX11_wordOf_0 : decode cX11_wordOf 0 = .ok (.iload_n 0, 1) := by decide +kernel
theorem dX11_wordOf_1 : decode cX11_wordOf 1 = .ok (.tableswitch 78 0 8 #[51, 54, 57, 60, 63, 66, 69, 72, 75], 51) := by decide +kernel
theorem dX11_wordOf_52 : decode cX11_wordOf 52 = .ok (.ldc 188, 2) := by decide +kernel
theorem dX11_wordOf_54 : decode cX11_wordOf 54 = .ok (.areturn, 1) := by decide +kernel
theorem dX11_wordOf_55 : decode cX11_wordOf 55 = .ok (.ldc 189, 2) := by decide +kernel
theorem dX11_wordOf_57 : decode cX11_wordOf 57 = .ok (.areturn, 1) := by decide +kernel
theorem dX11_wordOf_58 : decode cX11_wordOf 58 = .ok (.ldc 190, 2) := by decide +kernel
theorem dX11_wordOf_60 : decode cX11_wordOf 60 = .ok (.areturn, 1) := by decide +kernel
theorem dX11_wordOf_61 : decode cX11_wordOf 61 = .ok (.ldc 191, 2) := by decide +kernel
theorem dX11_wordOf_63 : decode cX11_wordOf 63 = .ok (.areturn, 1) := by decide +kernel
theorem dX11_wordOf_64 : decode cX11_wordOf 64 = .ok (.ldc 192, 2) := by decide +kernel
theorem dX11_wordOf_66 : decode cX11_wordOf 66 = .ok (.areturn, 1) := by decide +kernel
theorem dX11_wordOf_67 : decode cX11_wordOf 67 = .ok (.ldc 194, 2) := by decide +kernel
theorem dX11_wordOf_69 : decode cX11_wordOf 69 = .ok (.areturn, 1) := by decide +kernel
theorem dX11_wordOf_70 : decode cX11_wordOf 70 = .ok (.ldc 196, 2) := by decide +kernel
theorem dX11_wordOf_72 : decode cX11_wordOf 72 = .ok (.areturn, 1) := by decide +kernel
theorem dX11_wordOf_73 : decode cX11_wordOf 73 = .ok (.ldc 197, 2) := by decide +kernel
theorem dX11_wordOf_75 : decode cX11_wordOf 75 = .ok (.areturn, 1) := by decide +kernel
theorem dX11_wordOf_76 : decode cX11_wordOf 76 = .ok (.ldc 198, 2) := by decide +kernel
theorem dX11_wordOf_78 : decode cX11_wordOf 78 = .ok (.areturn, 1) := by decide +kernel
theorem dX11_wordOf_79 : decode cX11_wordOf 79 = .ok (.ldc 200, 2) := by decide +kernel
theorem dX11_wordOf_81 : decode cX11_wordOf 81 = .ok (.areturn, 1) := by decide +kernel
theorem dX11_mintWord_0 : decode cX11_mintWord 0 = .ok (.iload_n 0, 1) := by decide +kernel
theorem dX11_mintWord_1 : decode cX11_mintWord 1 = .ok (.ifCond .ne 8, 3) := by decide +kernel
theorem dX11_mintWord_4 : decode cX11_mintWord 4 = .ok (.ldc 194, 2) := by decide +kernel
theorem dX11_mintWord_6 : decode cX11_mintWord 6 = .ok (.goto 25, 3) := by decide +kernel
theorem dX11_mintWord_9 : decode cX11_mintWord 9 = .ok (.iload_n 0, 1) := by decide +kernel
theorem dX11_mintWord_10 : decode cX11_mintWord 10 = .ok (.iconst 1, 1) := by decide +kernel
theorem dX11_mintWord_11 : decode cX11_mintWord 11 = .ok (.if_icmp .ne 8, 3) := by decide +kernel
theorem dX11_mintWord_14 : decode cX11_mintWord 14 = .ok (.ldc 202, 2) := by decide +kernel
theorem dX11_mintWord_16 : decode cX11_mintWord 16 = .ok (.goto 15, 3) := by decide +kernel
theorem dX11_mintWord_19 : decode cX11_mintWord 19 = .ok (.iload_n 0, 1) := by decide +kernel
theorem dX11_mintWord_20 : decode cX11_mintWord 20 = .ok (.iconst 2, 1) := by decide +kernel
theorem dX11_mintWord_21 : decode cX11_mintWord 21 = .ok (.if_icmp .ne 8, 3) := by decide +kernel
theorem dX11_mintWord_24 : decode cX11_mintWord 24 = .ok (.ldc 204, 2) := by decide +kernel
theorem dX11_mintWord_26 : decode cX11_mintWord 26 = .ok (.goto 5, 3) := by decide +kernel
theorem dX11_mintWord_29 : decode cX11_mintWord 29 = .ok (.ldc 206, 2) := by decide +kernel
theorem dX11_mintWord_31 : decode cX11_mintWord 31 = .ok (.areturn, 1) := by decide +kernel
theorem dX11_fails_0 : decode cX11_fails 0 = .ok (.aload_n 0, 1) := by decide +kernel
theorem dX11_fails_1 : decode cX11_fails 1 = .ok (.aload_n 0, 1) := by decide +kernel
theorem dX11_fails_2 : decode cX11_fails 2 = .ok (.getfield 208, 3) := by decide +kernel
theorem dX11_fails_5 : decode cX11_fails 5 = .ok (.ifCond .ne 14, 3) := by decide +kernel
theorem dX11_fails_8 : decode cX11_fails 8 = .ok (.iconst 1, 1) := by decide +kernel
theorem dX11_fails_9 : decode cX11_fails 9 = .ok (.bipush 8, 2) := by decide +kernel
theorem dX11_fails_11 : decode cX11_fails 11 = .ok (.iload_n 2, 1) := by decide +kernel
theorem dX11_fails_12 : decode cX11_fails 12 = .ok (.imul, 1) := by decide +kernel
theorem dX11_fails_13 : decode cX11_fails 13 = .ok (.iadd, 1) := by decide +kernel
theorem dX11_fails_14 : decode cX11_fails 14 = .ok (.iload_n 1, 1) := by decide +kernel
theorem dX11_fails_15 : decode cX11_fails 15 = .ok (.iadd, 1) := by decide +kernel
theorem dX11_fails_16 : decode cX11_fails 16 = .ok (.goto 7, 3) := by decide +kernel
theorem dX11_fails_19 : decode cX11_fails 19 = .ok (.aload_n 0, 1) := by decide +kernel
theorem dX11_fails_20 : decode cX11_fails 20 = .ok (.getfield 208, 3) := by decide +kernel
theorem dX11_fails_23 : decode cX11_fails 23 = .ok (.putfield 208, 3) := by decide +kernel
theorem dX11_fails_26 : decode cX11_fails 26 = .ok (.return_, 1) := by decide +kernel
theorem dX11_sign_0 : decode cX11_sign 0 = .ok (.aload_n 0, 1) := by decide +kernel
theorem dX11_sign_1 : decode cX11_sign 1 = .ok (.getfield 211, 3) := by decide +kernel
theorem dX11_sign_4 : decode cX11_sign 4 = .ok (.aload_n 0, 1) := by decide +kernel
theorem dX11_sign_5 : decode cX11_sign 5 = .ok (.getfield 181, 3) := by decide +kernel
theorem dX11_sign_8 : decode cX11_sign 8 = .ok (.if_icmp .ge 19, 3) := by decide +kernel
theorem dX11_sign_11 : decode cX11_sign 11 = .ok (.aload_n 0, 1) := by decide +kernel
theorem dX11_sign_12 : decode cX11_sign 12 = .ok (.getfield 71, 3) := by decide +kernel
theorem dX11_sign_15 : decode cX11_sign 15 = .ok (.aload_n 0, 1) := by decide +kernel
theorem dX11_sign_16 : decode cX11_sign 16 = .ok (.getfield 211, 3) := by decide +kernel
theorem dX11_sign_19 : decode cX11_sign 19 = .ok (.baload, 1) := by decide +kernel
theorem dX11_sign_20 : decode cX11_sign 20 = .ok (.sipush 255, 3) := by decide +kernel
theorem dX11_sign_23 : decode cX11_sign 23 = .ok (.iand, 1) := by decide +kernel
theorem dX11_sign_24 : decode cX11_sign 24 = .ok (.goto 4, 3) := by decide +kernel
theorem dX11_sign_27 : decode cX11_sign 27 = .ok (.iconst (-1), 1) := by decide +kernel
theorem dX11_sign_28 : decode cX11_sign 28 = .ok (.ireturn, 1) := by decide +kernel
theorem dX11_blanks_0 : decode cX11_blanks 0 = .ok (.aload_n 0, 1) := by decide +kernel
theorem dX11_blanks_1 : decode cX11_blanks 1 = .ok (.invokevirtual 214, 3) := by decide +kernel
theorem dX11_blanks_4 : decode cX11_blanks 4 = .ok (.bipush 32, 2) := by decide +kernel
theorem dX11_blanks_6 : decode cX11_blanks 6 = .ok (.if_icmp .ne 16, 3) := by decide +kernel
theorem dX11_blanks_9 : decode cX11_blanks 9 = .ok (.aload_n 0, 1) := by decide +kernel
theorem dX11_blanks_10 : decode cX11_blanks 10 = .ok (.dup, 1) := by decide +kernel
theorem dX11_blanks_11 : decode cX11_blanks 11 = .ok (.getfield 211, 3) := by decide +kernel
theorem dX11_blanks_14 : decode cX11_blanks 14 = .ok (.iconst 1, 1) := by decide +kernel
theorem dX11_blanks_15 : decode cX11_blanks 15 = .ok (.iadd, 1) := by decide +kernel
theorem dX11_blanks_16 : decode cX11_blanks 16 = .ok (.putfield 211, 3) := by decide +kernel
theorem dX11_blanks_19 : decode cX11_blanks 19 = .ok (.goto (-19), 3) := by decide +kernel
theorem dX11_blanks_22 : decode cX11_blanks 22 = .ok (.return_, 1) := by decide +kernel
theorem dX11_isDigit_0 : decode cX11_isDigit 0 = .ok (.aload_n 0, 1) := by decide +kernel
theorem dX11_isDigit_1 : decode cX11_isDigit 1 = .ok (.invokevirtual 214, 3) := by decide +kernel
theorem dX11_isDigit_4 : decode cX11_isDigit 4 = .ok (.i2l, 1) := by decide +kernel
theorem dX11_isDigit_5 : decode cX11_isDigit 5 = .ok (.ldc2_w 218, 3) := by decide +kernel
theorem dX11_isDigit_8 : decode cX11_isDigit 8 = .ok (.ldc2_w 220, 3) := by decide +kernel
theorem dX11_isDigit_11 : decode cX11_isDigit 11 = .ok (.invokestatic 171, 3) := by decide +kernel
theorem dX11_isDigit_14 : decode cX11_isDigit 14 = .ok (.ireturn, 1) := by decide +kernel
theorem dX11_stood_0 : decode cX11_stood 0 = .ok (.aload_n 0, 1) := by decide +kernel
theorem dX11_stood_1 : decode cX11_stood 1 = .ok (.getfield 211, 3) := by decide +kernel
theorem dX11_stood_4 : decode cX11_stood 4 = .ok (.istore_n 2, 1) := by decide +kernel
theorem dX11_stood_5 : decode cX11_stood 5 = .ok (.iload_n 2, 1) := by decide +kernel
theorem dX11_stood_6 : decode cX11_stood 6 = .ok (.aload_n 0, 1) := by decide +kernel
theorem dX11_stood_7 : decode cX11_stood 7 = .ok (.getfield 181, 3) := by decide +kernel
theorem dX11_stood_10 : decode cX11_stood 10 = .ok (.if_icmp .ge 31, 3) := by decide +kernel
theorem dX11_stood_13 : decode cX11_stood 13 = .ok (.aload_n 0, 1) := by decide +kernel
theorem dX11_stood_14 : decode cX11_stood 14 = .ok (.getfield 71, 3) := by decide +kernel
theorem dX11_stood_17 : decode cX11_stood 17 = .ok (.iload_n 2, 1) := by decide +kernel
theorem dX11_stood_18 : decode cX11_stood 18 = .ok (.baload, 1) := by decide +kernel
theorem dX11_stood_19 : decode cX11_stood 19 = .ok (.bipush 97, 2) := by decide +kernel
theorem dX11_stood_21 : decode cX11_stood 21 = .ok (.if_icmp .lt 20, 3) := by decide +kernel
theorem dX11_stood_24 : decode cX11_stood 24 = .ok (.aload_n 0, 1) := by decide +kernel
theorem dX11_stood_25 : decode cX11_stood 25 = .ok (.getfield 71, 3) := by decide +kernel
theorem dX11_stood_28 : decode cX11_stood 28 = .ok (.iload_n 2, 1) := by decide +kernel
theorem dX11_stood_29 : decode cX11_stood 29 = .ok (.baload, 1) := by decide +kernel
theorem dX11_stood_30 : decode cX11_stood 30 = .ok (.bipush 122, 2) := by decide +kernel
theorem dX11_stood_32 : decode cX11_stood 32 = .ok (.if_icmp .gt 9, 3) := by decide +kernel
theorem dX11_stood_35 : decode cX11_stood 35 = .ok (.iinc 2 1, 3) := by decide +kernel
theorem dX11_stood_38 : decode cX11_stood 38 = .ok (.goto (-33), 3) := by decide +kernel
theorem dX11_stood_41 : decode cX11_stood 41 = .ok (.iload_n 2, 1) := by decide +kernel
theorem dX11_stood_42 : decode cX11_stood 42 = .ok (.aload_n 0, 1) := by decide +kernel
theorem dX11_stood_43 : decode cX11_stood 43 = .ok (.getfield 211, 3) := by decide +kernel
theorem dX11_stood_46 : decode cX11_stood 46 = .ok (.isub, 1) := by decide +kernel
theorem dX11_stood_47 : decode cX11_stood 47 = .ok (.aload_n 1, 1) := by decide +kernel
theorem dX11_stood_48 : decode cX11_stood 48 = .ok (.invokevirtual 222, 3) := by decide +kernel
theorem dX11_stood_51 : decode cX11_stood 51 = .ok (.if_icmp .ne 7, 3) := by decide +kernel
theorem dX11_stood_54 : decode cX11_stood 54 = .ok (.iconst 1, 1) := by decide +kernel
theorem dX11_stood_55 : decode cX11_stood 55 = .ok (.goto 4, 3) := by decide +kernel
theorem dX11_stood_58 : decode cX11_stood 58 = .ok (.iconst 0, 1) := by decide +kernel
theorem dX11_stood_59 : decode cX11_stood 59 = .ok (.istore_n 3, 1) := by decide +kernel
theorem dX11_stood_60 : decode cX11_stood 60 = .ok (.iconst 0, 1) := by decide +kernel
theorem dX11_stood_61 : decode cX11_stood 61 = .ok (.istore 4, 2) := by decide +kernel
theorem dX11_stood_63 : decode cX11_stood 63 = .ok (.iload 4, 2) := by decide +kernel
theorem dX11_stood_65 : decode cX11_stood 65 = .ok (.aload_n 1, 1) := by decide +kernel
theorem dX11_stood_66 : decode cX11_stood 66 = .ok (.invokevirtual 222, 3) := by decide +kernel
theorem dX11_stood_69 : decode cX11_stood 69 = .ok (.if_icmp .ge 40, 3) := by decide +kernel
theorem dX11_stood_72 : decode cX11_stood 72 = .ok (.iload_n 3, 1) := by decide +kernel
theorem dX11_stood_73 : decode cX11_stood 73 = .ok (.ifCond .eq 36, 3) := by decide +kernel
theorem dX11_stood_76 : decode cX11_stood 76 = .ok (.aload_n 0, 1) := by decide +kernel
theorem dX11_stood_77 : decode cX11_stood 77 = .ok (.getfield 71, 3) := by decide +kernel
theorem dX11_stood_80 : decode cX11_stood 80 = .ok (.aload_n 0, 1) := by decide +kernel
theorem dX11_stood_81 : decode cX11_stood 81 = .ok (.getfield 211, 3) := by decide +kernel
theorem dX11_stood_84 : decode cX11_stood 84 = .ok (.iload 4, 2) := by decide +kernel
theorem dX11_stood_86 : decode cX11_stood 86 = .ok (.iadd, 1) := by decide +kernel
theorem dX11_stood_87 : decode cX11_stood 87 = .ok (.baload, 1) := by decide +kernel
theorem dX11_stood_88 : decode cX11_stood 88 = .ok (.aload_n 1, 1) := by decide +kernel
theorem dX11_stood_89 : decode cX11_stood 89 = .ok (.iload 4, 2) := by decide +kernel
theorem dX11_stood_91 : decode cX11_stood 91 = .ok (.invokevirtual 227, 3) := by decide +kernel
theorem dX11_stood_94 : decode cX11_stood 94 = .ok (.if_icmp .ne 7, 3) := by decide +kernel
theorem dX11_stood_97 : decode cX11_stood 97 = .ok (.iconst 1, 1) := by decide +kernel
theorem dX11_stood_98 : decode cX11_stood 98 = .ok (.goto 4, 3) := by decide +kernel
theorem dX11_stood_101 : decode cX11_stood 101 = .ok (.iconst 0, 1) := by decide +kernel
theorem dX11_stood_102 : decode cX11_stood 102 = .ok (.istore_n 3, 1) := by decide +kernel
theorem dX11_stood_103 : decode cX11_stood 103 = .ok (.iinc 4 1, 3) := by decide +kernel
theorem dX11_stood_106 : decode cX11_stood 106 = .ok (.goto (-43), 3) := by decide +kernel
theorem dX11_stood_109 : decode cX11_stood 109 = .ok (.iload_n 3, 1) := by decide +kernel
theorem dX11_stood_110 : decode cX11_stood 110 = .ok (.ireturn, 1) := by decide +kernel
theorem dX11_takes_0 : decode cX11_takes 0 = .ok (.aload_n 0, 1) := by decide +kernel
theorem dX11_takes_1 : decode cX11_takes 1 = .ok (.invokevirtual 231, 3) := by decide +kernel
theorem dX11_takes_4 : decode cX11_takes 4 = .ok (.aload_n 0, 1) := by decide +kernel
theorem dX11_takes_5 : decode cX11_takes 5 = .ok (.aload_n 1, 1) := by decide +kernel
theorem dX11_takes_6 : decode cX11_takes 6 = .ok (.invokevirtual 234, 3) := by decide +kernel
theorem dX11_takes_9 : decode cX11_takes 9 = .ok (.istore_n 2, 1) := by decide +kernel
theorem dX11_takes_10 : decode cX11_takes 10 = .ok (.aload_n 0, 1) := by decide +kernel
theorem dX11_takes_11 : decode cX11_takes 11 = .ok (.dup, 1) := by decide +kernel
theorem dX11_takes_12 : decode cX11_takes 12 = .ok (.getfield 211, 3) := by decide +kernel
theorem dX11_takes_15 : decode cX11_takes 15 = .ok (.iload_n 2, 1) := by decide +kernel
theorem dX11_takes_16 : decode cX11_takes 16 = .ok (.ifCond .eq 10, 3) := by decide +kernel
theorem dX11_takes_19 : decode cX11_takes 19 = .ok (.aload_n 1, 1) := by decide +kernel
theorem dX11_takes_20 : decode cX11_takes 20 = .ok (.invokevirtual 222, 3) := by decide +kernel
theorem dX11_takes_23 : decode cX11_takes 23 = .ok (.goto 4, 3) := by decide +kernel
theorem dX11_takes_26 : decode cX11_takes 26 = .ok (.iconst 0, 1) := by decide +kernel
theorem dX11_takes_27 : decode cX11_takes 27 = .ok (.iadd, 1) := by decide +kernel
theorem dX11_takes_28 : decode cX11_takes 28 = .ok (.putfield 211, 3) := by decide +kernel
theorem dX11_takes_31 : decode cX11_takes 31 = .ok (.iload_n 2, 1) := by decide +kernel
theorem dX11_takes_32 : decode cX11_takes 32 = .ok (.ireturn, 1) := by decide +kernel
theorem dX11_entry_0 : decode cX11_entry 0 = .ok (.aload_n 0, 1) := by decide +kernel
theorem dX11_entry_1 : decode cX11_entry 1 = .ok (.getfield 208, 3) := by decide +kernel
theorem dX11_entry_4 : decode cX11_entry 4 = .ok (.ifCond .ne 51, 3) := by decide +kernel
theorem dX11_entry_7 : decode cX11_entry 7 = .ok (.aload_n 0, 1) := by decide +kernel
theorem dX11_entry_8 : decode cX11_entry 8 = .ok (.getfield 75, 3) := by decide +kernel
theorem dX11_entry_11 : decode cX11_entry 11 = .ok (.sipush 300, 3) := by decide +kernel
theorem dX11_entry_14 : decode cX11_entry 14 = .ok (.aload_n 0, 1) := by decide +kernel
theorem dX11_entry_15 : decode cX11_entry 15 = .ok (.getfield 238, 3) := by decide +kernel
theorem dX11_entry_18 : decode cX11_entry 18 = .ok (.imul, 1) := by decide +kernel
theorem dX11_entry_19 : decode cX11_entry 19 = .ok (.aload_n 0, 1) := by decide +kernel
theorem dX11_entry_20 : decode cX11_entry 20 = .ok (.getfield 241, 3) := by decide +kernel
theorem dX11_entry_23 : decode cX11_entry 23 = .ok (.iadd, 1) := by decide +kernel
theorem dX11_entry_24 : decode cX11_entry 24 = .ok (.iload_n 1, 1) := by decide +kernel
theorem dX11_entry_25 : decode cX11_entry 25 = .ok (.iastore, 1) := by decide +kernel
theorem dX11_entry_26 : decode cX11_entry 26 = .ok (.aload_n 0, 1) := by decide +kernel
theorem dX11_entry_27 : decode cX11_entry 27 = .ok (.getfield 78, 3) := by decide +kernel
theorem dX11_entry_30 : decode cX11_entry 30 = .ok (.sipush 300, 3) := by decide +kernel
theorem dX11_entry_33 : decode cX11_entry 33 = .ok (.aload_n 0, 1) := by decide +kernel
theorem dX11_entry_34 : decode cX11_entry 34 = .ok (.getfield 238, 3) := by decide +kernel
theorem dX11_entry_37 : decode cX11_entry 37 = .ok (.imul, 1) := by decide +kernel
theorem dX11_entry_38 : decode cX11_entry 38 = .ok (.aload_n 0, 1) := by decide +kernel
theorem dX11_entry_39 : decode cX11_entry 39 = .ok (.getfield 241, 3) := by decide +kernel
theorem dX11_entry_42 : decode cX11_entry 42 = .ok (.iadd, 1) := by decide +kernel
theorem dX11_entry_43 : decode cX11_entry 43 = .ok (.iload_n 2, 1) := by decide +kernel
theorem dX11_entry_44 : decode cX11_entry 44 = .ok (.iastore, 1) := by decide +kernel
theorem dX11_entry_45 : decode cX11_entry 45 = .ok (.aload_n 0, 1) := by decide +kernel
theorem dX11_entry_46 : decode cX11_entry 46 = .ok (.dup, 1) := by decide +kernel
theorem dX11_entry_47 : decode cX11_entry 47 = .ok (.getfield 241, 3) := by decide +kernel
theorem dX11_entry_50 : decode cX11_entry 50 = .ok (.iconst 1, 1) := by decide +kernel
theorem dX11_entry_51 : decode cX11_entry 51 = .ok (.iadd, 1) := by decide +kernel
theorem dX11_entry_52 : decode cX11_entry 52 = .ok (.putfield 241, 3) := by decide +kernel
theorem dX11_entry_55 : decode cX11_entry 55 = .ok (.return_, 1) := by decide +kernel
theorem dX11_isCounted_0 : decode cX11_isCounted 0 = .ok (.aload_n 0, 1) := by decide +kernel
theorem dX11_isCounted_1 : decode cX11_isCounted 1 = .ok (.getfield 244, 3) := by decide +kernel
theorem dX11_isCounted_4 : decode cX11_isCounted 4 = .ok (.bipush 60, 2) := by decide +kernel
theorem dX11_isCounted_6 : decode cX11_isCounted 6 = .ok (.if_icmp .ne 9, 3) := by decide +kernel
theorem dX11_isCounted_9 : decode cX11_isCounted 9 = .ok (.aload_n 0, 1) := by decide +kernel
theorem dX11_isCounted_10 : decode cX11_isCounted 10 = .ok (.iconst 3, 1) := by decide +kernel
theorem dX11_isCounted_11 : decode cX11_isCounted 11 = .ok (.iload_n 1, 1) := by decide +kernel
theorem dX11_isCounted_12 : decode cX11_isCounted 12 = .ok (.invokevirtual 247, 3) := by decide +kernel
theorem dX11_isCounted_15 : decode cX11_isCounted 15 = .ok (.aload_n 0, 1) := by decide +kernel
theorem dX11_isCounted_16 : decode cX11_isCounted 16 = .ok (.dup, 1) := by decide +kernel
theorem dX11_isCounted_17 : decode cX11_isCounted 17 = .ok (.getfield 244, 3) := by decide +kernel
theorem dX11_isCounted_20 : decode cX11_isCounted 20 = .ok (.iconst 1, 1) := by decide +kernel
theorem dX11_isCounted_21 : decode cX11_isCounted 21 = .ok (.iadd, 1) := by decide +kernel
theorem dX11_isCounted_22 : decode cX11_isCounted 22 = .ok (.putfield 244, 3) := by decide +kernel
theorem dX11_isCounted_25 : decode cX11_isCounted 25 = .ok (.return_, 1) := by decide +kernel
theorem dX11_digits_0 : decode cX11_digits 0 = .ok (.aload_n 0, 1) := by decide +kernel
theorem dX11_digits_1 : decode cX11_digits 1 = .ok (.invokevirtual 251, 3) := by decide +kernel
theorem dX11_digits_4 : decode cX11_digits 4 = .ok (.ifCond .ne 14, 3) := by decide +kernel
theorem dX11_digits_7 : decode cX11_digits 7 = .ok (.aload_n 0, 1) := by decide +kernel
theorem dX11_digits_8 : decode cX11_digits 8 = .ok (.iconst 0, 1) := by decide +kernel
theorem dX11_digits_9 : decode cX11_digits 9 = .ok (.aload_n 0, 1) := by decide +kernel
theorem dX11_digits_10 : decode cX11_digits 10 = .ok (.getfield 211, 3) := by decide +kernel
theorem dX11_digits_13 : decode cX11_digits 13 = .ok (.invokevirtual 247, 3) := by decide +kernel
theorem dX11_digits_16 : decode cX11_digits 16 = .ok (.iconst 0, 1) := by decide +kernel
theorem dX11_digits_17 : decode cX11_digits 17 = .ok (.ireturn, 1) := by decide +kernel
theorem dX11_digits_18 : decode cX11_digits 18 = .ok (.aload_n 0, 1) := by decide +kernel
theorem dX11_digits_19 : decode cX11_digits 19 = .ok (.getfield 211, 3) := by decide +kernel
theorem dX11_digits_22 : decode cX11_digits 22 = .ok (.istore_n 2, 1) := by decide +kernel
theorem dX11_digits_23 : decode cX11_digits 23 = .ok (.iconst 0, 1) := by decide +kernel
theorem dX11_digits_24 : decode cX11_digits 24 = .ok (.istore_n 3, 1) := by decide +kernel
theorem dX11_digits_25 : decode cX11_digits 25 = .ok (.aload_n 0, 1) := by decide +kernel
theorem dX11_digits_26 : decode cX11_digits 26 = .ok (.invokevirtual 251, 3) := by decide +kernel
theorem dX11_digits_29 : decode cX11_digits 29 = .ok (.ifCond .eq 43, 3) := by decide +kernel
theorem dX11_digits_32 : decode cX11_digits 32 = .ok (.aload_n 0, 1) := by decide +kernel
theorem dX11_digits_33 : decode cX11_digits 33 = .ok (.getfield 211, 3) := by decide +kernel
theorem dX11_digits_36 : decode cX11_digits 36 = .ok (.iload_n 2, 1) := by decide +kernel
theorem dX11_digits_37 : decode cX11_digits 37 = .ok (.isub, 1) := by decide +kernel
theorem dX11_digits_38 : decode cX11_digits 38 = .ok (.iconst 5, 1) := by decide +kernel
theorem dX11_digits_39 : decode cX11_digits 39 = .ok (.if_icmp .ge 18, 3) := by decide +kernel
theorem dX11_digits_42 : decode cX11_digits 42 = .ok (.bipush 10, 2) := by decide +kernel
theorem dX11_digits_44 : decode cX11_digits 44 = .ok (.iload_n 3, 1) := by decide +kernel
theorem dX11_digits_45 : decode cX11_digits 45 = .ok (.imul, 1) := by decide +kernel
theorem dX11_digits_46 : decode cX11_digits 46 = .ok (.aload_n 0, 1) := by decide +kernel
theorem dX11_digits_47 : decode cX11_digits 47 = .ok (.invokevirtual 214, 3) := by decide +kernel
theorem dX11_digits_50 : decode cX11_digits 50 = .ok (.iadd, 1) := by decide +kernel
theorem dX11_digits_51 : decode cX11_digits 51 = .ok (.bipush 48, 2) := by decide +kernel
theorem dX11_digits_53 : decode cX11_digits 53 = .ok (.isub, 1) := by decide +kernel
theorem dX11_digits_54 : decode cX11_digits 54 = .ok (.goto 4, 3) := by decide +kernel
theorem dX11_digits_57 : decode cX11_digits 57 = .ok (.iload_n 3, 1) := by decide +kernel
theorem dX11_digits_58 : decode cX11_digits 58 = .ok (.istore_n 3, 1) := by decide +kernel
theorem dX11_digits_59 : decode cX11_digits 59 = .ok (.aload_n 0, 1) := by decide +kernel
theorem dX11_digits_60 : decode cX11_digits 60 = .ok (.dup, 1) := by decide +kernel
theorem dX11_digits_61 : decode cX11_digits 61 = .ok (.getfield 211, 3) := by decide +kernel
theorem dX11_digits_64 : decode cX11_digits 64 = .ok (.iconst 1, 1) := by decide +kernel
theorem dX11_digits_65 : decode cX11_digits 65 = .ok (.iadd, 1) := by decide +kernel
theorem dX11_digits_66 : decode cX11_digits 66 = .ok (.putfield 211, 3) := by decide +kernel
theorem dX11_digits_69 : decode cX11_digits 69 = .ok (.goto (-44), 3) := by decide +kernel
theorem dX11_digits_72 : decode cX11_digits 72 = .ok (.aload_n 0, 1) := by decide +kernel
theorem dX11_digits_73 : decode cX11_digits 73 = .ok (.getfield 211, 3) := by decide +kernel
theorem dX11_digits_76 : decode cX11_digits 76 = .ok (.iload_n 2, 1) := by decide +kernel
theorem dX11_digits_77 : decode cX11_digits 77 = .ok (.isub, 1) := by decide +kernel
theorem dX11_digits_78 : decode cX11_digits 78 = .ok (.iconst 5, 1) := by decide +kernel
theorem dX11_digits_79 : decode cX11_digits 79 = .ok (.if_icmp .gt 8, 3) := by decide +kernel
theorem dX11_digits_82 : decode cX11_digits 82 = .ok (.iload_n 3, 1) := by decide +kernel
theorem dX11_digits_83 : decode cX11_digits 83 = .ok (.iload_n 1, 1) := by decide +kernel
theorem dX11_digits_84 : decode cX11_digits 84 = .ok (.if_icmp .le 9, 3) := by decide +kernel
theorem dX11_digits_87 : decode cX11_digits 87 = .ok (.aload_n 0, 1) := by decide +kernel
theorem dX11_digits_88 : decode cX11_digits 88 = .ok (.iconst 1, 1) := by decide +kernel
theorem dX11_digits_89 : decode cX11_digits 89 = .ok (.iload_n 2, 1) := by decide +kernel
theorem dX11_digits_90 : decode cX11_digits 90 = .ok (.invokevirtual 247, 3) := by decide +kernel
theorem dX11_digits_93 : decode cX11_digits 93 = .ok (.iload_n 3, 1) := by decide +kernel
theorem dX11_digits_94 : decode cX11_digits 94 = .ok (.ireturn, 1) := by decide +kernel
theorem dX11_value_0 : decode cX11_value 0 = .ok (.aload_n 0, 1) := by decide +kernel
theorem dX11_value_1 : decode cX11_value 1 = .ok (.invokevirtual 231, 3) := by decide +kernel
theorem dX11_value_4 : decode cX11_value 4 = .ok (.aload_n 0, 1) := by decide +kernel
theorem dX11_value_5 : decode cX11_value 5 = .ok (.getfield 211, 3) := by decide +kernel
theorem dX11_value_8 : decode cX11_value 8 = .ok (.istore_n 1, 1) := by decide +kernel
theorem dX11_value_9 : decode cX11_value 9 = .ok (.aload_n 0, 1) := by decide +kernel
theorem dX11_value_10 : decode cX11_value 10 = .ok (.invokevirtual 251, 3) := by decide +kernel
theorem dX11_value_13 : decode cX11_value 13 = .ok (.ifCond .eq 22, 3) := by decide +kernel
theorem dX11_value_16 : decode cX11_value 16 = .ok (.aload_n 0, 1) := by decide +kernel
theorem dX11_value_17 : decode cX11_value 17 = .ok (.ldc 255, 2) := by decide +kernel
theorem dX11_value_19 : decode cX11_value 19 = .ok (.invokevirtual 256, 3) := by decide +kernel
theorem dX11_value_22 : decode cX11_value 22 = .ok (.istore_n 2, 1) := by decide +kernel
theorem dX11_value_23 : decode cX11_value 23 = .ok (.aload_n 0, 1) := by decide +kernel
theorem dX11_value_24 : decode cX11_value 24 = .ok (.iload_n 1, 1) := by decide +kernel
theorem dX11_value_25 : decode cX11_value 25 = .ok (.invokevirtual 260, 3) := by decide +kernel
theorem dX11_value_28 : decode cX11_value 28 = .ok (.aload_n 0, 1) := by decide +kernel
theorem dX11_value_29 : decode cX11_value 29 = .ok (.iconst 0, 1) := by decide +kernel
theorem dX11_value_30 : decode cX11_value 30 = .ok (.iload_n 2, 1) := by decide +kernel
theorem dX11_value_31 : decode cX11_value 31 = .ok (.invokevirtual 263, 3) := by decide +kernel
theorem dX11_value_34 : decode cX11_value 34 = .ok (.return_, 1) := by decide +kernel
theorem dX11_value_35 : decode cX11_value 35 = .ok (.iconst 0, 1) := by decide +kernel
theorem dX11_value_36 : decode cX11_value 36 = .ok (.istore_n 2, 1) := by decide +kernel
theorem dX11_value_37 : decode cX11_value 37 = .ok (.iload_n 2, 1) := by decide +kernel
theorem dX11_value_38 : decode cX11_value 38 = .ok (.aload_n 0, 1) := by decide +kernel
theorem dX11_value_39 : decode cX11_value 39 = .ok (.getfield 67, 3) := by decide +kernel
theorem dX11_value_42 : decode cX11_value 42 = .ok (.if_icmp .ge 20, 3) := by decide +kernel
theorem dX11_value_45 : decode cX11_value 45 = .ok (.aload_n 0, 1) := by decide +kernel
theorem dX11_value_46 : decode cX11_value 46 = .ok (.iload_n 2, 1) := by decide +kernel
theorem dX11_value_47 : decode cX11_value 47 = .ok (.invokestatic 266, 3) := by decide +kernel
theorem dX11_value_50 : decode cX11_value 50 = .ok (.invokevirtual 234, 3) := by decide +kernel
theorem dX11_value_53 : decode cX11_value 53 = .ok (.ifCond .ne 9, 3) := by decide +kernel
theorem dX11_value_56 : decode cX11_value 56 = .ok (.iinc 2 1, 3) := by decide +kernel
theorem dX11_value_59 : decode cX11_value 59 = .ok (.goto (-22), 3) := by decide +kernel
theorem dX11_value_62 : decode cX11_value 62 = .ok (.iload_n 2, 1) := by decide +kernel
theorem dX11_value_63 : decode cX11_value 63 = .ok (.aload_n 0, 1) := by decide +kernel
theorem dX11_value_64 : decode cX11_value 64 = .ok (.getfield 67, 3) := by decide +kernel
theorem dX11_value_67 : decode cX11_value 67 = .ok (.if_icmp .ne 10, 3) := by decide +kernel
theorem dX11_value_70 : decode cX11_value 70 = .ok (.aload_n 0, 1) := by decide +kernel
theorem dX11_value_71 : decode cX11_value 71 = .ok (.iconst 0, 1) := by decide +kernel
theorem dX11_value_72 : decode cX11_value 72 = .ok (.iload_n 1, 1) := by decide +kernel
theorem dX11_value_73 : decode cX11_value 73 = .ok (.invokevirtual 247, 3) := by decide +kernel
theorem dX11_value_76 : decode cX11_value 76 = .ok (.return_, 1) := by decide +kernel
theorem dX11_value_77 : decode cX11_value 77 = .ok (.aload_n 0, 1) := by decide +kernel
theorem dX11_value_78 : decode cX11_value 78 = .ok (.iload_n 1, 1) := by decide +kernel
theorem dX11_value_79 : decode cX11_value 79 = .ok (.invokevirtual 260, 3) := by decide +kernel
theorem dX11_value_82 : decode cX11_value 82 = .ok (.aload_n 0, 1) := by decide +kernel
theorem dX11_value_83 : decode cX11_value 83 = .ok (.dup, 1) := by decide +kernel
theorem dX11_value_84 : decode cX11_value 84 = .ok (.getfield 211, 3) := by decide +kernel
theorem dX11_value_87 : decode cX11_value 87 = .ok (.iload_n 2, 1) := by decide +kernel
theorem dX11_value_88 : decode cX11_value 88 = .ok (.invokestatic 266, 3) := by decide +kernel
theorem dX11_value_91 : decode cX11_value 91 = .ok (.invokevirtual 222, 3) := by decide +kernel
theorem dX11_value_94 : decode cX11_value 94 = .ok (.iadd, 1) := by decide +kernel
theorem dX11_value_95 : decode cX11_value 95 = .ok (.putfield 211, 3) := by decide +kernel
theorem dX11_value_98 : decode cX11_value 98 = .ok (.aload_n 0, 1) := by decide +kernel
theorem dX11_value_99 : decode cX11_value 99 = .ok (.iconst 1, 1) := by decide +kernel
theorem dX11_value_100 : decode cX11_value 100 = .ok (.iload_n 2, 1) := by decide +kernel
theorem dX11_value_101 : decode cX11_value 101 = .ok (.invokevirtual 263, 3) := by decide +kernel
theorem dX11_value_104 : decode cX11_value 104 = .ok (.return_, 1) := by decide +kernel
theorem dX11_term_0 : decode cX11_term 0 = .ok (.aload_n 0, 1) := by decide +kernel
theorem dX11_term_1 : decode cX11_term 1 = .ok (.invokevirtual 270, 3) := by decide +kernel
theorem dX11_term_4 : decode cX11_term 4 = .ok (.aload_n 0, 1) := by decide +kernel
theorem dX11_term_5 : decode cX11_term 5 = .ok (.invokevirtual 231, 3) := by decide +kernel
theorem dX11_term_8 : decode cX11_term 8 = .ok (.aload_n 0, 1) := by decide +kernel
theorem dX11_term_9 : decode cX11_term 9 = .ok (.getfield 208, 3) := by decide +kernel
theorem dX11_term_12 : decode cX11_term 12 = .ok (.ifCond .ne 88, 3) := by decide +kernel
theorem dX11_term_15 : decode cX11_term 15 = .ok (.aload_n 0, 1) := by decide +kernel
theorem dX11_term_16 : decode cX11_term 16 = .ok (.invokevirtual 214, 3) := by decide +kernel
theorem dX11_term_19 : decode cX11_term 19 = .ok (.bipush 42, 2) := by decide +kernel
theorem dX11_term_21 : decode cX11_term 21 = .ok (.if_icmp .eq 21, 3) := by decide +kernel
theorem dX11_term_24 : decode cX11_term 24 = .ok (.aload_n 0, 1) := by decide +kernel
theorem dX11_term_25 : decode cX11_term 25 = .ok (.invokevirtual 214, 3) := by decide +kernel
theorem dX11_term_28 : decode cX11_term 28 = .ok (.bipush 47, 2) := by decide +kernel
theorem dX11_term_30 : decode cX11_term 30 = .ok (.if_icmp .eq 12, 3) := by decide +kernel
theorem dX11_term_33 : decode cX11_term 33 = .ok (.aload_n 0, 1) := by decide +kernel
theorem dX11_term_34 : decode cX11_term 34 = .ok (.invokevirtual 214, 3) := by decide +kernel
theorem dX11_term_37 : decode cX11_term 37 = .ok (.bipush 37, 2) := by decide +kernel
theorem dX11_term_39 : decode cX11_term 39 = .ok (.if_icmp .ne 61, 3) := by decide +kernel
theorem dX11_term_42 : decode cX11_term 42 = .ok (.aload_n 0, 1) := by decide +kernel
theorem dX11_term_43 : decode cX11_term 43 = .ok (.invokevirtual 214, 3) := by decide +kernel
theorem dX11_term_46 : decode cX11_term 46 = .ok (.bipush 42, 2) := by decide +kernel
theorem dX11_term_48 : decode cX11_term 48 = .ok (.if_icmp .ne 8, 3) := by decide +kernel
theorem dX11_term_51 : decode cX11_term 51 = .ok (.bipush 13, 2) := by decide +kernel
theorem dX11_term_53 : decode cX11_term 53 = .ok (.goto 19, 3) := by decide +kernel
theorem dX11_term_56 : decode cX11_term 56 = .ok (.aload_n 0, 1) := by decide +kernel
theorem dX11_term_57 : decode cX11_term 57 = .ok (.invokevirtual 214, 3) := by decide +kernel
theorem dX11_term_60 : decode cX11_term 60 = .ok (.bipush 47, 2) := by decide +kernel
theorem dX11_term_62 : decode cX11_term 62 = .ok (.if_icmp .ne 8, 3) := by decide +kernel
theorem dX11_term_65 : decode cX11_term 65 = .ok (.bipush 14, 2) := by decide +kernel
theorem dX11_term_67 : decode cX11_term 67 = .ok (.goto 5, 3) := by decide +kernel
theorem dX11_term_70 : decode cX11_term 70 = .ok (.bipush 15, 2) := by decide +kernel
theorem dX11_term_72 : decode cX11_term 72 = .ok (.istore_n 1, 1) := by decide +kernel
theorem dX11_term_73 : decode cX11_term 73 = .ok (.aload_n 0, 1) := by decide +kernel
theorem dX11_term_74 : decode cX11_term 74 = .ok (.dup, 1) := by decide +kernel
theorem dX11_term_75 : decode cX11_term 75 = .ok (.getfield 211, 3) := by decide +kernel
theorem dX11_term_78 : decode cX11_term 78 = .ok (.iconst 1, 1) := by decide +kernel
theorem dX11_term_79 : decode cX11_term 79 = .ok (.iadd, 1) := by decide +kernel
theorem dX11_term_80 : decode cX11_term 80 = .ok (.putfield 211, 3) := by decide +kernel
theorem dX11_term_83 : decode cX11_term 83 = .ok (.aload_n 0, 1) := by decide +kernel
theorem dX11_term_84 : decode cX11_term 84 = .ok (.invokevirtual 270, 3) := by decide +kernel
theorem dX11_term_87 : decode cX11_term 87 = .ok (.aload_n 0, 1) := by decide +kernel
theorem dX11_term_88 : decode cX11_term 88 = .ok (.iload_n 1, 1) := by decide +kernel
theorem dX11_term_89 : decode cX11_term 89 = .ok (.iconst 0, 1) := by decide +kernel
theorem dX11_term_90 : decode cX11_term 90 = .ok (.invokevirtual 263, 3) := by decide +kernel
theorem dX11_term_93 : decode cX11_term 93 = .ok (.aload_n 0, 1) := by decide +kernel
theorem dX11_term_94 : decode cX11_term 94 = .ok (.invokevirtual 231, 3) := by decide +kernel
theorem dX11_term_97 : decode cX11_term 97 = .ok (.goto (-89), 3) := by decide +kernel
theorem dX11_term_100 : decode cX11_term 100 = .ok (.return_, 1) := by decide +kernel
theorem dX11_sum_0 : decode cX11_sum 0 = .ok (.aload_n 0, 1) := by decide +kernel
theorem dX11_sum_1 : decode cX11_sum 1 = .ok (.invokevirtual 273, 3) := by decide +kernel
theorem dX11_sum_4 : decode cX11_sum 4 = .ok (.aload_n 0, 1) := by decide +kernel
theorem dX11_sum_5 : decode cX11_sum 5 = .ok (.getfield 208, 3) := by decide +kernel
theorem dX11_sum_8 : decode cX11_sum 8 = .ok (.ifCond .ne 59, 3) := by decide +kernel
theorem dX11_sum_11 : decode cX11_sum 11 = .ok (.aload_n 0, 1) := by decide +kernel
theorem dX11_sum_12 : decode cX11_sum 12 = .ok (.invokevirtual 214, 3) := by decide +kernel
theorem dX11_sum_15 : decode cX11_sum 15 = .ok (.bipush 43, 2) := by decide +kernel
theorem dX11_sum_17 : decode cX11_sum 17 = .ok (.if_icmp .eq 12, 3) := by decide +kernel
theorem dX11_sum_20 : decode cX11_sum 20 = .ok (.aload_n 0, 1) := by decide +kernel
theorem dX11_sum_21 : decode cX11_sum 21 = .ok (.invokevirtual 214, 3) := by decide +kernel
theorem dX11_sum_24 : decode cX11_sum 24 = .ok (.bipush 45, 2) := by decide +kernel
theorem dX11_sum_26 : decode cX11_sum 26 = .ok (.if_icmp .ne 41, 3) := by decide +kernel
theorem dX11_sum_29 : decode cX11_sum 29 = .ok (.aload_n 0, 1) := by decide +kernel
theorem dX11_sum_30 : decode cX11_sum 30 = .ok (.invokevirtual 214, 3) := by decide +kernel
theorem dX11_sum_33 : decode cX11_sum 33 = .ok (.bipush 43, 2) := by decide +kernel
theorem dX11_sum_35 : decode cX11_sum 35 = .ok (.if_icmp .ne 7, 3) := by decide +kernel
theorem dX11_sum_38 : decode cX11_sum 38 = .ok (.iconst 2, 1) := by decide +kernel
theorem dX11_sum_39 : decode cX11_sum 39 = .ok (.goto 4, 3) := by decide +kernel
theorem dX11_sum_42 : decode cX11_sum 42 = .ok (.iconst 3, 1) := by decide +kernel
theorem dX11_sum_43 : decode cX11_sum 43 = .ok (.istore_n 1, 1) := by decide +kernel
theorem dX11_sum_44 : decode cX11_sum 44 = .ok (.aload_n 0, 1) := by decide +kernel
theorem dX11_sum_45 : decode cX11_sum 45 = .ok (.dup, 1) := by decide +kernel
theorem dX11_sum_46 : decode cX11_sum 46 = .ok (.getfield 211, 3) := by decide +kernel
theorem dX11_sum_49 : decode cX11_sum 49 = .ok (.iconst 1, 1) := by decide +kernel
theorem dX11_sum_50 : decode cX11_sum 50 = .ok (.iadd, 1) := by decide +kernel
theorem dX11_sum_51 : decode cX11_sum 51 = .ok (.putfield 211, 3) := by decide +kernel
theorem dX11_sum_54 : decode cX11_sum 54 = .ok (.aload_n 0, 1) := by decide +kernel
theorem dX11_sum_55 : decode cX11_sum 55 = .ok (.invokevirtual 273, 3) := by decide +kernel
theorem dX11_sum_58 : decode cX11_sum 58 = .ok (.aload_n 0, 1) := by decide +kernel
theorem dX11_sum_59 : decode cX11_sum 59 = .ok (.iload_n 1, 1) := by decide +kernel
theorem dX11_sum_60 : decode cX11_sum 60 = .ok (.iconst 0, 1) := by decide +kernel
theorem dX11_sum_61 : decode cX11_sum 61 = .ok (.invokevirtual 263, 3) := by decide +kernel
theorem dX11_sum_64 : decode cX11_sum 64 = .ok (.goto (-60), 3) := by decide +kernel
theorem dX11_sum_67 : decode cX11_sum 67 = .ok (.return_, 1) := by decide +kernel
theorem dX11_compared_0 : decode cX11_compared 0 = .ok (.aload_n 0, 1) := by decide +kernel
theorem dX11_compared_1 : decode cX11_compared 1 = .ok (.invokevirtual 276, 3) := by decide +kernel
theorem dX11_compared_4 : decode cX11_compared 4 = .ok (.aload_n 0, 1) := by decide +kernel
theorem dX11_compared_5 : decode cX11_compared 5 = .ok (.invokevirtual 214, 3) := by decide +kernel
theorem dX11_compared_8 : decode cX11_compared 8 = .ok (.istore_n 1, 1) := by decide +kernel
theorem dX11_compared_9 : decode cX11_compared 9 = .ok (.iload_n 1, 1) := by decide +kernel
theorem dX11_compared_10 : decode cX11_compared 10 = .ok (.bipush 60, 2) := by decide +kernel
theorem dX11_compared_12 : decode cX11_compared 12 = .ok (.if_icmp .eq 25, 3) := by decide +kernel
theorem dX11_compared_15 : decode cX11_compared 15 = .ok (.iload_n 1, 1) := by decide +kernel
theorem dX11_compared_16 : decode cX11_compared 16 = .ok (.bipush 61, 2) := by decide +kernel
theorem dX11_compared_18 : decode cX11_compared 18 = .ok (.if_icmp .eq 19, 3) := by decide +kernel
theorem dX11_compared_21 : decode cX11_compared 21 = .ok (.iload_n 1, 1) := by decide +kernel
theorem dX11_compared_22 : decode cX11_compared 22 = .ok (.bipush 62, 2) := by decide +kernel
theorem dX11_compared_24 : decode cX11_compared 24 = .ok (.if_icmp .eq 13, 3) := by decide +kernel
theorem dX11_compared_27 : decode cX11_compared 27 = .ok (.aload_n 0, 1) := by decide +kernel
theorem dX11_compared_28 : decode cX11_compared 28 = .ok (.iconst 0, 1) := by decide +kernel
theorem dX11_compared_29 : decode cX11_compared 29 = .ok (.aload_n 0, 1) := by decide +kernel
theorem dX11_compared_30 : decode cX11_compared 30 = .ok (.getfield 211, 3) := by decide +kernel
theorem dX11_compared_33 : decode cX11_compared 33 = .ok (.invokevirtual 247, 3) := by decide +kernel
theorem dX11_compared_36 : decode cX11_compared 36 = .ok (.return_, 1) := by decide +kernel
theorem dX11_compared_37 : decode cX11_compared 37 = .ok (.aload_n 0, 1) := by decide +kernel
theorem dX11_compared_38 : decode cX11_compared 38 = .ok (.aload_n 0, 1) := by decide +kernel
theorem dX11_compared_39 : decode cX11_compared 39 = .ok (.getfield 211, 3) := by decide +kernel
theorem dX11_compared_42 : decode cX11_compared 42 = .ok (.invokevirtual 260, 3) := by decide +kernel
theorem dX11_compared_45 : decode cX11_compared 45 = .ok (.aload_n 0, 1) := by decide +kernel
theorem dX11_compared_46 : decode cX11_compared 46 = .ok (.dup, 1) := by decide +kernel
theorem dX11_compared_47 : decode cX11_compared 47 = .ok (.getfield 211, 3) := by decide +kernel
theorem dX11_compared_50 : decode cX11_compared 50 = .ok (.iconst 1, 1) := by decide +kernel
theorem dX11_compared_51 : decode cX11_compared 51 = .ok (.iadd, 1) := by decide +kernel
theorem dX11_compared_52 : decode cX11_compared 52 = .ok (.putfield 211, 3) := by decide +kernel
theorem dX11_compared_55 : decode cX11_compared 55 = .ok (.iload_n 1, 1) := by decide +kernel
theorem dX11_compared_56 : decode cX11_compared 56 = .ok (.bipush 61, 2) := by decide +kernel
theorem dX11_compared_58 : decode cX11_compared 58 = .ok (.if_icmp .eq 16, 3) := by decide +kernel
theorem dX11_compared_61 : decode cX11_compared 61 = .ok (.aload_n 0, 1) := by decide +kernel
theorem dX11_compared_62 : decode cX11_compared 62 = .ok (.invokevirtual 214, 3) := by decide +kernel
theorem dX11_compared_65 : decode cX11_compared 65 = .ok (.bipush 61, 2) := by decide +kernel
theorem dX11_compared_67 : decode cX11_compared 67 = .ok (.if_icmp .ne 7, 3) := by decide +kernel
theorem dX11_compared_70 : decode cX11_compared 70 = .ok (.iconst 1, 1) := by decide +kernel
theorem dX11_compared_71 : decode cX11_compared 71 = .ok (.goto 4, 3) := by decide +kernel
theorem dX11_compared_74 : decode cX11_compared 74 = .ok (.iconst 0, 1) := by decide +kernel
theorem dX11_compared_75 : decode cX11_compared 75 = .ok (.istore_n 2, 1) := by decide +kernel
theorem dX11_compared_76 : decode cX11_compared 76 = .ok (.aload_n 0, 1) := by decide +kernel
theorem dX11_compared_77 : decode cX11_compared 77 = .ok (.dup, 1) := by decide +kernel
theorem dX11_compared_78 : decode cX11_compared 78 = .ok (.getfield 211, 3) := by decide +kernel
theorem dX11_compared_81 : decode cX11_compared 81 = .ok (.iload_n 2, 1) := by decide +kernel
theorem dX11_compared_82 : decode cX11_compared 82 = .ok (.ifCond .eq 7, 3) := by decide +kernel
theorem dX11_compared_85 : decode cX11_compared 85 = .ok (.iconst 1, 1) := by decide +kernel
theorem dX11_compared_86 : decode cX11_compared 86 = .ok (.goto 4, 3) := by decide +kernel
theorem dX11_compared_89 : decode cX11_compared 89 = .ok (.iconst 0, 1) := by decide +kernel
theorem dX11_compared_90 : decode cX11_compared 90 = .ok (.iadd, 1) := by decide +kernel
theorem dX11_compared_91 : decode cX11_compared 91 = .ok (.putfield 211, 3) := by decide +kernel
theorem dX11_compared_94 : decode cX11_compared 94 = .ok (.aload_n 0, 1) := by decide +kernel
theorem dX11_compared_95 : decode cX11_compared 95 = .ok (.invokevirtual 276, 3) := by decide +kernel
theorem dX11_compared_98 : decode cX11_compared 98 = .ok (.aload_n 0, 1) := by decide +kernel
theorem dX11_compared_99 : decode cX11_compared 99 = .ok (.iload_n 1, 1) := by decide +kernel
theorem dX11_compared_100 : decode cX11_compared 100 = .ok (.bipush 61, 2) := by decide +kernel
theorem dX11_compared_102 : decode cX11_compared 102 = .ok (.if_icmp .ne 8, 3) := by decide +kernel
theorem dX11_compared_105 : decode cX11_compared 105 = .ok (.bipush 6, 2) := by decide +kernel
theorem dX11_compared_107 : decode cX11_compared 107 = .ok (.goto 32, 3) := by decide +kernel
theorem dX11_compared_110 : decode cX11_compared 110 = .ok (.iload_n 1, 1) := by decide +kernel
theorem dX11_compared_111 : decode cX11_compared 111 = .ok (.bipush 60, 2) := by decide +kernel
theorem dX11_compared_113 : decode cX11_compared 113 = .ok (.if_icmp .ne 15, 3) := by decide +kernel
theorem dX11_compared_116 : decode cX11_compared 116 = .ok (.iload_n 2, 1) := by decide +kernel
theorem dX11_compared_117 : decode cX11_compared 117 = .ok (.ifCond .eq 7, 3) := by decide +kernel
theorem dX11_compared_120 : decode cX11_compared 120 = .ok (.iconst 5, 1) := by decide +kernel
theorem dX11_compared_121 : decode cX11_compared 121 = .ok (.goto 18, 3) := by decide +kernel
theorem dX11_compared_124 : decode cX11_compared 124 = .ok (.iconst 4, 1) := by decide +kernel
theorem dX11_compared_125 : decode cX11_compared 125 = .ok (.goto 14, 3) := by decide +kernel
theorem dX11_compared_128 : decode cX11_compared 128 = .ok (.iload_n 2, 1) := by decide +kernel
theorem dX11_compared_129 : decode cX11_compared 129 = .ok (.ifCond .eq 8, 3) := by decide +kernel
theorem dX11_compared_132 : decode cX11_compared 132 = .ok (.bipush 7, 2) := by decide +kernel
theorem dX11_compared_134 : decode cX11_compared 134 = .ok (.goto 5, 3) := by decide +kernel
theorem dX11_compared_137 : decode cX11_compared 137 = .ok (.bipush 8, 2) := by decide +kernel
theorem dX11_compared_139 : decode cX11_compared 139 = .ok (.iconst 0, 1) := by decide +kernel
theorem dX11_compared_140 : decode cX11_compared 140 = .ok (.invokevirtual 263, 3) := by decide +kernel
theorem dX11_compared_143 : decode cX11_compared 143 = .ok (.return_, 1) := by decide +kernel
theorem dX11_top_0 : decode cX11_top 0 = .ok (.aload_n 0, 1) := by decide +kernel
theorem dX11_top_1 : decode cX11_top 1 = .ok (.getfield 279, 3) := by decide +kernel
theorem dX11_top_4 : decode cX11_top 4 = .ok (.ifCond .ne 7, 3) := by decide +kernel
theorem dX11_top_7 : decode cX11_top 7 = .ok (.iconst (-1), 1) := by decide +kernel
theorem dX11_top_8 : decode cX11_top 8 = .ok (.goto 14, 3) := by decide +kernel
theorem dX11_top_11 : decode cX11_top 11 = .ok (.aload_n 0, 1) := by decide +kernel
theorem dX11_top_12 : decode cX11_top 12 = .ok (.getfield 96, 3) := by decide +kernel
theorem dX11_top_15 : decode cX11_top 15 = .ok (.aload_n 0, 1) := by decide +kernel
theorem dX11_top_16 : decode cX11_top 16 = .ok (.getfield 279, 3) := by decide +kernel
theorem dX11_top_19 : decode cX11_top 19 = .ok (.iconst 1, 1) := by decide +kernel
theorem dX11_top_20 : decode cX11_top 20 = .ok (.isub, 1) := by decide +kernel
theorem dX11_top_21 : decode cX11_top 21 = .ok (.iaload, 1) := by decide +kernel
theorem dX11_top_22 : decode cX11_top 22 = .ok (.ireturn, 1) := by decide +kernel
theorem dX11_opens_0 : decode cX11_opens 0 = .ok (.iload_n 1, 1) := by decide +kernel
theorem dX11_opens_1 : decode cX11_opens 1 = .ok (.bipush 9, 2) := by decide +kernel
theorem dX11_opens_3 : decode cX11_opens 3 = .ok (.if_icmp .eq 9, 3) := by decide +kernel
theorem dX11_opens_6 : decode cX11_opens 6 = .ok (.iload_n 1, 1) := by decide +kernel
theorem dX11_opens_7 : decode cX11_opens 7 = .ok (.bipush 12, 2) := by decide +kernel
theorem dX11_opens_9 : decode cX11_opens 9 = .ok (.if_icmp .ne 31, 3) := by decide +kernel
theorem dX11_opens_12 : decode cX11_opens 12 = .ok (.aload_n 0, 1) := by decide +kernel
theorem dX11_opens_13 : decode cX11_opens 13 = .ok (.getfield 282, 3) := by decide +kernel
theorem dX11_opens_16 : decode cX11_opens 16 = .ok (.bipush 10, 2) := by decide +kernel
theorem dX11_opens_18 : decode cX11_opens 18 = .ok (.if_icmp .ne 12, 3) := by decide +kernel
theorem dX11_opens_21 : decode cX11_opens 21 = .ok (.aload_n 0, 1) := by decide +kernel
theorem dX11_opens_22 : decode cX11_opens 22 = .ok (.iconst 2, 1) := by decide +kernel
theorem dX11_opens_23 : decode cX11_opens 23 = .ok (.aload_n 0, 1) := by decide +kernel
theorem dX11_opens_24 : decode cX11_opens 24 = .ok (.getfield 211, 3) := by decide +kernel
theorem dX11_opens_27 : decode cX11_opens 27 = .ok (.invokevirtual 247, 3) := by decide +kernel
theorem dX11_opens_30 : decode cX11_opens 30 = .ok (.aload_n 0, 1) := by decide +kernel
theorem dX11_opens_31 : decode cX11_opens 31 = .ok (.dup, 1) := by decide +kernel
theorem dX11_opens_32 : decode cX11_opens 32 = .ok (.getfield 282, 3) := by decide +kernel
theorem dX11_opens_35 : decode cX11_opens 35 = .ok (.iconst 1, 1) := by decide +kernel
theorem dX11_opens_36 : decode cX11_opens 36 = .ok (.iadd, 1) := by decide +kernel
theorem dX11_opens_37 : decode cX11_opens 37 = .ok (.putfield 282, 3) := by decide +kernel
theorem dX11_opens_40 : decode cX11_opens 40 = .ok (.aload_n 0, 1) := by decide +kernel
theorem dX11_opens_41 : decode cX11_opens 41 = .ok (.getfield 96, 3) := by decide +kernel
theorem dX11_opens_44 : decode cX11_opens 44 = .ok (.aload_n 0, 1) := by decide +kernel
theorem dX11_opens_45 : decode cX11_opens 45 = .ok (.getfield 279, 3) := by decide +kernel
theorem dX11_opens_48 : decode cX11_opens 48 = .ok (.iload_n 1, 1) := by decide +kernel
theorem dX11_opens_49 : decode cX11_opens 49 = .ok (.iastore, 1) := by decide +kernel
theorem dX11_opens_50 : decode cX11_opens 50 = .ok (.aload_n 0, 1) := by decide +kernel
theorem dX11_opens_51 : decode cX11_opens 51 = .ok (.dup, 1) := by decide +kernel
theorem dX11_opens_52 : decode cX11_opens 52 = .ok (.getfield 279, 3) := by decide +kernel
theorem dX11_opens_55 : decode cX11_opens 55 = .ok (.iconst 1, 1) := by decide +kernel
theorem dX11_opens_56 : decode cX11_opens 56 = .ok (.iadd, 1) := by decide +kernel
theorem dX11_opens_57 : decode cX11_opens 57 = .ok (.putfield 279, 3) := by decide +kernel
theorem dX11_opens_60 : decode cX11_opens 60 = .ok (.return_, 1) := by decide +kernel
theorem dX11_answers_0 : decode cX11_answers 0 = .ok (.aload_n 0, 1) := by decide +kernel
theorem dX11_answers_1 : decode cX11_answers 1 = .ok (.invokevirtual 285, 3) := by decide +kernel
theorem dX11_answers_4 : decode cX11_answers 4 = .ok (.iload_n 1, 1) := by decide +kernel
theorem dX11_answers_5 : decode cX11_answers 5 = .ok (.if_icmp .ne 49, 3) := by decide +kernel
theorem dX11_answers_8 : decode cX11_answers 8 = .ok (.aload_n 0, 1) := by decide +kernel
theorem dX11_answers_9 : decode cX11_answers 9 = .ok (.getfield 208, 3) := by decide +kernel
theorem dX11_answers_12 : decode cX11_answers 12 = .ok (.ifCond .ne 42, 3) := by decide +kernel
theorem dX11_answers_15 : decode cX11_answers 15 = .ok (.aload_n 0, 1) := by decide +kernel
theorem dX11_answers_16 : decode cX11_answers 16 = .ok (.iload_n 1, 1) := by decide +kernel
theorem dX11_answers_17 : decode cX11_answers 17 = .ok (.iconst 0, 1) := by decide +kernel
theorem dX11_answers_18 : decode cX11_answers 18 = .ok (.invokevirtual 263, 3) := by decide +kernel
theorem dX11_answers_21 : decode cX11_answers 21 = .ok (.aload_n 0, 1) := by decide +kernel
theorem dX11_answers_22 : decode cX11_answers 22 = .ok (.dup, 1) := by decide +kernel
theorem dX11_answers_23 : decode cX11_answers 23 = .ok (.getfield 279, 3) := by decide +kernel
theorem dX11_answers_26 : decode cX11_answers 26 = .ok (.iconst 1, 1) := by decide +kernel
theorem dX11_answers_27 : decode cX11_answers 27 = .ok (.isub, 1) := by decide +kernel
theorem dX11_answers_28 : decode cX11_answers 28 = .ok (.putfield 279, 3) := by decide +kernel
theorem dX11_answers_31 : decode cX11_answers 31 = .ok (.aload_n 0, 1) := by decide +kernel
theorem dX11_answers_32 : decode cX11_answers 32 = .ok (.dup, 1) := by decide +kernel
theorem dX11_answers_33 : decode cX11_answers 33 = .ok (.getfield 282, 3) := by decide +kernel
theorem dX11_answers_36 : decode cX11_answers 36 = .ok (.iload_n 1, 1) := by decide +kernel
theorem dX11_answers_37 : decode cX11_answers 37 = .ok (.bipush 9, 2) := by decide +kernel
theorem dX11_answers_39 : decode cX11_answers 39 = .ok (.if_icmp .ne 7, 3) := by decide +kernel
theorem dX11_answers_42 : decode cX11_answers 42 = .ok (.iconst 1, 1) := by decide +kernel
theorem dX11_answers_43 : decode cX11_answers 43 = .ok (.goto 4, 3) := by decide +kernel
theorem dX11_answers_46 : decode cX11_answers 46 = .ok (.iconst 0, 1) := by decide +kernel
theorem dX11_answers_47 : decode cX11_answers 47 = .ok (.isub, 1) := by decide +kernel
theorem dX11_answers_48 : decode cX11_answers 48 = .ok (.putfield 282, 3) := by decide +kernel
theorem dX11_answers_51 : decode cX11_answers 51 = .ok (.goto (-51), 3) := by decide +kernel
theorem dX11_answers_54 : decode cX11_answers 54 = .ok (.return_, 1) := by decide +kernel
theorem dX11_fact_0 : decode cX11_fact 0 = .ok (.aload_n 0, 1) := by decide +kernel
theorem dX11_fact_1 : decode cX11_fact 1 = .ok (.invokevirtual 231, 3) := by decide +kernel
theorem dX11_fact_4 : decode cX11_fact 4 = .ok (.aload_n 0, 1) := by decide +kernel
theorem dX11_fact_5 : decode cX11_fact 5 = .ok (.ldc_w 288, 3) := by decide +kernel
theorem dX11_fact_8 : decode cX11_fact 8 = .ok (.invokevirtual 234, 3) := by decide +kernel
theorem dX11_fact_11 : decode cX11_fact 11 = .ok (.ifCond .eq 21, 3) := by decide +kernel
theorem dX11_fact_14 : decode cX11_fact 14 = .ok (.aload_n 0, 1) := by decide +kernel
theorem dX11_fact_15 : decode cX11_fact 15 = .ok (.bipush 9, 2) := by decide +kernel
theorem dX11_fact_17 : decode cX11_fact 17 = .ok (.invokevirtual 290, 3) := by decide +kernel
theorem dX11_fact_20 : decode cX11_fact 20 = .ok (.aload_n 0, 1) := by decide +kernel
theorem dX11_fact_21 : decode cX11_fact 21 = .ok (.dup, 1) := by decide +kernel
theorem dX11_fact_22 : decode cX11_fact 22 = .ok (.getfield 211, 3) := by decide +kernel
theorem dX11_fact_25 : decode cX11_fact 25 = .ok (.iconst 3, 1) := by decide +kernel
theorem dX11_fact_26 : decode cX11_fact 26 = .ok (.iadd, 1) := by decide +kernel
theorem dX11_fact_27 : decode cX11_fact 27 = .ok (.putfield 211, 3) := by decide +kernel
theorem dX11_fact_30 : decode cX11_fact 30 = .ok (.iconst 0, 1) := by decide +kernel
theorem dX11_fact_31 : decode cX11_fact 31 = .ok (.ireturn, 1) := by decide +kernel
theorem dX11_fact_32 : decode cX11_fact 32 = .ok (.aload_n 0, 1) := by decide +kernel
theorem dX11_fact_33 : decode cX11_fact 33 = .ok (.invokevirtual 214, 3) := by decide +kernel
theorem dX11_fact_36 : decode cX11_fact 36 = .ok (.bipush 91, 2) := by decide +kernel
theorem dX11_fact_38 : decode cX11_fact 38 = .ok (.if_icmp .ne 21, 3) := by decide +kernel
theorem dX11_fact_41 : decode cX11_fact 41 = .ok (.aload_n 0, 1) := by decide +kernel
theorem dX11_fact_42 : decode cX11_fact 42 = .ok (.bipush 12, 2) := by decide +kernel
theorem dX11_fact_44 : decode cX11_fact 44 = .ok (.invokevirtual 290, 3) := by decide +kernel
theorem dX11_fact_47 : decode cX11_fact 47 = .ok (.aload_n 0, 1) := by decide +kernel
theorem dX11_fact_48 : decode cX11_fact 48 = .ok (.dup, 1) := by decide +kernel
theorem dX11_fact_49 : decode cX11_fact 49 = .ok (.getfield 211, 3) := by decide +kernel
theorem dX11_fact_52 : decode cX11_fact 52 = .ok (.iconst 1, 1) := by decide +kernel
theorem dX11_fact_53 : decode cX11_fact 53 = .ok (.iadd, 1) := by decide +kernel
theorem dX11_fact_54 : decode cX11_fact 54 = .ok (.putfield 211, 3) := by decide +kernel
theorem dX11_fact_57 : decode cX11_fact 57 = .ok (.iconst 0, 1) := by decide +kernel
theorem dX11_fact_58 : decode cX11_fact 58 = .ok (.ireturn, 1) := by decide +kernel
theorem dX11_fact_59 : decode cX11_fact 59 = .ok (.aload_n 0, 1) := by decide +kernel
theorem dX11_fact_60 : decode cX11_fact 60 = .ok (.invokevirtual 293, 3) := by decide +kernel
theorem dX11_fact_63 : decode cX11_fact 63 = .ok (.iconst 1, 1) := by decide +kernel
theorem dX11_fact_64 : decode cX11_fact 64 = .ok (.ireturn, 1) := by decide +kernel
theorem dX11_test_0 : decode cX11_test 0 = .ok (.aload_n 0, 1) := by decide +kernel
theorem dX11_test_1 : decode cX11_test 1 = .ok (.iconst 0, 1) := by decide +kernel
theorem dX11_test_2 : decode cX11_test 2 = .ok (.putfield 279, 3) := by decide +kernel
theorem dX11_test_5 : decode cX11_test 5 = .ok (.iconst 1, 1) := by decide +kernel
theorem dX11_test_6 : decode cX11_test 6 = .ok (.istore_n 1, 1) := by decide +kernel
theorem dX11_test_7 : decode cX11_test 7 = .ok (.iconst 1, 1) := by decide +kernel
theorem dX11_test_8 : decode cX11_test 8 = .ok (.istore_n 2, 1) := by decide +kernel
theorem dX11_test_9 : decode cX11_test 9 = .ok (.iload_n 2, 1) := by decide +kernel
theorem dX11_test_10 : decode cX11_test 10 = .ok (.ifCond .eq 192, 3) := by decide +kernel
theorem dX11_test_13 : decode cX11_test 13 = .ok (.aload_n 0, 1) := by decide +kernel
theorem dX11_test_14 : decode cX11_test 14 = .ok (.getfield 208, 3) := by decide +kernel
theorem dX11_test_17 : decode cX11_test 17 = .ok (.ifCond .ne 185, 3) := by decide +kernel
theorem dX11_test_20 : decode cX11_test 20 = .ok (.iload_n 1, 1) := by decide +kernel
theorem dX11_test_21 : decode cX11_test 21 = .ok (.ifCond .eq 19, 3) := by decide +kernel
theorem dX11_test_24 : decode cX11_test 24 = .ok (.aload_n 0, 1) := by decide +kernel
theorem dX11_test_25 : decode cX11_test 25 = .ok (.invokevirtual 296, 3) := by decide +kernel
theorem dX11_test_28 : decode cX11_test 28 = .ok (.ifCond .ne 7, 3) := by decide +kernel
theorem dX11_test_31 : decode cX11_test 31 = .ok (.iconst 1, 1) := by decide +kernel
theorem dX11_test_32 : decode cX11_test 32 = .ok (.goto 4, 3) := by decide +kernel
theorem dX11_test_35 : decode cX11_test 35 = .ok (.iconst 0, 1) := by decide +kernel
theorem dX11_test_36 : decode cX11_test 36 = .ok (.istore_n 1, 1) := by decide +kernel
theorem dX11_test_37 : decode cX11_test 37 = .ok (.goto (-28), 3) := by decide +kernel
theorem dX11_test_40 : decode cX11_test 40 = .ok (.aload_n 0, 1) := by decide +kernel
theorem dX11_test_41 : decode cX11_test 41 = .ok (.bipush 9, 2) := by decide +kernel
theorem dX11_test_43 : decode cX11_test 43 = .ok (.invokevirtual 299, 3) := by decide +kernel
theorem dX11_test_46 : decode cX11_test 46 = .ok (.aload_n 0, 1) := by decide +kernel
theorem dX11_test_47 : decode cX11_test 47 = .ok (.invokevirtual 231, 3) := by decide +kernel
theorem dX11_test_50 : decode cX11_test 50 = .ok (.aload_n 0, 1) := by decide +kernel
theorem dX11_test_51 : decode cX11_test 51 = .ok (.ldc_w 302, 3) := by decide +kernel
theorem dX11_test_54 : decode cX11_test 54 = .ok (.invokevirtual 234, 3) := by decide +kernel
theorem dX11_test_57 : decode cX11_test 57 = .ok (.istore_n 3, 1) := by decide +kernel
theorem dX11_test_58 : decode cX11_test 58 = .ok (.aload_n 0, 1) := by decide +kernel
theorem dX11_test_59 : decode cX11_test 59 = .ok (.ldc_w 304, 3) := by decide +kernel
theorem dX11_test_62 : decode cX11_test 62 = .ok (.invokevirtual 234, 3) := by decide +kernel
theorem dX11_test_65 : decode cX11_test 65 = .ok (.istore 4, 2) := by decide +kernel
theorem dX11_test_67 : decode cX11_test 67 = .ok (.aload_n 0, 1) := by decide +kernel
theorem dX11_test_68 : decode cX11_test 68 = .ok (.bipush 10, 2) := by decide +kernel
theorem dX11_test_70 : decode cX11_test 70 = .ok (.invokevirtual 299, 3) := by decide +kernel
theorem dX11_test_73 : decode cX11_test 73 = .ok (.iload_n 3, 1) := by decide +kernel
theorem dX11_test_74 : decode cX11_test 74 = .ok (.ifCond .ne 8, 3) := by decide +kernel
theorem dX11_test_77 : decode cX11_test 77 = .ok (.iload 4, 2) := by decide +kernel
theorem dX11_test_79 : decode cX11_test 79 = .ok (.ifCond .eq 52, 3) := by decide +kernel
theorem dX11_test_82 : decode cX11_test 82 = .ok (.iload 4, 2) := by decide +kernel
theorem dX11_test_84 : decode cX11_test 84 = .ok (.ifCond .eq 9, 3) := by decide +kernel
theorem dX11_test_87 : decode cX11_test 87 = .ok (.aload_n 0, 1) := by decide +kernel
theorem dX11_test_88 : decode cX11_test 88 = .ok (.bipush 11, 2) := by decide +kernel
theorem dX11_test_90 : decode cX11_test 90 = .ok (.invokevirtual 299, 3) := by decide +kernel
theorem dX11_test_93 : decode cX11_test 93 = .ok (.aload_n 0, 1) := by decide +kernel
theorem dX11_test_94 : decode cX11_test 94 = .ok (.iload_n 3, 1) := by decide +kernel
theorem dX11_test_95 : decode cX11_test 95 = .ok (.ifCond .eq 8, 3) := by decide +kernel
theorem dX11_test_98 : decode cX11_test 98 = .ok (.bipush 10, 2) := by decide +kernel
theorem dX11_test_100 : decode cX11_test 100 = .ok (.goto 5, 3) := by decide +kernel
theorem dX11_test_103 : decode cX11_test 103 = .ok (.bipush 11, 2) := by decide +kernel
theorem dX11_test_105 : decode cX11_test 105 = .ok (.invokevirtual 290, 3) := by decide +kernel
theorem dX11_test_108 : decode cX11_test 108 = .ok (.aload_n 0, 1) := by decide +kernel
theorem dX11_test_109 : decode cX11_test 109 = .ok (.dup, 1) := by decide +kernel
theorem dX11_test_110 : decode cX11_test 110 = .ok (.getfield 211, 3) := by decide +kernel
theorem dX11_test_113 : decode cX11_test 113 = .ok (.iload_n 3, 1) := by decide +kernel
theorem dX11_test_114 : decode cX11_test 114 = .ok (.ifCond .eq 7, 3) := by decide +kernel
theorem dX11_test_117 : decode cX11_test 117 = .ok (.iconst 3, 1) := by decide +kernel
theorem dX11_test_118 : decode cX11_test 118 = .ok (.goto 4, 3) := by decide +kernel
theorem dX11_test_121 : decode cX11_test 121 = .ok (.iconst 2, 1) := by decide +kernel
theorem dX11_test_122 : decode cX11_test 122 = .ok (.iadd, 1) := by decide +kernel
theorem dX11_test_123 : decode cX11_test 123 = .ok (.putfield 211, 3) := by decide +kernel
theorem dX11_test_126 : decode cX11_test 126 = .ok (.iconst 1, 1) := by decide +kernel
theorem dX11_test_127 : decode cX11_test 127 = .ok (.istore_n 1, 1) := by decide +kernel
theorem dX11_test_128 : decode cX11_test 128 = .ok (.goto 71, 3) := by decide +kernel
theorem dX11_test_131 : decode cX11_test 131 = .ok (.aload_n 0, 1) := by decide +kernel
theorem dX11_test_132 : decode cX11_test 132 = .ok (.bipush 11, 2) := by decide +kernel
theorem dX11_test_134 : decode cX11_test 134 = .ok (.invokevirtual 299, 3) := by decide +kernel
theorem dX11_test_137 : decode cX11_test 137 = .ok (.aload_n 0, 1) := by decide +kernel
theorem dX11_test_138 : decode cX11_test 138 = .ok (.invokevirtual 285, 3) := by decide +kernel
theorem dX11_test_141 : decode cX11_test 141 = .ok (.bipush 12, 2) := by decide +kernel
theorem dX11_test_143 : decode cX11_test 143 = .ok (.if_icmp .ne 54, 3) := by decide +kernel
theorem dX11_test_146 : decode cX11_test 146 = .ok (.aload_n 0, 1) := by decide +kernel
theorem dX11_test_147 : decode cX11_test 147 = .ok (.invokevirtual 214, 3) := by decide +kernel
theorem dX11_test_150 : decode cX11_test 150 = .ok (.bipush 93, 2) := by decide +kernel
theorem dX11_test_152 : decode cX11_test 152 = .ok (.if_icmp .eq 12, 3) := by decide +kernel
theorem dX11_test_155 : decode cX11_test 155 = .ok (.aload_n 0, 1) := by decide +kernel
theorem dX11_test_156 : decode cX11_test 156 = .ok (.iconst 0, 1) := by decide +kernel
theorem dX11_test_157 : decode cX11_test 157 = .ok (.aload_n 0, 1) := by decide +kernel
theorem dX11_test_158 : decode cX11_test 158 = .ok (.getfield 211, 3) := by decide +kernel
theorem dX11_test_161 : decode cX11_test 161 = .ok (.invokevirtual 247, 3) := by decide +kernel
theorem dX11_test_164 : decode cX11_test 164 = .ok (.aload_n 0, 1) := by decide +kernel
theorem dX11_test_165 : decode cX11_test 165 = .ok (.dup, 1) := by decide +kernel
theorem dX11_test_166 : decode cX11_test 166 = .ok (.getfield 211, 3) := by decide +kernel
theorem dX11_test_169 : decode cX11_test 169 = .ok (.iconst 1, 1) := by decide +kernel
theorem dX11_test_170 : decode cX11_test 170 = .ok (.iadd, 1) := by decide +kernel
theorem dX11_test_171 : decode cX11_test 171 = .ok (.putfield 211, 3) := by decide +kernel
theorem dX11_test_174 : decode cX11_test 174 = .ok (.aload_n 0, 1) := by decide +kernel
theorem dX11_test_175 : decode cX11_test 175 = .ok (.dup, 1) := by decide +kernel
theorem dX11_test_176 : decode cX11_test 176 = .ok (.getfield 279, 3) := by decide +kernel
theorem dX11_test_179 : decode cX11_test 179 = .ok (.iconst 1, 1) := by decide +kernel
theorem dX11_test_180 : decode cX11_test 180 = .ok (.isub, 1) := by decide +kernel
theorem dX11_test_181 : decode cX11_test 181 = .ok (.putfield 279, 3) := by decide +kernel
theorem dX11_test_184 : decode cX11_test 184 = .ok (.aload_n 0, 1) := by decide +kernel
theorem dX11_test_185 : decode cX11_test 185 = .ok (.dup, 1) := by decide +kernel
theorem dX11_test_186 : decode cX11_test 186 = .ok (.getfield 282, 3) := by decide +kernel
theorem dX11_test_189 : decode cX11_test 189 = .ok (.iconst 1, 1) := by decide +kernel
theorem dX11_test_190 : decode cX11_test 190 = .ok (.isub, 1) := by decide +kernel
theorem dX11_test_191 : decode cX11_test 191 = .ok (.putfield 282, 3) := by decide +kernel
theorem dX11_test_194 : decode cX11_test 194 = .ok (.goto 5, 3) := by decide +kernel
theorem dX11_test_197 : decode cX11_test 197 = .ok (.iconst 0, 1) := by decide +kernel
theorem dX11_test_198 : decode cX11_test 198 = .ok (.istore_n 2, 1) := by decide +kernel
theorem dX11_test_199 : decode cX11_test 199 = .ok (.goto (-190), 3) := by decide +kernel
theorem dX11_test_202 : decode cX11_test 202 = .ok (.return_, 1) := by decide +kernel
theorem dX11_amount_0 : decode cX11_amount 0 = .ok (.aload_n 0, 1) := by decide +kernel
theorem dX11_amount_1 : decode cX11_amount 1 = .ok (.invokevirtual 231, 3) := by decide +kernel
theorem dX11_amount_4 : decode cX11_amount 4 = .ok (.aload_n 0, 1) := by decide +kernel
theorem dX11_amount_5 : decode cX11_amount 5 = .ok (.getfield 211, 3) := by decide +kernel
theorem dX11_amount_8 : decode cX11_amount 8 = .ok (.istore_n 3, 1) := by decide +kernel
theorem dX11_amount_9 : decode cX11_amount 9 = .ok (.aload_n 0, 1) := by decide +kernel
theorem dX11_amount_10 : decode cX11_amount 10 = .ok (.getfield 208, 3) := by decide +kernel
theorem dX11_amount_13 : decode cX11_amount 13 = .ok (.ifCond .ne 12, 3) := by decide +kernel
theorem dX11_amount_16 : decode cX11_amount 16 = .ok (.aload_n 0, 1) := by decide +kernel
theorem dX11_amount_17 : decode cX11_amount 17 = .ok (.ldc 255, 2) := by decide +kernel
theorem dX11_amount_19 : decode cX11_amount 19 = .ok (.invokevirtual 256, 3) := by decide +kernel
theorem dX11_amount_22 : decode cX11_amount 22 = .ok (.goto 4, 3) := by decide +kernel
theorem dX11_amount_25 : decode cX11_amount 25 = .ok (.iconst 0, 1) := by decide +kernel
theorem dX11_amount_26 : decode cX11_amount 26 = .ok (.istore 4, 2) := by decide +kernel
theorem dX11_amount_28 : decode cX11_amount 28 = .ok (.aload_n 0, 1) := by decide +kernel
theorem dX11_amount_29 : decode cX11_amount 29 = .ok (.getfield 208, 3) := by decide +kernel
theorem dX11_amount_32 : decode cX11_amount 32 = .ok (.ifCond .ne 22, 3) := by decide +kernel
theorem dX11_amount_35 : decode cX11_amount 35 = .ok (.iload 4, 2) := by decide +kernel
theorem dX11_amount_37 : decode cX11_amount 37 = .ok (.i2l, 1) := by decide +kernel
theorem dX11_amount_38 : decode cX11_amount 38 = .ok (.iload_n 1, 1) := by decide +kernel
theorem dX11_amount_39 : decode cX11_amount 39 = .ok (.i2l, 1) := by decide +kernel
theorem dX11_amount_40 : decode cX11_amount 40 = .ok (.iload_n 2, 1) := by decide +kernel
theorem dX11_amount_41 : decode cX11_amount 41 = .ok (.i2l, 1) := by decide +kernel
theorem dX11_amount_42 : decode cX11_amount 42 = .ok (.invokestatic 171, 3) := by decide +kernel
theorem dX11_amount_45 : decode cX11_amount 45 = .ok (.ifCond .ne 9, 3) := by decide +kernel
theorem dX11_amount_48 : decode cX11_amount 48 = .ok (.aload_n 0, 1) := by decide +kernel
theorem dX11_amount_49 : decode cX11_amount 49 = .ok (.iconst 1, 1) := by decide +kernel
theorem dX11_amount_50 : decode cX11_amount 50 = .ok (.iload_n 3, 1) := by decide +kernel
theorem dX11_amount_51 : decode cX11_amount 51 = .ok (.invokevirtual 247, 3) := by decide +kernel
theorem dX11_amount_54 : decode cX11_amount 54 = .ok (.iload 4, 2) := by decide +kernel
theorem dX11_amount_56 : decode cX11_amount 56 = .ok (.ireturn, 1) := by decide +kernel
theorem dX11_mintPart_0 : decode cX11_mintPart 0 = .ok (.aload_n 0, 1) := by decide +kernel
theorem dX11_mintPart_1 : decode cX11_mintPart 1 = .ok (.getfield 31, 3) := by decide +kernel
theorem dX11_mintPart_4 : decode cX11_mintPart 4 = .ok (.iload_n 1, 1) := by decide +kernel
theorem dX11_mintPart_5 : decode cX11_mintPart 5 = .ok (.iaload, 1) := by decide +kernel
theorem dX11_mintPart_6 : decode cX11_mintPart 6 = .ok (.istore_n 2, 1) := by decide +kernel
theorem dX11_mintPart_7 : decode cX11_mintPart 7 = .ok (.iload_n 1, 1) := by decide +kernel
theorem dX11_mintPart_8 : decode cX11_mintPart 8 = .ok (.ifCond .ne 70, 3) := by decide +kernel
theorem dX11_mintPart_11 : decode cX11_mintPart 11 = .ok (.aload_n 0, 1) := by decide +kernel
theorem dX11_mintPart_12 : decode cX11_mintPart 12 = .ok (.getfield 34, 3) := by decide +kernel
theorem dX11_mintPart_15 : decode cX11_mintPart 15 = .ok (.iload_n 2, 1) := by decide +kernel
theorem dX11_mintPart_16 : decode cX11_mintPart 16 = .ok (.aload_n 0, 1) := by decide +kernel
theorem dX11_mintPart_17 : decode cX11_mintPart 17 = .ok (.iconst 0, 1) := by decide +kernel
theorem dX11_mintPart_18 : decode cX11_mintPart 18 = .ok (.sipush 2400, 3) := by decide +kernel
theorem dX11_mintPart_21 : decode cX11_mintPart 21 = .ok (.invokevirtual 306, 3) := by decide +kernel
theorem dX11_mintPart_24 : decode cX11_mintPart 24 = .ok (.iastore, 1) := by decide +kernel
theorem dX11_mintPart_25 : decode cX11_mintPart 25 = .ok (.aload_n 0, 1) := by decide +kernel
theorem dX11_mintPart_26 : decode cX11_mintPart 26 = .ok (.getfield 37, 3) := by decide +kernel
theorem dX11_mintPart_29 : decode cX11_mintPart 29 = .ok (.iload_n 2, 1) := by decide +kernel
theorem dX11_mintPart_30 : decode cX11_mintPart 30 = .ok (.aload_n 0, 1) := by decide +kernel
theorem dX11_mintPart_31 : decode cX11_mintPart 31 = .ok (.iconst 1, 1) := by decide +kernel
theorem dX11_mintPart_32 : decode cX11_mintPart 32 = .ok (.bipush 99, 2) := by decide +kernel
theorem dX11_mintPart_34 : decode cX11_mintPart 34 = .ok (.invokevirtual 306, 3) := by decide +kernel
theorem dX11_mintPart_37 : decode cX11_mintPart 37 = .ok (.iastore, 1) := by decide +kernel
theorem dX11_mintPart_38 : decode cX11_mintPart 38 = .ok (.aload_n 0, 1) := by decide +kernel
theorem dX11_mintPart_39 : decode cX11_mintPart 39 = .ok (.getfield 40, 3) := by decide +kernel
theorem dX11_mintPart_42 : decode cX11_mintPart 42 = .ok (.iload_n 2, 1) := by decide +kernel
theorem dX11_mintPart_43 : decode cX11_mintPart 43 = .ok (.aload_n 0, 1) := by decide +kernel
theorem dX11_mintPart_44 : decode cX11_mintPart 44 = .ok (.iconst 0, 1) := by decide +kernel
theorem dX11_mintPart_45 : decode cX11_mintPart 45 = .ok (.sipush 999, 3) := by decide +kernel
theorem dX11_mintPart_48 : decode cX11_mintPart 48 = .ok (.invokevirtual 306, 3) := by decide +kernel
theorem dX11_mintPart_51 : decode cX11_mintPart 51 = .ok (.iastore, 1) := by decide +kernel
theorem dX11_mintPart_52 : decode cX11_mintPart 52 = .ok (.aload_n 0, 1) := by decide +kernel
theorem dX11_mintPart_53 : decode cX11_mintPart 53 = .ok (.getfield 43, 3) := by decide +kernel
theorem dX11_mintPart_56 : decode cX11_mintPart 56 = .ok (.iload_n 2, 1) := by decide +kernel
theorem dX11_mintPart_57 : decode cX11_mintPart 57 = .ok (.aload_n 0, 1) := by decide +kernel
theorem dX11_mintPart_58 : decode cX11_mintPart 58 = .ok (.iconst 1, 1) := by decide +kernel
theorem dX11_mintPart_59 : decode cX11_mintPart 59 = .ok (.bipush 99, 2) := by decide +kernel
theorem dX11_mintPart_61 : decode cX11_mintPart 61 = .ok (.invokevirtual 306, 3) := by decide +kernel
theorem dX11_mintPart_64 : decode cX11_mintPart 64 = .ok (.iastore, 1) := by decide +kernel
theorem dX11_mintPart_65 : decode cX11_mintPart 65 = .ok (.aload_n 0, 1) := by decide +kernel
theorem dX11_mintPart_66 : decode cX11_mintPart 66 = .ok (.getfield 31, 3) := by decide +kernel
theorem dX11_mintPart_69 : decode cX11_mintPart 69 = .ok (.iload_n 1, 1) := by decide +kernel
theorem dX11_mintPart_70 : decode cX11_mintPart 70 = .ok (.dup2, 1) := by decide +kernel
theorem dX11_mintPart_71 : decode cX11_mintPart 71 = .ok (.iaload, 1) := by decide +kernel
theorem dX11_mintPart_72 : decode cX11_mintPart 72 = .ok (.iconst 1, 1) := by decide +kernel
theorem dX11_mintPart_73 : decode cX11_mintPart 73 = .ok (.iadd, 1) := by decide +kernel
theorem dX11_mintPart_74 : decode cX11_mintPart 74 = .ok (.iastore, 1) := by decide +kernel
theorem dX11_mintPart_75 : decode cX11_mintPart 75 = .ok (.goto 93, 3) := by decide +kernel
theorem dX11_mintPart_78 : decode cX11_mintPart 78 = .ok (.iload_n 1, 1) := by decide +kernel
theorem dX11_mintPart_79 : decode cX11_mintPart 79 = .ok (.iconst 1, 1) := by decide +kernel
theorem dX11_mintPart_80 : decode cX11_mintPart 80 = .ok (.if_icmp .ne 43, 3) := by decide +kernel
theorem dX11_mintPart_83 : decode cX11_mintPart 83 = .ok (.aload_n 0, 1) := by decide +kernel
theorem dX11_mintPart_84 : decode cX11_mintPart 84 = .ok (.getfield 46, 3) := by decide +kernel
theorem dX11_mintPart_87 : decode cX11_mintPart 87 = .ok (.iload_n 2, 1) := by decide +kernel
theorem dX11_mintPart_88 : decode cX11_mintPart 88 = .ok (.aload_n 0, 1) := by decide +kernel
theorem dX11_mintPart_89 : decode cX11_mintPart 89 = .ok (.iconst 0, 1) := by decide +kernel
theorem dX11_mintPart_90 : decode cX11_mintPart 90 = .ok (.sipush 1200, 3) := by decide +kernel
theorem dX11_mintPart_93 : decode cX11_mintPart 93 = .ok (.invokevirtual 306, 3) := by decide +kernel
theorem dX11_mintPart_96 : decode cX11_mintPart 96 = .ok (.iastore, 1) := by decide +kernel
theorem dX11_mintPart_97 : decode cX11_mintPart 97 = .ok (.aload_n 0, 1) := by decide +kernel
theorem dX11_mintPart_98 : decode cX11_mintPart 98 = .ok (.getfield 49, 3) := by decide +kernel
theorem dX11_mintPart_101 : decode cX11_mintPart 101 = .ok (.iload_n 2, 1) := by decide +kernel
theorem dX11_mintPart_102 : decode cX11_mintPart 102 = .ok (.aload_n 0, 1) := by decide +kernel
theorem dX11_mintPart_103 : decode cX11_mintPart 103 = .ok (.iconst 0, 1) := by decide +kernel
theorem dX11_mintPart_104 : decode cX11_mintPart 104 = .ok (.bipush 99, 2) := by decide +kernel
theorem dX11_mintPart_106 : decode cX11_mintPart 106 = .ok (.invokevirtual 306, 3) := by decide +kernel
theorem dX11_mintPart_109 : decode cX11_mintPart 109 = .ok (.iastore, 1) := by decide +kernel
theorem dX11_mintPart_110 : decode cX11_mintPart 110 = .ok (.aload_n 0, 1) := by decide +kernel
theorem dX11_mintPart_111 : decode cX11_mintPart 111 = .ok (.getfield 31, 3) := by decide +kernel
theorem dX11_mintPart_114 : decode cX11_mintPart 114 = .ok (.iload_n 1, 1) := by decide +kernel
theorem dX11_mintPart_115 : decode cX11_mintPart 115 = .ok (.dup2, 1) := by decide +kernel
theorem dX11_mintPart_116 : decode cX11_mintPart 116 = .ok (.iaload, 1) := by decide +kernel
theorem dX11_mintPart_117 : decode cX11_mintPart 117 = .ok (.iconst 1, 1) := by decide +kernel
theorem dX11_mintPart_118 : decode cX11_mintPart 118 = .ok (.iadd, 1) := by decide +kernel
theorem dX11_mintPart_119 : decode cX11_mintPart 119 = .ok (.iastore, 1) := by decide +kernel
theorem dX11_mintPart_120 : decode cX11_mintPart 120 = .ok (.goto 48, 3) := by decide +kernel
theorem dX11_mintPart_123 : decode cX11_mintPart 123 = .ok (.iload_n 1, 1) := by decide +kernel
theorem dX11_mintPart_124 : decode cX11_mintPart 124 = .ok (.iconst 2, 1) := by decide +kernel
theorem dX11_mintPart_125 : decode cX11_mintPart 125 = .ok (.if_icmp .ne 25, 3) := by decide +kernel
theorem dX11_mintPart_128 : decode cX11_mintPart 128 = .ok (.aload_n 0, 1) := by decide +kernel
theorem dX11_mintPart_129 : decode cX11_mintPart 129 = .ok (.getfield 31, 3) := by decide +kernel
theorem dX11_mintPart_132 : decode cX11_mintPart 132 = .ok (.iconst 2, 1) := by decide +kernel
theorem dX11_mintPart_133 : decode cX11_mintPart 133 = .ok (.aload_n 0, 1) := by decide +kernel
theorem dX11_mintPart_134 : decode cX11_mintPart 134 = .ok (.iconst 0, 1) := by decide +kernel
theorem dX11_mintPart_135 : decode cX11_mintPart 135 = .ok (.sipush 999, 3) := by decide +kernel
theorem dX11_mintPart_138 : decode cX11_mintPart 138 = .ok (.invokevirtual 306, 3) := by decide +kernel
theorem dX11_mintPart_141 : decode cX11_mintPart 141 = .ok (.iastore, 1) := by decide +kernel
theorem dX11_mintPart_142 : decode cX11_mintPart 142 = .ok (.aload_n 0, 1) := by decide +kernel
theorem dX11_mintPart_143 : decode cX11_mintPart 143 = .ok (.iconst 1, 1) := by decide +kernel
theorem dX11_mintPart_144 : decode cX11_mintPart 144 = .ok (.putfield 310, 3) := by decide +kernel
theorem dX11_mintPart_147 : decode cX11_mintPart 147 = .ok (.goto 21, 3) := by decide +kernel
theorem dX11_mintPart_150 : decode cX11_mintPart 150 = .ok (.aload_n 0, 1) := by decide +kernel
theorem dX11_mintPart_151 : decode cX11_mintPart 151 = .ok (.getfield 31, 3) := by decide +kernel
theorem dX11_mintPart_154 : decode cX11_mintPart 154 = .ok (.iconst 3, 1) := by decide +kernel
theorem dX11_mintPart_155 : decode cX11_mintPart 155 = .ok (.aload_n 0, 1) := by decide +kernel
theorem dX11_mintPart_156 : decode cX11_mintPart 156 = .ok (.iconst 0, 1) := by decide +kernel
theorem dX11_mintPart_157 : decode cX11_mintPart 157 = .ok (.bipush 99, 2) := by decide +kernel
theorem dX11_mintPart_159 : decode cX11_mintPart 159 = .ok (.invokevirtual 306, 3) := by decide +kernel
theorem dX11_mintPart_162 : decode cX11_mintPart 162 = .ok (.iastore, 1) := by decide +kernel
theorem dX11_mintPart_163 : decode cX11_mintPart 163 = .ok (.aload_n 0, 1) := by decide +kernel
theorem dX11_mintPart_164 : decode cX11_mintPart 164 = .ok (.iconst 1, 1) := by decide +kernel
theorem dX11_mintPart_165 : decode cX11_mintPart 165 = .ok (.putfield 314, 3) := by decide +kernel
theorem dX11_mintPart_168 : decode cX11_mintPart 168 = .ok (.return_, 1) := by decide +kernel
theorem dX11_isFull_0 : decode cX11_isFull 0 = .ok (.iload_n 2, 1) := by decide +kernel
theorem dX11_isFull_1 : decode cX11_isFull 1 = .ok (.bipush 24, 2) := by decide +kernel
theorem dX11_isFull_3 : decode cX11_isFull 3 = .ok (.if_icmp .ne 5, 3) := by decide +kernel
theorem dX11_isFull_6 : decode cX11_isFull 6 = .ok (.iconst 1, 1) := by decide +kernel
theorem dX11_isFull_7 : decode cX11_isFull 7 = .ok (.ireturn, 1) := by decide +kernel
theorem dX11_isFull_8 : decode cX11_isFull 8 = .ok (.iload_n 1, 1) := by decide +kernel
theorem dX11_isFull_9 : decode cX11_isFull 9 = .ok (.tableswitch 65 0 2 #[27, 44, 60], 27) := by decide +kernel
theorem dX11_isFull_36 : decode cX11_isFull 36 = .ok (.aload_n 0, 1) := by decide +kernel
theorem dX11_isFull_37 : decode cX11_isFull 37 = .ok (.getfield 31, 3) := by decide +kernel
theorem dX11_isFull_40 : decode cX11_isFull 40 = .ok (.iconst 0, 1) := by decide +kernel
theorem dX11_isFull_41 : decode cX11_isFull 41 = .ok (.iaload, 1) := by decide +kernel
theorem dX11_isFull_42 : decode cX11_isFull 42 = .ok (.bipush 12, 2) := by decide +kernel
theorem dX11_isFull_44 : decode cX11_isFull 44 = .ok (.if_icmp .ne 7, 3) := by decide +kernel
theorem dX11_isFull_47 : decode cX11_isFull 47 = .ok (.iconst 1, 1) := by decide +kernel
theorem dX11_isFull_48 : decode cX11_isFull 48 = .ok (.goto 4, 3) := by decide +kernel
theorem dX11_isFull_51 : decode cX11_isFull 51 = .ok (.iconst 0, 1) := by decide +kernel
theorem dX11_isFull_52 : decode cX11_isFull 52 = .ok (.ireturn, 1) := by decide +kernel
theorem dX11_isFull_53 : decode cX11_isFull 53 = .ok (.aload_n 0, 1) := by decide +kernel
theorem dX11_isFull_54 : decode cX11_isFull 54 = .ok (.getfield 31, 3) := by decide +kernel
theorem dX11_isFull_57 : decode cX11_isFull 57 = .ok (.iconst 1, 1) := by decide +kernel
theorem dX11_isFull_58 : decode cX11_isFull 58 = .ok (.iaload, 1) := by decide +kernel
theorem dX11_isFull_59 : decode cX11_isFull 59 = .ok (.iconst 4, 1) := by decide +kernel
theorem dX11_isFull_60 : decode cX11_isFull 60 = .ok (.if_icmp .ne 7, 3) := by decide +kernel
theorem dX11_isFull_63 : decode cX11_isFull 63 = .ok (.iconst 1, 1) := by decide +kernel
theorem dX11_isFull_64 : decode cX11_isFull 64 = .ok (.goto 4, 3) := by decide +kernel
theorem dX11_isFull_67 : decode cX11_isFull 67 = .ok (.iconst 0, 1) := by decide +kernel
theorem dX11_isFull_68 : decode cX11_isFull 68 = .ok (.ireturn, 1) := by decide +kernel
theorem dX11_isFull_69 : decode cX11_isFull 69 = .ok (.aload_n 0, 1) := by decide +kernel
theorem dX11_isFull_70 : decode cX11_isFull 70 = .ok (.getfield 310, 3) := by decide +kernel
theorem dX11_isFull_73 : decode cX11_isFull 73 = .ok (.ireturn, 1) := by decide +kernel
theorem dX11_isFull_74 : decode cX11_isFull 74 = .ok (.aload_n 0, 1) := by decide +kernel
theorem dX11_isFull_75 : decode cX11_isFull 75 = .ok (.getfield 314, 3) := by decide +kernel
theorem dX11_isFull_78 : decode cX11_isFull 78 = .ok (.ireturn, 1) := by decide +kernel
theorem dX11_mintClause_0 : decode cX11_mintClause 0 = .ok (.aload_n 0, 1) := by decide +kernel
theorem dX11_mintClause_1 : decode cX11_mintClause 1 = .ok (.invokevirtual 231, 3) := by decide +kernel
theorem dX11_mintClause_4 : decode cX11_mintClause 4 = .ok (.aload_n 0, 1) := by decide +kernel
theorem dX11_mintClause_5 : decode cX11_mintClause 5 = .ok (.getfield 211, 3) := by decide +kernel
theorem dX11_mintClause_8 : decode cX11_mintClause 8 = .ok (.istore_n 2, 1) := by decide +kernel
theorem dX11_mintClause_9 : decode cX11_mintClause 9 = .ok (.iconst 0, 1) := by decide +kernel
theorem dX11_mintClause_10 : decode cX11_mintClause 10 = .ok (.istore_n 3, 1) := by decide +kernel
theorem dX11_mintClause_11 : decode cX11_mintClause 11 = .ok (.iload_n 3, 1) := by decide +kernel
theorem dX11_mintClause_12 : decode cX11_mintClause 12 = .ok (.iconst 4, 1) := by decide +kernel
theorem dX11_mintClause_13 : decode cX11_mintClause 13 = .ok (.if_icmp .ge 20, 3) := by decide +kernel
theorem dX11_mintClause_16 : decode cX11_mintClause 16 = .ok (.aload_n 0, 1) := by decide +kernel
theorem dX11_mintClause_17 : decode cX11_mintClause 17 = .ok (.iload_n 3, 1) := by decide +kernel
theorem dX11_mintClause_18 : decode cX11_mintClause 18 = .ok (.invokestatic 317, 3) := by decide +kernel
theorem dX11_mintClause_21 : decode cX11_mintClause 21 = .ok (.invokevirtual 234, 3) := by decide +kernel
theorem dX11_mintClause_24 : decode cX11_mintClause 24 = .ok (.ifCond .ne 9, 3) := by decide +kernel
theorem dX11_mintClause_27 : decode cX11_mintClause 27 = .ok (.iinc 3 1, 3) := by decide +kernel
theorem dX11_mintClause_30 : decode cX11_mintClause 30 = .ok (.goto (-19), 3) := by decide +kernel
theorem dX11_mintClause_33 : decode cX11_mintClause 33 = .ok (.iload_n 3, 1) := by decide +kernel
theorem dX11_mintClause_34 : decode cX11_mintClause 34 = .ok (.iconst 4, 1) := by decide +kernel
theorem dX11_mintClause_35 : decode cX11_mintClause 35 = .ok (.if_icmp .ne 10, 3) := by decide +kernel
theorem dX11_mintClause_38 : decode cX11_mintClause 38 = .ok (.aload_n 0, 1) := by decide +kernel
theorem dX11_mintClause_39 : decode cX11_mintClause 39 = .ok (.iconst 0, 1) := by decide +kernel
theorem dX11_mintClause_40 : decode cX11_mintClause 40 = .ok (.iload_n 2, 1) := by decide +kernel
theorem dX11_mintClause_41 : decode cX11_mintClause 41 = .ok (.invokevirtual 247, 3) := by decide +kernel
theorem dX11_mintClause_44 : decode cX11_mintClause 44 = .ok (.return_, 1) := by decide +kernel
theorem dX11_mintClause_45 : decode cX11_mintClause 45 = .ok (.aload_n 0, 1) := by decide +kernel
theorem dX11_mintClause_46 : decode cX11_mintClause 46 = .ok (.iload_n 3, 1) := by decide +kernel
theorem dX11_mintClause_47 : decode cX11_mintClause 47 = .ok (.iload_n 1, 1) := by decide +kernel
theorem dX11_mintClause_48 : decode cX11_mintClause 48 = .ok (.invokevirtual 320, 3) := by decide +kernel
theorem dX11_mintClause_51 : decode cX11_mintClause 51 = .ok (.ifCond .eq 10, 3) := by decide +kernel
theorem dX11_mintClause_54 : decode cX11_mintClause 54 = .ok (.aload_n 0, 1) := by decide +kernel
theorem dX11_mintClause_55 : decode cX11_mintClause 55 = .ok (.iconst 4, 1) := by decide +kernel
theorem dX11_mintClause_56 : decode cX11_mintClause 56 = .ok (.iload_n 2, 1) := by decide +kernel
theorem dX11_mintClause_57 : decode cX11_mintClause 57 = .ok (.invokevirtual 247, 3) := by decide +kernel
theorem dX11_mintClause_60 : decode cX11_mintClause 60 = .ok (.return_, 1) := by decide +kernel
theorem dX11_mintClause_61 : decode cX11_mintClause 61 = .ok (.aload_n 0, 1) := by decide +kernel
theorem dX11_mintClause_62 : decode cX11_mintClause 62 = .ok (.dup, 1) := by decide +kernel
theorem dX11_mintClause_63 : decode cX11_mintClause 63 = .ok (.getfield 211, 3) := by decide +kernel
theorem dX11_mintClause_66 : decode cX11_mintClause 66 = .ok (.iload_n 3, 1) := by decide +kernel
theorem dX11_mintClause_67 : decode cX11_mintClause 67 = .ok (.invokestatic 317, 3) := by decide +kernel
theorem dX11_mintClause_70 : decode cX11_mintClause 70 = .ok (.invokevirtual 222, 3) := by decide +kernel
theorem dX11_mintClause_73 : decode cX11_mintClause 73 = .ok (.iadd, 1) := by decide +kernel
theorem dX11_mintClause_74 : decode cX11_mintClause 74 = .ok (.putfield 211, 3) := by decide +kernel
theorem dX11_mintClause_77 : decode cX11_mintClause 77 = .ok (.aload_n 0, 1) := by decide +kernel
theorem dX11_mintClause_78 : decode cX11_mintClause 78 = .ok (.iload_n 3, 1) := by decide +kernel
theorem dX11_mintClause_79 : decode cX11_mintClause 79 = .ok (.invokevirtual 323, 3) := by decide +kernel
theorem dX11_mintClause_82 : decode cX11_mintClause 82 = .ok (.return_, 1) := by decide +kernel
theorem dX11_lay_0 : decode cX11_lay 0 = .ok (.iconst 0, 1) := by decide +kernel
theorem dX11_lay_1 : decode cX11_lay 1 = .ok (.istore_n 2, 1) := by decide +kernel
theorem dX11_lay_2 : decode cX11_lay 2 = .ok (.iload_n 2, 1) := by decide +kernel
theorem dX11_lay_3 : decode cX11_lay 3 = .ok (.aload_n 0, 1) := by decide +kernel
theorem dX11_lay_4 : decode cX11_lay 4 = .ok (.arraylength, 1) := by decide +kernel
theorem dX11_lay_5 : decode cX11_lay 5 = .ok (.if_icmp .ge 15, 3) := by decide +kernel
theorem dX11_lay_8 : decode cX11_lay 8 = .ok (.aload_n 1, 1) := by decide +kernel
theorem dX11_lay_9 : decode cX11_lay 9 = .ok (.iload_n 2, 1) := by decide +kernel
theorem dX11_lay_10 : decode cX11_lay 10 = .ok (.aload_n 0, 1) := by decide +kernel
theorem dX11_lay_11 : decode cX11_lay 11 = .ok (.iload_n 2, 1) := by decide +kernel
theorem dX11_lay_12 : decode cX11_lay 12 = .ok (.iaload, 1) := by decide +kernel
theorem dX11_lay_13 : decode cX11_lay 13 = .ok (.iastore, 1) := by decide +kernel
theorem dX11_lay_14 : decode cX11_lay 14 = .ok (.iinc 2 1, 3) := by decide +kernel
theorem dX11_lay_17 : decode cX11_lay 17 = .ok (.goto (-15), 3) := by decide +kernel
theorem dX11_lay_20 : decode cX11_lay 20 = .ok (.return_, 1) := by decide +kernel
theorem dX11_goesOn_0 : decode cX11_goesOn 0 = .ok (.aload_n 0, 1) := by decide +kernel
theorem dX11_goesOn_1 : decode cX11_goesOn 1 = .ok (.invokevirtual 231, 3) := by decide +kernel
theorem dX11_goesOn_4 : decode cX11_goesOn 4 = .ok (.aload_n 0, 1) := by decide +kernel
theorem dX11_goesOn_5 : decode cX11_goesOn 5 = .ok (.getfield 208, 3) := by decide +kernel
theorem dX11_goesOn_8 : decode cX11_goesOn 8 = .ok (.ifCond .ne 32, 3) := by decide +kernel
theorem dX11_goesOn_11 : decode cX11_goesOn 11 = .ok (.aload_n 0, 1) := by decide +kernel
theorem dX11_goesOn_12 : decode cX11_goesOn 12 = .ok (.getfield 211, 3) := by decide +kernel
theorem dX11_goesOn_15 : decode cX11_goesOn 15 = .ok (.aload_n 0, 1) := by decide +kernel
theorem dX11_goesOn_16 : decode cX11_goesOn 16 = .ok (.getfield 181, 3) := by decide +kernel
theorem dX11_goesOn_19 : decode cX11_goesOn 19 = .ok (.if_icmp .ge 21, 3) := by decide +kernel
theorem dX11_goesOn_22 : decode cX11_goesOn 22 = .ok (.aload_n 0, 1) := by decide +kernel
theorem dX11_goesOn_23 : decode cX11_goesOn 23 = .ok (.invokevirtual 214, 3) := by decide +kernel
theorem dX11_goesOn_26 : decode cX11_goesOn 26 = .ok (.bipush 59, 2) := by decide +kernel
theorem dX11_goesOn_28 : decode cX11_goesOn 28 = .ok (.if_icmp .eq 12, 3) := by decide +kernel
theorem dX11_goesOn_31 : decode cX11_goesOn 31 = .ok (.aload_n 0, 1) := by decide +kernel
theorem dX11_goesOn_32 : decode cX11_goesOn 32 = .ok (.iconst 0, 1) := by decide +kernel
theorem dX11_goesOn_33 : decode cX11_goesOn 33 = .ok (.aload_n 0, 1) := by decide +kernel
theorem dX11_goesOn_34 : decode cX11_goesOn 34 = .ok (.getfield 211, 3) := by decide +kernel
theorem dX11_goesOn_37 : decode cX11_goesOn 37 = .ok (.invokevirtual 247, 3) := by decide +kernel
theorem dX11_goesOn_40 : decode cX11_goesOn 40 = .ok (.aload_n 0, 1) := by decide +kernel
theorem dX11_goesOn_41 : decode cX11_goesOn 41 = .ok (.getfield 208, 3) := by decide +kernel
theorem dX11_goesOn_44 : decode cX11_goesOn 44 = .ok (.ifCond .ne 18, 3) := by decide +kernel
theorem dX11_goesOn_47 : decode cX11_goesOn 47 = .ok (.aload_n 0, 1) := by decide +kernel
theorem dX11_goesOn_48 : decode cX11_goesOn 48 = .ok (.getfield 211, 3) := by decide +kernel
theorem dX11_goesOn_51 : decode cX11_goesOn 51 = .ok (.aload_n 0, 1) := by decide +kernel
theorem dX11_goesOn_52 : decode cX11_goesOn 52 = .ok (.getfield 181, 3) := by decide +kernel
theorem dX11_goesOn_55 : decode cX11_goesOn 55 = .ok (.if_icmp .ge 7, 3) := by decide +kernel
theorem dX11_goesOn_58 : decode cX11_goesOn 58 = .ok (.iconst 1, 1) := by decide +kernel
theorem dX11_goesOn_59 : decode cX11_goesOn 59 = .ok (.goto 4, 3) := by decide +kernel
theorem dX11_goesOn_62 : decode cX11_goesOn 62 = .ok (.iconst 0, 1) := by decide +kernel
theorem dX11_goesOn_63 : decode cX11_goesOn 63 = .ok (.istore_n 1, 1) := by decide +kernel
theorem dX11_goesOn_64 : decode cX11_goesOn 64 = .ok (.aload_n 0, 1) := by decide +kernel
theorem dX11_goesOn_65 : decode cX11_goesOn 65 = .ok (.dup, 1) := by decide +kernel
theorem dX11_goesOn_66 : decode cX11_goesOn 66 = .ok (.getfield 211, 3) := by decide +kernel
theorem dX11_goesOn_69 : decode cX11_goesOn 69 = .ok (.iconst 1, 1) := by decide +kernel
theorem dX11_goesOn_70 : decode cX11_goesOn 70 = .ok (.iadd, 1) := by decide +kernel
theorem dX11_goesOn_71 : decode cX11_goesOn 71 = .ok (.putfield 211, 3) := by decide +kernel
theorem dX11_goesOn_74 : decode cX11_goesOn 74 = .ok (.iload_n 1, 1) := by decide +kernel
theorem dX11_goesOn_75 : decode cX11_goesOn 75 = .ok (.ireturn, 1) := by decide +kernel
theorem dX11_starts_0 : decode cX11_starts 0 = .ok (.aload_n 0, 1) := by decide +kernel
theorem dX11_starts_1 : decode cX11_starts 1 = .ok (.iconst 0, 1) := by decide +kernel
theorem dX11_starts_2 : decode cX11_starts 2 = .ok (.putfield 211, 3) := by decide +kernel
theorem dX11_starts_5 : decode cX11_starts 5 = .ok (.aload_n 0, 1) := by decide +kernel
theorem dX11_starts_6 : decode cX11_starts 6 = .ok (.iconst 0, 1) := by decide +kernel
theorem dX11_starts_7 : decode cX11_starts 7 = .ok (.putfield 208, 3) := by decide +kernel
theorem dX11_starts_10 : decode cX11_starts 10 = .ok (.aload_n 0, 1) := by decide +kernel
theorem dX11_starts_11 : decode cX11_starts 11 = .ok (.iconst 0, 1) := by decide +kernel
theorem dX11_starts_12 : decode cX11_starts 12 = .ok (.putfield 241, 3) := by decide +kernel
theorem dX11_starts_15 : decode cX11_starts 15 = .ok (.aload_n 0, 1) := by decide +kernel
theorem dX11_starts_16 : decode cX11_starts 16 = .ok (.iconst 0, 1) := by decide +kernel
theorem dX11_starts_17 : decode cX11_starts 17 = .ok (.putfield 282, 3) := by decide +kernel
theorem dX11_starts_20 : decode cX11_starts 20 = .ok (.aload_n 0, 1) := by decide +kernel
theorem dX11_starts_21 : decode cX11_starts 21 = .ok (.iconst 0, 1) := by decide +kernel
theorem dX11_starts_22 : decode cX11_starts 22 = .ok (.putfield 244, 3) := by decide +kernel
theorem dX11_starts_25 : decode cX11_starts 25 = .ok (.return_, 1) := by decide +kernel
theorem dX11_mint_0 : decode cX11_mint 0 = .ok (.aload_n 0, 1) := by decide +kernel
theorem dX11_mint_1 : decode cX11_mint 1 = .ok (.invokevirtual 326, 3) := by decide +kernel
theorem dX11_mint_4 : decode cX11_mint 4 = .ok (.aload_n 0, 1) := by decide +kernel
theorem dX11_mint_5 : decode cX11_mint 5 = .ok (.iconst 0, 1) := by decide +kernel
theorem dX11_mint_6 : decode cX11_mint 6 = .ok (.putfield 310, 3) := by decide +kernel
theorem dX11_mint_9 : decode cX11_mint 9 = .ok (.aload_n 0, 1) := by decide +kernel
theorem dX11_mint_10 : decode cX11_mint 10 = .ok (.iconst 0, 1) := by decide +kernel
theorem dX11_mint_11 : decode cX11_mint 11 = .ok (.putfield 314, 3) := by decide +kernel
theorem dX11_mint_14 : decode cX11_mint 14 = .ok (.iconst 0, 1) := by decide +kernel
theorem dX11_mint_15 : decode cX11_mint 15 = .ok (.istore_n 1, 1) := by decide +kernel
theorem dX11_mint_16 : decode cX11_mint 16 = .ok (.iload_n 1, 1) := by decide +kernel
theorem dX11_mint_17 : decode cX11_mint 17 = .ok (.iconst 4, 1) := by decide +kernel
theorem dX11_mint_18 : decode cX11_mint 18 = .ok (.if_icmp .ge 16, 3) := by decide +kernel
theorem dX11_mint_21 : decode cX11_mint 21 = .ok (.aload_n 0, 1) := by decide +kernel
theorem dX11_mint_22 : decode cX11_mint 22 = .ok (.getfield 31, 3) := by decide +kernel
theorem dX11_mint_25 : decode cX11_mint 25 = .ok (.iload_n 1, 1) := by decide +kernel
theorem dX11_mint_26 : decode cX11_mint 26 = .ok (.iconst 0, 1) := by decide +kernel
theorem dX11_mint_27 : decode cX11_mint 27 = .ok (.iastore, 1) := by decide +kernel
theorem dX11_mint_28 : decode cX11_mint 28 = .ok (.iinc 1 1, 3) := by decide +kernel
theorem dX11_mint_31 : decode cX11_mint 31 = .ok (.goto (-15), 3) := by decide +kernel
theorem dX11_mint_34 : decode cX11_mint 34 = .ok (.iconst 0, 1) := by decide +kernel
theorem dX11_mint_35 : decode cX11_mint 35 = .ok (.istore_n 1, 1) := by decide +kernel
theorem dX11_mint_36 : decode cX11_mint 36 = .ok (.iconst 1, 1) := by decide +kernel
theorem dX11_mint_37 : decode cX11_mint 37 = .ok (.istore_n 2, 1) := by decide +kernel
theorem dX11_mint_38 : decode cX11_mint 38 = .ok (.iload_n 2, 1) := by decide +kernel
theorem dX11_mint_39 : decode cX11_mint 39 = .ok (.ifCond .eq 19, 3) := by decide +kernel
theorem dX11_mint_42 : decode cX11_mint 42 = .ok (.aload_n 0, 1) := by decide +kernel
theorem dX11_mint_43 : decode cX11_mint 43 = .ok (.iload_n 1, 1) := by decide +kernel
theorem dX11_mint_44 : decode cX11_mint 44 = .ok (.invokevirtual 329, 3) := by decide +kernel
theorem dX11_mint_47 : decode cX11_mint 47 = .ok (.iinc 1 1, 3) := by decide +kernel
theorem dX11_mint_50 : decode cX11_mint 50 = .ok (.aload_n 0, 1) := by decide +kernel
theorem dX11_mint_51 : decode cX11_mint 51 = .ok (.invokevirtual 332, 3) := by decide +kernel
theorem dX11_mint_54 : decode cX11_mint 54 = .ok (.istore_n 2, 1) := by decide +kernel
theorem dX11_mint_55 : decode cX11_mint 55 = .ok (.goto (-17), 3) := by decide +kernel
theorem dX11_mint_58 : decode cX11_mint 58 = .ok (.aload_n 0, 1) := by decide +kernel
theorem dX11_mint_59 : decode cX11_mint 59 = .ok (.getfield 208, 3) := by decide +kernel
theorem dX11_mint_62 : decode cX11_mint 62 = .ok (.ifCond .ne 21, 3) := by decide +kernel
theorem dX11_mint_65 : decode cX11_mint 65 = .ok (.aload_n 0, 1) := by decide +kernel
theorem dX11_mint_66 : decode cX11_mint 66 = .ok (.getfield 31, 3) := by decide +kernel
theorem dX11_mint_69 : decode cX11_mint 69 = .ok (.iconst 1, 1) := by decide +kernel
theorem dX11_mint_70 : decode cX11_mint 70 = .ok (.iaload, 1) := by decide +kernel
theorem dX11_mint_71 : decode cX11_mint 71 = .ok (.ifCond .ne 12, 3) := by decide +kernel
theorem dX11_mint_74 : decode cX11_mint 74 = .ok (.aload_n 0, 1) := by decide +kernel
theorem dX11_mint_75 : decode cX11_mint 75 = .ok (.iconst 0, 1) := by decide +kernel
theorem dX11_mint_76 : decode cX11_mint 76 = .ok (.aload_n 0, 1) := by decide +kernel
theorem dX11_mint_77 : decode cX11_mint 77 = .ok (.getfield 181, 3) := by decide +kernel
theorem dX11_mint_80 : decode cX11_mint 80 = .ok (.invokevirtual 247, 3) := by decide +kernel
theorem dX11_mint_83 : decode cX11_mint 83 = .ok (.aload_n 0, 1) := by decide +kernel
theorem dX11_mint_84 : decode cX11_mint 84 = .ok (.iconst 0, 1) := by decide +kernel
theorem dX11_mint_85 : decode cX11_mint 85 = .ok (.putfield 181, 3) := by decide +kernel
theorem dX11_mint_88 : decode cX11_mint 88 = .ok (.aload_n 0, 1) := by decide +kernel
theorem dX11_mint_89 : decode cX11_mint 89 = .ok (.getfield 208, 3) := by decide +kernel
theorem dX11_mint_92 : decode cX11_mint 92 = .ok (.ifCond .le 11, 3) := by decide +kernel
theorem dX11_mint_95 : decode cX11_mint 95 = .ok (.bipush (-2), 2) := by decide +kernel
theorem dX11_mint_97 : decode cX11_mint 97 = .ok (.aload_n 0, 1) := by decide +kernel
theorem dX11_mint_98 : decode cX11_mint 98 = .ok (.getfield 208, 3) := by decide +kernel
theorem dX11_mint_101 : decode cX11_mint 101 = .ok (.isub, 1) := by decide +kernel
theorem dX11_mint_102 : decode cX11_mint 102 = .ok (.ireturn, 1) := by decide +kernel
