theorem dX8_payOf_99 : decode cX8_payOf 99 = .ok (.if_icmp .ge 5, 3) := by decide +kernel
theorem dX8_payOf_102 : decode cX8_payOf 102 = .ok (.iconst (-1), 1) := by decide +kernel
theorem dX8_payOf_103 : decode cX8_payOf 103 = .ok (.ireturn, 1) := by decide +kernel
theorem dX8_payOf_104 : decode cX8_payOf 104 = .ok (.aload_n 0, 1) := by decide +kernel
theorem dX8_payOf_105 : decode cX8_payOf 105 = .ok (.getfield 120, 3) := by decide +kernel
theorem dX8_payOf_108 : decode cX8_payOf 108 = .ok (.iload 4, 2) := by decide +kernel
theorem dX8_payOf_110 : decode cX8_payOf 110 = .ok (.dup2, 1) := by decide +kernel
theorem dX8_payOf_111 : decode cX8_payOf 111 = .ok (.iaload, 1) := by decide +kernel
theorem dX8_payOf_112 : decode cX8_payOf 112 = .ok (.aload_n 0, 1) := by decide +kernel
theorem dX8_payOf_113 : decode cX8_payOf 113 = .ok (.getfield 53, 3) := by decide +kernel
theorem dX8_payOf_116 : decode cX8_payOf 116 = .ok (.iload 5, 2) := by decide +kernel
theorem dX8_payOf_118 : decode cX8_payOf 118 = .ok (.iaload, 1) := by decide +kernel
theorem dX8_payOf_119 : decode cX8_payOf 119 = .ok (.isub, 1) := by decide +kernel
theorem dX8_payOf_120 : decode cX8_payOf 120 = .ok (.iastore, 1) := by decide +kernel
theorem dX8_payOf_121 : decode cX8_payOf 121 = .ok (.iload_n 2, 1) := by decide +kernel
theorem dX8_payOf_122 : decode cX8_payOf 122 = .ok (.aload_n 0, 1) := by decide +kernel
theorem dX8_payOf_123 : decode cX8_payOf 123 = .ok (.getfield 53, 3) := by decide +kernel
theorem dX8_payOf_126 : decode cX8_payOf 126 = .ok (.iload 5, 2) := by decide +kernel
theorem dX8_payOf_128 : decode cX8_payOf 128 = .ok (.iaload, 1) := by decide +kernel
theorem dX8_payOf_129 : decode cX8_payOf 129 = .ok (.aload_n 0, 1) := by decide +kernel
theorem dX8_payOf_130 : decode cX8_payOf 130 = .ok (.getfield 96, 3) := by decide +kernel
theorem dX8_payOf_133 : decode cX8_payOf 133 = .ok (.iload 4, 2) := by decide +kernel
theorem dX8_payOf_135 : decode cX8_payOf 135 = .ok (.iaload, 1) := by decide +kernel
theorem dX8_payOf_136 : decode cX8_payOf 136 = .ok (.imul, 1) := by decide +kernel
theorem dX8_payOf_137 : decode cX8_payOf 137 = .ok (.iadd, 1) := by decide +kernel
theorem dX8_payOf_138 : decode cX8_payOf 138 = .ok (.istore_n 2, 1) := by decide +kernel
theorem dX8_payOf_139 : decode cX8_payOf 139 = .ok (.iinc 3 1, 3) := by decide +kernel
theorem dX8_payOf_142 : decode cX8_payOf 142 = .ok (.goto (-110), 3) := by decide +kernel
theorem dX8_payOf_145 : decode cX8_payOf 145 = .ok (.iload_n 2, 1) := by decide +kernel
theorem dX8_payOf_146 : decode cX8_payOf 146 = .ok (.ireturn, 1) := by decide +kernel
theorem dX8_findSale_0 : decode cX8_findSale 0 = .ok (.aload_n 0, 1) := by decide +kernel
theorem dX8_findSale_1 : decode cX8_findSale 1 = .ok (.iconst 0, 1) := by decide +kernel
theorem dX8_findSale_2 : decode cX8_findSale 2 = .ok (.putfield 195, 3) := by decide +kernel
theorem dX8_findSale_5 : decode cX8_findSale 5 = .ok (.iconst 1, 1) := by decide +kernel
theorem dX8_findSale_6 : decode cX8_findSale 6 = .ok (.istore_n 1, 1) := by decide +kernel
theorem dX8_findSale_7 : decode cX8_findSale 7 = .ok (.iconst 0, 1) := by decide +kernel
theorem dX8_findSale_8 : decode cX8_findSale 8 = .ok (.istore_n 2, 1) := by decide +kernel
theorem dX8_findSale_9 : decode cX8_findSale 9 = .ok (.iload_n 2, 1) := by decide +kernel
theorem dX8_findSale_10 : decode cX8_findSale 10 = .ok (.aload_n 0, 1) := by decide +kernel
theorem dX8_findSale_11 : decode cX8_findSale 11 = .ok (.getfield 189, 3) := by decide +kernel
theorem dX8_findSale_14 : decode cX8_findSale 14 = .ok (.if_icmp .ge 57, 3) := by decide +kernel
theorem dX8_findSale_17 : decode cX8_findSale 17 = .ok (.aload_n 0, 1) := by decide +kernel
theorem dX8_findSale_18 : decode cX8_findSale 18 = .ok (.getfield 195, 3) := by decide +kernel
theorem dX8_findSale_21 : decode cX8_findSale 21 = .ok (.bipush 8, 2) := by decide +kernel
theorem dX8_findSale_23 : decode cX8_findSale 23 = .ok (.if_icmp .ge 48, 3) := by decide +kernel
theorem dX8_findSale_26 : decode cX8_findSale 26 = .ok (.aload_n 0, 1) := by decide +kernel
theorem dX8_findSale_27 : decode cX8_findSale 27 = .ok (.getfield 68, 3) := by decide +kernel
theorem dX8_findSale_30 : decode cX8_findSale 30 = .ok (.iload_n 2, 1) := by decide +kernel
theorem dX8_findSale_31 : decode cX8_findSale 31 = .ok (.iaload, 1) := by decide +kernel
theorem dX8_findSale_32 : decode cX8_findSale 32 = .ok (.iconst (-1), 1) := by decide +kernel
theorem dX8_findSale_33 : decode cX8_findSale 33 = .ok (.if_icmp .ne 32, 3) := by decide +kernel
theorem dX8_findSale_36 : decode cX8_findSale 36 = .ok (.aload_n 0, 1) := by decide +kernel
theorem dX8_findSale_37 : decode cX8_findSale 37 = .ok (.getfield 117, 3) := by decide +kernel
theorem dX8_findSale_40 : decode cX8_findSale 40 = .ok (.aload_n 0, 1) := by decide +kernel
theorem dX8_findSale_41 : decode cX8_findSale 41 = .ok (.getfield 195, 3) := by decide +kernel
theorem dX8_findSale_44 : decode cX8_findSale 44 = .ok (.iload_n 2, 1) := by decide +kernel
theorem dX8_findSale_45 : decode cX8_findSale 45 = .ok (.iastore, 1) := by decide +kernel
theorem dX8_findSale_46 : decode cX8_findSale 46 = .ok (.aload_n 0, 1) := by decide +kernel
theorem dX8_findSale_47 : decode cX8_findSale 47 = .ok (.dup, 1) := by decide +kernel
theorem dX8_findSale_48 : decode cX8_findSale 48 = .ok (.getfield 195, 3) := by decide +kernel
theorem dX8_findSale_51 : decode cX8_findSale 51 = .ok (.iconst 1, 1) := by decide +kernel
theorem dX8_findSale_52 : decode cX8_findSale 52 = .ok (.iadd, 1) := by decide +kernel
theorem dX8_findSale_53 : decode cX8_findSale 53 = .ok (.putfield 195, 3) := by decide +kernel
theorem dX8_findSale_56 : decode cX8_findSale 56 = .ok (.iload_n 1, 1) := by decide +kernel
theorem dX8_findSale_57 : decode cX8_findSale 57 = .ok (.aload_n 0, 1) := by decide +kernel
theorem dX8_findSale_58 : decode cX8_findSale 58 = .ok (.getfield 192, 3) := by decide +kernel
theorem dX8_findSale_61 : decode cX8_findSale 61 = .ok (.iconst 1, 1) := by decide +kernel
theorem dX8_findSale_62 : decode cX8_findSale 62 = .ok (.iadd, 1) := by decide +kernel
theorem dX8_findSale_63 : decode cX8_findSale 63 = .ok (.imul, 1) := by decide +kernel
theorem dX8_findSale_64 : decode cX8_findSale 64 = .ok (.istore_n 1, 1) := by decide +kernel
theorem dX8_findSale_65 : decode cX8_findSale 65 = .ok (.iinc 2 1, 3) := by decide +kernel
theorem dX8_findSale_68 : decode cX8_findSale 68 = .ok (.goto (-59), 3) := by decide +kernel
theorem dX8_findSale_71 : decode cX8_findSale 71 = .ok (.iconst (-1), 1) := by decide +kernel
theorem dX8_findSale_72 : decode cX8_findSale 72 = .ok (.istore_n 2, 1) := by decide +kernel
theorem dX8_findSale_73 : decode cX8_findSale 73 = .ok (.iconst 0, 1) := by decide +kernel
theorem dX8_findSale_74 : decode cX8_findSale 74 = .ok (.istore_n 3, 1) := by decide +kernel
theorem dX8_findSale_75 : decode cX8_findSale 75 = .ok (.iload_n 3, 1) := by decide +kernel
theorem dX8_findSale_76 : decode cX8_findSale 76 = .ok (.iload_n 1, 1) := by decide +kernel
theorem dX8_findSale_77 : decode cX8_findSale 77 = .ok (.if_icmp .ge 30, 3) := by decide +kernel
theorem dX8_findSale_80 : decode cX8_findSale 80 = .ok (.aload_n 0, 1) := by decide +kernel
theorem dX8_findSale_81 : decode cX8_findSale 81 = .ok (.iload_n 3, 1) := by decide +kernel
theorem dX8_findSale_82 : decode cX8_findSale 82 = .ok (.invokevirtual 202, 3) := by decide +kernel
theorem dX8_findSale_85 : decode cX8_findSale 85 = .ok (.istore 4, 2) := by decide +kernel
theorem dX8_findSale_87 : decode cX8_findSale 87 = .ok (.iload 4, 2) := by decide +kernel
theorem dX8_findSale_89 : decode cX8_findSale 89 = .ok (.iload_n 2, 1) := by decide +kernel
theorem dX8_findSale_90 : decode cX8_findSale 90 = .ok (.if_icmp .le 11, 3) := by decide +kernel
theorem dX8_findSale_93 : decode cX8_findSale 93 = .ok (.iload 4, 2) := by decide +kernel
theorem dX8_findSale_95 : decode cX8_findSale 95 = .ok (.istore_n 2, 1) := by decide +kernel
theorem dX8_findSale_96 : decode cX8_findSale 96 = .ok (.aload_n 0, 1) := by decide +kernel
theorem dX8_findSale_97 : decode cX8_findSale 97 = .ok (.iload_n 3, 1) := by decide +kernel
theorem dX8_findSale_98 : decode cX8_findSale 98 = .ok (.putfield 206, 3) := by decide +kernel
theorem dX8_findSale_101 : decode cX8_findSale 101 = .ok (.iinc 3 1, 3) := by decide +kernel
theorem dX8_findSale_104 : decode cX8_findSale 104 = .ok (.goto (-29), 3) := by decide +kernel
theorem dX8_findSale_107 : decode cX8_findSale 107 = .ok (.iload_n 2, 1) := by decide +kernel
theorem dX8_findSale_108 : decode cX8_findSale 108 = .ok (.ireturn, 1) := by decide +kernel
theorem dX8_sale_0 : decode cX8_sale 0 = .ok (.aload_n 0, 1) := by decide +kernel
theorem dX8_sale_1 : decode cX8_sale 1 = .ok (.invokevirtual 209, 3) := by decide +kernel
theorem dX8_sale_4 : decode cX8_sale 4 = .ok (.ireturn, 1) := by decide +kernel
theorem dX8_sell_0 : decode cX8_sell 0 = .ok (.aload_n 0, 1) := by decide +kernel
theorem dX8_sell_1 : decode cX8_sell 1 = .ok (.invokevirtual 209, 3) := by decide +kernel
theorem dX8_sell_4 : decode cX8_sell 4 = .ok (.istore_n 1, 1) := by decide +kernel
theorem dX8_sell_5 : decode cX8_sell 5 = .ok (.iconst 0, 1) := by decide +kernel
theorem dX8_sell_6 : decode cX8_sell 6 = .ok (.istore_n 2, 1) := by decide +kernel
theorem dX8_sell_7 : decode cX8_sell 7 = .ok (.iconst 0, 1) := by decide +kernel
theorem dX8_sell_8 : decode cX8_sell 8 = .ok (.istore_n 3, 1) := by decide +kernel
theorem dX8_sell_9 : decode cX8_sell 9 = .ok (.iload_n 3, 1) := by decide +kernel
theorem dX8_sell_10 : decode cX8_sell 10 = .ok (.aload_n 0, 1) := by decide +kernel
theorem dX8_sell_11 : decode cX8_sell 11 = .ok (.getfield 195, 3) := by decide +kernel
theorem dX8_sell_14 : decode cX8_sell 14 = .ok (.if_icmp .ge 66, 3) := by decide +kernel
theorem dX8_sell_17 : decode cX8_sell 17 = .ok (.aload_n 0, 1) := by decide +kernel
theorem dX8_sell_18 : decode cX8_sell 18 = .ok (.aload_n 0, 1) := by decide +kernel
theorem dX8_sell_19 : decode cX8_sell 19 = .ok (.getfield 206, 3) := by decide +kernel
theorem dX8_sell_22 : decode cX8_sell 22 = .ok (.iload_n 3, 1) := by decide +kernel
theorem dX8_sell_23 : decode cX8_sell 23 = .ok (.invokevirtual 198, 3) := by decide +kernel
theorem dX8_sell_26 : decode cX8_sell 26 = .ok (.istore 4, 2) := by decide +kernel
theorem dX8_sell_28 : decode cX8_sell 28 = .ok (.iload 4, 2) := by decide +kernel
theorem dX8_sell_30 : decode cX8_sell 30 = .ok (.aload_n 0, 1) := by decide +kernel
theorem dX8_sell_31 : decode cX8_sell 31 = .ok (.getfield 192, 3) := by decide +kernel
theorem dX8_sell_34 : decode cX8_sell 34 = .ok (.if_icmp .ge 40, 3) := by decide +kernel
theorem dX8_sell_37 : decode cX8_sell 37 = .ok (.aload_n 0, 1) := by decide +kernel
theorem dX8_sell_38 : decode cX8_sell 38 = .ok (.getfield 68, 3) := by decide +kernel
theorem dX8_sell_41 : decode cX8_sell 41 = .ok (.aload_n 0, 1) := by decide +kernel
theorem dX8_sell_42 : decode cX8_sell 42 = .ok (.getfield 117, 3) := by decide +kernel
theorem dX8_sell_45 : decode cX8_sell 45 = .ok (.iload_n 3, 1) := by decide +kernel
theorem dX8_sell_46 : decode cX8_sell 46 = .ok (.iaload, 1) := by decide +kernel
theorem dX8_sell_47 : decode cX8_sell 47 = .ok (.iload 4, 2) := by decide +kernel
theorem dX8_sell_49 : decode cX8_sell 49 = .ok (.iastore, 1) := by decide +kernel
theorem dX8_sell_50 : decode cX8_sell 50 = .ok (.aload_n 0, 1) := by decide +kernel
theorem dX8_sell_51 : decode cX8_sell 51 = .ok (.getfield 93, 3) := by decide +kernel
theorem dX8_sell_54 : decode cX8_sell 54 = .ok (.iload 4, 2) := by decide +kernel
theorem dX8_sell_56 : decode cX8_sell 56 = .ok (.dup2, 1) := by decide +kernel
theorem dX8_sell_57 : decode cX8_sell 57 = .ok (.iaload, 1) := by decide +kernel
theorem dX8_sell_58 : decode cX8_sell 58 = .ok (.aload_n 0, 1) := by decide +kernel
theorem dX8_sell_59 : decode cX8_sell 59 = .ok (.getfield 53, 3) := by decide +kernel
theorem dX8_sell_62 : decode cX8_sell 62 = .ok (.aload_n 0, 1) := by decide +kernel
theorem dX8_sell_63 : decode cX8_sell 63 = .ok (.getfield 117, 3) := by decide +kernel
theorem dX8_sell_66 : decode cX8_sell 66 = .ok (.iload_n 3, 1) := by decide +kernel
theorem dX8_sell_67 : decode cX8_sell 67 = .ok (.iaload, 1) := by decide +kernel
theorem dX8_sell_68 : decode cX8_sell 68 = .ok (.iaload, 1) := by decide +kernel
theorem dX8_sell_69 : decode cX8_sell 69 = .ok (.isub, 1) := by decide +kernel
theorem dX8_sell_70 : decode cX8_sell 70 = .ok (.iastore, 1) := by decide +kernel
theorem dX8_sell_71 : decode cX8_sell 71 = .ok (.iinc 2 1, 3) := by decide +kernel
theorem dX8_sell_74 : decode cX8_sell 74 = .ok (.iinc 3 1, 3) := by decide +kernel
theorem dX8_sell_77 : decode cX8_sell 77 = .ok (.goto (-68), 3) := by decide +kernel
theorem dX8_sell_80 : decode cX8_sell 80 = .ok (.aload_n 0, 1) := by decide +kernel
theorem dX8_sell_81 : decode cX8_sell 81 = .ok (.dup, 1) := by decide +kernel
theorem dX8_sell_82 : decode cX8_sell 82 = .ok (.getfield 212, 3) := by decide +kernel
theorem dX8_sell_85 : decode cX8_sell 85 = .ok (.iload_n 1, 1) := by decide +kernel
theorem dX8_sell_86 : decode cX8_sell 86 = .ok (.iadd, 1) := by decide +kernel
theorem dX8_sell_87 : decode cX8_sell 87 = .ok (.putfield 212, 3) := by decide +kernel
theorem dX8_sell_90 : decode cX8_sell 90 = .ok (.iload_n 2, 1) := by decide +kernel
theorem dX8_sell_91 : decode cX8_sell 91 = .ok (.ireturn, 1) := by decide +kernel
theorem dX8_month_0 : decode cX8_month 0 = .ok (.iload_n 1, 1) := by decide +kernel
theorem dX8_month_1 : decode cX8_month 1 = .ok (.iconst 0, 1) := by decide +kernel
theorem dX8_month_2 : decode cX8_month 2 = .ok (.bipush 11, 2) := by decide +kernel
theorem dX8_month_4 : decode cX8_month 4 = .ok (.invokestatic 123, 3) := by decide +kernel
theorem dX8_month_7 : decode cX8_month 7 = .ok (.ifCond .eq 23, 3) := by decide +kernel
theorem dX8_month_10 : decode cX8_month 10 = .ok (.iload_n 2, 1) := by decide +kernel
theorem dX8_month_11 : decode cX8_month 11 = .ok (.iconst 0, 1) := by decide +kernel
theorem dX8_month_12 : decode cX8_month 12 = .ok (.iconst 4, 1) := by decide +kernel
theorem dX8_month_13 : decode cX8_month 13 = .ok (.invokestatic 123, 3) := by decide +kernel
theorem dX8_month_16 : decode cX8_month 16 = .ok (.ifCond .eq 14, 3) := by decide +kernel
theorem dX8_month_19 : decode cX8_month 19 = .ok (.iload_n 3, 1) := by decide +kernel
theorem dX8_month_20 : decode cX8_month 20 = .ok (.iconst 0, 1) := by decide +kernel
theorem dX8_month_21 : decode cX8_month 21 = .ok (.sipush 1000, 3) := by decide +kernel
theorem dX8_month_24 : decode cX8_month 24 = .ok (.invokestatic 123, 3) := by decide +kernel
theorem dX8_month_27 : decode cX8_month 27 = .ok (.ifCond .ne 6, 3) := by decide +kernel
theorem dX8_month_30 : decode cX8_month 30 = .ok (.bipush (-2), 2) := by decide +kernel
theorem dX8_month_32 : decode cX8_month 32 = .ok (.ireturn, 1) := by decide +kernel
theorem dX8_month_33 : decode cX8_month 33 = .ok (.aload_n 0, 1) := by decide +kernel
theorem dX8_month_34 : decode cX8_month 34 = .ok (.getfield 99, 3) := by decide +kernel
theorem dX8_month_37 : decode cX8_month 37 = .ok (.iload_n 1, 1) := by decide +kernel
theorem dX8_month_38 : decode cX8_month 38 = .ok (.iload_n 2, 1) := by decide +kernel
theorem dX8_month_39 : decode cX8_month 39 = .ok (.iastore, 1) := by decide +kernel
theorem dX8_month_40 : decode cX8_month 40 = .ok (.aload_n 0, 1) := by decide +kernel
theorem dX8_month_41 : decode cX8_month 41 = .ok (.getfield 102, 3) := by decide +kernel
theorem dX8_month_44 : decode cX8_month 44 = .ok (.iload_n 1, 1) := by decide +kernel
theorem dX8_month_45 : decode cX8_month 45 = .ok (.iload_n 3, 1) := by decide +kernel
theorem dX8_month_46 : decode cX8_month 46 = .ok (.iastore, 1) := by decide +kernel
theorem dX8_month_47 : decode cX8_month 47 = .ok (.iconst 1, 1) := by decide +kernel
theorem dX8_month_48 : decode cX8_month 48 = .ok (.ireturn, 1) := by decide +kernel
theorem dX8_pace_0 : decode cX8_pace 0 = .ok (.iload_n 1, 1) := by decide +kernel
theorem dX8_pace_1 : decode cX8_pace 1 = .ok (.iconst 0, 1) := by decide +kernel
theorem dX8_pace_2 : decode cX8_pace 2 = .ok (.iconst 4, 1) := by decide +kernel
theorem dX8_pace_3 : decode cX8_pace 3 = .ok (.invokestatic 123, 3) := by decide +kernel
theorem dX8_pace_6 : decode cX8_pace 6 = .ok (.ifCond .eq 37, 3) := by decide +kernel
theorem dX8_pace_9 : decode cX8_pace 9 = .ok (.iload_n 2, 1) := by decide +kernel
theorem dX8_pace_10 : decode cX8_pace 10 = .ok (.iconst 0, 1) := by decide +kernel
theorem dX8_pace_11 : decode cX8_pace 11 = .ok (.sipush 1000, 3) := by decide +kernel
theorem dX8_pace_14 : decode cX8_pace 14 = .ok (.invokestatic 123, 3) := by decide +kernel
theorem dX8_pace_17 : decode cX8_pace 17 = .ok (.ifCond .eq 26, 3) := by decide +kernel
theorem dX8_pace_20 : decode cX8_pace 20 = .ok (.iload_n 3, 1) := by decide +kernel
theorem dX8_pace_21 : decode cX8_pace 21 = .ok (.iconst 0, 1) := by decide +kernel
theorem dX8_pace_22 : decode cX8_pace 22 = .ok (.sipush 1000, 3) := by decide +kernel
theorem dX8_pace_25 : decode cX8_pace 25 = .ok (.invokestatic 123, 3) := by decide +kernel
theorem dX8_pace_28 : decode cX8_pace 28 = .ok (.ifCond .eq 15, 3) := by decide +kernel
theorem dX8_pace_31 : decode cX8_pace 31 = .ok (.iload 4, 2) := by decide +kernel
theorem dX8_pace_33 : decode cX8_pace 33 = .ok (.iconst 0, 1) := by decide +kernel
theorem dX8_pace_34 : decode cX8_pace 34 = .ok (.sipush 1000, 3) := by decide +kernel
theorem dX8_pace_37 : decode cX8_pace 37 = .ok (.invokestatic 123, 3) := by decide +kernel
theorem dX8_pace_40 : decode cX8_pace 40 = .ok (.ifCond .ne 6, 3) := by decide +kernel
theorem dX8_pace_43 : decode cX8_pace 43 = .ok (.bipush (-2), 2) := by decide +kernel
theorem dX8_pace_45 : decode cX8_pace 45 = .ok (.ireturn, 1) := by decide +kernel
theorem dX8_pace_46 : decode cX8_pace 46 = .ok (.aload_n 0, 1) := by decide +kernel
theorem dX8_pace_47 : decode cX8_pace 47 = .ok (.getfield 105, 3) := by decide +kernel
theorem dX8_pace_50 : decode cX8_pace 50 = .ok (.iload_n 1, 1) := by decide +kernel
theorem dX8_pace_51 : decode cX8_pace 51 = .ok (.iload_n 2, 1) := by decide +kernel
theorem dX8_pace_52 : decode cX8_pace 52 = .ok (.iastore, 1) := by decide +kernel
theorem dX8_pace_53 : decode cX8_pace 53 = .ok (.aload_n 0, 1) := by decide +kernel
theorem dX8_pace_54 : decode cX8_pace 54 = .ok (.getfield 108, 3) := by decide +kernel
theorem dX8_pace_57 : decode cX8_pace 57 = .ok (.iload_n 1, 1) := by decide +kernel
theorem dX8_pace_58 : decode cX8_pace 58 = .ok (.iload_n 3, 1) := by decide +kernel
theorem dX8_pace_59 : decode cX8_pace 59 = .ok (.iastore, 1) := by decide +kernel
theorem dX8_pace_60 : decode cX8_pace 60 = .ok (.aload_n 0, 1) := by decide +kernel
theorem dX8_pace_61 : decode cX8_pace 61 = .ok (.getfield 111, 3) := by decide +kernel
theorem dX8_pace_64 : decode cX8_pace 64 = .ok (.iload_n 1, 1) := by decide +kernel
theorem dX8_pace_65 : decode cX8_pace 65 = .ok (.iload 4, 2) := by decide +kernel
theorem dX8_pace_67 : decode cX8_pace 67 = .ok (.iastore, 1) := by decide +kernel
theorem dX8_pace_68 : decode cX8_pace 68 = .ok (.iconst 1, 1) := by decide +kernel
theorem dX8_pace_69 : decode cX8_pace 69 = .ok (.ireturn, 1) := by decide +kernel
theorem dX8_ironOf_0 : decode cX8_ironOf 0 = .ok (.iload_n 2, 1) := by decide +kernel
theorem dX8_ironOf_1 : decode cX8_ironOf 1 = .ok (.istore 7, 2) := by decide +kernel
theorem dX8_ironOf_3 : decode cX8_ironOf 3 = .ok (.iconst 0, 1) := by decide +kernel
theorem dX8_ironOf_4 : decode cX8_ironOf 4 = .ok (.istore 8, 2) := by decide +kernel
theorem dX8_ironOf_6 : decode cX8_ironOf 6 = .ok (.iload 6, 2) := by decide +kernel
theorem dX8_ironOf_8 : decode cX8_ironOf 8 = .ok (.istore 9, 2) := by decide +kernel
theorem dX8_ironOf_10 : decode cX8_ironOf 10 = .ok (.iconst 0, 1) := by decide +kernel
theorem dX8_ironOf_11 : decode cX8_ironOf 11 = .ok (.istore 10, 2) := by decide +kernel
theorem dX8_ironOf_13 : decode cX8_ironOf 13 = .ok (.iconst 0, 1) := by decide +kernel
theorem dX8_ironOf_14 : decode cX8_ironOf 14 = .ok (.istore 11, 2) := by decide +kernel
theorem dX8_ironOf_16 : decode cX8_ironOf 16 = .ok (.iload 11, 2) := by decide +kernel
theorem dX8_ironOf_18 : decode cX8_ironOf 18 = .ok (.iload 4, 2) := by decide +kernel
theorem dX8_ironOf_20 : decode cX8_ironOf 20 = .ok (.if_icmp .ge 113, 3) := by decide +kernel
theorem dX8_ironOf_23 : decode cX8_ironOf 23 = .ok (.iload 7, 2) := by decide +kernel
theorem dX8_ironOf_25 : decode cX8_ironOf 25 = .ok (.iconst 5, 1) := by decide +kernel
theorem dX8_ironOf_26 : decode cX8_ironOf 26 = .ok (.idiv, 1) := by decide +kernel
theorem dX8_ironOf_27 : decode cX8_ironOf 27 = .ok (.istore 7, 2) := by decide +kernel
theorem dX8_ironOf_29 : decode cX8_ironOf 29 = .ok (.iload_n 1, 1) := by decide +kernel
theorem dX8_ironOf_30 : decode cX8_ironOf 30 = .ok (.iload 7, 2) := by decide +kernel
theorem dX8_ironOf_32 : decode cX8_ironOf 32 = .ok (.idiv, 1) := by decide +kernel
theorem dX8_ironOf_33 : decode cX8_ironOf 33 = .ok (.iconst 5, 1) := by decide +kernel
theorem dX8_ironOf_34 : decode cX8_ironOf 34 = .ok (.irem, 1) := by decide +kernel
theorem dX8_ironOf_35 : decode cX8_ironOf 35 = .ok (.istore 12, 2) := by decide +kernel
theorem dX8_ironOf_37 : decode cX8_ironOf 37 = .ok (.iload_n 3, 1) := by decide +kernel
theorem dX8_ironOf_38 : decode cX8_ironOf 38 = .ok (.iload 11, 2) := by decide +kernel
theorem dX8_ironOf_40 : decode cX8_ironOf 40 = .ok (.iadd, 1) := by decide +kernel
theorem dX8_ironOf_41 : decode cX8_ironOf 41 = .ok (.bipush 12, 2) := by decide +kernel
theorem dX8_ironOf_43 : decode cX8_ironOf 43 = .ok (.irem, 1) := by decide +kernel
theorem dX8_ironOf_44 : decode cX8_ironOf 44 = .ok (.istore 13, 2) := by decide +kernel
theorem dX8_ironOf_46 : decode cX8_ironOf 46 = .ok (.iload 9, 2) := by decide +kernel
theorem dX8_ironOf_48 : decode cX8_ironOf 48 = .ok (.aload_n 0, 1) := by decide +kernel
theorem dX8_ironOf_49 : decode cX8_ironOf 49 = .ok (.getfield 102, 3) := by decide +kernel
theorem dX8_ironOf_52 : decode cX8_ironOf 52 = .ok (.iload 13, 2) := by decide +kernel
theorem dX8_ironOf_54 : decode cX8_ironOf 54 = .ok (.iaload, 1) := by decide +kernel
theorem dX8_ironOf_55 : decode cX8_ironOf 55 = .ok (.iadd, 1) := by decide +kernel
theorem dX8_ironOf_56 : decode cX8_ironOf 56 = .ok (.istore 9, 2) := by decide +kernel
theorem dX8_ironOf_58 : decode cX8_ironOf 58 = .ok (.iload 8, 2) := by decide +kernel
theorem dX8_ironOf_60 : decode cX8_ironOf 60 = .ok (.aload_n 0, 1) := by decide +kernel
theorem dX8_ironOf_61 : decode cX8_ironOf 61 = .ok (.getfield 108, 3) := by decide +kernel
theorem dX8_ironOf_64 : decode cX8_ironOf 64 = .ok (.iload 12, 2) := by decide +kernel
theorem dX8_ironOf_66 : decode cX8_ironOf 66 = .ok (.iaload, 1) := by decide +kernel
theorem dX8_ironOf_67 : decode cX8_ironOf 67 = .ok (.iadd, 1) := by decide +kernel
theorem dX8_ironOf_68 : decode cX8_ironOf 68 = .ok (.istore 8, 2) := by decide +kernel
theorem dX8_ironOf_70 : decode cX8_ironOf 70 = .ok (.iload 12, 2) := by decide +kernel
theorem dX8_ironOf_72 : decode cX8_ironOf 72 = .ok (.aload_n 0, 1) := by decide +kernel
theorem dX8_ironOf_73 : decode cX8_ironOf 73 = .ok (.getfield 99, 3) := by decide +kernel
theorem dX8_ironOf_76 : decode cX8_ironOf 76 = .ok (.iload 13, 2) := by decide +kernel
theorem dX8_ironOf_78 : decode cX8_ironOf 78 = .ok (.iaload, 1) := by decide +kernel
theorem dX8_ironOf_79 : decode cX8_ironOf 79 = .ok (.if_icmp .gt 22, 3) := by decide +kernel
theorem dX8_ironOf_82 : decode cX8_ironOf 82 = .ok (.iload 9, 2) := by decide +kernel
theorem dX8_ironOf_84 : decode cX8_ironOf 84 = .ok (.aload_n 0, 1) := by decide +kernel
theorem dX8_ironOf_85 : decode cX8_ironOf 85 = .ok (.getfield 111, 3) := by decide +kernel
theorem dX8_ironOf_88 : decode cX8_ironOf 88 = .ok (.iload 12, 2) := by decide +kernel
theorem dX8_ironOf_90 : decode cX8_ironOf 90 = .ok (.iaload, 1) := by decide +kernel
theorem dX8_ironOf_91 : decode cX8_ironOf 91 = .ok (.if_icmp .lt 10, 3) := by decide +kernel
theorem dX8_ironOf_94 : decode cX8_ironOf 94 = .ok (.iload 8, 2) := by decide +kernel
theorem dX8_ironOf_96 : decode cX8_ironOf 96 = .ok (.iload 5, 2) := by decide +kernel
theorem dX8_ironOf_98 : decode cX8_ironOf 98 = .ok (.if_icmp .le 5, 3) := by decide +kernel
theorem dX8_ironOf_101 : decode cX8_ironOf 101 = .ok (.iconst (-1), 1) := by decide +kernel
theorem dX8_ironOf_102 : decode cX8_ironOf 102 = .ok (.ireturn, 1) := by decide +kernel
theorem dX8_ironOf_103 : decode cX8_ironOf 103 = .ok (.iload 9, 2) := by decide +kernel
theorem dX8_ironOf_105 : decode cX8_ironOf 105 = .ok (.aload_n 0, 1) := by decide +kernel
theorem dX8_ironOf_106 : decode cX8_ironOf 106 = .ok (.getfield 111, 3) := by decide +kernel
theorem dX8_ironOf_109 : decode cX8_ironOf 109 = .ok (.iload 12, 2) := by decide +kernel
theorem dX8_ironOf_111 : decode cX8_ironOf 111 = .ok (.iaload, 1) := by decide +kernel
theorem dX8_ironOf_112 : decode cX8_ironOf 112 = .ok (.isub, 1) := by decide +kernel
theorem dX8_ironOf_113 : decode cX8_ironOf 113 = .ok (.istore 9, 2) := by decide +kernel
theorem dX8_ironOf_115 : decode cX8_ironOf 115 = .ok (.iload 10, 2) := by decide +kernel
theorem dX8_ironOf_117 : decode cX8_ironOf 117 = .ok (.aload_n 0, 1) := by decide +kernel
theorem dX8_ironOf_118 : decode cX8_ironOf 118 = .ok (.getfield 105, 3) := by decide +kernel
theorem dX8_ironOf_121 : decode cX8_ironOf 121 = .ok (.iload 12, 2) := by decide +kernel
theorem dX8_ironOf_123 : decode cX8_ironOf 123 = .ok (.iaload, 1) := by decide +kernel
theorem dX8_ironOf_124 : decode cX8_ironOf 124 = .ok (.iadd, 1) := by decide +kernel
theorem dX8_ironOf_125 : decode cX8_ironOf 125 = .ok (.istore 10, 2) := by decide +kernel
theorem dX8_ironOf_127 : decode cX8_ironOf 127 = .ok (.iinc 11 1, 3) := by decide +kernel
theorem dX8_ironOf_130 : decode cX8_ironOf 130 = .ok (.goto (-114), 3) := by decide +kernel
theorem dX8_ironOf_133 : decode cX8_ironOf 133 = .ok (.iload 10, 2) := by decide +kernel
theorem dX8_ironOf_135 : decode cX8_ironOf 135 = .ok (.ireturn, 1) := by decide +kernel
theorem dX8_plan_0 : decode cX8_plan 0 = .ok (.iload_n 1, 1) := by decide +kernel
theorem dX8_plan_1 : decode cX8_plan 1 = .ok (.iconst 0, 1) := by decide +kernel
theorem dX8_plan_2 : decode cX8_plan 2 = .ok (.bipush 11, 2) := by decide +kernel
theorem dX8_plan_4 : decode cX8_plan 4 = .ok (.invokestatic 123, 3) := by decide +kernel
theorem dX8_plan_7 : decode cX8_plan 7 = .ok (.ifCond .eq 36, 3) := by decide +kernel
theorem dX8_plan_10 : decode cX8_plan 10 = .ok (.iload_n 2, 1) := by decide +kernel
theorem dX8_plan_11 : decode cX8_plan 11 = .ok (.iconst 1, 1) := by decide +kernel
theorem dX8_plan_12 : decode cX8_plan 12 = .ok (.bipush 6, 2) := by decide +kernel
theorem dX8_plan_14 : decode cX8_plan 14 = .ok (.invokestatic 123, 3) := by decide +kernel
theorem dX8_plan_17 : decode cX8_plan 17 = .ok (.ifCond .eq 26, 3) := by decide +kernel
theorem dX8_plan_20 : decode cX8_plan 20 = .ok (.iload_n 3, 1) := by decide +kernel
theorem dX8_plan_21 : decode cX8_plan 21 = .ok (.iconst 0, 1) := by decide +kernel
theorem dX8_plan_22 : decode cX8_plan 22 = .ok (.sipush 10000, 3) := by decide +kernel
theorem dX8_plan_25 : decode cX8_plan 25 = .ok (.invokestatic 123, 3) := by decide +kernel
theorem dX8_plan_28 : decode cX8_plan 28 = .ok (.ifCond .eq 15, 3) := by decide +kernel
theorem dX8_plan_31 : decode cX8_plan 31 = .ok (.iload 4, 2) := by decide +kernel
theorem dX8_plan_33 : decode cX8_plan 33 = .ok (.iconst 0, 1) := by decide +kernel
theorem dX8_plan_34 : decode cX8_plan 34 = .ok (.sipush 10000, 3) := by decide +kernel
theorem dX8_plan_37 : decode cX8_plan 37 = .ok (.invokestatic 123, 3) := by decide +kernel
theorem dX8_plan_40 : decode cX8_plan 40 = .ok (.ifCond .ne 6, 3) := by decide +kernel
theorem dX8_plan_43 : decode cX8_plan 43 = .ok (.bipush (-2), 2) := by decide +kernel
theorem dX8_plan_45 : decode cX8_plan 45 = .ok (.ireturn, 1) := by decide +kernel
theorem dX8_plan_46 : decode cX8_plan 46 = .ok (.iconst 1, 1) := by decide +kernel
theorem dX8_plan_47 : decode cX8_plan 47 = .ok (.istore 5, 2) := by decide +kernel
theorem dX8_plan_49 : decode cX8_plan 49 = .ok (.iconst 0, 1) := by decide +kernel
theorem dX8_plan_50 : decode cX8_plan 50 = .ok (.istore 6, 2) := by decide +kernel
theorem dX8_plan_52 : decode cX8_plan 52 = .ok (.iload 6, 2) := by decide +kernel
theorem dX8_plan_54 : decode cX8_plan 54 = .ok (.iload_n 2, 1) := by decide +kernel
theorem dX8_plan_55 : decode cX8_plan 55 = .ok (.if_icmp .ge 15, 3) := by decide +kernel
theorem dX8_plan_58 : decode cX8_plan 58 = .ok (.iconst 5, 1) := by decide +kernel
theorem dX8_plan_59 : decode cX8_plan 59 = .ok (.iload 5, 2) := by decide +kernel
theorem dX8_plan_61 : decode cX8_plan 61 = .ok (.imul, 1) := by decide +kernel
theorem dX8_plan_62 : decode cX8_plan 62 = .ok (.istore 5, 2) := by decide +kernel
theorem dX8_plan_64 : decode cX8_plan 64 = .ok (.iinc 6 1, 3) := by decide +kernel
theorem dX8_plan_67 : decode cX8_plan 67 = .ok (.goto (-15), 3) := by decide +kernel
theorem dX8_plan_70 : decode cX8_plan 70 = .ok (.iconst (-1), 1) := by decide +kernel
theorem dX8_plan_71 : decode cX8_plan 71 = .ok (.istore 6, 2) := by decide +kernel
theorem dX8_plan_73 : decode cX8_plan 73 = .ok (.iconst 0, 1) := by decide +kernel
theorem dX8_plan_74 : decode cX8_plan 74 = .ok (.istore 7, 2) := by decide +kernel
theorem dX8_plan_76 : decode cX8_plan 76 = .ok (.iconst 0, 1) := by decide +kernel
theorem dX8_plan_77 : decode cX8_plan 77 = .ok (.istore 8, 2) := by decide +kernel
theorem dX8_plan_79 : decode cX8_plan 79 = .ok (.iload 8, 2) := by decide +kernel
theorem dX8_plan_81 : decode cX8_plan 81 = .ok (.iload 5, 2) := by decide +kernel
theorem dX8_plan_83 : decode cX8_plan 83 = .ok (.if_icmp .ge 39, 3) := by decide +kernel
theorem dX8_plan_86 : decode cX8_plan 86 = .ok (.aload_n 0, 1) := by decide +kernel
theorem dX8_plan_87 : decode cX8_plan 87 = .ok (.iload 8, 2) := by decide +kernel
theorem dX8_plan_89 : decode cX8_plan 89 = .ok (.iload 5, 2) := by decide +kernel
theorem dX8_plan_91 : decode cX8_plan 91 = .ok (.iload_n 1, 1) := by decide +kernel
theorem dX8_plan_92 : decode cX8_plan 92 = .ok (.iload_n 2, 1) := by decide +kernel
theorem dX8_plan_93 : decode cX8_plan 93 = .ok (.iload_n 3, 1) := by decide +kernel
theorem dX8_plan_94 : decode cX8_plan 94 = .ok (.iload 4, 2) := by decide +kernel
theorem dX8_plan_96 : decode cX8_plan 96 = .ok (.invokevirtual 215, 3) := by decide +kernel
theorem dX8_plan_99 : decode cX8_plan 99 = .ok (.istore 9, 2) := by decide +kernel
theorem dX8_plan_101 : decode cX8_plan 101 = .ok (.iload 9, 2) := by decide +kernel
theorem dX8_plan_103 : decode cX8_plan 103 = .ok (.iload 6, 2) := by decide +kernel
theorem dX8_plan_105 : decode cX8_plan 105 = .ok (.if_icmp .le 11, 3) := by decide +kernel
theorem dX8_plan_108 : decode cX8_plan 108 = .ok (.iload 9, 2) := by decide +kernel
theorem dX8_plan_110 : decode cX8_plan 110 = .ok (.istore 6, 2) := by decide +kernel
theorem dX8_plan_112 : decode cX8_plan 112 = .ok (.iload 8, 2) := by decide +kernel
theorem dX8_plan_114 : decode cX8_plan 114 = .ok (.istore 7, 2) := by decide +kernel
theorem dX8_plan_116 : decode cX8_plan 116 = .ok (.iinc 8 1, 3) := by decide +kernel
theorem dX8_plan_119 : decode cX8_plan 119 = .ok (.goto (-40), 3) := by decide +kernel
theorem dX8_plan_122 : decode cX8_plan 122 = .ok (.iload 6, 2) := by decide +kernel
theorem dX8_plan_124 : decode cX8_plan 124 = .ok (.iconst (-1), 1) := by decide +kernel
theorem dX8_plan_125 : decode cX8_plan 125 = .ok (.if_icmp .eq 41, 3) := by decide +kernel
theorem dX8_plan_128 : decode cX8_plan 128 = .ok (.aload_n 0, 1) := by decide +kernel
theorem dX8_plan_129 : decode cX8_plan 129 = .ok (.iload_n 2, 1) := by decide +kernel
theorem dX8_plan_130 : decode cX8_plan 130 = .ok (.putfield 219, 3) := by decide +kernel
theorem dX8_plan_133 : decode cX8_plan 133 = .ok (.iload_n 2, 1) := by decide +kernel
theorem dX8_plan_134 : decode cX8_plan 134 = .ok (.iconst 1, 1) := by decide +kernel
theorem dX8_plan_135 : decode cX8_plan 135 = .ok (.isub, 1) := by decide +kernel
theorem dX8_plan_136 : decode cX8_plan 136 = .ok (.istore 8, 2) := by decide +kernel
theorem dX8_plan_138 : decode cX8_plan 138 = .ok (.iload 8, 2) := by decide +kernel
theorem dX8_plan_140 : decode cX8_plan 140 = .ok (.ifCond .lt 26, 3) := by decide +kernel
theorem dX8_plan_143 : decode cX8_plan 143 = .ok (.aload_n 0, 1) := by decide +kernel
theorem dX8_plan_144 : decode cX8_plan 144 = .ok (.getfield 114, 3) := by decide +kernel
theorem dX8_plan_147 : decode cX8_plan 147 = .ok (.iload 8, 2) := by decide +kernel
theorem dX8_plan_149 : decode cX8_plan 149 = .ok (.iload 7, 2) := by decide +kernel
theorem dX8_plan_151 : decode cX8_plan 151 = .ok (.iconst 5, 1) := by decide +kernel
theorem dX8_plan_152 : decode cX8_plan 152 = .ok (.irem, 1) := by decide +kernel
theorem dX8_plan_153 : decode cX8_plan 153 = .ok (.iastore, 1) := by decide +kernel
theorem dX8_plan_154 : decode cX8_plan 154 = .ok (.iload 7, 2) := by decide +kernel
theorem dX8_plan_156 : decode cX8_plan 156 = .ok (.iconst 5, 1) := by decide +kernel
theorem dX8_plan_157 : decode cX8_plan 157 = .ok (.idiv, 1) := by decide +kernel
theorem dX8_plan_158 : decode cX8_plan 158 = .ok (.istore 7, 2) := by decide +kernel
theorem dX8_plan_160 : decode cX8_plan 160 = .ok (.iinc 8 (-1), 3) := by decide +kernel
theorem dX8_plan_163 : decode cX8_plan 163 = .ok (.goto (-25), 3) := by decide +kernel
theorem dX8_plan_166 : decode cX8_plan 166 = .ok (.iload 6, 2) := by decide +kernel
theorem dX8_plan_168 : decode cX8_plan 168 = .ok (.ireturn, 1) := by decide +kernel
theorem dX8_paceAt_0 : decode cX8_paceAt 0 = .ok (.iload_n 1, 1) := by decide +kernel
theorem dX8_paceAt_1 : decode cX8_paceAt 1 = .ok (.iconst 0, 1) := by decide +kernel
theorem dX8_paceAt_2 : decode cX8_paceAt 2 = .ok (.aload_n 0, 1) := by decide +kernel
theorem dX8_paceAt_3 : decode cX8_paceAt 3 = .ok (.getfield 219, 3) := by decide +kernel
theorem dX8_paceAt_6 : decode cX8_paceAt 6 = .ok (.iconst 1, 1) := by decide +kernel
theorem dX8_paceAt_7 : decode cX8_paceAt 7 = .ok (.isub, 1) := by decide +kernel
theorem dX8_paceAt_8 : decode cX8_paceAt 8 = .ok (.invokestatic 123, 3) := by decide +kernel
theorem dX8_paceAt_11 : decode cX8_paceAt 11 = .ok (.ifCond .eq 12, 3) := by decide +kernel
theorem dX8_paceAt_14 : decode cX8_paceAt 14 = .ok (.aload_n 0, 1) := by decide +kernel
theorem dX8_paceAt_15 : decode cX8_paceAt 15 = .ok (.getfield 114, 3) := by decide +kernel
theorem dX8_paceAt_18 : decode cX8_paceAt 18 = .ok (.iload_n 1, 1) := by decide +kernel
theorem dX8_paceAt_19 : decode cX8_paceAt 19 = .ok (.iaload, 1) := by decide +kernel
theorem dX8_paceAt_20 : decode cX8_paceAt 20 = .ok (.goto 4, 3) := by decide +kernel
theorem dX8_paceAt_23 : decode cX8_paceAt 23 = .ok (.iconst (-1), 1) := by decide +kernel
theorem dX8_paceAt_24 : decode cX8_paceAt 24 = .ok (.ireturn, 1) := by decide +kernel
theorem dX8_count_0 : decode cX8_count 0 = .ok (.iconst 0, 1) := by decide +kernel
theorem dX8_count_1 : decode cX8_count 1 = .ok (.istore_n 2, 1) := by decide +kernel
theorem dX8_count_2 : decode cX8_count 2 = .ok (.iload_n 1, 1) := by decide +kernel
theorem dX8_count_3 : decode cX8_count 3 = .ok (.tableswitch 98 0 5 #[37, 42, 47, 52, 57, 93], 37) := by decide +kernel
theorem dX8_count_40 : decode cX8_count 40 = .ok (.aload_n 0, 1) := by decide +kernel
theorem dX8_count_41 : decode cX8_count 41 = .ok (.getfield 127, 3) := by decide +kernel
theorem dX8_count_44 : decode cX8_count 44 = .ok (.ireturn, 1) := by decide +kernel
theorem dX8_count_45 : decode cX8_count 45 = .ok (.aload_n 0, 1) := by decide +kernel
theorem dX8_count_46 : decode cX8_count 46 = .ok (.getfield 189, 3) := by decide +kernel
theorem dX8_count_49 : decode cX8_count 49 = .ok (.ireturn, 1) := by decide +kernel
theorem dX8_count_50 : decode cX8_count 50 = .ok (.aload_n 0, 1) := by decide +kernel
theorem dX8_count_51 : decode cX8_count 51 = .ok (.getfield 156, 3) := by decide +kernel
theorem dX8_count_54 : decode cX8_count 54 = .ok (.ireturn, 1) := by decide +kernel
theorem dX8_count_55 : decode cX8_count 55 = .ok (.aload_n 0, 1) := by decide +kernel
theorem dX8_count_56 : decode cX8_count 56 = .ok (.getfield 192, 3) := by decide +kernel
theorem dX8_count_59 : decode cX8_count 59 = .ok (.ireturn, 1) := by decide +kernel
theorem dX8_count_60 : decode cX8_count 60 = .ok (.iconst 0, 1) := by decide +kernel
theorem dX8_count_61 : decode cX8_count 61 = .ok (.istore_n 3, 1) := by decide +kernel
theorem dX8_count_62 : decode cX8_count 62 = .ok (.iload_n 3, 1) := by decide +kernel
theorem dX8_count_63 : decode cX8_count 63 = .ok (.aload_n 0, 1) := by decide +kernel
theorem dX8_count_64 : decode cX8_count 64 = .ok (.getfield 189, 3) := by decide +kernel
theorem dX8_count_67 : decode cX8_count 67 = .ok (.if_icmp .ge 27, 3) := by decide +kernel
theorem dX8_count_70 : decode cX8_count 70 = .ok (.iload_n 2, 1) := by decide +kernel
theorem dX8_count_71 : decode cX8_count 71 = .ok (.aload_n 0, 1) := by decide +kernel
theorem dX8_count_72 : decode cX8_count 72 = .ok (.getfield 68, 3) := by decide +kernel
theorem dX8_count_75 : decode cX8_count 75 = .ok (.iload_n 3, 1) := by decide +kernel
theorem dX8_count_76 : decode cX8_count 76 = .ok (.iaload, 1) := by decide +kernel
theorem dX8_count_77 : decode cX8_count 77 = .ok (.iconst (-1), 1) := by decide +kernel
theorem dX8_count_78 : decode cX8_count 78 = .ok (.if_icmp .ne 7, 3) := by decide +kernel
theorem dX8_count_81 : decode cX8_count 81 = .ok (.iconst 0, 1) := by decide +kernel
theorem dX8_count_82 : decode cX8_count 82 = .ok (.goto 4, 3) := by decide +kernel
theorem dX8_count_85 : decode cX8_count 85 = .ok (.iconst 1, 1) := by decide +kernel
theorem dX8_count_86 : decode cX8_count 86 = .ok (.iadd, 1) := by decide +kernel
theorem dX8_count_87 : decode cX8_count 87 = .ok (.istore_n 2, 1) := by decide +kernel
theorem dX8_count_88 : decode cX8_count 88 = .ok (.iinc 3 1, 3) := by decide +kernel
theorem dX8_count_91 : decode cX8_count 91 = .ok (.goto (-29), 3) := by decide +kernel
theorem dX8_count_94 : decode cX8_count 94 = .ok (.iload_n 2, 1) := by decide +kernel
theorem dX8_count_95 : decode cX8_count 95 = .ok (.ireturn, 1) := by decide +kernel
theorem dX8_count_96 : decode cX8_count 96 = .ok (.aload_n 0, 1) := by decide +kernel
theorem dX8_count_97 : decode cX8_count 97 = .ok (.getfield 212, 3) := by decide +kernel
theorem dX8_count_100 : decode cX8_count 100 = .ok (.ireturn, 1) := by decide +kernel
theorem dX8_count_101 : decode cX8_count 101 = .ok (.bipush (-2), 2) := by decide +kernel
theorem dX8_count_103 : decode cX8_count 103 = .ok (.ireturn, 1) := by decide +kernel
theorem dX8_digest_0 : decode cX8_digest 0 = .ok (.ldc2_w 222, 3) := by decide +kernel
theorem dX8_digest_3 : decode cX8_digest 3 = .ok (.lstore_n 1, 1) := by decide +kernel
theorem dX8_digest_4 : decode cX8_digest 4 = .ok (.iconst 0, 1) := by decide +kernel
theorem dX8_digest_5 : decode cX8_digest 5 = .ok (.istore_n 3, 1) := by decide +kernel
theorem dX8_digest_6 : decode cX8_digest 6 = .ok (.iload_n 3, 1) := by decide +kernel
theorem dX8_digest_7 : decode cX8_digest 7 = .ok (.bipush 6, 2) := by decide +kernel
theorem dX8_digest_9 : decode cX8_digest 9 = .ok (.if_icmp .ge 22, 3) := by decide +kernel
theorem dX8_digest_12 : decode cX8_digest 12 = .ok (.ldc2_w 224, 3) := by decide +kernel
theorem dX8_digest_15 : decode cX8_digest 15 = .ok (.lload_n 1, 1) := by decide +kernel
theorem dX8_digest_16 : decode cX8_digest 16 = .ok (.lmul, 1) := by decide +kernel
theorem dX8_digest_17 : decode cX8_digest 17 = .ok (.aload_n 0, 1) := by decide +kernel
theorem dX8_digest_18 : decode cX8_digest 18 = .ok (.iload_n 3, 1) := by decide +kernel
theorem dX8_digest_19 : decode cX8_digest 19 = .ok (.invokevirtual 226, 3) := by decide +kernel
theorem dX8_digest_22 : decode cX8_digest 22 = .ok (.i2l, 1) := by decide +kernel
theorem dX8_digest_23 : decode cX8_digest 23 = .ok (.ladd, 1) := by decide +kernel
theorem dX8_digest_24 : decode cX8_digest 24 = .ok (.lstore_n 1, 1) := by decide +kernel
theorem dX8_digest_25 : decode cX8_digest 25 = .ok (.iinc 3 1, 3) := by decide +kernel
theorem dX8_digest_28 : decode cX8_digest 28 = .ok (.goto (-22), 3) := by decide +kernel
theorem dX8_digest_31 : decode cX8_digest 31 = .ok (.iconst 0, 1) := by decide +kernel
theorem dX8_digest_32 : decode cX8_digest 32 = .ok (.istore_n 3, 1) := by decide +kernel
theorem dX8_digest_33 : decode cX8_digest 33 = .ok (.iload_n 3, 1) := by decide +kernel
theorem dX8_digest_34 : decode cX8_digest 34 = .ok (.bipush 12, 2) := by decide +kernel
theorem dX8_digest_36 : decode cX8_digest 36 = .ok (.if_icmp .ge 22, 3) := by decide +kernel
theorem dX8_digest_39 : decode cX8_digest 39 = .ok (.ldc2_w 224, 3) := by decide +kernel
theorem dX8_digest_42 : decode cX8_digest 42 = .ok (.lload_n 1, 1) := by decide +kernel
theorem dX8_digest_43 : decode cX8_digest 43 = .ok (.lmul, 1) := by decide +kernel
theorem dX8_digest_44 : decode cX8_digest 44 = .ok (.aload_n 0, 1) := by decide +kernel
theorem dX8_digest_45 : decode cX8_digest 45 = .ok (.iload_n 3, 1) := by decide +kernel
theorem dX8_digest_46 : decode cX8_digest 46 = .ok (.invokevirtual 229, 3) := by decide +kernel
theorem dX8_digest_49 : decode cX8_digest 49 = .ok (.i2l, 1) := by decide +kernel
theorem dX8_digest_50 : decode cX8_digest 50 = .ok (.ladd, 1) := by decide +kernel
theorem dX8_digest_51 : decode cX8_digest 51 = .ok (.lstore_n 1, 1) := by decide +kernel
theorem dX8_digest_52 : decode cX8_digest 52 = .ok (.iinc 3 1, 3) := by decide +kernel
theorem dX8_digest_55 : decode cX8_digest 55 = .ok (.goto (-22), 3) := by decide +kernel
theorem dX8_digest_58 : decode cX8_digest 58 = .ok (.iconst 0, 1) := by decide +kernel
theorem dX8_digest_59 : decode cX8_digest 59 = .ok (.istore_n 3, 1) := by decide +kernel
theorem dX8_digest_60 : decode cX8_digest 60 = .ok (.iload_n 3, 1) := by decide +kernel
theorem dX8_digest_61 : decode cX8_digest 61 = .ok (.bipush 6, 2) := by decide +kernel
theorem dX8_digest_63 : decode cX8_digest 63 = .ok (.if_icmp .ge 23, 3) := by decide +kernel
theorem dX8_digest_66 : decode cX8_digest 66 = .ok (.ldc2_w 224, 3) := by decide +kernel
theorem dX8_digest_69 : decode cX8_digest 69 = .ok (.lload_n 1, 1) := by decide +kernel
theorem dX8_digest_70 : decode cX8_digest 70 = .ok (.lmul, 1) := by decide +kernel
theorem dX8_digest_71 : decode cX8_digest 71 = .ok (.aload_n 0, 1) := by decide +kernel
theorem dX8_digest_72 : decode cX8_digest 72 = .ok (.getfield 7, 3) := by decide +kernel
theorem dX8_digest_75 : decode cX8_digest 75 = .ok (.iload_n 3, 1) := by decide +kernel
theorem dX8_digest_76 : decode cX8_digest 76 = .ok (.iaload, 1) := by decide +kernel
theorem dX8_digest_77 : decode cX8_digest 77 = .ok (.i2l, 1) := by decide +kernel
theorem dX8_digest_78 : decode cX8_digest 78 = .ok (.ladd, 1) := by decide +kernel
theorem dX8_digest_79 : decode cX8_digest 79 = .ok (.lstore_n 1, 1) := by decide +kernel
theorem dX8_digest_80 : decode cX8_digest 80 = .ok (.iinc 3 1, 3) := by decide +kernel
theorem dX8_digest_83 : decode cX8_digest 83 = .ok (.goto (-23), 3) := by decide +kernel
theorem dX8_digest_86 : decode cX8_digest 86 = .ok (.iconst 0, 1) := by decide +kernel
theorem dX8_digest_87 : decode cX8_digest 87 = .ok (.istore_n 3, 1) := by decide +kernel
theorem dX8_digest_88 : decode cX8_digest 88 = .ok (.iload_n 3, 1) := by decide +kernel
theorem dX8_digest_89 : decode cX8_digest 89 = .ok (.aload_n 0, 1) := by decide +kernel
theorem dX8_digest_90 : decode cX8_digest 90 = .ok (.getfield 127, 3) := by decide +kernel
theorem dX8_digest_93 : decode cX8_digest 93 = .ok (.if_icmp .ge 40, 3) := by decide +kernel
theorem dX8_digest_96 : decode cX8_digest 96 = .ok (.iconst 0, 1) := by decide +kernel
theorem dX8_digest_97 : decode cX8_digest 97 = .ok (.istore 4, 2) := by decide +kernel
theorem dX8_digest_99 : decode cX8_digest 99 = .ok (.iload 4, 2) := by decide +kernel
theorem dX8_digest_101 : decode cX8_digest 101 = .ok (.bipush 7, 2) := by decide +kernel
theorem dX8_digest_103 : decode cX8_digest 103 = .ok (.if_icmp .ge 24, 3) := by decide +kernel
theorem dX8_digest_106 : decode cX8_digest 106 = .ok (.ldc2_w 224, 3) := by decide +kernel
theorem dX8_digest_109 : decode cX8_digest 109 = .ok (.lload_n 1, 1) := by decide +kernel
theorem dX8_digest_110 : decode cX8_digest 110 = .ok (.lmul, 1) := by decide +kernel
theorem dX8_digest_111 : decode cX8_digest 111 = .ok (.aload_n 0, 1) := by decide +kernel
theorem dX8_digest_112 : decode cX8_digest 112 = .ok (.iload_n 3, 1) := by decide +kernel
theorem dX8_digest_113 : decode cX8_digest 113 = .ok (.iload 4, 2) := by decide +kernel
theorem dX8_digest_115 : decode cX8_digest 115 = .ok (.invokevirtual 232, 3) := by decide +kernel
theorem dX8_digest_118 : decode cX8_digest 118 = .ok (.i2l, 1) := by decide +kernel
theorem dX8_digest_119 : decode cX8_digest 119 = .ok (.ladd, 1) := by decide +kernel
theorem dX8_digest_120 : decode cX8_digest 120 = .ok (.lstore_n 1, 1) := by decide +kernel
theorem dX8_digest_121 : decode cX8_digest 121 = .ok (.iinc 4 1, 3) := by decide +kernel
theorem dX8_digest_124 : decode cX8_digest 124 = .ok (.goto (-25), 3) := by decide +kernel
theorem dX8_digest_127 : decode cX8_digest 127 = .ok (.iinc 3 1, 3) := by decide +kernel
theorem dX8_digest_130 : decode cX8_digest 130 = .ok (.goto (-42), 3) := by decide +kernel
theorem dX8_digest_133 : decode cX8_digest 133 = .ok (.iconst 0, 1) := by decide +kernel
theorem dX8_digest_134 : decode cX8_digest 134 = .ok (.istore_n 3, 1) := by decide +kernel
theorem dX8_digest_135 : decode cX8_digest 135 = .ok (.iload_n 3, 1) := by decide +kernel
theorem dX8_digest_136 : decode cX8_digest 136 = .ok (.aload_n 0, 1) := by decide +kernel
theorem dX8_digest_137 : decode cX8_digest 137 = .ok (.getfield 189, 3) := by decide +kernel
theorem dX8_digest_140 : decode cX8_digest 140 = .ok (.if_icmp .ge 40, 3) := by decide +kernel
theorem dX8_digest_143 : decode cX8_digest 143 = .ok (.iconst 0, 1) := by decide +kernel
theorem dX8_digest_144 : decode cX8_digest 144 = .ok (.istore 4, 2) := by decide +kernel
theorem dX8_digest_146 : decode cX8_digest 146 = .ok (.iload 4, 2) := by decide +kernel
theorem dX8_digest_148 : decode cX8_digest 148 = .ok (.bipush 6, 2) := by decide +kernel
theorem dX8_digest_150 : decode cX8_digest 150 = .ok (.if_icmp .ge 24, 3) := by decide +kernel
theorem dX8_digest_153 : decode cX8_digest 153 = .ok (.ldc2_w 224, 3) := by decide +kernel
theorem dX8_digest_156 : decode cX8_digest 156 = .ok (.lload_n 1, 1) := by decide +kernel
theorem dX8_digest_157 : decode cX8_digest 157 = .ok (.lmul, 1) := by decide +kernel
theorem dX8_digest_158 : decode cX8_digest 158 = .ok (.aload_n 0, 1) := by decide +kernel
theorem dX8_digest_159 : decode cX8_digest 159 = .ok (.iload_n 3, 1) := by decide +kernel
theorem dX8_digest_160 : decode cX8_digest 160 = .ok (.iload 4, 2) := by decide +kernel
theorem dX8_digest_162 : decode cX8_digest 162 = .ok (.invokevirtual 235, 3) := by decide +kernel
theorem dX8_digest_165 : decode cX8_digest 165 = .ok (.i2l, 1) := by decide +kernel
theorem dX8_digest_166 : decode cX8_digest 166 = .ok (.ladd, 1) := by decide +kernel
theorem dX8_digest_167 : decode cX8_digest 167 = .ok (.lstore_n 1, 1) := by decide +kernel
theorem dX8_digest_168 : decode cX8_digest 168 = .ok (.iinc 4 1, 3) := by decide +kernel
theorem dX8_digest_171 : decode cX8_digest 171 = .ok (.goto (-25), 3) := by decide +kernel
theorem dX8_digest_174 : decode cX8_digest 174 = .ok (.iinc 3 1, 3) := by decide +kernel
theorem dX8_digest_177 : decode cX8_digest 177 = .ok (.goto (-42), 3) := by decide +kernel
theorem dX8_digest_180 : decode cX8_digest 180 = .ok (.iconst 0, 1) := by decide +kernel
theorem dX8_digest_181 : decode cX8_digest 181 = .ok (.istore_n 3, 1) := by decide +kernel
theorem dX8_digest_182 : decode cX8_digest 182 = .ok (.iload_n 3, 1) := by decide +kernel
theorem dX8_digest_183 : decode cX8_digest 183 = .ok (.iconst 3, 1) := by decide +kernel
theorem dX8_digest_184 : decode cX8_digest 184 = .ok (.if_icmp .ge 23, 3) := by decide +kernel
theorem dX8_digest_187 : decode cX8_digest 187 = .ok (.ldc2_w 224, 3) := by decide +kernel
theorem dX8_digest_190 : decode cX8_digest 190 = .ok (.lload_n 1, 1) := by decide +kernel
theorem dX8_digest_191 : decode cX8_digest 191 = .ok (.lmul, 1) := by decide +kernel
theorem dX8_digest_192 : decode cX8_digest 192 = .ok (.aload_n 0, 1) := by decide +kernel
theorem dX8_digest_193 : decode cX8_digest 193 = .ok (.getfield 71, 3) := by decide +kernel
theorem dX8_digest_196 : decode cX8_digest 196 = .ok (.iload_n 3, 1) := by decide +kernel
theorem dX8_digest_197 : decode cX8_digest 197 = .ok (.iaload, 1) := by decide +kernel
theorem dX8_digest_198 : decode cX8_digest 198 = .ok (.i2l, 1) := by decide +kernel
theorem dX8_digest_199 : decode cX8_digest 199 = .ok (.ladd, 1) := by decide +kernel
theorem dX8_digest_200 : decode cX8_digest 200 = .ok (.lstore_n 1, 1) := by decide +kernel
theorem dX8_digest_201 : decode cX8_digest 201 = .ok (.iinc 3 1, 3) := by decide +kernel
theorem dX8_digest_204 : decode cX8_digest 204 = .ok (.goto (-22), 3) := by decide +kernel
theorem dX8_digest_207 : decode cX8_digest 207 = .ok (.lload_n 1, 1) := by decide +kernel
theorem dX8_digest_208 : decode cX8_digest 208 = .ok (.lreturn, 1) := by decide +kernel
theorem dL_law_0 : decode cL_law 0 = .ok (.new 7, 3) := by decide +kernel
theorem dL_law_3 : decode cL_law 3 = .ok (.dup, 1) := by decide +kernel
theorem dL_law_4 : decode cL_law 4 = .ok (.invokespecial 9, 3) := by decide +kernel
theorem dL_law_7 : decode cL_law 7 = .ok (.astore_n 1, 1) := by decide +kernel
theorem dL_law_8 : decode cL_law 8 = .ok (.new 10, 3) := by decide +kernel
theorem dL_law_11 : decode cL_law 11 = .ok (.dup, 1) := by decide +kernel
theorem dL_law_12 : decode cL_law 12 = .ok (.invokespecial 12, 3) := by decide +kernel
theorem dL_law_15 : decode cL_law 15 = .ok (.astore_n 2, 1) := by decide +kernel
theorem dL_law_16 : decode cL_law 16 = .ok (.iconst 0, 1) := by decide +kernel
theorem dL_law_17 : decode cL_law 17 = .ok (.istore_n 3, 1) := by decide +kernel
theorem dL_law_18 : decode cL_law 18 = .ok (.iload_n 3, 1) := by decide +kernel
theorem dL_law_19 : decode cL_law 19 = .ok (.aload_n 0, 1) := by decide +kernel
theorem dL_law_20 : decode cL_law 20 = .ok (.arraylength, 1) := by decide +kernel
theorem dL_law_21 : decode cL_law 21 = .ok (.iconst 5, 1) := by decide +kernel
theorem dL_law_22 : decode cL_law 22 = .ok (.isub, 1) := by decide +kernel
theorem dL_law_23 : decode cL_law 23 = .ok (.if_icmp .gt 893, 3) := by decide +kernel
theorem dL_law_26 : decode cL_law 26 = .ok (.aload_n 0, 1) := by decide +kernel
theorem dL_law_27 : decode cL_law 27 = .ok (.iload_n 3, 1) := by decide +kernel
theorem dL_law_28 : decode cL_law 28 = .ok (.iaload, 1) := by decide +kernel
theorem dL_law_29 : decode cL_law 29 = .ok (.bipush 31, 2) := by decide +kernel
theorem dL_law_31 : decode cL_law 31 = .ok (.iand, 1) := by decide +kernel
theorem dL_law_32 : decode cL_law 32 = .ok (.tableswitch 878 0 24 #[116, 149, 182, 235, 268, 291, 314, 347, 370, 383, 406, 429, 462, 485, 518, 587, 600, 643, 656, 669, 712, 765, 818, 841, 864], 116) := by decide +kernel
theorem dL_law_148 : decode cL_law 148 = .ok (.aload_n 1, 1) := by decide +kernel
theorem dL_law_149 : decode cL_law 149 = .ok (.aload_n 0, 1) := by decide +kernel
theorem dL_law_150 : decode cL_law 150 = .ok (.iload_n 3, 1) := by decide +kernel
theorem dL_law_151 : decode cL_law 151 = .ok (.iconst 1, 1) := by decide +kernel
theorem dL_law_152 : decode cL_law 152 = .ok (.iadd, 1) := by decide +kernel
theorem dL_law_153 : decode cL_law 153 = .ok (.iaload, 1) := by decide +kernel
theorem dL_law_154 : decode cL_law 154 = .ok (.aload_n 0, 1) := by decide +kernel
theorem dL_law_155 : decode cL_law 155 = .ok (.iload_n 3, 1) := by decide +kernel
theorem dL_law_156 : decode cL_law 156 = .ok (.iconst 2, 1) := by decide +kernel
theorem dL_law_157 : decode cL_law 157 = .ok (.iadd, 1) := by decide +kernel
theorem dL_law_158 : decode cL_law 158 = .ok (.iaload, 1) := by decide +kernel
theorem dL_law_159 : decode cL_law 159 = .ok (.invokevirtual 13, 3) := by decide +kernel
theorem dL_law_162 : decode cL_law 162 = .ok (.aload_n 2, 1) := by decide +kernel
theorem dL_law_163 : decode cL_law 163 = .ok (.aload_n 0, 1) := by decide +kernel
theorem dL_law_164 : decode cL_law 164 = .ok (.iload_n 3, 1) := by decide +kernel
theorem dL_law_165 : decode cL_law 165 = .ok (.iconst 1, 1) := by decide +kernel
theorem dL_law_166 : decode cL_law 166 = .ok (.iadd, 1) := by decide +kernel
theorem dL_law_167 : decode cL_law 167 = .ok (.iaload, 1) := by decide +kernel
theorem dL_law_168 : decode cL_law 168 = .ok (.aload_n 0, 1) := by decide +kernel
theorem dL_law_169 : decode cL_law 169 = .ok (.iload_n 3, 1) := by decide +kernel
theorem dL_law_170 : decode cL_law 170 = .ok (.iconst 2, 1) := by decide +kernel
theorem dL_law_171 : decode cL_law 171 = .ok (.iadd, 1) := by decide +kernel
theorem dL_law_172 : decode cL_law 172 = .ok (.iaload, 1) := by decide +kernel
theorem dL_law_173 : decode cL_law 173 = .ok (.invokevirtual 17, 3) := by decide +kernel
theorem dL_law_176 : decode cL_law 176 = .ok (.if_icmp .eq 734, 3) := by decide +kernel
theorem dL_law_179 : decode cL_law 179 = .ok (.iconst 0, 1) := by decide +kernel
theorem dL_law_180 : decode cL_law 180 = .ok (.ireturn, 1) := by decide +kernel
theorem dL_law_181 : decode cL_law 181 = .ok (.aload_n 1, 1) := by decide +kernel
theorem dL_law_182 : decode cL_law 182 = .ok (.aload_n 0, 1) := by decide +kernel
theorem dL_law_183 : decode cL_law 183 = .ok (.iload_n 3, 1) := by decide +kernel
theorem dL_law_184 : decode cL_law 184 = .ok (.iconst 1, 1) := by decide +kernel
theorem dL_law_185 : decode cL_law 185 = .ok (.iadd, 1) := by decide +kernel
theorem dL_law_186 : decode cL_law 186 = .ok (.iaload, 1) := by decide +kernel
theorem dL_law_187 : decode cL_law 187 = .ok (.aload_n 0, 1) := by decide +kernel
theorem dL_law_188 : decode cL_law 188 = .ok (.iload_n 3, 1) := by decide +kernel
theorem dL_law_189 : decode cL_law 189 = .ok (.iconst 2, 1) := by decide +kernel
theorem dL_law_190 : decode cL_law 190 = .ok (.iadd, 1) := by decide +kernel
theorem dL_law_191 : decode cL_law 191 = .ok (.iaload, 1) := by decide +kernel
theorem dL_law_192 : decode cL_law 192 = .ok (.invokevirtual 18, 3) := by decide +kernel
theorem dL_law_195 : decode cL_law 195 = .ok (.aload_n 2, 1) := by decide +kernel
theorem dL_law_196 : decode cL_law 196 = .ok (.aload_n 0, 1) := by decide +kernel
theorem dL_law_197 : decode cL_law 197 = .ok (.iload_n 3, 1) := by decide +kernel
theorem dL_law_198 : decode cL_law 198 = .ok (.iconst 1, 1) := by decide +kernel
theorem dL_law_199 : decode cL_law 199 = .ok (.iadd, 1) := by decide +kernel
theorem dL_law_200 : decode cL_law 200 = .ok (.iaload, 1) := by decide +kernel
theorem dL_law_201 : decode cL_law 201 = .ok (.aload_n 0, 1) := by decide +kernel
theorem dL_law_202 : decode cL_law 202 = .ok (.iload_n 3, 1) := by decide +kernel
theorem dL_law_203 : decode cL_law 203 = .ok (.iconst 2, 1) := by decide +kernel
theorem dL_law_204 : decode cL_law 204 = .ok (.iadd, 1) := by decide +kernel
theorem dL_law_205 : decode cL_law 205 = .ok (.iaload, 1) := by decide +kernel
theorem dL_law_206 : decode cL_law 206 = .ok (.invokevirtual 21, 3) := by decide +kernel
theorem dL_law_209 : decode cL_law 209 = .ok (.if_icmp .eq 701, 3) := by decide +kernel
theorem dL_law_212 : decode cL_law 212 = .ok (.iconst 0, 1) := by decide +kernel
theorem dL_law_213 : decode cL_law 213 = .ok (.ireturn, 1) := by decide +kernel
theorem dL_law_214 : decode cL_law 214 = .ok (.aload_n 1, 1) := by decide +kernel
theorem dL_law_215 : decode cL_law 215 = .ok (.aload_n 0, 1) := by decide +kernel
theorem dL_law_216 : decode cL_law 216 = .ok (.iload_n 3, 1) := by decide +kernel
theorem dL_law_217 : decode cL_law 217 = .ok (.iconst 1, 1) := by decide +kernel
theorem dL_law_218 : decode cL_law 218 = .ok (.iadd, 1) := by decide +kernel
theorem dL_law_219 : decode cL_law 219 = .ok (.iaload, 1) := by decide +kernel
theorem dL_law_220 : decode cL_law 220 = .ok (.aload_n 0, 1) := by decide +kernel
theorem dL_law_221 : decode cL_law 221 = .ok (.iload_n 3, 1) := by decide +kernel
theorem dL_law_222 : decode cL_law 222 = .ok (.iconst 2, 1) := by decide +kernel
theorem dL_law_223 : decode cL_law 223 = .ok (.iadd, 1) := by decide +kernel
theorem dL_law_224 : decode cL_law 224 = .ok (.iaload, 1) := by decide +kernel
theorem dL_law_225 : decode cL_law 225 = .ok (.aload_n 0, 1) := by decide +kernel
theorem dL_law_226 : decode cL_law 226 = .ok (.iload_n 3, 1) := by decide +kernel
theorem dL_law_227 : decode cL_law 227 = .ok (.iconst 3, 1) := by decide +kernel
theorem dL_law_228 : decode cL_law 228 = .ok (.iadd, 1) := by decide +kernel
theorem dL_law_229 : decode cL_law 229 = .ok (.iaload, 1) := by decide +kernel
theorem dL_law_230 : decode cL_law 230 = .ok (.aload_n 0, 1) := by decide +kernel
theorem dL_law_231 : decode cL_law 231 = .ok (.iload_n 3, 1) := by decide +kernel
theorem dL_law_232 : decode cL_law 232 = .ok (.iconst 4, 1) := by decide +kernel
theorem dL_law_233 : decode cL_law 233 = .ok (.iadd, 1) := by decide +kernel
theorem dL_law_234 : decode cL_law 234 = .ok (.iaload, 1) := by decide +kernel
theorem dL_law_235 : decode cL_law 235 = .ok (.invokevirtual 22, 3) := by decide +kernel
theorem dL_law_238 : decode cL_law 238 = .ok (.aload_n 2, 1) := by decide +kernel
theorem dL_law_239 : decode cL_law 239 = .ok (.aload_n 0, 1) := by decide +kernel
theorem dL_law_240 : decode cL_law 240 = .ok (.iload_n 3, 1) := by decide +kernel
theorem dL_law_241 : decode cL_law 241 = .ok (.iconst 1, 1) := by decide +kernel
theorem dL_law_242 : decode cL_law 242 = .ok (.iadd, 1) := by decide +kernel
theorem dL_law_243 : decode cL_law 243 = .ok (.iaload, 1) := by decide +kernel
theorem dL_law_244 : decode cL_law 244 = .ok (.aload_n 0, 1) := by decide +kernel
theorem dL_law_245 : decode cL_law 245 = .ok (.iload_n 3, 1) := by decide +kernel
theorem dL_law_246 : decode cL_law 246 = .ok (.iconst 2, 1) := by decide +kernel
theorem dL_law_247 : decode cL_law 247 = .ok (.iadd, 1) := by decide +kernel
theorem dL_law_248 : decode cL_law 248 = .ok (.iaload, 1) := by decide +kernel
theorem dL_law_249 : decode cL_law 249 = .ok (.aload_n 0, 1) := by decide +kernel
theorem dL_law_250 : decode cL_law 250 = .ok (.iload_n 3, 1) := by decide +kernel
theorem dL_law_251 : decode cL_law 251 = .ok (.iconst 3, 1) := by decide +kernel
theorem dL_law_252 : decode cL_law 252 = .ok (.iadd, 1) := by decide +kernel
theorem dL_law_253 : decode cL_law 253 = .ok (.iaload, 1) := by decide +kernel
theorem dL_law_254 : decode cL_law 254 = .ok (.aload_n 0, 1) := by decide +kernel
theorem dL_law_255 : decode cL_law 255 = .ok (.iload_n 3, 1) := by decide +kernel
theorem dL_law_256 : decode cL_law 256 = .ok (.iconst 4, 1) := by decide +kernel
theorem dL_law_257 : decode cL_law 257 = .ok (.iadd, 1) := by decide +kernel
theorem dL_law_258 : decode cL_law 258 = .ok (.iaload, 1) := by decide +kernel
theorem dL_law_259 : decode cL_law 259 = .ok (.invokevirtual 26, 3) := by decide +kernel
theorem dL_law_262 : decode cL_law 262 = .ok (.if_icmp .eq 648, 3) := by decide +kernel
theorem dL_law_265 : decode cL_law 265 = .ok (.iconst 0, 1) := by decide +kernel
theorem dL_law_266 : decode cL_law 266 = .ok (.ireturn, 1) := by decide +kernel
theorem dL_law_267 : decode cL_law 267 = .ok (.aload_n 1, 1) := by decide +kernel
theorem dL_law_268 : decode cL_law 268 = .ok (.aload_n 0, 1) := by decide +kernel
theorem dL_law_269 : decode cL_law 269 = .ok (.iload_n 3, 1) := by decide +kernel
theorem dL_law_270 : decode cL_law 270 = .ok (.iconst 1, 1) := by decide +kernel
theorem dL_law_271 : decode cL_law 271 = .ok (.iadd, 1) := by decide +kernel
theorem dL_law_272 : decode cL_law 272 = .ok (.iaload, 1) := by decide +kernel
theorem dL_law_273 : decode cL_law 273 = .ok (.aload_n 0, 1) := by decide +kernel
theorem dL_law_274 : decode cL_law 274 = .ok (.iload_n 3, 1) := by decide +kernel
theorem dL_law_275 : decode cL_law 275 = .ok (.iconst 2, 1) := by decide +kernel
theorem dL_law_276 : decode cL_law 276 = .ok (.iadd, 1) := by decide +kernel
theorem dL_law_277 : decode cL_law 277 = .ok (.iaload, 1) := by decide +kernel
theorem dL_law_278 : decode cL_law 278 = .ok (.invokevirtual 27, 3) := by decide +kernel
theorem dL_law_281 : decode cL_law 281 = .ok (.aload_n 2, 1) := by decide +kernel
theorem dL_law_282 : decode cL_law 282 = .ok (.aload_n 0, 1) := by decide +kernel
theorem dL_law_283 : decode cL_law 283 = .ok (.iload_n 3, 1) := by decide +kernel
theorem dL_law_284 : decode cL_law 284 = .ok (.iconst 1, 1) := by decide +kernel
theorem dL_law_285 : decode cL_law 285 = .ok (.iadd, 1) := by decide +kernel
theorem dL_law_286 : decode cL_law 286 = .ok (.iaload, 1) := by decide +kernel
theorem dL_law_287 : decode cL_law 287 = .ok (.aload_n 0, 1) := by decide +kernel
theorem dL_law_288 : decode cL_law 288 = .ok (.iload_n 3, 1) := by decide +kernel
theorem dL_law_289 : decode cL_law 289 = .ok (.iconst 2, 1) := by decide +kernel
theorem dL_law_290 : decode cL_law 290 = .ok (.iadd, 1) := by decide +kernel
theorem dL_law_291 : decode cL_law 291 = .ok (.iaload, 1) := by decide +kernel
theorem dL_law_292 : decode cL_law 292 = .ok (.invokevirtual 30, 3) := by decide +kernel
theorem dL_law_295 : decode cL_law 295 = .ok (.if_icmp .eq 615, 3) := by decide +kernel
theorem dL_law_298 : decode cL_law 298 = .ok (.iconst 0, 1) := by decide +kernel
theorem dL_law_299 : decode cL_law 299 = .ok (.ireturn, 1) := by decide +kernel
theorem dL_law_300 : decode cL_law 300 = .ok (.aload_n 1, 1) := by decide +kernel
theorem dL_law_301 : decode cL_law 301 = .ok (.aload_n 0, 1) := by decide +kernel
theorem dL_law_302 : decode cL_law 302 = .ok (.iload_n 3, 1) := by decide +kernel
theorem dL_law_303 : decode cL_law 303 = .ok (.iconst 1, 1) := by decide +kernel
theorem dL_law_304 : decode cL_law 304 = .ok (.iadd, 1) := by decide +kernel
theorem dL_law_305 : decode cL_law 305 = .ok (.iaload, 1) := by decide +kernel
theorem dL_law_306 : decode cL_law 306 = .ok (.invokevirtual 31, 3) := by decide +kernel
theorem dL_law_309 : decode cL_law 309 = .ok (.aload_n 2, 1) := by decide +kernel
theorem dL_law_310 : decode cL_law 310 = .ok (.aload_n 0, 1) := by decide +kernel
theorem dL_law_311 : decode cL_law 311 = .ok (.iload_n 3, 1) := by decide +kernel
theorem dL_law_312 : decode cL_law 312 = .ok (.iconst 1, 1) := by decide +kernel
theorem dL_law_313 : decode cL_law 313 = .ok (.iadd, 1) := by decide +kernel
theorem dL_law_314 : decode cL_law 314 = .ok (.iaload, 1) := by decide +kernel
theorem dL_law_315 : decode cL_law 315 = .ok (.invokevirtual 35, 3) := by decide +kernel
theorem dL_law_318 : decode cL_law 318 = .ok (.if_icmp .eq 592, 3) := by decide +kernel
theorem dL_law_321 : decode cL_law 321 = .ok (.iconst 0, 1) := by decide +kernel
theorem dL_law_322 : decode cL_law 322 = .ok (.ireturn, 1) := by decide +kernel
theorem dL_law_323 : decode cL_law 323 = .ok (.aload_n 1, 1) := by decide +kernel
theorem dL_law_324 : decode cL_law 324 = .ok (.aload_n 0, 1) := by decide +kernel
theorem dL_law_325 : decode cL_law 325 = .ok (.iload_n 3, 1) := by decide +kernel
theorem dL_law_326 : decode cL_law 326 = .ok (.iconst 1, 1) := by decide +kernel
theorem dL_law_327 : decode cL_law 327 = .ok (.iadd, 1) := by decide +kernel
theorem dL_law_328 : decode cL_law 328 = .ok (.iaload, 1) := by decide +kernel
theorem dL_law_329 : decode cL_law 329 = .ok (.invokevirtual 36, 3) := by decide +kernel
theorem dL_law_332 : decode cL_law 332 = .ok (.aload_n 2, 1) := by decide +kernel
theorem dL_law_333 : decode cL_law 333 = .ok (.aload_n 0, 1) := by decide +kernel
theorem dL_law_334 : decode cL_law 334 = .ok (.iload_n 3, 1) := by decide +kernel
theorem dL_law_335 : decode cL_law 335 = .ok (.iconst 1, 1) := by decide +kernel
theorem dL_law_336 : decode cL_law 336 = .ok (.iadd, 1) := by decide +kernel
theorem dL_law_337 : decode cL_law 337 = .ok (.iaload, 1) := by decide +kernel
theorem dL_law_338 : decode cL_law 338 = .ok (.invokevirtual 39, 3) := by decide +kernel
theorem dL_law_341 : decode cL_law 341 = .ok (.if_icmp .eq 569, 3) := by decide +kernel
theorem dL_law_344 : decode cL_law 344 = .ok (.iconst 0, 1) := by decide +kernel
theorem dL_law_345 : decode cL_law 345 = .ok (.ireturn, 1) := by decide +kernel
theorem dL_law_346 : decode cL_law 346 = .ok (.aload_n 1, 1) := by decide +kernel
theorem dL_law_347 : decode cL_law 347 = .ok (.aload_n 0, 1) := by decide +kernel
theorem dL_law_348 : decode cL_law 348 = .ok (.iload_n 3, 1) := by decide +kernel
theorem dL_law_349 : decode cL_law 349 = .ok (.iconst 1, 1) := by decide +kernel
theorem dL_law_350 : decode cL_law 350 = .ok (.iadd, 1) := by decide +kernel
theorem dL_law_351 : decode cL_law 351 = .ok (.iaload, 1) := by decide +kernel
theorem dL_law_352 : decode cL_law 352 = .ok (.aload_n 0, 1) := by decide +kernel
theorem dL_law_353 : decode cL_law 353 = .ok (.iload_n 3, 1) := by decide +kernel
theorem dL_law_354 : decode cL_law 354 = .ok (.iconst 2, 1) := by decide +kernel
theorem dL_law_355 : decode cL_law 355 = .ok (.iadd, 1) := by decide +kernel
theorem dL_law_356 : decode cL_law 356 = .ok (.iaload, 1) := by decide +kernel
theorem dL_law_357 : decode cL_law 357 = .ok (.invokevirtual 40, 3) := by decide +kernel
theorem dL_law_360 : decode cL_law 360 = .ok (.aload_n 2, 1) := by decide +kernel
theorem dL_law_361 : decode cL_law 361 = .ok (.aload_n 0, 1) := by decide +kernel
theorem dL_law_362 : decode cL_law 362 = .ok (.iload_n 3, 1) := by decide +kernel
theorem dL_law_363 : decode cL_law 363 = .ok (.iconst 1, 1) := by decide +kernel
theorem dL_law_364 : decode cL_law 364 = .ok (.iadd, 1) := by decide +kernel
theorem dL_law_365 : decode cL_law 365 = .ok (.iaload, 1) := by decide +kernel
theorem dL_law_366 : decode cL_law 366 = .ok (.aload_n 0, 1) := by decide +kernel
theorem dL_law_367 : decode cL_law 367 = .ok (.iload_n 3, 1) := by decide +kernel
theorem dL_law_368 : decode cL_law 368 = .ok (.iconst 2, 1) := by decide +kernel
theorem dL_law_369 : decode cL_law 369 = .ok (.iadd, 1) := by decide +kernel
theorem dL_law_370 : decode cL_law 370 = .ok (.iaload, 1) := by decide +kernel
theorem dL_law_371 : decode cL_law 371 = .ok (.invokevirtual 43, 3) := by decide +kernel
theorem dL_law_374 : decode cL_law 374 = .ok (.if_icmp .eq 536, 3) := by decide +kernel
theorem dL_law_377 : decode cL_law 377 = .ok (.iconst 0, 1) := by decide +kernel
theorem dL_law_378 : decode cL_law 378 = .ok (.ireturn, 1) := by decide +kernel
theorem dL_law_379 : decode cL_law 379 = .ok (.aload_n 1, 1) := by decide +kernel
theorem dL_law_380 : decode cL_law 380 = .ok (.aload_n 0, 1) := by decide +kernel
theorem dL_law_381 : decode cL_law 381 = .ok (.iload_n 3, 1) := by decide +kernel
theorem dL_law_382 : decode cL_law 382 = .ok (.iconst 1, 1) := by decide +kernel
theorem dL_law_383 : decode cL_law 383 = .ok (.iadd, 1) := by decide +kernel
theorem dL_law_384 : decode cL_law 384 = .ok (.iaload, 1) := by decide +kernel
theorem dL_law_385 : decode cL_law 385 = .ok (.invokevirtual 44, 3) := by decide +kernel
theorem dL_law_388 : decode cL_law 388 = .ok (.aload_n 2, 1) := by decide +kernel
theorem dL_law_389 : decode cL_law 389 = .ok (.aload_n 0, 1) := by decide +kernel
theorem dL_law_390 : decode cL_law 390 = .ok (.iload_n 3, 1) := by decide +kernel
theorem dL_law_391 : decode cL_law 391 = .ok (.iconst 1, 1) := by decide +kernel
theorem dL_law_392 : decode cL_law 392 = .ok (.iadd, 1) := by decide +kernel
theorem dL_law_393 : decode cL_law 393 = .ok (.iaload, 1) := by decide +kernel
theorem dL_law_394 : decode cL_law 394 = .ok (.invokevirtual 47, 3) := by decide +kernel
theorem dL_law_397 : decode cL_law 397 = .ok (.if_icmp .eq 513, 3) := by decide +kernel
theorem dL_law_400 : decode cL_law 400 = .ok (.iconst 0, 1) := by decide +kernel
theorem dL_law_401 : decode cL_law 401 = .ok (.ireturn, 1) := by decide +kernel
theorem dL_law_402 : decode cL_law 402 = .ok (.aload_n 1, 1) := by decide +kernel
theorem dL_law_403 : decode cL_law 403 = .ok (.invokevirtual 48, 3) := by decide +kernel
theorem dL_law_406 : decode cL_law 406 = .ok (.aload_n 2, 1) := by decide +kernel
theorem dL_law_407 : decode cL_law 407 = .ok (.invokevirtual 52, 3) := by decide +kernel
theorem dL_law_410 : decode cL_law 410 = .ok (.if_icmp .eq 500, 3) := by decide +kernel
theorem dL_law_413 : decode cL_law 413 = .ok (.iconst 0, 1) := by decide +kernel
theorem dL_law_414 : decode cL_law 414 = .ok (.ireturn, 1) := by decide +kernel
theorem dL_law_415 : decode cL_law 415 = .ok (.aload_n 1, 1) := by decide +kernel
theorem dL_law_416 : decode cL_law 416 = .ok (.aload_n 0, 1) := by decide +kernel
theorem dL_law_417 : decode cL_law 417 = .ok (.iload_n 3, 1) := by decide +kernel
theorem dL_law_418 : decode cL_law 418 = .ok (.iconst 1, 1) := by decide +kernel
theorem dL_law_419 : decode cL_law 419 = .ok (.iadd, 1) := by decide +kernel
theorem dL_law_420 : decode cL_law 420 = .ok (.iaload, 1) := by decide +kernel
theorem dL_law_421 : decode cL_law 421 = .ok (.invokevirtual 53, 3) := by decide +kernel
theorem dL_law_424 : decode cL_law 424 = .ok (.aload_n 2, 1) := by decide +kernel
theorem dL_law_425 : decode cL_law 425 = .ok (.aload_n 0, 1) := by decide +kernel
theorem dL_law_426 : decode cL_law 426 = .ok (.iload_n 3, 1) := by decide +kernel
theorem dL_law_427 : decode cL_law 427 = .ok (.iconst 1, 1) := by decide +kernel
theorem dL_law_428 : decode cL_law 428 = .ok (.iadd, 1) := by decide +kernel
theorem dL_law_429 : decode cL_law 429 = .ok (.iaload, 1) := by decide +kernel
theorem dL_law_430 : decode cL_law 430 = .ok (.invokevirtual 56, 3) := by decide +kernel
theorem dL_law_433 : decode cL_law 433 = .ok (.if_icmp .eq 477, 3) := by decide +kernel
theorem dL_law_436 : decode cL_law 436 = .ok (.iconst 0, 1) := by decide +kernel
theorem dL_law_437 : decode cL_law 437 = .ok (.ireturn, 1) := by decide +kernel
theorem dL_law_438 : decode cL_law 438 = .ok (.aload_n 1, 1) := by decide +kernel
theorem dL_law_439 : decode cL_law 439 = .ok (.aload_n 0, 1) := by decide +kernel
theorem dL_law_440 : decode cL_law 440 = .ok (.iload_n 3, 1) := by decide +kernel
theorem dL_law_441 : decode cL_law 441 = .ok (.iconst 1, 1) := by decide +kernel
theorem dL_law_442 : decode cL_law 442 = .ok (.iadd, 1) := by decide +kernel
theorem dL_law_443 : decode cL_law 443 = .ok (.iaload, 1) := by decide +kernel
theorem dL_law_444 : decode cL_law 444 = .ok (.invokevirtual 57, 3) := by decide +kernel
theorem dL_law_447 : decode cL_law 447 = .ok (.aload_n 2, 1) := by decide +kernel
theorem dL_law_448 : decode cL_law 448 = .ok (.aload_n 0, 1) := by decide +kernel
theorem dL_law_449 : decode cL_law 449 = .ok (.iload_n 3, 1) := by decide +kernel
theorem dL_law_450 : decode cL_law 450 = .ok (.iconst 1, 1) := by decide +kernel
theorem dL_law_451 : decode cL_law 451 = .ok (.iadd, 1) := by decide +kernel
theorem dL_law_452 : decode cL_law 452 = .ok (.iaload, 1) := by decide +kernel
theorem dL_law_453 : decode cL_law 453 = .ok (.invokevirtual 60, 3) := by decide +kernel
theorem dL_law_456 : decode cL_law 456 = .ok (.if_icmp .eq 454, 3) := by decide +kernel
theorem dL_law_459 : decode cL_law 459 = .ok (.iconst 0, 1) := by decide +kernel
theorem dL_law_460 : decode cL_law 460 = .ok (.ireturn, 1) := by decide +kernel
theorem dL_law_461 : decode cL_law 461 = .ok (.aload_n 1, 1) := by decide +kernel
theorem dL_law_462 : decode cL_law 462 = .ok (.aload_n 0, 1) := by decide +kernel
theorem dL_law_463 : decode cL_law 463 = .ok (.iload_n 3, 1) := by decide +kernel
theorem dL_law_464 : decode cL_law 464 = .ok (.iconst 1, 1) := by decide +kernel
theorem dL_law_465 : decode cL_law 465 = .ok (.iadd, 1) := by decide +kernel
theorem dL_law_466 : decode cL_law 466 = .ok (.iaload, 1) := by decide +kernel
theorem dL_law_467 : decode cL_law 467 = .ok (.aload_n 0, 1) := by decide +kernel
theorem dL_law_468 : decode cL_law 468 = .ok (.iload_n 3, 1) := by decide +kernel
theorem dL_law_469 : decode cL_law 469 = .ok (.iconst 2, 1) := by decide +kernel
theorem dL_law_470 : decode cL_law 470 = .ok (.iadd, 1) := by decide +kernel
theorem dL_law_471 : decode cL_law 471 = .ok (.iaload, 1) := by decide +kernel
theorem dL_law_472 : decode cL_law 472 = .ok (.invokevirtual 61, 3) := by decide +kernel
theorem dL_law_475 : decode cL_law 475 = .ok (.aload_n 2, 1) := by decide +kernel
theorem dL_law_476 : decode cL_law 476 = .ok (.aload_n 0, 1) := by decide +kernel
theorem dL_law_477 : decode cL_law 477 = .ok (.iload_n 3, 1) := by decide +kernel
theorem dL_law_478 : decode cL_law 478 = .ok (.iconst 1, 1) := by decide +kernel
theorem dL_law_479 : decode cL_law 479 = .ok (.iadd, 1) := by decide +kernel
theorem dL_law_480 : decode cL_law 480 = .ok (.iaload, 1) := by decide +kernel
theorem dL_law_481 : decode cL_law 481 = .ok (.aload_n 0, 1) := by decide +kernel
theorem dL_law_482 : decode cL_law 482 = .ok (.iload_n 3, 1) := by decide +kernel
theorem dL_law_483 : decode cL_law 483 = .ok (.iconst 2, 1) := by decide +kernel
theorem dL_law_484 : decode cL_law 484 = .ok (.iadd, 1) := by decide +kernel
theorem dL_law_485 : decode cL_law 485 = .ok (.iaload, 1) := by decide +kernel
theorem dL_law_486 : decode cL_law 486 = .ok (.invokevirtual 64, 3) := by decide +kernel
theorem dL_law_489 : decode cL_law 489 = .ok (.if_icmp .eq 421, 3) := by decide +kernel
theorem dL_law_492 : decode cL_law 492 = .ok (.iconst 0, 1) := by decide +kernel
theorem dL_law_493 : decode cL_law 493 = .ok (.ireturn, 1) := by decide +kernel
theorem dL_law_494 : decode cL_law 494 = .ok (.aload_n 1, 1) := by decide +kernel
theorem dL_law_495 : decode cL_law 495 = .ok (.aload_n 0, 1) := by decide +kernel
theorem dL_law_496 : decode cL_law 496 = .ok (.iload_n 3, 1) := by decide +kernel
theorem dL_law_497 : decode cL_law 497 = .ok (.iconst 1, 1) := by decide +kernel
theorem dL_law_498 : decode cL_law 498 = .ok (.iadd, 1) := by decide +kernel
theorem dL_law_499 : decode cL_law 499 = .ok (.iaload, 1) := by decide +kernel
theorem dL_law_500 : decode cL_law 500 = .ok (.invokevirtual 65, 3) := by decide +kernel
theorem dL_law_503 : decode cL_law 503 = .ok (.aload_n 2, 1) := by decide +kernel
theorem dL_law_504 : decode cL_law 504 = .ok (.aload_n 0, 1) := by decide +kernel
theorem dL_law_505 : decode cL_law 505 = .ok (.iload_n 3, 1) := by decide +kernel
theorem dL_law_506 : decode cL_law 506 = .ok (.iconst 1, 1) := by decide +kernel
theorem dL_law_507 : decode cL_law 507 = .ok (.iadd, 1) := by decide +kernel
theorem dL_law_508 : decode cL_law 508 = .ok (.iaload, 1) := by decide +kernel
theorem dL_law_509 : decode cL_law 509 = .ok (.invokevirtual 68, 3) := by decide +kernel
theorem dL_law_512 : decode cL_law 512 = .ok (.if_icmp .eq 398, 3) := by decide +kernel
theorem dL_law_515 : decode cL_law 515 = .ok (.iconst 0, 1) := by decide +kernel
theorem dL_law_516 : decode cL_law 516 = .ok (.ireturn, 1) := by decide +kernel
theorem dL_law_517 : decode cL_law 517 = .ok (.aload_n 1, 1) := by decide +kernel
theorem dL_law_518 : decode cL_law 518 = .ok (.aload_n 0, 1) := by decide +kernel
theorem dL_law_519 : decode cL_law 519 = .ok (.iload_n 3, 1) := by decide +kernel
theorem dL_law_520 : decode cL_law 520 = .ok (.iconst 1, 1) := by decide +kernel
theorem dL_law_521 : decode cL_law 521 = .ok (.iadd, 1) := by decide +kernel
theorem dL_law_522 : decode cL_law 522 = .ok (.iaload, 1) := by decide +kernel
theorem dL_law_523 : decode cL_law 523 = .ok (.aload_n 0, 1) := by decide +kernel
theorem dL_law_524 : decode cL_law 524 = .ok (.iload_n 3, 1) := by decide +kernel
theorem dL_law_525 : decode cL_law 525 = .ok (.iconst 2, 1) := by decide +kernel
theorem dL_law_526 : decode cL_law 526 = .ok (.iadd, 1) := by decide +kernel
theorem dL_law_527 : decode cL_law 527 = .ok (.iaload, 1) := by decide +kernel
theorem dL_law_528 : decode cL_law 528 = .ok (.invokevirtual 69, 3) := by decide +kernel
theorem dL_law_531 : decode cL_law 531 = .ok (.aload_n 2, 1) := by decide +kernel
theorem dL_law_532 : decode cL_law 532 = .ok (.aload_n 0, 1) := by decide +kernel
theorem dL_law_533 : decode cL_law 533 = .ok (.iload_n 3, 1) := by decide +kernel
theorem dL_law_534 : decode cL_law 534 = .ok (.iconst 1, 1) := by decide +kernel
theorem dL_law_535 : decode cL_law 535 = .ok (.iadd, 1) := by decide +kernel
theorem dL_law_536 : decode cL_law 536 = .ok (.iaload, 1) := by decide +kernel
theorem dL_law_537 : decode cL_law 537 = .ok (.aload_n 0, 1) := by decide +kernel
theorem dL_law_538 : decode cL_law 538 = .ok (.iload_n 3, 1) := by decide +kernel
theorem dL_law_539 : decode cL_law 539 = .ok (.iconst 2, 1) := by decide +kernel
theorem dL_law_540 : decode cL_law 540 = .ok (.iadd, 1) := by decide +kernel
theorem dL_law_541 : decode cL_law 541 = .ok (.iaload, 1) := by decide +kernel
theorem dL_law_542 : decode cL_law 542 = .ok (.invokevirtual 72, 3) := by decide +kernel
theorem dL_law_545 : decode cL_law 545 = .ok (.if_icmp .eq 365, 3) := by decide +kernel
theorem dL_law_548 : decode cL_law 548 = .ok (.iconst 0, 1) := by decide +kernel
theorem dL_law_549 : decode cL_law 549 = .ok (.ireturn, 1) := by decide +kernel
theorem dL_law_550 : decode cL_law 550 = .ok (.aload_n 1, 1) := by decide +kernel
theorem dL_law_551 : decode cL_law 551 = .ok (.aload_n 0, 1) := by decide +kernel
theorem dL_law_552 : decode cL_law 552 = .ok (.iload_n 3, 1) := by decide +kernel
theorem dL_law_553 : decode cL_law 553 = .ok (.iconst 1, 1) := by decide +kernel
theorem dL_law_554 : decode cL_law 554 = .ok (.iadd, 1) := by decide +kernel
theorem dL_law_555 : decode cL_law 555 = .ok (.iaload, 1) := by decide +kernel
theorem dL_law_556 : decode cL_law 556 = .ok (.aload_n 0, 1) := by decide +kernel
theorem dL_law_557 : decode cL_law 557 = .ok (.iload_n 3, 1) := by decide +kernel
theorem dL_law_558 : decode cL_law 558 = .ok (.iconst 2, 1) := by decide +kernel
theorem dL_law_559 : decode cL_law 559 = .ok (.iadd, 1) := by decide +kernel
theorem dL_law_560 : decode cL_law 560 = .ok (.iaload, 1) := by decide +kernel
theorem dL_law_561 : decode cL_law 561 = .ok (.ifCond .eq 7, 3) := by decide +kernel
theorem dL_law_564 : decode cL_law 564 = .ok (.iconst 1, 1) := by decide +kernel
theorem dL_law_565 : decode cL_law 565 = .ok (.goto 4, 3) := by decide +kernel
theorem dL_law_568 : decode cL_law 568 = .ok (.iconst 0, 1) := by decide +kernel
theorem dL_law_569 : decode cL_law 569 = .ok (.aload_n 0, 1) := by decide +kernel
theorem dL_law_570 : decode cL_law 570 = .ok (.iload_n 3, 1) := by decide +kernel
theorem dL_law_571 : decode cL_law 571 = .ok (.iconst 3, 1) := by decide +kernel
theorem dL_law_572 : decode cL_law 572 = .ok (.iadd, 1) := by decide +kernel
theorem dL_law_573 : decode cL_law 573 = .ok (.iaload, 1) := by decide +kernel
theorem dL_law_574 : decode cL_law 574 = .ok (.aload_n 0, 1) := by decide +kernel
theorem dL_law_575 : decode cL_law 575 = .ok (.iload_n 3, 1) := by decide +kernel
theorem dL_law_576 : decode cL_law 576 = .ok (.iconst 4, 1) := by decide +kernel
theorem dL_law_577 : decode cL_law 577 = .ok (.iadd, 1) := by decide +kernel
theorem dL_law_578 : decode cL_law 578 = .ok (.iaload, 1) := by decide +kernel
theorem dL_law_579 : decode cL_law 579 = .ok (.invokevirtual 73, 3) := by decide +kernel
theorem dL_law_582 : decode cL_law 582 = .ok (.aload_n 2, 1) := by decide +kernel
theorem dL_law_583 : decode cL_law 583 = .ok (.aload_n 0, 1) := by decide +kernel
theorem dL_law_584 : decode cL_law 584 = .ok (.iload_n 3, 1) := by decide +kernel
theorem dL_law_585 : decode cL_law 585 = .ok (.iconst 1, 1) := by decide +kernel
theorem dL_law_586 : decode cL_law 586 = .ok (.iadd, 1) := by decide +kernel
theorem dL_law_587 : decode cL_law 587 = .ok (.iaload, 1) := by decide +kernel
theorem dL_law_588 : decode cL_law 588 = .ok (.aload_n 0, 1) := by decide +kernel
theorem dL_law_589 : decode cL_law 589 = .ok (.iload_n 3, 1) := by decide +kernel
theorem dL_law_590 : decode cL_law 590 = .ok (.iconst 2, 1) := by decide +kernel
theorem dL_law_591 : decode cL_law 591 = .ok (.iadd, 1) := by decide +kernel
theorem dL_law_592 : decode cL_law 592 = .ok (.iaload, 1) := by decide +kernel
theorem dL_law_593 : decode cL_law 593 = .ok (.ifCond .eq 7, 3) := by decide +kernel
theorem dL_law_596 : decode cL_law 596 = .ok (.iconst 1, 1) := by decide +kernel
theorem dL_law_597 : decode cL_law 597 = .ok (.goto 4, 3) := by decide +kernel
theorem dL_law_600 : decode cL_law 600 = .ok (.iconst 0, 1) := by decide +kernel
theorem dL_law_601 : decode cL_law 601 = .ok (.aload_n 0, 1) := by decide +kernel
theorem dL_law_602 : decode cL_law 602 = .ok (.iload_n 3, 1) := by decide +kernel
theorem dL_law_603 : decode cL_law 603 = .ok (.iconst 3, 1) := by decide +kernel
theorem dL_law_604 : decode cL_law 604 = .ok (.iadd, 1) := by decide +kernel
theorem dL_law_605 : decode cL_law 605 = .ok (.iaload, 1) := by decide +kernel
theorem dL_law_606 : decode cL_law 606 = .ok (.aload_n 0, 1) := by decide +kernel
theorem dL_law_607 : decode cL_law 607 = .ok (.iload_n 3, 1) := by decide +kernel
theorem dL_law_608 : decode cL_law 608 = .ok (.iconst 4, 1) := by decide +kernel
theorem dL_law_609 : decode cL_law 609 = .ok (.iadd, 1) := by decide +kernel
theorem dL_law_610 : decode cL_law 610 = .ok (.iaload, 1) := by decide +kernel
theorem dL_law_611 : decode cL_law 611 = .ok (.invokevirtual 77, 3) := by decide +kernel
theorem dL_law_614 : decode cL_law 614 = .ok (.if_icmp .eq 296, 3) := by decide +kernel
theorem dL_law_617 : decode cL_law 617 = .ok (.iconst 0, 1) := by decide +kernel
theorem dL_law_618 : decode cL_law 618 = .ok (.ireturn, 1) := by decide +kernel
theorem dL_law_619 : decode cL_law 619 = .ok (.aload_n 1, 1) := by decide +kernel
theorem dL_law_620 : decode cL_law 620 = .ok (.invokevirtual 78, 3) := by decide +kernel
theorem dL_law_623 : decode cL_law 623 = .ok (.aload_n 2, 1) := by decide +kernel
theorem dL_law_624 : decode cL_law 624 = .ok (.invokevirtual 81, 3) := by decide +kernel
theorem dL_law_627 : decode cL_law 627 = .ok (.if_icmp .eq 283, 3) := by decide +kernel
theorem dL_law_630 : decode cL_law 630 = .ok (.iconst 0, 1) := by decide +kernel
theorem dL_law_631 : decode cL_law 631 = .ok (.ireturn, 1) := by decide +kernel
theorem dL_law_632 : decode cL_law 632 = .ok (.aload_n 1, 1) := by decide +kernel
theorem dL_law_633 : decode cL_law 633 = .ok (.aload_n 0, 1) := by decide +kernel
theorem dL_law_634 : decode cL_law 634 = .ok (.iload_n 3, 1) := by decide +kernel
theorem dL_law_635 : decode cL_law 635 = .ok (.iconst 1, 1) := by decide +kernel
theorem dL_law_636 : decode cL_law 636 = .ok (.iadd, 1) := by decide +kernel
theorem dL_law_637 : decode cL_law 637 = .ok (.iaload, 1) := by decide +kernel
theorem dL_law_638 : decode cL_law 638 = .ok (.aload_n 0, 1) := by decide +kernel
theorem dL_law_639 : decode cL_law 639 = .ok (.iload_n 3, 1) := by decide +kernel
theorem dL_law_640 : decode cL_law 640 = .ok (.iconst 2, 1) := by decide +kernel
theorem dL_law_641 : decode cL_law 641 = .ok (.iadd, 1) := by decide +kernel
theorem dL_law_642 : decode cL_law 642 = .ok (.iaload, 1) := by decide +kernel
theorem dL_law_643 : decode cL_law 643 = .ok (.aload_n 0, 1) := by decide +kernel
theorem dL_law_644 : decode cL_law 644 = .ok (.iload_n 3, 1) := by decide +kernel
theorem dL_law_645 : decode cL_law 645 = .ok (.iconst 3, 1) := by decide +kernel
theorem dL_law_646 : decode cL_law 646 = .ok (.iadd, 1) := by decide +kernel
theorem dL_law_647 : decode cL_law 647 = .ok (.iaload, 1) := by decide +kernel
theorem dL_law_648 : decode cL_law 648 = .ok (.invokevirtual 82, 3) := by decide +kernel
theorem dL_law_651 : decode cL_law 651 = .ok (.aload_n 2, 1) := by decide +kernel
theorem dL_law_652 : decode cL_law 652 = .ok (.aload_n 0, 1) := by decide +kernel
theorem dL_law_653 : decode cL_law 653 = .ok (.iload_n 3, 1) := by decide +kernel
theorem dL_law_654 : decode cL_law 654 = .ok (.iconst 1, 1) := by decide +kernel
theorem dL_law_655 : decode cL_law 655 = .ok (.iadd, 1) := by decide +kernel
theorem dL_law_656 : decode cL_law 656 = .ok (.iaload, 1) := by decide +kernel
theorem dL_law_657 : decode cL_law 657 = .ok (.aload_n 0, 1) := by decide +kernel
theorem dL_law_658 : decode cL_law 658 = .ok (.iload_n 3, 1) := by decide +kernel
theorem dL_law_659 : decode cL_law 659 = .ok (.iconst 2, 1) := by decide +kernel
theorem dL_law_660 : decode cL_law 660 = .ok (.iadd, 1) := by decide +kernel
theorem dL_law_661 : decode cL_law 661 = .ok (.iaload, 1) := by decide +kernel
theorem dL_law_662 : decode cL_law 662 = .ok (.aload_n 0, 1) := by decide +kernel
theorem dL_law_663 : decode cL_law 663 = .ok (.iload_n 3, 1) := by decide +kernel
theorem dL_law_664 : decode cL_law 664 = .ok (.iconst 3, 1) := by decide +kernel
theorem dL_law_665 : decode cL_law 665 = .ok (.iadd, 1) := by decide +kernel
theorem dL_law_666 : decode cL_law 666 = .ok (.iaload, 1) := by decide +kernel
theorem dL_law_667 : decode cL_law 667 = .ok (.invokevirtual 86, 3) := by decide +kernel
theorem dL_law_670 : decode cL_law 670 = .ok (.if_icmp .eq 240, 3) := by decide +kernel
theorem dL_law_673 : decode cL_law 673 = .ok (.iconst 0, 1) := by decide +kernel
theorem dL_law_674 : decode cL_law 674 = .ok (.ireturn, 1) := by decide +kernel
theorem dL_law_675 : decode cL_law 675 = .ok (.aload_n 1, 1) := by decide +kernel
theorem dL_law_676 : decode cL_law 676 = .ok (.invokevirtual 87, 3) := by decide +kernel
theorem dL_law_679 : decode cL_law 679 = .ok (.aload_n 2, 1) := by decide +kernel
theorem dL_law_680 : decode cL_law 680 = .ok (.invokevirtual 90, 3) := by decide +kernel
theorem dL_law_683 : decode cL_law 683 = .ok (.if_icmp .eq 227, 3) := by decide +kernel
theorem dL_law_686 : decode cL_law 686 = .ok (.iconst 0, 1) := by decide +kernel
theorem dL_law_687 : decode cL_law 687 = .ok (.ireturn, 1) := by decide +kernel
theorem dL_law_688 : decode cL_law 688 = .ok (.aload_n 1, 1) := by decide +kernel
theorem dL_law_689 : decode cL_law 689 = .ok (.invokevirtual 91, 3) := by decide +kernel
theorem dL_law_692 : decode cL_law 692 = .ok (.aload_n 2, 1) := by decide +kernel
theorem dL_law_693 : decode cL_law 693 = .ok (.invokevirtual 94, 3) := by decide +kernel
theorem dL_law_696 : decode cL_law 696 = .ok (.if_icmp .eq 214, 3) := by decide +kernel
theorem dL_law_699 : decode cL_law 699 = .ok (.iconst 0, 1) := by decide +kernel
theorem dL_law_700 : decode cL_law 700 = .ok (.ireturn, 1) := by decide +kernel
theorem dL_law_701 : decode cL_law 701 = .ok (.aload_n 1, 1) := by decide +kernel
theorem dL_law_702 : decode cL_law 702 = .ok (.aload_n 0, 1) := by decide +kernel
theorem dL_law_703 : decode cL_law 703 = .ok (.iload_n 3, 1) := by decide +kernel
theorem dL_law_704 : decode cL_law 704 = .ok (.iconst 1, 1) := by decide +kernel
theorem dL_law_705 : decode cL_law 705 = .ok (.iadd, 1) := by decide +kernel
theorem dL_law_706 : decode cL_law 706 = .ok (.iaload, 1) := by decide +kernel
theorem dL_law_707 : decode cL_law 707 = .ok (.aload_n 0, 1) := by decide +kernel
theorem dL_law_708 : decode cL_law 708 = .ok (.iload_n 3, 1) := by decide +kernel
theorem dL_law_709 : decode cL_law 709 = .ok (.iconst 2, 1) := by decide +kernel
theorem dL_law_710 : decode cL_law 710 = .ok (.iadd, 1) := by decide +kernel
theorem dL_law_711 : decode cL_law 711 = .ok (.iaload, 1) := by decide +kernel
theorem dL_law_712 : decode cL_law 712 = .ok (.aload_n 0, 1) := by decide +kernel
theorem dL_law_713 : decode cL_law 713 = .ok (.iload_n 3, 1) := by decide +kernel
theorem dL_law_714 : decode cL_law 714 = .ok (.iconst 3, 1) := by decide +kernel
theorem dL_law_715 : decode cL_law 715 = .ok (.iadd, 1) := by decide +kernel
theorem dL_law_716 : decode cL_law 716 = .ok (.iaload, 1) := by decide +kernel
theorem dL_law_717 : decode cL_law 717 = .ok (.invokevirtual 95, 3) := by decide +kernel
theorem dL_law_720 : decode cL_law 720 = .ok (.aload_n 2, 1) := by decide +kernel
theorem dL_law_721 : decode cL_law 721 = .ok (.aload_n 0, 1) := by decide +kernel
theorem dL_law_722 : decode cL_law 722 = .ok (.iload_n 3, 1) := by decide +kernel
theorem dL_law_723 : decode cL_law 723 = .ok (.iconst 1, 1) := by decide +kernel
theorem dL_law_724 : decode cL_law 724 = .ok (.iadd, 1) := by decide +kernel
theorem dL_law_725 : decode cL_law 725 = .ok (.iaload, 1) := by decide +kernel
theorem dL_law_726 : decode cL_law 726 = .ok (.aload_n 0, 1) := by decide +kernel
theorem dL_law_727 : decode cL_law 727 = .ok (.iload_n 3, 1) := by decide +kernel
theorem dL_law_728 : decode cL_law 728 = .ok (.iconst 2, 1) := by decide +kernel
theorem dL_law_729 : decode cL_law 729 = .ok (.iadd, 1) := by decide +kernel
theorem dL_law_730 : decode cL_law 730 = .ok (.iaload, 1) := by decide +kernel
theorem dL_law_731 : decode cL_law 731 = .ok (.aload_n 0, 1) := by decide +kernel
theorem dL_law_732 : decode cL_law 732 = .ok (.iload_n 3, 1) := by decide +kernel
theorem dL_law_733 : decode cL_law 733 = .ok (.iconst 3, 1) := by decide +kernel
theorem dL_law_734 : decode cL_law 734 = .ok (.iadd, 1) := by decide +kernel
theorem dL_law_735 : decode cL_law 735 = .ok (.iaload, 1) := by decide +kernel
theorem dL_law_736 : decode cL_law 736 = .ok (.invokevirtual 98, 3) := by decide +kernel
theorem dL_law_739 : decode cL_law 739 = .ok (.if_icmp .eq 171, 3) := by decide +kernel
theorem dL_law_742 : decode cL_law 742 = .ok (.iconst 0, 1) := by decide +kernel
theorem dL_law_743 : decode cL_law 743 = .ok (.ireturn, 1) := by decide +kernel
theorem dL_law_744 : decode cL_law 744 = .ok (.aload_n 1, 1) := by decide +kernel
theorem dL_law_745 : decode cL_law 745 = .ok (.aload_n 0, 1) := by decide +kernel
theorem dL_law_746 : decode cL_law 746 = .ok (.iload_n 3, 1) := by decide +kernel
theorem dL_law_747 : decode cL_law 747 = .ok (.iconst 1, 1) := by decide +kernel
theorem dL_law_748 : decode cL_law 748 = .ok (.iadd, 1) := by decide +kernel
theorem dL_law_749 : decode cL_law 749 = .ok (.iaload, 1) := by decide +kernel
theorem dL_law_750 : decode cL_law 750 = .ok (.aload_n 0, 1) := by decide +kernel
theorem dL_law_751 : decode cL_law 751 = .ok (.iload_n 3, 1) := by decide +kernel
theorem dL_law_752 : decode cL_law 752 = .ok (.iconst 2, 1) := by decide +kernel
theorem dL_law_753 : decode cL_law 753 = .ok (.iadd, 1) := by decide +kernel
theorem dL_law_754 : decode cL_law 754 = .ok (.iaload, 1) := by decide +kernel
theorem dL_law_755 : decode cL_law 755 = .ok (.aload_n 0, 1) := by decide +kernel
theorem dL_law_756 : decode cL_law 756 = .ok (.iload_n 3, 1) := by decide +kernel
theorem dL_law_757 : decode cL_law 757 = .ok (.iconst 3, 1) := by decide +kernel
theorem dL_law_758 : decode cL_law 758 = .ok (.iadd, 1) := by decide +kernel
theorem dL_law_759 : decode cL_law 759 = .ok (.iaload, 1) := by decide +kernel
theorem dL_law_760 : decode cL_law 760 = .ok (.aload_n 0, 1) := by decide +kernel
theorem dL_law_761 : decode cL_law 761 = .ok (.iload_n 3, 1) := by decide +kernel
theorem dL_law_762 : decode cL_law 762 = .ok (.iconst 4, 1) := by decide +kernel
theorem dL_law_763 : decode cL_law 763 = .ok (.iadd, 1) := by decide +kernel
theorem dL_law_764 : decode cL_law 764 = .ok (.iaload, 1) := by decide +kernel
theorem dL_law_765 : decode cL_law 765 = .ok (.invokevirtual 99, 3) := by decide +kernel
theorem dL_law_768 : decode cL_law 768 = .ok (.aload_n 2, 1) := by decide +kernel
theorem dL_law_769 : decode cL_law 769 = .ok (.aload_n 0, 1) := by decide +kernel
theorem dL_law_770 : decode cL_law 770 = .ok (.iload_n 3, 1) := by decide +kernel
theorem dL_law_771 : decode cL_law 771 = .ok (.iconst 1, 1) := by decide +kernel
theorem dL_law_772 : decode cL_law 772 = .ok (.iadd, 1) := by decide +kernel
theorem dL_law_773 : decode cL_law 773 = .ok (.iaload, 1) := by decide +kernel
theorem dL_law_774 : decode cL_law 774 = .ok (.aload_n 0, 1) := by decide +kernel
theorem dL_law_775 : decode cL_law 775 = .ok (.iload_n 3, 1) := by decide +kernel
theorem dL_law_776 : decode cL_law 776 = .ok (.iconst 2, 1) := by decide +kernel
theorem dL_law_777 : decode cL_law 777 = .ok (.iadd, 1) := by decide +kernel
theorem dL_law_778 : decode cL_law 778 = .ok (.iaload, 1) := by decide +kernel
theorem dL_law_779 : decode cL_law 779 = .ok (.aload_n 0, 1) := by decide +kernel
theorem dL_law_780 : decode cL_law 780 = .ok (.iload_n 3, 1) := by decide +kernel
theorem dL_law_781 : decode cL_law 781 = .ok (.iconst 3, 1) := by decide +kernel
theorem dL_law_782 : decode cL_law 782 = .ok (.iadd, 1) := by decide +kernel
theorem dL_law_783 : decode cL_law 783 = .ok (.iaload, 1) := by decide +kernel
theorem dL_law_784 : decode cL_law 784 = .ok (.aload_n 0, 1) := by decide +kernel
theorem dL_law_785 : decode cL_law 785 = .ok (.iload_n 3, 1) := by decide +kernel
theorem dL_law_786 : decode cL_law 786 = .ok (.iconst 4, 1) := by decide +kernel
theorem dL_law_787 : decode cL_law 787 = .ok (.iadd, 1) := by decide +kernel
theorem dL_law_788 : decode cL_law 788 = .ok (.iaload, 1) := by decide +kernel
theorem dL_law_789 : decode cL_law 789 = .ok (.invokevirtual 102, 3) := by decide +kernel
theorem dL_law_792 : decode cL_law 792 = .ok (.if_icmp .eq 118, 3) := by decide +kernel
theorem dL_law_795 : decode cL_law 795 = .ok (.iconst 0, 1) := by decide +kernel
theorem dL_law_796 : decode cL_law 796 = .ok (.ireturn, 1) := by decide +kernel
theorem dL_law_797 : decode cL_law 797 = .ok (.aload_n 1, 1) := by decide +kernel
theorem dL_law_798 : decode cL_law 798 = .ok (.aload_n 0, 1) := by decide +kernel
theorem dL_law_799 : decode cL_law 799 = .ok (.iload_n 3, 1) := by decide +kernel
theorem dL_law_800 : decode cL_law 800 = .ok (.iconst 1, 1) := by decide +kernel
theorem dL_law_801 : decode cL_law 801 = .ok (.iadd, 1) := by decide +kernel
theorem dL_law_802 : decode cL_law 802 = .ok (.iaload, 1) := by decide +kernel
theorem dL_law_803 : decode cL_law 803 = .ok (.aload_n 0, 1) := by decide +kernel
theorem dL_law_804 : decode cL_law 804 = .ok (.iload_n 3, 1) := by decide +kernel
theorem dL_law_805 : decode cL_law 805 = .ok (.iconst 2, 1) := by decide +kernel
theorem dL_law_806 : decode cL_law 806 = .ok (.iadd, 1) := by decide +kernel
theorem dL_law_807 : decode cL_law 807 = .ok (.iaload, 1) := by decide +kernel
theorem dL_law_808 : decode cL_law 808 = .ok (.aload_n 0, 1) := by decide +kernel
theorem dL_law_809 : decode cL_law 809 = .ok (.iload_n 3, 1) := by decide +kernel
theorem dL_law_810 : decode cL_law 810 = .ok (.iconst 3, 1) := by decide +kernel
theorem dL_law_811 : decode cL_law 811 = .ok (.iadd, 1) := by decide +kernel
theorem dL_law_812 : decode cL_law 812 = .ok (.iaload, 1) := by decide +kernel
theorem dL_law_813 : decode cL_law 813 = .ok (.aload_n 0, 1) := by decide +kernel
theorem dL_law_814 : decode cL_law 814 = .ok (.iload_n 3, 1) := by decide +kernel
theorem dL_law_815 : decode cL_law 815 = .ok (.iconst 4, 1) := by decide +kernel
theorem dL_law_816 : decode cL_law 816 = .ok (.iadd, 1) := by decide +kernel
theorem dL_law_817 : decode cL_law 817 = .ok (.iaload, 1) := by decide +kernel
theorem dL_law_818 : decode cL_law 818 = .ok (.invokevirtual 103, 3) := by decide +kernel
theorem dL_law_821 : decode cL_law 821 = .ok (.aload_n 2, 1) := by decide +kernel
theorem dL_law_822 : decode cL_law 822 = .ok (.aload_n 0, 1) := by decide +kernel
theorem dL_law_823 : decode cL_law 823 = .ok (.iload_n 3, 1) := by decide +kernel
theorem dL_law_824 : decode cL_law 824 = .ok (.iconst 1, 1) := by decide +kernel
theorem dL_law_825 : decode cL_law 825 = .ok (.iadd, 1) := by decide +kernel
theorem dL_law_826 : decode cL_law 826 = .ok (.iaload, 1) := by decide +kernel
theorem dL_law_827 : decode cL_law 827 = .ok (.aload_n 0, 1) := by decide +kernel
theorem dL_law_828 : decode cL_law 828 = .ok (.iload_n 3, 1) := by decide +kernel
theorem dL_law_829 : decode cL_law 829 = .ok (.iconst 2, 1) := by decide +kernel
theorem dL_law_830 : decode cL_law 830 = .ok (.iadd, 1) := by decide +kernel
theorem dL_law_831 : decode cL_law 831 = .ok (.iaload, 1) := by decide +kernel
theorem dL_law_832 : decode cL_law 832 = .ok (.aload_n 0, 1) := by decide +kernel
theorem dL_law_833 : decode cL_law 833 = .ok (.iload_n 3, 1) := by decide +kernel
theorem dL_law_834 : decode cL_law 834 = .ok (.iconst 3, 1) := by decide +kernel
theorem dL_law_835 : decode cL_law 835 = .ok (.iadd, 1) := by decide +kernel
theorem dL_law_836 : decode cL_law 836 = .ok (.iaload, 1) := by decide +kernel
theorem dL_law_837 : decode cL_law 837 = .ok (.aload_n 0, 1) := by decide +kernel
theorem dL_law_838 : decode cL_law 838 = .ok (.iload_n 3, 1) := by decide +kernel
theorem dL_law_839 : decode cL_law 839 = .ok (.iconst 4, 1) := by decide +kernel
theorem dL_law_840 : decode cL_law 840 = .ok (.iadd, 1) := by decide +kernel
theorem dL_law_841 : decode cL_law 841 = .ok (.iaload, 1) := by decide +kernel
theorem dL_law_842 : decode cL_law 842 = .ok (.invokevirtual 106, 3) := by decide +kernel
theorem dL_law_845 : decode cL_law 845 = .ok (.if_icmp .eq 65, 3) := by decide +kernel
theorem dL_law_848 : decode cL_law 848 = .ok (.iconst 0, 1) := by decide +kernel
theorem dL_law_849 : decode cL_law 849 = .ok (.ireturn, 1) := by decide +kernel
theorem dL_law_850 : decode cL_law 850 = .ok (.aload_n 1, 1) := by decide +kernel
theorem dL_law_851 : decode cL_law 851 = .ok (.aload_n 0, 1) := by decide +kernel
theorem dL_law_852 : decode cL_law 852 = .ok (.iload_n 3, 1) := by decide +kernel
theorem dL_law_853 : decode cL_law 853 = .ok (.iconst 1, 1) := by decide +kernel
theorem dL_law_854 : decode cL_law 854 = .ok (.iadd, 1) := by decide +kernel
theorem dL_law_855 : decode cL_law 855 = .ok (.iaload, 1) := by decide +kernel
theorem dL_law_856 : decode cL_law 856 = .ok (.invokevirtual 107, 3) := by decide +kernel
theorem dL_law_859 : decode cL_law 859 = .ok (.aload_n 2, 1) := by decide +kernel
theorem dL_law_860 : decode cL_law 860 = .ok (.aload_n 0, 1) := by decide +kernel
theorem dL_law_861 : decode cL_law 861 = .ok (.iload_n 3, 1) := by decide +kernel
theorem dL_law_862 : decode cL_law 862 = .ok (.iconst 1, 1) := by decide +kernel
theorem dL_law_863 : decode cL_law 863 = .ok (.iadd, 1) := by decide +kernel
theorem dL_law_864 : decode cL_law 864 = .ok (.iaload, 1) := by decide +kernel
theorem dL_law_865 : decode cL_law 865 = .ok (.invokevirtual 110, 3) := by decide +kernel
theorem dL_law_868 : decode cL_law 868 = .ok (.if_icmp .eq 42, 3) := by decide +kernel
theorem dL_law_871 : decode cL_law 871 = .ok (.iconst 0, 1) := by decide +kernel
theorem dL_law_872 : decode cL_law 872 = .ok (.ireturn, 1) := by decide +kernel
theorem dL_law_873 : decode cL_law 873 = .ok (.aload_n 1, 1) := by decide +kernel
theorem dL_law_874 : decode cL_law 874 = .ok (.aload_n 0, 1) := by decide +kernel
theorem dL_law_875 : decode cL_law 875 = .ok (.iload_n 3, 1) := by decide +kernel
theorem dL_law_876 : decode cL_law 876 = .ok (.iconst 1, 1) := by decide +kernel
theorem dL_law_877 : decode cL_law 877 = .ok (.iadd, 1) := by decide +kernel
theorem dL_law_878 : decode cL_law 878 = .ok (.iaload, 1) := by decide +kernel
theorem dL_law_879 : decode cL_law 879 = .ok (.invokevirtual 111, 3) := by decide +kernel
theorem dL_law_882 : decode cL_law 882 = .ok (.aload_n 2, 1) := by decide +kernel
theorem dL_law_883 : decode cL_law 883 = .ok (.aload_n 0, 1) := by decide +kernel
theorem dL_law_884 : decode cL_law 884 = .ok (.iload_n 3, 1) := by decide +kernel
theorem dL_law_885 : decode cL_law 885 = .ok (.iconst 1, 1) := by decide +kernel
theorem dL_law_886 : decode cL_law 886 = .ok (.iadd, 1) := by decide +kernel
theorem dL_law_887 : decode cL_law 887 = .ok (.iaload, 1) := by decide +kernel
theorem dL_law_888 : decode cL_law 888 = .ok (.invokevirtual 114, 3) := by decide +kernel
theorem dL_law_891 : decode cL_law 891 = .ok (.if_icmp .eq 19, 3) := by decide +kernel
theorem dL_law_894 : decode cL_law 894 = .ok (.iconst 0, 1) := by decide +kernel
theorem dL_law_895 : decode cL_law 895 = .ok (.ireturn, 1) := by decide +kernel
theorem dL_law_896 : decode cL_law 896 = .ok (.aload_n 1, 1) := by decide +kernel
theorem dL_law_897 : decode cL_law 897 = .ok (.invokevirtual 115, 3) := by decide +kernel
theorem dL_law_900 : decode cL_law 900 = .ok (.aload_n 2, 1) := by decide +kernel
theorem dL_law_901 : decode cL_law 901 = .ok (.invokevirtual 119, 3) := by decide +kernel
theorem dL_law_904 : decode cL_law 904 = .ok (.lcmp, 1) := by decide +kernel
theorem dL_law_905 : decode cL_law 905 = .ok (.ifCond .eq 5, 3) := by decide +kernel
theorem dL_law_908 : decode cL_law 908 = .ok (.iconst 0, 1) := by decide +kernel
theorem dL_law_909 : decode cL_law 909 = .ok (.ireturn, 1) := by decide +kernel
theorem dL_law_910 : decode cL_law 910 = .ok (.iinc 3 5, 3) := by decide +kernel
theorem dL_law_913 : decode cL_law 913 = .ok (.goto (-895), 3) := by decide +kernel
theorem dL_law_916 : decode cL_law 916 = .ok (.iconst 1, 1) := by decide +kernel
theorem dL_law_917 : decode cL_law 917 = .ok (.ireturn, 1) := by decide +kernel
