theorem dX0_init_0 : decode cX0_init 0 = .ok (.aload_n 0, 1) := by decide +kernel
theorem dX0_init_1 : decode cX0_init 1 = .ok (.invokespecial 3, 3) := by decide +kernel
theorem dX0_init_4 : decode cX0_init 4 = .ok (.aload_n 0, 1) := by decide +kernel
theorem dX0_init_5 : decode cX0_init 5 = .ok (.new 9, 3) := by decide +kernel
theorem dX0_init_8 : decode cX0_init 8 = .ok (.dup, 1) := by decide +kernel
theorem dX0_init_9 : decode cX0_init 9 = .ok (.sipush 400, 3) := by decide +kernel
theorem dX0_init_12 : decode cX0_init 12 = .ok (.bipush 7, 2) := by decide +kernel
theorem dX0_init_14 : decode cX0_init 14 = .ok (.invokespecial 11, 3) := by decide +kernel
theorem dX0_init_17 : decode cX0_init 17 = .ok (.putfield 14, 3) := by decide +kernel
theorem dX0_init_20 : decode cX0_init 20 = .ok (.aload_n 0, 1) := by decide +kernel
theorem dX0_init_21 : decode cX0_init 21 = .ok (.iconst 0, 1) := by decide +kernel
theorem dX0_init_22 : decode cX0_init 22 = .ok (.putfield 20, 3) := by decide +kernel
theorem dX0_init_25 : decode cX0_init 25 = .ok (.return_, 1) := by decide +kernel
theorem dX0_size_0 : decode cX0_size 0 = .ok (.aload_n 0, 1) := by decide +kernel
theorem dX0_size_1 : decode cX0_size 1 = .ok (.getfield 14, 3) := by decide +kernel
theorem dX0_size_4 : decode cX0_size 4 = .ok (.getfield 24, 3) := by decide +kernel
theorem dX0_size_7 : decode cX0_size 7 = .ok (.aload_n 0, 1) := by decide +kernel
theorem dX0_size_8 : decode cX0_size 8 = .ok (.getfield 20, 3) := by decide +kernel
theorem dX0_size_11 : decode cX0_size 11 = .ok (.isub, 1) := by decide +kernel
theorem dX0_size_12 : decode cX0_size 12 = .ok (.ireturn, 1) := by decide +kernel
theorem dX0_lay_0 : decode cX0_lay 0 = .ok (.aload_n 0, 1) := by decide +kernel
theorem dX0_lay_1 : decode cX0_lay 1 = .ok (.getfield 14, 3) := by decide +kernel
theorem dX0_lay_4 : decode cX0_lay 4 = .ok (.invokevirtual 27, 3) := by decide +kernel
theorem dX0_lay_7 : decode cX0_lay 7 = .ok (.istore 5, 2) := by decide +kernel
theorem dX0_lay_9 : decode cX0_lay 9 = .ok (.aload_n 0, 1) := by decide +kernel
theorem dX0_lay_10 : decode cX0_lay 10 = .ok (.getfield 14, 3) := by decide +kernel
theorem dX0_lay_13 : decode cX0_lay 13 = .ok (.iload 5, 2) := by decide +kernel
theorem dX0_lay_15 : decode cX0_lay 15 = .ok (.iconst 0, 1) := by decide +kernel
theorem dX0_lay_16 : decode cX0_lay 16 = .ok (.iconst 0, 1) := by decide +kernel
theorem dX0_lay_17 : decode cX0_lay 17 = .ok (.invokevirtual 31, 3) := by decide +kernel
theorem dX0_lay_20 : decode cX0_lay 20 = .ok (.aload_n 0, 1) := by decide +kernel
theorem dX0_lay_21 : decode cX0_lay 21 = .ok (.getfield 14, 3) := by decide +kernel
theorem dX0_lay_24 : decode cX0_lay 24 = .ok (.iload 5, 2) := by decide +kernel
theorem dX0_lay_26 : decode cX0_lay 26 = .ok (.iconst 1, 1) := by decide +kernel
theorem dX0_lay_27 : decode cX0_lay 27 = .ok (.iload_n 1, 1) := by decide +kernel
theorem dX0_lay_28 : decode cX0_lay 28 = .ok (.invokevirtual 31, 3) := by decide +kernel
theorem dX0_lay_31 : decode cX0_lay 31 = .ok (.aload_n 0, 1) := by decide +kernel
theorem dX0_lay_32 : decode cX0_lay 32 = .ok (.getfield 14, 3) := by decide +kernel
theorem dX0_lay_35 : decode cX0_lay 35 = .ok (.iload 5, 2) := by decide +kernel
theorem dX0_lay_37 : decode cX0_lay 37 = .ok (.iconst 2, 1) := by decide +kernel
theorem dX0_lay_38 : decode cX0_lay 38 = .ok (.iload_n 3, 1) := by decide +kernel
theorem dX0_lay_39 : decode cX0_lay 39 = .ok (.invokevirtual 31, 3) := by decide +kernel
theorem dX0_lay_42 : decode cX0_lay 42 = .ok (.aload_n 0, 1) := by decide +kernel
theorem dX0_lay_43 : decode cX0_lay 43 = .ok (.getfield 14, 3) := by decide +kernel
theorem dX0_lay_46 : decode cX0_lay 46 = .ok (.iload 5, 2) := by decide +kernel
theorem dX0_lay_48 : decode cX0_lay 48 = .ok (.iconst 3, 1) := by decide +kernel
theorem dX0_lay_49 : decode cX0_lay 49 = .ok (.iload 4, 2) := by decide +kernel
theorem dX0_lay_51 : decode cX0_lay 51 = .ok (.invokevirtual 31, 3) := by decide +kernel
theorem dX0_lay_54 : decode cX0_lay 54 = .ok (.aload_n 0, 1) := by decide +kernel
theorem dX0_lay_55 : decode cX0_lay 55 = .ok (.getfield 14, 3) := by decide +kernel
theorem dX0_lay_58 : decode cX0_lay 58 = .ok (.iload 5, 2) := by decide +kernel
theorem dX0_lay_60 : decode cX0_lay 60 = .ok (.iconst 4, 1) := by decide +kernel
theorem dX0_lay_61 : decode cX0_lay 61 = .ok (.iload_n 2, 1) := by decide +kernel
theorem dX0_lay_62 : decode cX0_lay 62 = .ok (.invokevirtual 31, 3) := by decide +kernel
theorem dX0_lay_65 : decode cX0_lay 65 = .ok (.aload_n 0, 1) := by decide +kernel
theorem dX0_lay_66 : decode cX0_lay 66 = .ok (.getfield 14, 3) := by decide +kernel
theorem dX0_lay_69 : decode cX0_lay 69 = .ok (.iload 5, 2) := by decide +kernel
theorem dX0_lay_71 : decode cX0_lay 71 = .ok (.iconst 5, 1) := by decide +kernel
theorem dX0_lay_72 : decode cX0_lay 72 = .ok (.iconst (-1), 1) := by decide +kernel
theorem dX0_lay_73 : decode cX0_lay 73 = .ok (.invokevirtual 31, 3) := by decide +kernel
theorem dX0_lay_76 : decode cX0_lay 76 = .ok (.aload_n 0, 1) := by decide +kernel
theorem dX0_lay_77 : decode cX0_lay 77 = .ok (.getfield 14, 3) := by decide +kernel
theorem dX0_lay_80 : decode cX0_lay 80 = .ok (.iload 5, 2) := by decide +kernel
theorem dX0_lay_82 : decode cX0_lay 82 = .ok (.bipush 6, 2) := by decide +kernel
theorem dX0_lay_84 : decode cX0_lay 84 = .ok (.iconst 0, 1) := by decide +kernel
theorem dX0_lay_85 : decode cX0_lay 85 = .ok (.invokevirtual 31, 3) := by decide +kernel
theorem dX0_lay_88 : decode cX0_lay 88 = .ok (.iload 5, 2) := by decide +kernel
theorem dX0_lay_90 : decode cX0_lay 90 = .ok (.ireturn, 1) := by decide +kernel
theorem dX0_coalDownFrom_0 : decode cX0_coalDownFrom 0 = .ok (.iconst 0, 1) := by decide +kernel
theorem dX0_coalDownFrom_1 : decode cX0_coalDownFrom 1 = .ok (.istore_n 2, 1) := by decide +kernel
theorem dX0_coalDownFrom_2 : decode cX0_coalDownFrom 2 = .ok (.aload_n 0, 1) := by decide +kernel
theorem dX0_coalDownFrom_3 : decode cX0_coalDownFrom 3 = .ok (.getfield 20, 3) := by decide +kernel
theorem dX0_coalDownFrom_6 : decode cX0_coalDownFrom 6 = .ok (.istore_n 3, 1) := by decide +kernel
theorem dX0_coalDownFrom_7 : decode cX0_coalDownFrom 7 = .ok (.iload_n 3, 1) := by decide +kernel
theorem dX0_coalDownFrom_8 : decode cX0_coalDownFrom 8 = .ok (.iload_n 1, 1) := by decide +kernel
theorem dX0_coalDownFrom_9 : decode cX0_coalDownFrom 9 = .ok (.if_icmp .gt 32, 3) := by decide +kernel
theorem dX0_coalDownFrom_12 : decode cX0_coalDownFrom 12 = .ok (.iload_n 3, 1) := by decide +kernel
theorem dX0_coalDownFrom_13 : decode cX0_coalDownFrom 13 = .ok (.aload_n 0, 1) := by decide +kernel
theorem dX0_coalDownFrom_14 : decode cX0_coalDownFrom 14 = .ok (.getfield 14, 3) := by decide +kernel
theorem dX0_coalDownFrom_17 : decode cX0_coalDownFrom 17 = .ok (.getfield 24, 3) := by decide +kernel
theorem dX0_coalDownFrom_20 : decode cX0_coalDownFrom 20 = .ok (.if_icmp .ge 21, 3) := by decide +kernel
theorem dX0_coalDownFrom_23 : decode cX0_coalDownFrom 23 = .ok (.iload_n 2, 1) := by decide +kernel
theorem dX0_coalDownFrom_24 : decode cX0_coalDownFrom 24 = .ok (.aload_n 0, 1) := by decide +kernel
theorem dX0_coalDownFrom_25 : decode cX0_coalDownFrom 25 = .ok (.getfield 14, 3) := by decide +kernel
theorem dX0_coalDownFrom_28 : decode cX0_coalDownFrom 28 = .ok (.iload_n 3, 1) := by decide +kernel
theorem dX0_coalDownFrom_29 : decode cX0_coalDownFrom 29 = .ok (.iconst 1, 1) := by decide +kernel
theorem dX0_coalDownFrom_30 : decode cX0_coalDownFrom 30 = .ok (.invokevirtual 35, 3) := by decide +kernel
theorem dX0_coalDownFrom_33 : decode cX0_coalDownFrom 33 = .ok (.iadd, 1) := by decide +kernel
theorem dX0_coalDownFrom_34 : decode cX0_coalDownFrom 34 = .ok (.istore_n 2, 1) := by decide +kernel
theorem dX0_coalDownFrom_35 : decode cX0_coalDownFrom 35 = .ok (.iinc 3 1, 3) := by decide +kernel
theorem dX0_coalDownFrom_38 : decode cX0_coalDownFrom 38 = .ok (.goto (-31), 3) := by decide +kernel
theorem dX0_coalDownFrom_41 : decode cX0_coalDownFrom 41 = .ok (.iload_n 2, 1) := by decide +kernel
theorem dX0_coalDownFrom_42 : decode cX0_coalDownFrom 42 = .ok (.ireturn, 1) := by decide +kernel
theorem dX0_burn_0 : decode cX0_burn 0 = .ok (.iload_n 1, 1) := by decide +kernel
theorem dX0_burn_1 : decode cX0_burn 1 = .ok (.istore_n 2, 1) := by decide +kernel
theorem dX0_burn_2 : decode cX0_burn 2 = .ok (.aload_n 0, 1) := by decide +kernel
theorem dX0_burn_3 : decode cX0_burn 3 = .ok (.getfield 20, 3) := by decide +kernel
theorem dX0_burn_6 : decode cX0_burn 6 = .ok (.istore_n 3, 1) := by decide +kernel
theorem dX0_burn_7 : decode cX0_burn 7 = .ok (.iload_n 3, 1) := by decide +kernel
theorem dX0_burn_8 : decode cX0_burn 8 = .ok (.aload_n 0, 1) := by decide +kernel
theorem dX0_burn_9 : decode cX0_burn 9 = .ok (.getfield 14, 3) := by decide +kernel
theorem dX0_burn_12 : decode cX0_burn 12 = .ok (.getfield 24, 3) := by decide +kernel
theorem dX0_burn_15 : decode cX0_burn 15 = .ok (.if_icmp .ge 51, 3) := by decide +kernel
theorem dX0_burn_18 : decode cX0_burn 18 = .ok (.iload_n 2, 1) := by decide +kernel
theorem dX0_burn_19 : decode cX0_burn 19 = .ok (.ifCond .le 47, 3) := by decide +kernel
theorem dX0_burn_22 : decode cX0_burn 22 = .ok (.aload_n 0, 1) := by decide +kernel
theorem dX0_burn_23 : decode cX0_burn 23 = .ok (.getfield 14, 3) := by decide +kernel
theorem dX0_burn_26 : decode cX0_burn 26 = .ok (.iload_n 3, 1) := by decide +kernel
theorem dX0_burn_27 : decode cX0_burn 27 = .ok (.iconst 1, 1) := by decide +kernel
theorem dX0_burn_28 : decode cX0_burn 28 = .ok (.invokevirtual 35, 3) := by decide +kernel
theorem dX0_burn_31 : decode cX0_burn 31 = .ok (.istore 4, 2) := by decide +kernel
theorem dX0_burn_33 : decode cX0_burn 33 = .ok (.iload 4, 2) := by decide +kernel
theorem dX0_burn_35 : decode cX0_burn 35 = .ok (.iload_n 2, 1) := by decide +kernel
theorem dX0_burn_36 : decode cX0_burn 36 = .ok (.invokestatic 39, 3) := by decide +kernel
theorem dX0_burn_39 : decode cX0_burn 39 = .ok (.istore 5, 2) := by decide +kernel
theorem dX0_burn_41 : decode cX0_burn 41 = .ok (.aload_n 0, 1) := by decide +kernel
theorem dX0_burn_42 : decode cX0_burn 42 = .ok (.getfield 14, 3) := by decide +kernel
theorem dX0_burn_45 : decode cX0_burn 45 = .ok (.iload_n 3, 1) := by decide +kernel
theorem dX0_burn_46 : decode cX0_burn 46 = .ok (.iconst 1, 1) := by decide +kernel
theorem dX0_burn_47 : decode cX0_burn 47 = .ok (.iload 4, 2) := by decide +kernel
theorem dX0_burn_49 : decode cX0_burn 49 = .ok (.iload 5, 2) := by decide +kernel
theorem dX0_burn_51 : decode cX0_burn 51 = .ok (.isub, 1) := by decide +kernel
theorem dX0_burn_52 : decode cX0_burn 52 = .ok (.invokevirtual 31, 3) := by decide +kernel
theorem dX0_burn_55 : decode cX0_burn 55 = .ok (.iload_n 2, 1) := by decide +kernel
theorem dX0_burn_56 : decode cX0_burn 56 = .ok (.iload 5, 2) := by decide +kernel
theorem dX0_burn_58 : decode cX0_burn 58 = .ok (.isub, 1) := by decide +kernel
theorem dX0_burn_59 : decode cX0_burn 59 = .ok (.istore_n 2, 1) := by decide +kernel
theorem dX0_burn_60 : decode cX0_burn 60 = .ok (.iinc 3 1, 3) := by decide +kernel
theorem dX0_burn_63 : decode cX0_burn 63 = .ok (.goto (-56), 3) := by decide +kernel
theorem dX0_burn_66 : decode cX0_burn 66 = .ok (.iload_n 1, 1) := by decide +kernel
theorem dX0_burn_67 : decode cX0_burn 67 = .ok (.iload_n 2, 1) := by decide +kernel
theorem dX0_burn_68 : decode cX0_burn 68 = .ok (.isub, 1) := by decide +kernel
theorem dX0_burn_69 : decode cX0_burn 69 = .ok (.ireturn, 1) := by decide +kernel
theorem dX0_lowestIsBurned_0 : decode cX0_lowestIsBurned 0 = .ok (.aload_n 0, 1) := by decide +kernel
theorem dX0_lowestIsBurned_1 : decode cX0_lowestIsBurned 1 = .ok (.getfield 20, 3) := by decide +kernel
theorem dX0_lowestIsBurned_4 : decode cX0_lowestIsBurned 4 = .ok (.aload_n 0, 1) := by decide +kernel
theorem dX0_lowestIsBurned_5 : decode cX0_lowestIsBurned 5 = .ok (.getfield 14, 3) := by decide +kernel
theorem dX0_lowestIsBurned_8 : decode cX0_lowestIsBurned 8 = .ok (.getfield 24, 3) := by decide +kernel
theorem dX0_lowestIsBurned_11 : decode cX0_lowestIsBurned 11 = .ok (.if_icmp .ge 22, 3) := by decide +kernel
theorem dX0_lowestIsBurned_14 : decode cX0_lowestIsBurned 14 = .ok (.aload_n 0, 1) := by decide +kernel
theorem dX0_lowestIsBurned_15 : decode cX0_lowestIsBurned 15 = .ok (.getfield 14, 3) := by decide +kernel
theorem dX0_lowestIsBurned_18 : decode cX0_lowestIsBurned 18 = .ok (.aload_n 0, 1) := by decide +kernel
theorem dX0_lowestIsBurned_19 : decode cX0_lowestIsBurned 19 = .ok (.getfield 20, 3) := by decide +kernel
theorem dX0_lowestIsBurned_22 : decode cX0_lowestIsBurned 22 = .ok (.iconst 1, 1) := by decide +kernel
theorem dX0_lowestIsBurned_23 : decode cX0_lowestIsBurned 23 = .ok (.invokevirtual 35, 3) := by decide +kernel
theorem dX0_lowestIsBurned_26 : decode cX0_lowestIsBurned 26 = .ok (.ifCond .ne 7, 3) := by decide +kernel
theorem dX0_lowestIsBurned_29 : decode cX0_lowestIsBurned 29 = .ok (.iconst 1, 1) := by decide +kernel
theorem dX0_lowestIsBurned_30 : decode cX0_lowestIsBurned 30 = .ok (.goto 4, 3) := by decide +kernel
theorem dX0_lowestIsBurned_33 : decode cX0_lowestIsBurned 33 = .ok (.iconst 0, 1) := by decide +kernel
theorem dX0_lowestIsBurned_34 : decode cX0_lowestIsBurned 34 = .ok (.ireturn, 1) := by decide +kernel
theorem dX1_init_0 : decode cX1_init 0 = .ok (.aload_n 0, 1) := by decide +kernel
theorem dX1_init_1 : decode cX1_init 1 = .ok (.invokespecial 3, 3) := by decide +kernel
theorem dX1_init_4 : decode cX1_init 4 = .ok (.aload_n 0, 1) := by decide +kernel
theorem dX1_init_5 : decode cX1_init 5 = .ok (.iconst 0, 1) := by decide +kernel
theorem dX1_init_6 : decode cX1_init 6 = .ok (.putfield 9, 3) := by decide +kernel
theorem dX1_init_9 : decode cX1_init 9 = .ok (.aload_n 0, 1) := by decide +kernel
theorem dX1_init_10 : decode cX1_init 10 = .ok (.iconst 0, 1) := by decide +kernel
theorem dX1_init_11 : decode cX1_init 11 = .ok (.putfield 15, 3) := by decide +kernel
theorem dX1_init_14 : decode cX1_init 14 = .ok (.aload_n 0, 1) := by decide +kernel
theorem dX1_init_15 : decode cX1_init 15 = .ok (.iconst 0, 1) := by decide +kernel
theorem dX1_init_16 : decode cX1_init 16 = .ok (.putfield 18, 3) := by decide +kernel
theorem dX1_init_19 : decode cX1_init 19 = .ok (.aload_n 0, 1) := by decide +kernel
theorem dX1_init_20 : decode cX1_init 20 = .ok (.iconst 0, 1) := by decide +kernel
theorem dX1_init_21 : decode cX1_init 21 = .ok (.putfield 21, 3) := by decide +kernel
theorem dX1_init_24 : decode cX1_init 24 = .ok (.aload_n 0, 1) := by decide +kernel
theorem dX1_init_25 : decode cX1_init 25 = .ok (.iconst 0, 1) := by decide +kernel
theorem dX1_init_26 : decode cX1_init 26 = .ok (.putfield 24, 3) := by decide +kernel
theorem dX1_init_29 : decode cX1_init 29 = .ok (.aload_n 0, 1) := by decide +kernel
theorem dX1_init_30 : decode cX1_init 30 = .ok (.sipush 1000, 3) := by decide +kernel
theorem dX1_init_33 : decode cX1_init 33 = .ok (.putfield 27, 3) := by decide +kernel
theorem dX1_init_36 : decode cX1_init 36 = .ok (.aload_n 0, 1) := by decide +kernel
theorem dX1_init_37 : decode cX1_init 37 = .ok (.iconst 0, 1) := by decide +kernel
theorem dX1_init_38 : decode cX1_init 38 = .ok (.putfield 30, 3) := by decide +kernel
theorem dX1_init_41 : decode cX1_init 41 = .ok (.aload_n 0, 1) := by decide +kernel
theorem dX1_init_42 : decode cX1_init 42 = .ok (.iconst 0, 1) := by decide +kernel
theorem dX1_init_43 : decode cX1_init 43 = .ok (.putfield 33, 3) := by decide +kernel
theorem dX1_init_46 : decode cX1_init 46 = .ok (.aload_n 0, 1) := by decide +kernel
theorem dX1_init_47 : decode cX1_init 47 = .ok (.iconst 0, 1) := by decide +kernel
theorem dX1_init_48 : decode cX1_init 48 = .ok (.putfield 36, 3) := by decide +kernel
theorem dX1_init_51 : decode cX1_init 51 = .ok (.aload_n 0, 1) := by decide +kernel
theorem dX1_init_52 : decode cX1_init 52 = .ok (.iconst 0, 1) := by decide +kernel
theorem dX1_init_53 : decode cX1_init 53 = .ok (.putfield 39, 3) := by decide +kernel
theorem dX1_init_56 : decode cX1_init 56 = .ok (.return_, 1) := by decide +kernel
theorem dX1_blow_0 : decode cX1_blow 0 = .ok (.aload_n 0, 1) := by decide +kernel
theorem dX1_blow_1 : decode cX1_blow 1 = .ok (.iconst 0, 1) := by decide +kernel
theorem dX1_blow_2 : decode cX1_blow 2 = .ok (.putfield 21, 3) := by decide +kernel
theorem dX1_blow_5 : decode cX1_blow 5 = .ok (.aload_n 1, 1) := by decide +kernel
theorem dX1_blow_6 : decode cX1_blow 6 = .ok (.aload_n 0, 1) := by decide +kernel
theorem dX1_blow_7 : decode cX1_blow 7 = .ok (.getfield 9, 3) := by decide +kernel
theorem dX1_blow_10 : decode cX1_blow 10 = .ok (.invokevirtual 43, 3) := by decide +kernel
theorem dX1_blow_13 : decode cX1_blow 13 = .ok (.istore 4, 2) := by decide +kernel
theorem dX1_blow_15 : decode cX1_blow 15 = .ok (.aload_n 0, 1) := by decide +kernel
theorem dX1_blow_16 : decode cX1_blow 16 = .ok (.dup, 1) := by decide +kernel
theorem dX1_blow_17 : decode cX1_blow 17 = .ok (.getfield 33, 3) := by decide +kernel
theorem dX1_blow_20 : decode cX1_blow 20 = .ok (.iload 4, 2) := by decide +kernel
theorem dX1_blow_22 : decode cX1_blow 22 = .ok (.iadd, 1) := by decide +kernel
theorem dX1_blow_23 : decode cX1_blow 23 = .ok (.putfield 33, 3) := by decide +kernel
theorem dX1_blow_26 : decode cX1_blow 26 = .ok (.iconst 0, 1) := by decide +kernel
theorem dX1_blow_27 : decode cX1_blow 27 = .ok (.istore 5, 2) := by decide +kernel
theorem dX1_blow_29 : decode cX1_blow 29 = .ok (.iload 5, 2) := by decide +kernel
theorem dX1_blow_31 : decode cX1_blow 31 = .ok (.bipush 12, 2) := by decide +kernel
theorem dX1_blow_33 : decode cX1_blow 33 = .ok (.if_icmp .ge 40, 3) := by decide +kernel
theorem dX1_blow_36 : decode cX1_blow 36 = .ok (.aload_n 1, 1) := by decide +kernel
theorem dX1_blow_37 : decode cX1_blow 37 = .ok (.invokevirtual 49, 3) := by decide +kernel
theorem dX1_blow_40 : decode cX1_blow 40 = .ok (.ifCond .eq 33, 3) := by decide +kernel
theorem dX1_blow_43 : decode cX1_blow 43 = .ok (.aload_n 0, 1) := by decide +kernel
theorem dX1_blow_44 : decode cX1_blow 44 = .ok (.aload_n 1, 1) := by decide +kernel
theorem dX1_blow_45 : decode cX1_blow 45 = .ok (.getfield 53, 3) := by decide +kernel
theorem dX1_blow_48 : decode cX1_blow 48 = .ok (.aload_n 1, 1) := by decide +kernel
theorem dX1_blow_49 : decode cX1_blow 49 = .ok (.getfield 57, 3) := by decide +kernel
theorem dX1_blow_52 : decode cX1_blow 52 = .ok (.aload_n 2, 1) := by decide +kernel
theorem dX1_blow_53 : decode cX1_blow 53 = .ok (.aload_n 3, 1) := by decide +kernel
theorem dX1_blow_54 : decode cX1_blow 54 = .ok (.invokevirtual 60, 3) := by decide +kernel
theorem dX1_blow_57 : decode cX1_blow 57 = .ok (.aload_n 1, 1) := by decide +kernel
theorem dX1_blow_58 : decode cX1_blow 58 = .ok (.dup, 1) := by decide +kernel
theorem dX1_blow_59 : decode cX1_blow 59 = .ok (.getfield 57, 3) := by decide +kernel
theorem dX1_blow_62 : decode cX1_blow 62 = .ok (.iconst 1, 1) := by decide +kernel
theorem dX1_blow_63 : decode cX1_blow 63 = .ok (.iadd, 1) := by decide +kernel
theorem dX1_blow_64 : decode cX1_blow 64 = .ok (.putfield 57, 3) := by decide +kernel
theorem dX1_blow_67 : decode cX1_blow 67 = .ok (.iinc 5 1, 3) := by decide +kernel
theorem dX1_blow_70 : decode cX1_blow 70 = .ok (.goto (-41), 3) := by decide +kernel
theorem dX1_blow_73 : decode cX1_blow 73 = .ok (.aload_n 0, 1) := by decide +kernel
theorem dX1_blow_74 : decode cX1_blow 74 = .ok (.iconst 0, 1) := by decide +kernel
theorem dX1_blow_75 : decode cX1_blow 75 = .ok (.sipush 1000, 3) := by decide +kernel
theorem dX1_blow_78 : decode cX1_blow 78 = .ok (.aload_n 0, 1) := by decide +kernel
theorem dX1_blow_79 : decode cX1_blow 79 = .ok (.getfield 15, 3) := by decide +kernel
theorem dX1_blow_82 : decode cX1_blow 82 = .ok (.bipush 8, 2) := by decide +kernel
theorem dX1_blow_84 : decode cX1_blow 84 = .ok (.iload 4, 2) := by decide +kernel
theorem dX1_blow_86 : decode cX1_blow 86 = .ok (.imul, 1) := by decide +kernel
theorem dX1_blow_87 : decode cX1_blow 87 = .ok (.iadd, 1) := by decide +kernel
theorem dX1_blow_88 : decode cX1_blow 88 = .ok (.bipush 40, 2) := by decide +kernel
theorem dX1_blow_90 : decode cX1_blow 90 = .ok (.isub, 1) := by decide +kernel
theorem dX1_blow_91 : decode cX1_blow 91 = .ok (.invokestatic 64, 3) := by decide +kernel
theorem dX1_blow_94 : decode cX1_blow 94 = .ok (.invokestatic 70, 3) := by decide +kernel
theorem dX1_blow_97 : decode cX1_blow 97 = .ok (.putfield 15, 3) := by decide +kernel
theorem dX1_blow_100 : decode cX1_blow 100 = .ok (.aload_n 0, 1) := by decide +kernel
theorem dX1_blow_101 : decode cX1_blow 101 = .ok (.dup, 1) := by decide +kernel
theorem dX1_blow_102 : decode cX1_blow 102 = .ok (.getfield 21, 3) := by decide +kernel
theorem dX1_blow_105 : decode cX1_blow 105 = .ok (.aload_n 2, 1) := by decide +kernel
theorem dX1_blow_106 : decode cX1_blow 106 = .ok (.invokevirtual 73, 3) := by decide +kernel
theorem dX1_blow_109 : decode cX1_blow 109 = .ok (.iadd, 1) := by decide +kernel
theorem dX1_blow_110 : decode cX1_blow 110 = .ok (.putfield 21, 3) := by decide +kernel
theorem dX1_blow_113 : decode cX1_blow 113 = .ok (.aload_n 0, 1) := by decide +kernel
theorem dX1_blow_114 : decode cX1_blow 114 = .ok (.dup, 1) := by decide +kernel
theorem dX1_blow_115 : decode cX1_blow 115 = .ok (.getfield 18, 3) := by decide +kernel
theorem dX1_blow_118 : decode cX1_blow 118 = .ok (.aload_n 0, 1) := by decide +kernel
theorem dX1_blow_119 : decode cX1_blow 119 = .ok (.getfield 21, 3) := by decide +kernel
theorem dX1_blow_122 : decode cX1_blow 122 = .ok (.iadd, 1) := by decide +kernel
theorem dX1_blow_123 : decode cX1_blow 123 = .ok (.putfield 18, 3) := by decide +kernel
theorem dX1_blow_126 : decode cX1_blow 126 = .ok (.aload_n 0, 1) := by decide +kernel
theorem dX1_blow_127 : decode cX1_blow 127 = .ok (.dup, 1) := by decide +kernel
theorem dX1_blow_128 : decode cX1_blow 128 = .ok (.getfield 24, 3) := by decide +kernel
theorem dX1_blow_131 : decode cX1_blow 131 = .ok (.aload_n 0, 1) := by decide +kernel
theorem dX1_blow_132 : decode cX1_blow 132 = .ok (.getfield 15, 3) := by decide +kernel
theorem dX1_blow_135 : decode cX1_blow 135 = .ok (.bipush 100, 2) := by decide +kernel
theorem dX1_blow_137 : decode cX1_blow 137 = .ok (.idiv, 1) := by decide +kernel
theorem dX1_blow_138 : decode cX1_blow 138 = .ok (.iadd, 1) := by decide +kernel
theorem dX1_blow_139 : decode cX1_blow 139 = .ok (.putfield 24, 3) := by decide +kernel
theorem dX1_blow_142 : decode cX1_blow 142 = .ok (.aload_n 0, 1) := by decide +kernel
theorem dX1_blow_143 : decode cX1_blow 143 = .ok (.dup, 1) := by decide +kernel
theorem dX1_blow_144 : decode cX1_blow 144 = .ok (.getfield 30, 3) := by decide +kernel
theorem dX1_blow_147 : decode cX1_blow 147 = .ok (.iconst 1, 1) := by decide +kernel
theorem dX1_blow_148 : decode cX1_blow 148 = .ok (.iadd, 1) := by decide +kernel
theorem dX1_blow_149 : decode cX1_blow 149 = .ok (.putfield 30, 3) := by decide +kernel
theorem dX1_blow_152 : decode cX1_blow 152 = .ok (.aload_n 0, 1) := by decide +kernel
theorem dX1_blow_153 : decode cX1_blow 153 = .ok (.aload_n 0, 1) := by decide +kernel
theorem dX1_blow_154 : decode cX1_blow 154 = .ok (.getfield 24, 3) := by decide +kernel
theorem dX1_blow_157 : decode cX1_blow 157 = .ok (.aload_n 0, 1) := by decide +kernel
theorem dX1_blow_158 : decode cX1_blow 158 = .ok (.getfield 27, 3) := by decide +kernel
theorem dX1_blow_161 : decode cX1_blow 161 = .ok (.if_icmp .lt 7, 3) := by decide +kernel
theorem dX1_blow_164 : decode cX1_blow 164 = .ok (.iconst 1, 1) := by decide +kernel
theorem dX1_blow_165 : decode cX1_blow 165 = .ok (.goto 4, 3) := by decide +kernel
theorem dX1_blow_168 : decode cX1_blow 168 = .ok (.iconst 0, 1) := by decide +kernel
theorem dX1_blow_169 : decode cX1_blow 169 = .ok (.putfield 39, 3) := by decide +kernel
theorem dX1_blow_172 : decode cX1_blow 172 = .ok (.return_, 1) := by decide +kernel
theorem dX1_bringDown_0 : decode cX1_bringDown 0 = .ok (.aload_n 1, 1) := by decide +kernel
theorem dX1_bringDown_1 : decode cX1_bringDown 1 = .ok (.iload_n 2, 1) := by decide +kernel
theorem dX1_bringDown_2 : decode cX1_bringDown 2 = .ok (.iconst 2, 1) := by decide +kernel
theorem dX1_bringDown_3 : decode cX1_bringDown 3 = .ok (.invokevirtual 79, 3) := by decide +kernel
theorem dX1_bringDown_6 : decode cX1_bringDown 6 = .ok (.istore 5, 2) := by decide +kernel
theorem dX1_bringDown_8 : decode cX1_bringDown 8 = .ok (.aload_n 1, 1) := by decide +kernel
theorem dX1_bringDown_9 : decode cX1_bringDown 9 = .ok (.iload_n 2, 1) := by decide +kernel
theorem dX1_bringDown_10 : decode cX1_bringDown 10 = .ok (.iconst 3, 1) := by decide +kernel
theorem dX1_bringDown_11 : decode cX1_bringDown 11 = .ok (.invokevirtual 79, 3) := by decide +kernel
theorem dX1_bringDown_14 : decode cX1_bringDown 14 = .ok (.istore 6, 2) := by decide +kernel
theorem dX1_bringDown_16 : decode cX1_bringDown 16 = .ok (.aload_n 1, 1) := by decide +kernel
theorem dX1_bringDown_17 : decode cX1_bringDown 17 = .ok (.iload_n 2, 1) := by decide +kernel
theorem dX1_bringDown_18 : decode cX1_bringDown 18 = .ok (.iconst 4, 1) := by decide +kernel
theorem dX1_bringDown_19 : decode cX1_bringDown 19 = .ok (.invokevirtual 79, 3) := by decide +kernel
theorem dX1_bringDown_22 : decode cX1_bringDown 22 = .ok (.istore 7, 2) := by decide +kernel
theorem dX1_bringDown_24 : decode cX1_bringDown 24 = .ok (.aload_n 0, 1) := by decide +kernel
theorem dX1_bringDown_25 : decode cX1_bringDown 25 = .ok (.getfield 15, 3) := by decide +kernel
theorem dX1_bringDown_28 : decode cX1_bringDown 28 = .ok (.bipush 10, 2) := by decide +kernel
theorem dX1_bringDown_30 : decode cX1_bringDown 30 = .ok (.iload 5, 2) := by decide +kernel
theorem dX1_bringDown_32 : decode cX1_bringDown 32 = .ok (.imul, 1) := by decide +kernel
theorem dX1_bringDown_33 : decode cX1_bringDown 33 = .ok (.if_icmp .lt 16, 3) := by decide +kernel
theorem dX1_bringDown_36 : decode cX1_bringDown 36 = .ok (.iload 7, 2) := by decide +kernel
theorem dX1_bringDown_38 : decode cX1_bringDown 38 = .ok (.ifCond .lt 11, 3) := by decide +kernel
theorem dX1_bringDown_41 : decode cX1_bringDown 41 = .ok (.iload 7, 2) := by decide +kernel
theorem dX1_bringDown_43 : decode cX1_bringDown 43 = .ok (.aload 4, 2) := by decide +kernel
theorem dX1_bringDown_45 : decode cX1_bringDown 45 = .ok (.arraylength, 1) := by decide +kernel
theorem dX1_bringDown_46 : decode cX1_bringDown 46 = .ok (.if_icmp .lt 35, 3) := by decide +kernel
theorem dX1_bringDown_49 : decode cX1_bringDown 49 = .ok (.aload_n 1, 1) := by decide +kernel
theorem dX1_bringDown_50 : decode cX1_bringDown 50 = .ok (.iload_n 2, 1) := by decide +kernel
theorem dX1_bringDown_51 : decode cX1_bringDown 51 = .ok (.iconst 0, 1) := by decide +kernel
theorem dX1_bringDown_52 : decode cX1_bringDown 52 = .ok (.iconst 2, 1) := by decide +kernel
theorem dX1_bringDown_53 : decode cX1_bringDown 53 = .ok (.invokevirtual 84, 3) := by decide +kernel
theorem dX1_bringDown_56 : decode cX1_bringDown 56 = .ok (.aload_n 0, 1) := by decide +kernel
theorem dX1_bringDown_57 : decode cX1_bringDown 57 = .ok (.dup, 1) := by decide +kernel
theorem dX1_bringDown_58 : decode cX1_bringDown 58 = .ok (.getfield 36, 3) := by decide +kernel
theorem dX1_bringDown_61 : decode cX1_bringDown 61 = .ok (.iconst 1, 1) := by decide +kernel
theorem dX1_bringDown_62 : decode cX1_bringDown 62 = .ok (.iadd, 1) := by decide +kernel
theorem dX1_bringDown_63 : decode cX1_bringDown 63 = .ok (.putfield 36, 3) := by decide +kernel
theorem dX1_bringDown_66 : decode cX1_bringDown 66 = .ok (.aload_n 0, 1) := by decide +kernel
theorem dX1_bringDown_67 : decode cX1_bringDown 67 = .ok (.dup, 1) := by decide +kernel
theorem dX1_bringDown_68 : decode cX1_bringDown 68 = .ok (.getfield 21, 3) := by decide +kernel
theorem dX1_bringDown_71 : decode cX1_bringDown 71 = .ok (.iload 5, 2) := by decide +kernel
theorem dX1_bringDown_73 : decode cX1_bringDown 73 = .ok (.iload 6, 2) := by decide +kernel
theorem dX1_bringDown_75 : decode cX1_bringDown 75 = .ok (.iadd, 1) := by decide +kernel
theorem dX1_bringDown_76 : decode cX1_bringDown 76 = .ok (.iadd, 1) := by decide +kernel
theorem dX1_bringDown_77 : decode cX1_bringDown 77 = .ok (.putfield 21, 3) := by decide +kernel
theorem dX1_bringDown_80 : decode cX1_bringDown 80 = .ok (.return_, 1) := by decide +kernel
theorem dX1_bringDown_81 : decode cX1_bringDown 81 = .ok (.iload 5, 2) := by decide +kernel
theorem dX1_bringDown_83 : decode cX1_bringDown 83 = .ok (.aload 4, 2) := by decide +kernel
theorem dX1_bringDown_85 : decode cX1_bringDown 85 = .ok (.iload 7, 2) := by decide +kernel
theorem dX1_bringDown_87 : decode cX1_bringDown 87 = .ok (.iaload, 1) := by decide +kernel
theorem dX1_bringDown_88 : decode cX1_bringDown 88 = .ok (.imul, 1) := by decide +kernel
theorem dX1_bringDown_89 : decode cX1_bringDown 89 = .ok (.bipush 100, 2) := by decide +kernel
theorem dX1_bringDown_91 : decode cX1_bringDown 91 = .ok (.idiv, 1) := by decide +kernel
theorem dX1_bringDown_92 : decode cX1_bringDown 92 = .ok (.istore 8, 2) := by decide +kernel
theorem dX1_bringDown_94 : decode cX1_bringDown 94 = .ok (.aload_n 0, 1) := by decide +kernel
theorem dX1_bringDown_95 : decode cX1_bringDown 95 = .ok (.iload 5, 2) := by decide +kernel
theorem dX1_bringDown_97 : decode cX1_bringDown 97 = .ok (.iload 6, 2) := by decide +kernel
theorem dX1_bringDown_99 : decode cX1_bringDown 99 = .ok (.invokevirtual 88, 3) := by decide +kernel
theorem dX1_bringDown_102 : decode cX1_bringDown 102 = .ok (.istore 9, 2) := by decide +kernel
theorem dX1_bringDown_104 : decode cX1_bringDown 104 = .ok (.aload_n 1, 1) := by decide +kernel
theorem dX1_bringDown_105 : decode cX1_bringDown 105 = .ok (.iload_n 2, 1) := by decide +kernel
theorem dX1_bringDown_106 : decode cX1_bringDown 106 = .ok (.iconst 0, 1) := by decide +kernel
theorem dX1_bringDown_107 : decode cX1_bringDown 107 = .ok (.iconst 1, 1) := by decide +kernel
theorem dX1_bringDown_108 : decode cX1_bringDown 108 = .ok (.invokevirtual 84, 3) := by decide +kernel
theorem dX1_bringDown_111 : decode cX1_bringDown 111 = .ok (.aload_n 1, 1) := by decide +kernel
theorem dX1_bringDown_112 : decode cX1_bringDown 112 = .ok (.iload_n 2, 1) := by decide +kernel
theorem dX1_bringDown_113 : decode cX1_bringDown 113 = .ok (.iconst 5, 1) := by decide +kernel
theorem dX1_bringDown_114 : decode cX1_bringDown 114 = .ok (.iload 9, 2) := by decide +kernel
theorem dX1_bringDown_116 : decode cX1_bringDown 116 = .ok (.invokevirtual 84, 3) := by decide +kernel
theorem dX1_bringDown_119 : decode cX1_bringDown 119 = .ok (.aload_n 1, 1) := by decide +kernel
theorem dX1_bringDown_120 : decode cX1_bringDown 120 = .ok (.iload_n 2, 1) := by decide +kernel
theorem dX1_bringDown_121 : decode cX1_bringDown 121 = .ok (.bipush 6, 2) := by decide +kernel
theorem dX1_bringDown_123 : decode cX1_bringDown 123 = .ok (.iload 8, 2) := by decide +kernel
theorem dX1_bringDown_125 : decode cX1_bringDown 125 = .ok (.invokevirtual 84, 3) := by decide +kernel
theorem dX1_bringDown_128 : decode cX1_bringDown 128 = .ok (.aload_n 3, 1) := by decide +kernel
theorem dX1_bringDown_129 : decode cX1_bringDown 129 = .ok (.iload_n 2, 1) := by decide +kernel
theorem dX1_bringDown_130 : decode cX1_bringDown 130 = .ok (.iload 9, 2) := by decide +kernel
theorem dX1_bringDown_132 : decode cX1_bringDown 132 = .ok (.iload 8, 2) := by decide +kernel
theorem dX1_bringDown_134 : decode cX1_bringDown 134 = .ok (.invokevirtual 91, 3) := by decide +kernel
theorem dX1_bringDown_137 : decode cX1_bringDown 137 = .ok (.aload_n 0, 1) := by decide +kernel
theorem dX1_bringDown_138 : decode cX1_bringDown 138 = .ok (.dup, 1) := by decide +kernel
theorem dX1_bringDown_139 : decode cX1_bringDown 139 = .ok (.getfield 21, 3) := by decide +kernel
theorem dX1_bringDown_142 : decode cX1_bringDown 142 = .ok (.iload 5, 2) := by decide +kernel
theorem dX1_bringDown_144 : decode cX1_bringDown 144 = .ok (.iload 8, 2) := by decide +kernel
theorem dX1_bringDown_146 : decode cX1_bringDown 146 = .ok (.isub, 1) := by decide +kernel
theorem dX1_bringDown_147 : decode cX1_bringDown 147 = .ok (.iload 6, 2) := by decide +kernel
theorem dX1_bringDown_149 : decode cX1_bringDown 149 = .ok (.iadd, 1) := by decide +kernel
theorem dX1_bringDown_150 : decode cX1_bringDown 150 = .ok (.iadd, 1) := by decide +kernel
theorem dX1_bringDown_151 : decode cX1_bringDown 151 = .ok (.putfield 21, 3) := by decide +kernel
theorem dX1_bringDown_154 : decode cX1_bringDown 154 = .ok (.aload_n 0, 1) := by decide +kernel
theorem dX1_bringDown_155 : decode cX1_bringDown 155 = .ok (.dup, 1) := by decide +kernel
theorem dX1_bringDown_156 : decode cX1_bringDown 156 = .ok (.getfield 15, 3) := by decide +kernel
theorem dX1_bringDown_159 : decode cX1_bringDown 159 = .ok (.iconst 5, 1) := by decide +kernel
theorem dX1_bringDown_160 : decode cX1_bringDown 160 = .ok (.iload 5, 2) := by decide +kernel
theorem dX1_bringDown_162 : decode cX1_bringDown 162 = .ok (.imul, 1) := by decide +kernel
theorem dX1_bringDown_163 : decode cX1_bringDown 163 = .ok (.isub, 1) := by decide +kernel
theorem dX1_bringDown_164 : decode cX1_bringDown 164 = .ok (.putfield 15, 3) := by decide +kernel
theorem dX1_bringDown_167 : decode cX1_bringDown 167 = .ok (.return_, 1) := by decide +kernel
theorem dX1_sortOf_0 : decode cX1_sortOf 0 = .ok (.iconst 0, 1) := by decide +kernel
theorem dX1_sortOf_1 : decode cX1_sortOf 1 = .ok (.istore_n 3, 1) := by decide +kernel
theorem dX1_sortOf_2 : decode cX1_sortOf 2 = .ok (.iconst 4, 1) := by decide +kernel
theorem dX1_sortOf_3 : decode cX1_sortOf 3 = .ok (.iload_n 2, 1) := by decide +kernel
theorem dX1_sortOf_4 : decode cX1_sortOf 4 = .ok (.imul, 1) := by decide +kernel
theorem dX1_sortOf_5 : decode cX1_sortOf 5 = .ok (.iload_n 1, 1) := by decide +kernel
theorem dX1_sortOf_6 : decode cX1_sortOf 6 = .ok (.if_icmp .lt 6, 3) := by decide +kernel
theorem dX1_sortOf_9 : decode cX1_sortOf 9 = .ok (.iinc 3 1, 3) := by decide +kernel
theorem dX1_sortOf_12 : decode cX1_sortOf 12 = .ok (.aload_n 0, 1) := by decide +kernel
theorem dX1_sortOf_13 : decode cX1_sortOf 13 = .ok (.getfield 15, 3) := by decide +kernel
theorem dX1_sortOf_16 : decode cX1_sortOf 16 = .ok (.sipush 400, 3) := by decide +kernel
theorem dX1_sortOf_19 : decode cX1_sortOf 19 = .ok (.if_icmp .lt 6, 3) := by decide +kernel
theorem dX1_sortOf_22 : decode cX1_sortOf 22 = .ok (.iinc 3 1, 3) := by decide +kernel
theorem dX1_sortOf_25 : decode cX1_sortOf 25 = .ok (.aload_n 0, 1) := by decide +kernel
theorem dX1_sortOf_26 : decode cX1_sortOf 26 = .ok (.getfield 15, 3) := by decide +kernel
theorem dX1_sortOf_29 : decode cX1_sortOf 29 = .ok (.sipush 700, 3) := by decide +kernel
theorem dX1_sortOf_32 : decode cX1_sortOf 32 = .ok (.if_icmp .lt 6, 3) := by decide +kernel
theorem dX1_sortOf_35 : decode cX1_sortOf 35 = .ok (.iinc 3 1, 3) := by decide +kernel
theorem dX1_sortOf_38 : decode cX1_sortOf 38 = .ok (.iload_n 3, 1) := by decide +kernel
theorem dX1_sortOf_39 : decode cX1_sortOf 39 = .ok (.ireturn, 1) := by decide +kernel
theorem dX2_init_0 : decode cX2_init 0 = .ok (.aload_n 0, 1) := by decide +kernel
theorem dX2_init_1 : decode cX2_init 1 = .ok (.invokespecial 3, 3) := by decide +kernel
theorem dX2_init_4 : decode cX2_init 4 = .ok (.aload_n 0, 1) := by decide +kernel
theorem dX2_init_5 : decode cX2_init 5 = .ok (.iconst 0, 1) := by decide +kernel
theorem dX2_init_6 : decode cX2_init 6 = .ok (.putfield 9, 3) := by decide +kernel
theorem dX2_init_9 : decode cX2_init 9 = .ok (.aload_n 0, 1) := by decide +kernel
theorem dX2_init_10 : decode cX2_init 10 = .ok (.bipush 100, 2) := by decide +kernel
theorem dX2_init_12 : decode cX2_init 12 = .ok (.putfield 15, 3) := by decide +kernel
theorem dX2_init_15 : decode cX2_init 15 = .ok (.aload_n 0, 1) := by decide +kernel
theorem dX2_init_16 : decode cX2_init 16 = .ok (.iconst 0, 1) := by decide +kernel
theorem dX2_init_17 : decode cX2_init 17 = .ok (.putfield 18, 3) := by decide +kernel
theorem dX2_init_20 : decode cX2_init 20 = .ok (.aload_n 0, 1) := by decide +kernel
theorem dX2_init_21 : decode cX2_init 21 = .ok (.iconst 0, 1) := by decide +kernel
theorem dX2_init_22 : decode cX2_init 22 = .ok (.putfield 21, 3) := by decide +kernel
theorem dX2_init_25 : decode cX2_init 25 = .ok (.aload_n 0, 1) := by decide +kernel
theorem dX2_init_26 : decode cX2_init 26 = .ok (.iconst (-1), 1) := by decide +kernel
theorem dX2_init_27 : decode cX2_init 27 = .ok (.putfield 24, 3) := by decide +kernel
theorem dX2_init_30 : decode cX2_init 30 = .ok (.aload_n 0, 1) := by decide +kernel
theorem dX2_init_31 : decode cX2_init 31 = .ok (.iconst (-1), 1) := by decide +kernel
theorem dX2_init_32 : decode cX2_init 32 = .ok (.putfield 27, 3) := by decide +kernel
theorem dX2_init_35 : decode cX2_init 35 = .ok (.aload_n 0, 1) := by decide +kernel
theorem dX2_init_36 : decode cX2_init 36 = .ok (.iconst (-1), 1) := by decide +kernel
theorem dX2_init_37 : decode cX2_init 37 = .ok (.putfield 30, 3) := by decide +kernel
theorem dX2_init_40 : decode cX2_init 40 = .ok (.return_, 1) := by decide +kernel
theorem dX2_pour_0 : decode cX2_pour 0 = .ok (.aload_n 0, 1) := by decide +kernel
theorem dX2_pour_1 : decode cX2_pour 1 = .ok (.dup, 1) := by decide +kernel
theorem dX2_pour_2 : decode cX2_pour 2 = .ok (.getfield 9, 3) := by decide +kernel
theorem dX2_pour_5 : decode cX2_pour 5 = .ok (.iload_n 3, 1) := by decide +kernel
theorem dX2_pour_6 : decode cX2_pour 6 = .ok (.iadd, 1) := by decide +kernel
theorem dX2_pour_7 : decode cX2_pour 7 = .ok (.putfield 9, 3) := by decide +kernel
theorem dX2_pour_10 : decode cX2_pour 10 = .ok (.aload_n 0, 1) := by decide +kernel
theorem dX2_pour_11 : decode cX2_pour 11 = .ok (.dup, 1) := by decide +kernel
theorem dX2_pour_12 : decode cX2_pour 12 = .ok (.getfield 18, 3) := by decide +kernel
theorem dX2_pour_15 : decode cX2_pour 15 = .ok (.iload_n 3, 1) := by decide +kernel
theorem dX2_pour_16 : decode cX2_pour 16 = .ok (.iadd, 1) := by decide +kernel
theorem dX2_pour_17 : decode cX2_pour 17 = .ok (.putfield 18, 3) := by decide +kernel
theorem dX2_pour_20 : decode cX2_pour 20 = .ok (.aload_n 0, 1) := by decide +kernel
theorem dX2_pour_21 : decode cX2_pour 21 = .ok (.aload_n 0, 1) := by decide +kernel
theorem dX2_pour_22 : decode cX2_pour 22 = .ok (.getfield 24, 3) := by decide +kernel
theorem dX2_pour_25 : decode cX2_pour 25 = .ok (.iconst (-1), 1) := by decide +kernel
theorem dX2_pour_26 : decode cX2_pour 26 = .ok (.if_icmp .ne 7, 3) := by decide +kernel
theorem dX2_pour_29 : decode cX2_pour 29 = .ok (.iload_n 2, 1) := by decide +kernel
theorem dX2_pour_30 : decode cX2_pour 30 = .ok (.goto 11, 3) := by decide +kernel
theorem dX2_pour_33 : decode cX2_pour 33 = .ok (.aload_n 0, 1) := by decide +kernel
theorem dX2_pour_34 : decode cX2_pour 34 = .ok (.getfield 30, 3) := by decide +kernel
theorem dX2_pour_37 : decode cX2_pour 37 = .ok (.iload_n 2, 1) := by decide +kernel
theorem dX2_pour_38 : decode cX2_pour 38 = .ok (.invokestatic 33, 3) := by decide +kernel
theorem dX2_pour_41 : decode cX2_pour 41 = .ok (.putfield 30, 3) := by decide +kernel
theorem dX2_pour_44 : decode cX2_pour 44 = .ok (.aload_n 0, 1) := by decide +kernel
theorem dX2_pour_45 : decode cX2_pour 45 = .ok (.getfield 24, 3) := by decide +kernel
theorem dX2_pour_48 : decode cX2_pour 48 = .ok (.iconst (-1), 1) := by decide +kernel
theorem dX2_pour_49 : decode cX2_pour 49 = .ok (.if_icmp .ne 8, 3) := by decide +kernel
theorem dX2_pour_52 : decode cX2_pour 52 = .ok (.aload_n 0, 1) := by decide +kernel
theorem dX2_pour_53 : decode cX2_pour 53 = .ok (.iload_n 1, 1) := by decide +kernel
theorem dX2_pour_54 : decode cX2_pour 54 = .ok (.putfield 24, 3) := by decide +kernel
theorem dX2_pour_57 : decode cX2_pour 57 = .ok (.aload_n 0, 1) := by decide +kernel
theorem dX2_pour_58 : decode cX2_pour 58 = .ok (.iload_n 1, 1) := by decide +kernel
theorem dX2_pour_59 : decode cX2_pour 59 = .ok (.putfield 27, 3) := by decide +kernel
theorem dX2_pour_62 : decode cX2_pour 62 = .ok (.return_, 1) := by decide +kernel
theorem dX2_spill_0 : decode cX2_spill 0 = .ok (.iconst 0, 1) := by decide +kernel
theorem dX2_spill_1 : decode cX2_spill 1 = .ok (.aload_n 0, 1) := by decide +kernel
theorem dX2_spill_2 : decode cX2_spill 2 = .ok (.getfield 9, 3) := by decide +kernel
theorem dX2_spill_5 : decode cX2_spill 5 = .ok (.aload_n 0, 1) := by decide +kernel
theorem dX2_spill_6 : decode cX2_spill 6 = .ok (.getfield 15, 3) := by decide +kernel
theorem dX2_spill_9 : decode cX2_spill 9 = .ok (.isub, 1) := by decide +kernel
theorem dX2_spill_10 : decode cX2_spill 10 = .ok (.invokestatic 39, 3) := by decide +kernel
theorem dX2_spill_13 : decode cX2_spill 13 = .ok (.istore_n 1, 1) := by decide +kernel
theorem dX2_spill_14 : decode cX2_spill 14 = .ok (.aload_n 0, 1) := by decide +kernel
theorem dX2_spill_15 : decode cX2_spill 15 = .ok (.dup, 1) := by decide +kernel
theorem dX2_spill_16 : decode cX2_spill 16 = .ok (.getfield 9, 3) := by decide +kernel
theorem dX2_spill_19 : decode cX2_spill 19 = .ok (.iload_n 1, 1) := by decide +kernel
theorem dX2_spill_20 : decode cX2_spill 20 = .ok (.isub, 1) := by decide +kernel
theorem dX2_spill_21 : decode cX2_spill 21 = .ok (.putfield 9, 3) := by decide +kernel
theorem dX2_spill_24 : decode cX2_spill 24 = .ok (.aload_n 0, 1) := by decide +kernel
theorem dX2_spill_25 : decode cX2_spill 25 = .ok (.dup, 1) := by decide +kernel
theorem dX2_spill_26 : decode cX2_spill 26 = .ok (.getfield 21, 3) := by decide +kernel
theorem dX2_spill_29 : decode cX2_spill 29 = .ok (.iload_n 1, 1) := by decide +kernel
theorem dX2_spill_30 : decode cX2_spill 30 = .ok (.iadd, 1) := by decide +kernel
theorem dX2_spill_31 : decode cX2_spill 31 = .ok (.putfield 21, 3) := by decide +kernel
theorem dX2_spill_34 : decode cX2_spill 34 = .ok (.iload_n 1, 1) := by decide +kernel
theorem dX2_spill_35 : decode cX2_spill 35 = .ok (.ireturn, 1) := by decide +kernel
theorem dX2_empty_0 : decode cX2_empty 0 = .ok (.aload_n 0, 1) := by decide +kernel
theorem dX2_empty_1 : decode cX2_empty 1 = .ok (.iconst 0, 1) := by decide +kernel
theorem dX2_empty_2 : decode cX2_empty 2 = .ok (.putfield 9, 3) := by decide +kernel
theorem dX2_empty_5 : decode cX2_empty 5 = .ok (.aload_n 0, 1) := by decide +kernel
theorem dX2_empty_6 : decode cX2_empty 6 = .ok (.iconst (-1), 1) := by decide +kernel
theorem dX2_empty_7 : decode cX2_empty 7 = .ok (.putfield 24, 3) := by decide +kernel
theorem dX2_empty_10 : decode cX2_empty 10 = .ok (.aload_n 0, 1) := by decide +kernel
theorem dX2_empty_11 : decode cX2_empty 11 = .ok (.iconst (-1), 1) := by decide +kernel
theorem dX2_empty_12 : decode cX2_empty 12 = .ok (.putfield 27, 3) := by decide +kernel
theorem dX2_empty_15 : decode cX2_empty 15 = .ok (.aload_n 0, 1) := by decide +kernel
theorem dX2_empty_16 : decode cX2_empty 16 = .ok (.iconst (-1), 1) := by decide +kernel
theorem dX2_empty_17 : decode cX2_empty 17 = .ok (.putfield 30, 3) := by decide +kernel
theorem dX2_empty_20 : decode cX2_empty 20 = .ok (.return_, 1) := by decide +kernel
theorem dX3_init_0 : decode cX3_init 0 = .ok (.aload_n 0, 1) := by decide +kernel
theorem dX3_init_1 : decode cX3_init 1 = .ok (.invokespecial 3, 3) := by decide +kernel
theorem dX3_init_4 : decode cX3_init 4 = .ok (.aload_n 0, 1) := by decide +kernel
theorem dX3_init_5 : decode cX3_init 5 = .ok (.bipush 6, 2) := by decide +kernel
theorem dX3_init_7 : decode cX3_init 7 = .ok (.newarray .int, 2) := by decide +kernel
theorem dX3_init_9 : decode cX3_init 9 = .ok (.putfield 9, 3) := by decide +kernel
theorem dX3_init_12 : decode cX3_init 12 = .ok (.aload_n 0, 1) := by decide +kernel
theorem dX3_init_13 : decode cX3_init 13 = .ok (.bipush 6, 2) := by decide +kernel
theorem dX3_init_15 : decode cX3_init 15 = .ok (.newarray .int, 2) := by decide +kernel
theorem dX3_init_17 : decode cX3_init 17 = .ok (.putfield 15, 3) := by decide +kernel
theorem dX3_init_20 : decode cX3_init 20 = .ok (.aload_n 0, 1) := by decide +kernel
theorem dX3_init_21 : decode cX3_init 21 = .ok (.bipush 7, 2) := by decide +kernel
theorem dX3_init_23 : decode cX3_init 23 = .ok (.newarray .int, 2) := by decide +kernel
theorem dX3_init_25 : decode cX3_init 25 = .ok (.putfield 18, 3) := by decide +kernel
theorem dX3_init_28 : decode cX3_init 28 = .ok (.aload_n 0, 1) := by decide +kernel
theorem dX3_init_29 : decode cX3_init 29 = .ok (.bipush 6, 2) := by decide +kernel
theorem dX3_init_31 : decode cX3_init 31 = .ok (.newarray .int, 2) := by decide +kernel
theorem dX3_init_33 : decode cX3_init 33 = .ok (.putfield 21, 3) := by decide +kernel
theorem dX3_init_36 : decode cX3_init 36 = .ok (.aload_n 0, 1) := by decide +kernel
theorem dX3_init_37 : decode cX3_init 37 = .ok (.bipush 6, 2) := by decide +kernel
theorem dX3_init_39 : decode cX3_init 39 = .ok (.newarray .int, 2) := by decide +kernel
theorem dX3_init_41 : decode cX3_init 41 = .ok (.putfield 24, 3) := by decide +kernel
theorem dX3_init_44 : decode cX3_init 44 = .ok (.aload_n 0, 1) := by decide +kernel
theorem dX3_init_45 : decode cX3_init 45 = .ok (.bipush 6, 2) := by decide +kernel
theorem dX3_init_47 : decode cX3_init 47 = .ok (.newarray .int, 2) := by decide +kernel
theorem dX3_init_49 : decode cX3_init 49 = .ok (.putfield 27, 3) := by decide +kernel
theorem dX3_init_52 : decode cX3_init 52 = .ok (.aload_n 0, 1) := by decide +kernel
theorem dX3_init_53 : decode cX3_init 53 = .ok (.iconst 0, 1) := by decide +kernel
theorem dX3_init_54 : decode cX3_init 54 = .ok (.putfield 30, 3) := by decide +kernel
theorem dX3_init_57 : decode cX3_init 57 = .ok (.aload_n 0, 1) := by decide +kernel
theorem dX3_init_58 : decode cX3_init 58 = .ok (.iconst (-1), 1) := by decide +kernel
theorem dX3_init_59 : decode cX3_init 59 = .ok (.putfield 34, 3) := by decide +kernel
theorem dX3_init_62 : decode cX3_init 62 = .ok (.aload_n 0, 1) := by decide +kernel
theorem dX3_init_63 : decode cX3_init 63 = .ok (.iconst 0, 1) := by decide +kernel
theorem dX3_init_64 : decode cX3_init 64 = .ok (.putfield 37, 3) := by decide +kernel
theorem dX3_init_67 : decode cX3_init 67 = .ok (.return_, 1) := by decide +kernel
theorem dX3_readMonths_0 : decode cX3_readMonths 0 = .ok (.aload_n 0, 1) := by decide +kernel
theorem dX3_readMonths_1 : decode cX3_readMonths 1 = .ok (.iconst 0, 1) := by decide +kernel
theorem dX3_readMonths_2 : decode cX3_readMonths 2 = .ok (.bipush 6, 2) := by decide +kernel
theorem dX3_readMonths_4 : decode cX3_readMonths 4 = .ok (.iload 4, 2) := by decide +kernel
theorem dX3_readMonths_6 : decode cX3_readMonths 6 = .ok (.invokestatic 40, 3) := by decide +kernel
theorem dX3_readMonths_9 : decode cX3_readMonths 9 = .ok (.invokestatic 46, 3) := by decide +kernel
theorem dX3_readMonths_12 : decode cX3_readMonths 12 = .ok (.putfield 30, 3) := by decide +kernel
theorem dX3_readMonths_15 : decode cX3_readMonths 15 = .ok (.aload_n 0, 1) := by decide +kernel
theorem dX3_readMonths_16 : decode cX3_readMonths 16 = .ok (.getfield 18, 3) := by decide +kernel
theorem dX3_readMonths_19 : decode cX3_readMonths 19 = .ok (.aload_n 0, 1) := by decide +kernel
theorem dX3_readMonths_20 : decode cX3_readMonths 20 = .ok (.getfield 30, 3) := by decide +kernel
theorem dX3_readMonths_23 : decode cX3_readMonths 23 = .ok (.iconst 0, 1) := by decide +kernel
theorem dX3_readMonths_24 : decode cX3_readMonths 24 = .ok (.iastore, 1) := by decide +kernel
theorem dX3_readMonths_25 : decode cX3_readMonths 25 = .ok (.aload_n 0, 1) := by decide +kernel
theorem dX3_readMonths_26 : decode cX3_readMonths 26 = .ok (.getfield 30, 3) := by decide +kernel
theorem dX3_readMonths_29 : decode cX3_readMonths 29 = .ok (.iconst 1, 1) := by decide +kernel
theorem dX3_readMonths_30 : decode cX3_readMonths 30 = .ok (.isub, 1) := by decide +kernel
theorem dX3_readMonths_31 : decode cX3_readMonths 31 = .ok (.istore 5, 2) := by decide +kernel
theorem dX3_readMonths_33 : decode cX3_readMonths 33 = .ok (.iload 5, 2) := by decide +kernel
theorem dX3_readMonths_35 : decode cX3_readMonths 35 = .ok (.ifCond .lt 109, 3) := by decide +kernel
theorem dX3_readMonths_38 : decode cX3_readMonths 38 = .ok (.iload_n 3, 1) := by decide +kernel
theorem dX3_readMonths_39 : decode cX3_readMonths 39 = .ok (.iload 5, 2) := by decide +kernel
theorem dX3_readMonths_41 : decode cX3_readMonths 41 = .ok (.iadd, 1) := by decide +kernel
theorem dX3_readMonths_42 : decode cX3_readMonths 42 = .ok (.bipush 12, 2) := by decide +kernel
theorem dX3_readMonths_44 : decode cX3_readMonths 44 = .ok (.irem, 1) := by decide +kernel
theorem dX3_readMonths_45 : decode cX3_readMonths 45 = .ok (.istore 6, 2) := by decide +kernel
theorem dX3_readMonths_47 : decode cX3_readMonths 47 = .ok (.aload_n 0, 1) := by decide +kernel
theorem dX3_readMonths_48 : decode cX3_readMonths 48 = .ok (.getfield 9, 3) := by decide +kernel
theorem dX3_readMonths_51 : decode cX3_readMonths 51 = .ok (.iload 5, 2) := by decide +kernel
theorem dX3_readMonths_53 : decode cX3_readMonths 53 = .ok (.aload_n 1, 1) := by decide +kernel
theorem dX3_readMonths_54 : decode cX3_readMonths 54 = .ok (.iload 6, 2) := by decide +kernel
theorem dX3_readMonths_56 : decode cX3_readMonths 56 = .ok (.iconst 0, 1) := by decide +kernel
theorem dX3_readMonths_57 : decode cX3_readMonths 57 = .ok (.invokevirtual 49, 3) := by decide +kernel
theorem dX3_readMonths_60 : decode cX3_readMonths 60 = .ok (.iastore, 1) := by decide +kernel
theorem dX3_readMonths_61 : decode cX3_readMonths 61 = .ok (.aload_n 0, 1) := by decide +kernel
theorem dX3_readMonths_62 : decode cX3_readMonths 62 = .ok (.getfield 15, 3) := by decide +kernel
theorem dX3_readMonths_65 : decode cX3_readMonths 65 = .ok (.iload 5, 2) := by decide +kernel
theorem dX3_readMonths_67 : decode cX3_readMonths 67 = .ok (.aload_n 1, 1) := by decide +kernel
theorem dX3_readMonths_68 : decode cX3_readMonths 68 = .ok (.iload 6, 2) := by decide +kernel
theorem dX3_readMonths_70 : decode cX3_readMonths 70 = .ok (.iconst 1, 1) := by decide +kernel
theorem dX3_readMonths_71 : decode cX3_readMonths 71 = .ok (.invokevirtual 49, 3) := by decide +kernel
theorem dX3_readMonths_74 : decode cX3_readMonths 74 = .ok (.iastore, 1) := by decide +kernel
theorem dX3_readMonths_75 : decode cX3_readMonths 75 = .ok (.iconst 0, 1) := by decide +kernel
theorem dX3_readMonths_76 : decode cX3_readMonths 76 = .ok (.istore 7, 2) := by decide +kernel
theorem dX3_readMonths_78 : decode cX3_readMonths 78 = .ok (.iconst 0, 1) := by decide +kernel
theorem dX3_readMonths_79 : decode cX3_readMonths 79 = .ok (.istore 8, 2) := by decide +kernel
theorem dX3_readMonths_81 : decode cX3_readMonths 81 = .ok (.iload 8, 2) := by decide +kernel
theorem dX3_readMonths_83 : decode cX3_readMonths 83 = .ok (.iconst 5, 1) := by decide +kernel
theorem dX3_readMonths_84 : decode cX3_readMonths 84 = .ok (.if_icmp .ge 35, 3) := by decide +kernel
theorem dX3_readMonths_87 : decode cX3_readMonths 87 = .ok (.iload 8, 2) := by decide +kernel
theorem dX3_readMonths_89 : decode cX3_readMonths 89 = .ok (.aload_n 0, 1) := by decide +kernel
theorem dX3_readMonths_90 : decode cX3_readMonths 90 = .ok (.getfield 9, 3) := by decide +kernel
theorem dX3_readMonths_93 : decode cX3_readMonths 93 = .ok (.iload 5, 2) := by decide +kernel
theorem dX3_readMonths_95 : decode cX3_readMonths 95 = .ok (.iaload, 1) := by decide +kernel
theorem dX3_readMonths_96 : decode cX3_readMonths 96 = .ok (.if_icmp .gt 23, 3) := by decide +kernel
theorem dX3_readMonths_99 : decode cX3_readMonths 99 = .ok (.iload 7, 2) := by decide +kernel
theorem dX3_readMonths_101 : decode cX3_readMonths 101 = .ok (.aload_n 2, 1) := by decide +kernel
theorem dX3_readMonths_102 : decode cX3_readMonths 102 = .ok (.iload 8, 2) := by decide +kernel
theorem dX3_readMonths_104 : decode cX3_readMonths 104 = .ok (.iconst 0, 1) := by decide +kernel
theorem dX3_readMonths_105 : decode cX3_readMonths 105 = .ok (.invokevirtual 49, 3) := by decide +kernel
theorem dX3_readMonths_108 : decode cX3_readMonths 108 = .ok (.invokestatic 46, 3) := by decide +kernel
theorem dX3_readMonths_111 : decode cX3_readMonths 111 = .ok (.istore 7, 2) := by decide +kernel
theorem dX3_readMonths_113 : decode cX3_readMonths 113 = .ok (.iinc 8 1, 3) := by decide +kernel
theorem dX3_readMonths_116 : decode cX3_readMonths 116 = .ok (.goto (-35), 3) := by decide +kernel
theorem dX3_readMonths_119 : decode cX3_readMonths 119 = .ok (.aload_n 0, 1) := by decide +kernel
theorem dX3_readMonths_120 : decode cX3_readMonths 120 = .ok (.getfield 18, 3) := by decide +kernel
theorem dX3_readMonths_123 : decode cX3_readMonths 123 = .ok (.iload 5, 2) := by decide +kernel
theorem dX3_readMonths_125 : decode cX3_readMonths 125 = .ok (.aload_n 0, 1) := by decide +kernel
theorem dX3_readMonths_126 : decode cX3_readMonths 126 = .ok (.getfield 18, 3) := by decide +kernel
theorem dX3_readMonths_129 : decode cX3_readMonths 129 = .ok (.iload 5, 2) := by decide +kernel
theorem dX3_readMonths_131 : decode cX3_readMonths 131 = .ok (.iconst 1, 1) := by decide +kernel
theorem dX3_readMonths_132 : decode cX3_readMonths 132 = .ok (.iadd, 1) := by decide +kernel
theorem dX3_readMonths_133 : decode cX3_readMonths 133 = .ok (.iaload, 1) := by decide +kernel
theorem dX3_readMonths_134 : decode cX3_readMonths 134 = .ok (.iload 7, 2) := by decide +kernel
theorem dX3_readMonths_136 : decode cX3_readMonths 136 = .ok (.iadd, 1) := by decide +kernel
theorem dX3_readMonths_137 : decode cX3_readMonths 137 = .ok (.iastore, 1) := by decide +kernel
theorem dX3_readMonths_138 : decode cX3_readMonths 138 = .ok (.iinc 5 (-1), 3) := by decide +kernel
theorem dX3_readMonths_141 : decode cX3_readMonths 141 = .ok (.goto (-108), 3) := by decide +kernel
theorem dX3_readMonths_144 : decode cX3_readMonths 144 = .ok (.return_, 1) := by decide +kernel
theorem dX3_settle_0 : decode cX3_settle 0 = .ok (.aload_n 0, 1) := by decide +kernel
theorem dX3_settle_1 : decode cX3_settle 1 = .ok (.iconst (-1), 1) := by decide +kernel
theorem dX3_settle_2 : decode cX3_settle 2 = .ok (.putfield 34, 3) := by decide +kernel
theorem dX3_settle_5 : decode cX3_settle 5 = .ok (.aload_n 0, 1) := by decide +kernel
theorem dX3_settle_6 : decode cX3_settle 6 = .ok (.aload_n 1, 1) := by decide +kernel
theorem dX3_settle_7 : decode cX3_settle 7 = .ok (.iconst 0, 1) := by decide +kernel
theorem dX3_settle_8 : decode cX3_settle 8 = .ok (.iconst 0, 1) := by decide +kernel
theorem dX3_settle_9 : decode cX3_settle 9 = .ok (.iload_n 2, 1) := by decide +kernel
theorem dX3_settle_10 : decode cX3_settle 10 = .ok (.iload_n 3, 1) := by decide +kernel
theorem dX3_settle_11 : decode cX3_settle 11 = .ok (.invokestatic 54, 3) := by decide +kernel
theorem dX3_settle_14 : decode cX3_settle 14 = .ok (.aload_n 0, 1) := by decide +kernel
theorem dX3_settle_15 : decode cX3_settle 15 = .ok (.getfield 34, 3) := by decide +kernel
theorem dX3_settle_18 : decode cX3_settle 18 = .ok (.iconst (-1), 1) := by decide +kernel
theorem dX3_settle_19 : decode cX3_settle 19 = .ok (.if_icmp .ne 5, 3) := by decide +kernel
theorem dX3_settle_22 : decode cX3_settle 22 = .ok (.iconst (-1), 1) := by decide +kernel
theorem dX3_settle_23 : decode cX3_settle 23 = .ok (.ireturn, 1) := by decide +kernel
theorem dX3_settle_24 : decode cX3_settle 24 = .ok (.aload_n 0, 1) := by decide +kernel
theorem dX3_settle_25 : decode cX3_settle 25 = .ok (.aload_n 0, 1) := by decide +kernel
theorem dX3_settle_26 : decode cX3_settle 26 = .ok (.getfield 30, 3) := by decide +kernel
theorem dX3_settle_29 : decode cX3_settle 29 = .ok (.putfield 37, 3) := by decide +kernel
theorem dX3_settle_32 : decode cX3_settle 32 = .ok (.iconst 0, 1) := by decide +kernel
theorem dX3_settle_33 : decode cX3_settle 33 = .ok (.istore 4, 2) := by decide +kernel
theorem dX3_settle_35 : decode cX3_settle 35 = .ok (.iload 4, 2) := by decide +kernel
theorem dX3_settle_37 : decode cX3_settle 37 = .ok (.aload_n 0, 1) := by decide +kernel
theorem dX3_settle_38 : decode cX3_settle 38 = .ok (.getfield 30, 3) := by decide +kernel
theorem dX3_settle_41 : decode cX3_settle 41 = .ok (.if_icmp .ge 23, 3) := by decide +kernel
theorem dX3_settle_44 : decode cX3_settle 44 = .ok (.aload_n 0, 1) := by decide +kernel
theorem dX3_settle_45 : decode cX3_settle 45 = .ok (.getfield 27, 3) := by decide +kernel
theorem dX3_settle_48 : decode cX3_settle 48 = .ok (.iload 4, 2) := by decide +kernel
theorem dX3_settle_50 : decode cX3_settle 50 = .ok (.aload_n 0, 1) := by decide +kernel
theorem dX3_settle_51 : decode cX3_settle 51 = .ok (.getfield 24, 3) := by decide +kernel
theorem dX3_settle_54 : decode cX3_settle 54 = .ok (.iload 4, 2) := by decide +kernel
theorem dX3_settle_56 : decode cX3_settle 56 = .ok (.iaload, 1) := by decide +kernel
theorem dX3_settle_57 : decode cX3_settle 57 = .ok (.iastore, 1) := by decide +kernel
theorem dX3_settle_58 : decode cX3_settle 58 = .ok (.iinc 4 1, 3) := by decide +kernel
theorem dX3_settle_61 : decode cX3_settle 61 = .ok (.goto (-26), 3) := by decide +kernel
theorem dX3_settle_64 : decode cX3_settle 64 = .ok (.aload_n 0, 1) := by decide +kernel
theorem dX3_settle_65 : decode cX3_settle 65 = .ok (.getfield 34, 3) := by decide +kernel
theorem dX3_settle_68 : decode cX3_settle 68 = .ok (.ireturn, 1) := by decide +kernel
theorem dX3_goOn_0 : decode cX3_goOn 0 = .ok (.iload_n 2, 1) := by decide +kernel
theorem dX3_goOn_1 : decode cX3_goOn 1 = .ok (.bipush 6, 2) := by decide +kernel
theorem dX3_goOn_3 : decode cX3_goOn 3 = .ok (.if_icmp .gt 18, 3) := by decide +kernel
theorem dX3_goOn_6 : decode cX3_goOn 6 = .ok (.iload_n 3, 1) := by decide +kernel
theorem dX3_goOn_7 : decode cX3_goOn 7 = .ok (.aload_n 0, 1) := by decide +kernel
theorem dX3_goOn_8 : decode cX3_goOn 8 = .ok (.getfield 18, 3) := by decide +kernel
theorem dX3_goOn_11 : decode cX3_goOn 11 = .ok (.iload_n 2, 1) := by decide +kernel
theorem dX3_goOn_12 : decode cX3_goOn 12 = .ok (.iaload, 1) := by decide +kernel
theorem dX3_goOn_13 : decode cX3_goOn 13 = .ok (.iadd, 1) := by decide +kernel
theorem dX3_goOn_14 : decode cX3_goOn 14 = .ok (.aload_n 0, 1) := by decide +kernel
theorem dX3_goOn_15 : decode cX3_goOn 15 = .ok (.getfield 34, 3) := by decide +kernel
theorem dX3_goOn_18 : decode cX3_goOn 18 = .ok (.if_icmp .gt 4, 3) := by decide +kernel
theorem dX3_goOn_21 : decode cX3_goOn 21 = .ok (.return_, 1) := by decide +kernel
theorem dX3_goOn_22 : decode cX3_goOn 22 = .ok (.iload_n 2, 1) := by decide +kernel
theorem dX3_goOn_23 : decode cX3_goOn 23 = .ok (.aload_n 0, 1) := by decide +kernel
theorem dX3_goOn_24 : decode cX3_goOn 24 = .ok (.getfield 30, 3) := by decide +kernel
theorem dX3_goOn_27 : decode cX3_goOn 27 = .ok (.if_icmp .lt 41, 3) := by decide +kernel
theorem dX3_goOn_30 : decode cX3_goOn 30 = .ok (.aload_n 0, 1) := by decide +kernel
theorem dX3_goOn_31 : decode cX3_goOn 31 = .ok (.iload_n 3, 1) := by decide +kernel
theorem dX3_goOn_32 : decode cX3_goOn 32 = .ok (.putfield 34, 3) := by decide +kernel
theorem dX3_goOn_35 : decode cX3_goOn 35 = .ok (.iconst 0, 1) := by decide +kernel
theorem dX3_goOn_36 : decode cX3_goOn 36 = .ok (.istore 6, 2) := by decide +kernel
theorem dX3_goOn_38 : decode cX3_goOn 38 = .ok (.iload 6, 2) := by decide +kernel
theorem dX3_goOn_40 : decode cX3_goOn 40 = .ok (.aload_n 0, 1) := by decide +kernel
theorem dX3_goOn_41 : decode cX3_goOn 41 = .ok (.getfield 30, 3) := by decide +kernel
theorem dX3_goOn_44 : decode cX3_goOn 44 = .ok (.if_icmp .ge 23, 3) := by decide +kernel
theorem dX3_goOn_47 : decode cX3_goOn 47 = .ok (.aload_n 0, 1) := by decide +kernel
theorem dX3_goOn_48 : decode cX3_goOn 48 = .ok (.getfield 24, 3) := by decide +kernel
theorem dX3_goOn_51 : decode cX3_goOn 51 = .ok (.iload 6, 2) := by decide +kernel
theorem dX3_goOn_53 : decode cX3_goOn 53 = .ok (.aload_n 0, 1) := by decide +kernel
theorem dX3_goOn_54 : decode cX3_goOn 54 = .ok (.getfield 21, 3) := by decide +kernel
theorem dX3_goOn_57 : decode cX3_goOn 57 = .ok (.iload 6, 2) := by decide +kernel
theorem dX3_goOn_59 : decode cX3_goOn 59 = .ok (.iaload, 1) := by decide +kernel
theorem dX3_goOn_60 : decode cX3_goOn 60 = .ok (.iastore, 1) := by decide +kernel
theorem dX3_goOn_61 : decode cX3_goOn 61 = .ok (.iinc 6 1, 3) := by decide +kernel
theorem dX3_goOn_64 : decode cX3_goOn 64 = .ok (.goto (-26), 3) := by decide +kernel
theorem dX3_goOn_67 : decode cX3_goOn 67 = .ok (.return_, 1) := by decide +kernel
theorem dX3_goOn_68 : decode cX3_goOn 68 = .ok (.iload 5, 2) := by decide +kernel
theorem dX3_goOn_70 : decode cX3_goOn 70 = .ok (.aload_n 0, 1) := by decide +kernel
theorem dX3_goOn_71 : decode cX3_goOn 71 = .ok (.getfield 15, 3) := by decide +kernel
theorem dX3_goOn_74 : decode cX3_goOn 74 = .ok (.iload_n 2, 1) := by decide +kernel
theorem dX3_goOn_75 : decode cX3_goOn 75 = .ok (.iaload, 1) := by decide +kernel
theorem dX3_goOn_76 : decode cX3_goOn 76 = .ok (.iadd, 1) := by decide +kernel
theorem dX3_goOn_77 : decode cX3_goOn 77 = .ok (.istore 6, 2) := by decide +kernel
theorem dX3_goOn_79 : decode cX3_goOn 79 = .ok (.iconst 0, 1) := by decide +kernel
theorem dX3_goOn_80 : decode cX3_goOn 80 = .ok (.istore 7, 2) := by decide +kernel
theorem dX3_goOn_82 : decode cX3_goOn 82 = .ok (.iload 7, 2) := by decide +kernel
theorem dX3_goOn_84 : decode cX3_goOn 84 = .ok (.iconst 5, 1) := by decide +kernel
theorem dX3_goOn_85 : decode cX3_goOn 85 = .ok (.if_icmp .ge 86, 3) := by decide +kernel
theorem dX3_goOn_88 : decode cX3_goOn 88 = .ok (.iload 7, 2) := by decide +kernel
theorem dX3_goOn_90 : decode cX3_goOn 90 = .ok (.aload_n 0, 1) := by decide +kernel
theorem dX3_goOn_91 : decode cX3_goOn 91 = .ok (.getfield 9, 3) := by decide +kernel
theorem dX3_goOn_94 : decode cX3_goOn 94 = .ok (.iload_n 2, 1) := by decide +kernel
theorem dX3_goOn_95 : decode cX3_goOn 95 = .ok (.iaload, 1) := by decide +kernel
theorem dX3_goOn_96 : decode cX3_goOn 96 = .ok (.if_icmp .gt 75, 3) := by decide +kernel
theorem dX3_goOn_99 : decode cX3_goOn 99 = .ok (.iload 4, 2) := by decide +kernel
theorem dX3_goOn_101 : decode cX3_goOn 101 = .ok (.aload_n 1, 1) := by decide +kernel
theorem dX3_goOn_102 : decode cX3_goOn 102 = .ok (.iload 7, 2) := by decide +kernel
theorem dX3_goOn_104 : decode cX3_goOn 104 = .ok (.iconst 1, 1) := by decide +kernel
theorem dX3_goOn_105 : decode cX3_goOn 105 = .ok (.invokevirtual 49, 3) := by decide +kernel
theorem dX3_goOn_108 : decode cX3_goOn 108 = .ok (.isub, 1) := by decide +kernel
theorem dX3_goOn_109 : decode cX3_goOn 109 = .ok (.istore 8, 2) := by decide +kernel
theorem dX3_goOn_111 : decode cX3_goOn 111 = .ok (.iload 6, 2) := by decide +kernel
theorem dX3_goOn_113 : decode cX3_goOn 113 = .ok (.aload_n 1, 1) := by decide +kernel
theorem dX3_goOn_114 : decode cX3_goOn 114 = .ok (.iload 7, 2) := by decide +kernel
theorem dX3_goOn_116 : decode cX3_goOn 116 = .ok (.iconst 2, 1) := by decide +kernel
theorem dX3_goOn_117 : decode cX3_goOn 117 = .ok (.invokevirtual 49, 3) := by decide +kernel
theorem dX3_goOn_120 : decode cX3_goOn 120 = .ok (.isub, 1) := by decide +kernel
theorem dX3_goOn_121 : decode cX3_goOn 121 = .ok (.istore 9, 2) := by decide +kernel
theorem dX3_goOn_123 : decode cX3_goOn 123 = .ok (.iload 8, 2) := by decide +kernel
theorem dX3_goOn_125 : decode cX3_goOn 125 = .ok (.ifCond .lt 40, 3) := by decide +kernel
theorem dX3_goOn_128 : decode cX3_goOn 128 = .ok (.iload 9, 2) := by decide +kernel
theorem dX3_goOn_130 : decode cX3_goOn 130 = .ok (.ifCond .ge 6, 3) := by decide +kernel
theorem dX3_goOn_133 : decode cX3_goOn 133 = .ok (.goto 32, 3) := by decide +kernel
theorem dX3_goOn_136 : decode cX3_goOn 136 = .ok (.aload_n 0, 1) := by decide +kernel
theorem dX3_goOn_137 : decode cX3_goOn 137 = .ok (.getfield 21, 3) := by decide +kernel
theorem dX3_goOn_140 : decode cX3_goOn 140 = .ok (.iload_n 2, 1) := by decide +kernel
theorem dX3_goOn_141 : decode cX3_goOn 141 = .ok (.iload 7, 2) := by decide +kernel
theorem dX3_goOn_143 : decode cX3_goOn 143 = .ok (.iastore, 1) := by decide +kernel
theorem dX3_goOn_144 : decode cX3_goOn 144 = .ok (.aload_n 0, 1) := by decide +kernel
theorem dX3_goOn_145 : decode cX3_goOn 145 = .ok (.aload_n 1, 1) := by decide +kernel
theorem dX3_goOn_146 : decode cX3_goOn 146 = .ok (.iload_n 2, 1) := by decide +kernel
theorem dX3_goOn_147 : decode cX3_goOn 147 = .ok (.iconst 1, 1) := by decide +kernel
theorem dX3_goOn_148 : decode cX3_goOn 148 = .ok (.iadd, 1) := by decide +kernel
theorem dX3_goOn_149 : decode cX3_goOn 149 = .ok (.iload_n 3, 1) := by decide +kernel
theorem dX3_goOn_150 : decode cX3_goOn 150 = .ok (.aload_n 1, 1) := by decide +kernel
theorem dX3_goOn_151 : decode cX3_goOn 151 = .ok (.iload 7, 2) := by decide +kernel
theorem dX3_goOn_153 : decode cX3_goOn 153 = .ok (.iconst 0, 1) := by decide +kernel
theorem dX3_goOn_154 : decode cX3_goOn 154 = .ok (.invokevirtual 49, 3) := by decide +kernel
theorem dX3_goOn_157 : decode cX3_goOn 157 = .ok (.iadd, 1) := by decide +kernel
theorem dX3_goOn_158 : decode cX3_goOn 158 = .ok (.iload 8, 2) := by decide +kernel
theorem dX3_goOn_160 : decode cX3_goOn 160 = .ok (.iload 9, 2) := by decide +kernel
theorem dX3_goOn_162 : decode cX3_goOn 162 = .ok (.invokestatic 54, 3) := by decide +kernel
theorem dX3_goOn_165 : decode cX3_goOn 165 = .ok (.iinc 7 1, 3) := by decide +kernel
theorem dX3_goOn_168 : decode cX3_goOn 168 = .ok (.goto (-86), 3) := by decide +kernel
theorem dX3_goOn_171 : decode cX3_goOn 171 = .ok (.return_, 1) := by decide +kernel
theorem dX4_init_0 : decode cX4_init 0 = .ok (.aload_n 0, 1) := by decide +kernel
theorem dX4_init_1 : decode cX4_init 1 = .ok (.invokespecial 3, 3) := by decide +kernel
theorem dX4_init_4 : decode cX4_init 4 = .ok (.aload_n 0, 1) := by decide +kernel
theorem dX4_init_5 : decode cX4_init 5 = .ok (.bipush 8, 2) := by decide +kernel
theorem dX4_init_7 : decode cX4_init 7 = .ok (.newarray .int, 2) := by decide +kernel
theorem dX4_init_9 : decode cX4_init 9 = .ok (.putfield 9, 3) := by decide +kernel
theorem dX4_init_12 : decode cX4_init 12 = .ok (.aload_n 0, 1) := by decide +kernel
theorem dX4_init_13 : decode cX4_init 13 = .ok (.bipush 8, 2) := by decide +kernel
theorem dX4_init_15 : decode cX4_init 15 = .ok (.newarray .int, 2) := by decide +kernel
theorem dX4_init_17 : decode cX4_init 17 = .ok (.putfield 15, 3) := by decide +kernel
theorem dX4_init_20 : decode cX4_init 20 = .ok (.aload_n 0, 1) := by decide +kernel
theorem dX4_init_21 : decode cX4_init 21 = .ok (.bipush 8, 2) := by decide +kernel
theorem dX4_init_23 : decode cX4_init 23 = .ok (.newarray .int, 2) := by decide +kernel
theorem dX4_init_25 : decode cX4_init 25 = .ok (.putfield 18, 3) := by decide +kernel
theorem dX4_init_28 : decode cX4_init 28 = .ok (.aload_n 0, 1) := by decide +kernel
theorem dX4_init_29 : decode cX4_init 29 = .ok (.bipush 8, 2) := by decide +kernel
theorem dX4_init_31 : decode cX4_init 31 = .ok (.newarray .int, 2) := by decide +kernel
theorem dX4_init_33 : decode cX4_init 33 = .ok (.putfield 21, 3) := by decide +kernel
theorem dX4_init_36 : decode cX4_init 36 = .ok (.aload_n 0, 1) := by decide +kernel
theorem dX4_init_37 : decode cX4_init 37 = .ok (.bipush 8, 2) := by decide +kernel
theorem dX4_init_39 : decode cX4_init 39 = .ok (.newarray .int, 2) := by decide +kernel
theorem dX4_init_41 : decode cX4_init 41 = .ok (.putfield 24, 3) := by decide +kernel
theorem dX4_init_44 : decode cX4_init 44 = .ok (.aload_n 0, 1) := by decide +kernel
theorem dX4_init_45 : decode cX4_init 45 = .ok (.bipush 9, 2) := by decide +kernel
theorem dX4_init_47 : decode cX4_init 47 = .ok (.newarray .int, 2) := by decide +kernel
theorem dX4_init_49 : decode cX4_init 49 = .ok (.putfield 27, 3) := by decide +kernel
theorem dX4_init_52 : decode cX4_init 52 = .ok (.aload_n 0, 1) := by decide +kernel
theorem dX4_init_53 : decode cX4_init 53 = .ok (.iconst 3, 1) := by decide +kernel
theorem dX4_init_54 : decode cX4_init 54 = .ok (.newarray .int, 2) := by decide +kernel
theorem dX4_init_56 : decode cX4_init 56 = .ok (.putfield 30, 3) := by decide +kernel
theorem dX4_init_59 : decode cX4_init 59 = .ok (.aload_n 0, 1) := by decide +kernel
theorem dX4_init_60 : decode cX4_init 60 = .ok (.iconst 0, 1) := by decide +kernel
theorem dX4_init_61 : decode cX4_init 61 = .ok (.putfield 33, 3) := by decide +kernel
theorem dX4_init_64 : decode cX4_init 64 = .ok (.aload_n 0, 1) := by decide +kernel
theorem dX4_init_65 : decode cX4_init 65 = .ok (.iconst 0, 1) := by decide +kernel
theorem dX4_init_66 : decode cX4_init 66 = .ok (.putfield 37, 3) := by decide +kernel
theorem dX4_init_69 : decode cX4_init 69 = .ok (.return_, 1) := by decide +kernel
theorem dX4_settle_0 : decode cX4_settle 0 = .ok (.aload_n 0, 1) := by decide +kernel
theorem dX4_settle_1 : decode cX4_settle 1 = .ok (.aload_n 1, 1) := by decide +kernel
theorem dX4_settle_2 : decode cX4_settle 2 = .ok (.invokevirtual 40, 3) := by decide +kernel
theorem dX4_settle_5 : decode cX4_settle 5 = .ok (.iconst 0, 1) := by decide +kernel
theorem dX4_settle_6 : decode cX4_settle 6 = .ok (.istore_n 3, 1) := by decide +kernel
theorem dX4_settle_7 : decode cX4_settle 7 = .ok (.iload_n 3, 1) := by decide +kernel
theorem dX4_settle_8 : decode cX4_settle 8 = .ok (.iconst 3, 1) := by decide +kernel
theorem dX4_settle_9 : decode cX4_settle 9 = .ok (.if_icmp .ge 21, 3) := by decide +kernel
theorem dX4_settle_12 : decode cX4_settle 12 = .ok (.aload_n 0, 1) := by decide +kernel
theorem dX4_settle_13 : decode cX4_settle 13 = .ok (.getfield 30, 3) := by decide +kernel
theorem dX4_settle_16 : decode cX4_settle 16 = .ok (.iload_n 3, 1) := by decide +kernel
theorem dX4_settle_17 : decode cX4_settle 17 = .ok (.aload_n 2, 1) := by decide +kernel
theorem dX4_settle_18 : decode cX4_settle 18 = .ok (.iload_n 3, 1) := by decide +kernel
theorem dX4_settle_19 : decode cX4_settle 19 = .ok (.iconst 1, 1) := by decide +kernel
theorem dX4_settle_20 : decode cX4_settle 20 = .ok (.invokevirtual 44, 3) := by decide +kernel
theorem dX4_settle_23 : decode cX4_settle 23 = .ok (.iastore, 1) := by decide +kernel
theorem dX4_settle_24 : decode cX4_settle 24 = .ok (.iinc 3 1, 3) := by decide +kernel
theorem dX4_settle_27 : decode cX4_settle 27 = .ok (.goto (-20), 3) := by decide +kernel
theorem dX4_settle_30 : decode cX4_settle 30 = .ok (.aload_n 0, 1) := by decide +kernel
theorem dX4_settle_31 : decode cX4_settle 31 = .ok (.aload_n 2, 1) := by decide +kernel
theorem dX4_settle_32 : decode cX4_settle 32 = .ok (.invokevirtual 50, 3) := by decide +kernel
theorem dX4_settle_35 : decode cX4_settle 35 = .ok (.aload_n 0, 1) := by decide +kernel
theorem dX4_settle_36 : decode cX4_settle 36 = .ok (.iconst (-1), 1) := by decide +kernel
theorem dX4_settle_37 : decode cX4_settle 37 = .ok (.putfield 37, 3) := by decide +kernel
theorem dX4_settle_40 : decode cX4_settle 40 = .ok (.aload_n 0, 1) := by decide +kernel
theorem dX4_settle_41 : decode cX4_settle 41 = .ok (.aload_n 2, 1) := by decide +kernel
theorem dX4_settle_42 : decode cX4_settle 42 = .ok (.iconst 0, 1) := by decide +kernel
theorem dX4_settle_43 : decode cX4_settle 43 = .ok (.iconst 0, 1) := by decide +kernel
theorem dX4_settle_44 : decode cX4_settle 44 = .ok (.invokestatic 53, 3) := by decide +kernel
theorem dX4_settle_47 : decode cX4_settle 47 = .ok (.return_, 1) := by decide +kernel
theorem dX4_readPigs_0 : decode cX4_readPigs 0 = .ok (.aload_n 0, 1) := by decide +kernel
theorem dX4_readPigs_1 : decode cX4_readPigs 1 = .ok (.iconst 0, 1) := by decide +kernel
theorem dX4_readPigs_2 : decode cX4_readPigs 2 = .ok (.putfield 33, 3) := by decide +kernel
theorem dX4_readPigs_5 : decode cX4_readPigs 5 = .ok (.iconst 0, 1) := by decide +kernel
theorem dX4_readPigs_6 : decode cX4_readPigs 6 = .ok (.istore_n 2, 1) := by decide +kernel
theorem dX4_readPigs_7 : decode cX4_readPigs 7 = .ok (.iload_n 2, 1) := by decide +kernel
theorem dX4_readPigs_8 : decode cX4_readPigs 8 = .ok (.aload_n 1, 1) := by decide +kernel
theorem dX4_readPigs_9 : decode cX4_readPigs 9 = .ok (.getfield 57, 3) := by decide +kernel
theorem dX4_readPigs_12 : decode cX4_readPigs 12 = .ok (.if_icmp .ge 83, 3) := by decide +kernel
theorem dX4_readPigs_15 : decode cX4_readPigs 15 = .ok (.aload_n 0, 1) := by decide +kernel
theorem dX4_readPigs_16 : decode cX4_readPigs 16 = .ok (.getfield 33, 3) := by decide +kernel
theorem dX4_readPigs_19 : decode cX4_readPigs 19 = .ok (.bipush 8, 2) := by decide +kernel
theorem dX4_readPigs_21 : decode cX4_readPigs 21 = .ok (.if_icmp .ge 74, 3) := by decide +kernel
theorem dX4_readPigs_24 : decode cX4_readPigs 24 = .ok (.aload_n 1, 1) := by decide +kernel
theorem dX4_readPigs_25 : decode cX4_readPigs 25 = .ok (.iload_n 2, 1) := by decide +kernel
theorem dX4_readPigs_26 : decode cX4_readPigs 26 = .ok (.iconst 5, 1) := by decide +kernel
theorem dX4_readPigs_27 : decode cX4_readPigs 27 = .ok (.invokevirtual 44, 3) := by decide +kernel
theorem dX4_readPigs_30 : decode cX4_readPigs 30 = .ok (.iconst (-1), 1) := by decide +kernel
theorem dX4_readPigs_31 : decode cX4_readPigs 31 = .ok (.if_icmp .eq 6, 3) := by decide +kernel
theorem dX4_readPigs_34 : decode cX4_readPigs 34 = .ok (.goto 55, 3) := by decide +kernel
theorem dX4_readPigs_37 : decode cX4_readPigs 37 = .ok (.aload_n 0, 1) := by decide +kernel
theorem dX4_readPigs_38 : decode cX4_readPigs 38 = .ok (.getfield 9, 3) := by decide +kernel
theorem dX4_readPigs_41 : decode cX4_readPigs 41 = .ok (.aload_n 0, 1) := by decide +kernel
theorem dX4_readPigs_42 : decode cX4_readPigs 42 = .ok (.getfield 33, 3) := by decide +kernel
theorem dX4_readPigs_45 : decode cX4_readPigs 45 = .ok (.iload_n 2, 1) := by decide +kernel
theorem dX4_readPigs_46 : decode cX4_readPigs 46 = .ok (.iastore, 1) := by decide +kernel
theorem dX4_readPigs_47 : decode cX4_readPigs 47 = .ok (.aload_n 0, 1) := by decide +kernel
theorem dX4_readPigs_48 : decode cX4_readPigs 48 = .ok (.getfield 15, 3) := by decide +kernel
theorem dX4_readPigs_51 : decode cX4_readPigs 51 = .ok (.aload_n 0, 1) := by decide +kernel
theorem dX4_readPigs_52 : decode cX4_readPigs 52 = .ok (.getfield 33, 3) := by decide +kernel
theorem dX4_readPigs_55 : decode cX4_readPigs 55 = .ok (.aload_n 1, 1) := by decide +kernel
theorem dX4_readPigs_56 : decode cX4_readPigs 56 = .ok (.iload_n 2, 1) := by decide +kernel
theorem dX4_readPigs_57 : decode cX4_readPigs 57 = .ok (.iconst 0, 1) := by decide +kernel
theorem dX4_readPigs_58 : decode cX4_readPigs 58 = .ok (.invokevirtual 44, 3) := by decide +kernel
theorem dX4_readPigs_61 : decode cX4_readPigs 61 = .ok (.iastore, 1) := by decide +kernel
theorem dX4_readPigs_62 : decode cX4_readPigs 62 = .ok (.aload_n 0, 1) := by decide +kernel
theorem dX4_readPigs_63 : decode cX4_readPigs 63 = .ok (.getfield 18, 3) := by decide +kernel
theorem dX4_readPigs_66 : decode cX4_readPigs 66 = .ok (.aload_n 0, 1) := by decide +kernel
theorem dX4_readPigs_67 : decode cX4_readPigs 67 = .ok (.getfield 33, 3) := by decide +kernel
theorem dX4_readPigs_70 : decode cX4_readPigs 70 = .ok (.iconst 1, 1) := by decide +kernel
theorem dX4_readPigs_71 : decode cX4_readPigs 71 = .ok (.aload_n 1, 1) := by decide +kernel
theorem dX4_readPigs_72 : decode cX4_readPigs 72 = .ok (.iload_n 2, 1) := by decide +kernel
theorem dX4_readPigs_73 : decode cX4_readPigs 73 = .ok (.iconst 1, 1) := by decide +kernel
theorem dX4_readPigs_74 : decode cX4_readPigs 74 = .ok (.invokevirtual 44, 3) := by decide +kernel
theorem dX4_readPigs_77 : decode cX4_readPigs 77 = .ok (.ishl, 1) := by decide +kernel
theorem dX4_readPigs_78 : decode cX4_readPigs 78 = .ok (.iastore, 1) := by decide +kernel
theorem dX4_readPigs_79 : decode cX4_readPigs 79 = .ok (.aload_n 0, 1) := by decide +kernel
theorem dX4_readPigs_80 : decode cX4_readPigs 80 = .ok (.dup, 1) := by decide +kernel
theorem dX4_readPigs_81 : decode cX4_readPigs 81 = .ok (.getfield 33, 3) := by decide +kernel
theorem dX4_readPigs_84 : decode cX4_readPigs 84 = .ok (.iconst 1, 1) := by decide +kernel
theorem dX4_readPigs_85 : decode cX4_readPigs 85 = .ok (.iadd, 1) := by decide +kernel
theorem dX4_readPigs_86 : decode cX4_readPigs 86 = .ok (.putfield 33, 3) := by decide +kernel
theorem dX4_readPigs_89 : decode cX4_readPigs 89 = .ok (.iinc 2 1, 3) := by decide +kernel
theorem dX4_readPigs_92 : decode cX4_readPigs 92 = .ok (.goto (-85), 3) := by decide +kernel
theorem dX4_readPigs_95 : decode cX4_readPigs 95 = .ok (.return_, 1) := by decide +kernel
theorem dX4_readHopes_0 : decode cX4_readHopes 0 = .ok (.aload_n 0, 1) := by decide +kernel
theorem dX4_readHopes_1 : decode cX4_readHopes 1 = .ok (.getfield 27, 3) := by decide +kernel
theorem dX4_readHopes_4 : decode cX4_readHopes 4 = .ok (.aload_n 0, 1) := by decide +kernel
theorem dX4_readHopes_5 : decode cX4_readHopes 5 = .ok (.getfield 33, 3) := by decide +kernel
theorem dX4_readHopes_8 : decode cX4_readHopes 8 = .ok (.iconst 0, 1) := by decide +kernel
theorem dX4_readHopes_9 : decode cX4_readHopes 9 = .ok (.iastore, 1) := by decide +kernel
theorem dX4_readHopes_10 : decode cX4_readHopes 10 = .ok (.aload_n 0, 1) := by decide +kernel
theorem dX4_readHopes_11 : decode cX4_readHopes 11 = .ok (.getfield 33, 3) := by decide +kernel
theorem dX4_readHopes_14 : decode cX4_readHopes 14 = .ok (.iconst 1, 1) := by decide +kernel
theorem dX4_readHopes_15 : decode cX4_readHopes 15 = .ok (.isub, 1) := by decide +kernel
theorem dX4_readHopes_16 : decode cX4_readHopes 16 = .ok (.istore_n 2, 1) := by decide +kernel
theorem dX4_readHopes_17 : decode cX4_readHopes 17 = .ok (.iload_n 2, 1) := by decide +kernel
theorem dX4_readHopes_18 : decode cX4_readHopes 18 = .ok (.ifCond .lt 75, 3) := by decide +kernel
theorem dX4_readHopes_21 : decode cX4_readHopes 21 = .ok (.iconst 0, 1) := by decide +kernel
theorem dX4_readHopes_22 : decode cX4_readHopes 22 = .ok (.istore_n 3, 1) := by decide +kernel
theorem dX4_readHopes_23 : decode cX4_readHopes 23 = .ok (.iconst 0, 1) := by decide +kernel
theorem dX4_readHopes_24 : decode cX4_readHopes 24 = .ok (.istore 4, 2) := by decide +kernel
theorem dX4_readHopes_26 : decode cX4_readHopes 26 = .ok (.iload 4, 2) := by decide +kernel
theorem dX4_readHopes_28 : decode cX4_readHopes 28 = .ok (.aload_n 1, 1) := by decide +kernel
theorem dX4_readHopes_29 : decode cX4_readHopes 29 = .ok (.getfield 57, 3) := by decide +kernel
theorem dX4_readHopes_32 : decode cX4_readHopes 32 = .ok (.if_icmp .ge 32, 3) := by decide +kernel
theorem dX4_readHopes_35 : decode cX4_readHopes 35 = .ok (.aload_n 0, 1) := by decide +kernel
theorem dX4_readHopes_36 : decode cX4_readHopes 36 = .ok (.aload_n 1, 1) := by decide +kernel
theorem dX4_readHopes_37 : decode cX4_readHopes 37 = .ok (.iload 4, 2) := by decide +kernel
theorem dX4_readHopes_39 : decode cX4_readHopes 39 = .ok (.iload_n 2, 1) := by decide +kernel
theorem dX4_readHopes_40 : decode cX4_readHopes 40 = .ok (.invokevirtual 60, 3) := by decide +kernel
theorem dX4_readHopes_43 : decode cX4_readHopes 43 = .ok (.ifCond .eq 15, 3) := by decide +kernel
theorem dX4_readHopes_46 : decode cX4_readHopes 46 = .ok (.iload_n 3, 1) := by decide +kernel
theorem dX4_readHopes_47 : decode cX4_readHopes 47 = .ok (.aload_n 1, 1) := by decide +kernel
theorem dX4_readHopes_48 : decode cX4_readHopes 48 = .ok (.iload 4, 2) := by decide +kernel
theorem dX4_readHopes_50 : decode cX4_readHopes 50 = .ok (.iconst 2, 1) := by decide +kernel
theorem dX4_readHopes_51 : decode cX4_readHopes 51 = .ok (.invokevirtual 44, 3) := by decide +kernel
theorem dX4_readHopes_54 : decode cX4_readHopes 54 = .ok (.invokestatic 64, 3) := by decide +kernel
theorem dX4_readHopes_57 : decode cX4_readHopes 57 = .ok (.istore_n 3, 1) := by decide +kernel
theorem dX4_readHopes_58 : decode cX4_readHopes 58 = .ok (.iinc 4 1, 3) := by decide +kernel
theorem dX4_readHopes_61 : decode cX4_readHopes 61 = .ok (.goto (-35), 3) := by decide +kernel
theorem dX4_readHopes_64 : decode cX4_readHopes 64 = .ok (.aload_n 0, 1) := by decide +kernel
theorem dX4_readHopes_65 : decode cX4_readHopes 65 = .ok (.getfield 27, 3) := by decide +kernel
theorem dX4_readHopes_68 : decode cX4_readHopes 68 = .ok (.iload_n 2, 1) := by decide +kernel
theorem dX4_readHopes_69 : decode cX4_readHopes 69 = .ok (.aload_n 0, 1) := by decide +kernel
theorem dX4_readHopes_70 : decode cX4_readHopes 70 = .ok (.getfield 27, 3) := by decide +kernel
theorem dX4_readHopes_73 : decode cX4_readHopes 73 = .ok (.iload_n 2, 1) := by decide +kernel
theorem dX4_readHopes_74 : decode cX4_readHopes 74 = .ok (.iconst 1, 1) := by decide +kernel
theorem dX4_readHopes_75 : decode cX4_readHopes 75 = .ok (.iadd, 1) := by decide +kernel
theorem dX4_readHopes_76 : decode cX4_readHopes 76 = .ok (.iaload, 1) := by decide +kernel
theorem dX4_readHopes_77 : decode cX4_readHopes 77 = .ok (.iload_n 3, 1) := by decide +kernel
theorem dX4_readHopes_78 : decode cX4_readHopes 78 = .ok (.aload_n 0, 1) := by decide +kernel
theorem dX4_readHopes_79 : decode cX4_readHopes 79 = .ok (.getfield 15, 3) := by decide +kernel
theorem dX4_readHopes_82 : decode cX4_readHopes 82 = .ok (.iload_n 2, 1) := by decide +kernel
theorem dX4_readHopes_83 : decode cX4_readHopes 83 = .ok (.iaload, 1) := by decide +kernel
theorem dX4_readHopes_84 : decode cX4_readHopes 84 = .ok (.imul, 1) := by decide +kernel
theorem dX4_readHopes_85 : decode cX4_readHopes 85 = .ok (.iadd, 1) := by decide +kernel
theorem dX4_readHopes_86 : decode cX4_readHopes 86 = .ok (.iastore, 1) := by decide +kernel
theorem dX4_readHopes_87 : decode cX4_readHopes 87 = .ok (.iinc 2 (-1), 3) := by decide +kernel
theorem dX4_readHopes_90 : decode cX4_readHopes 90 = .ok (.goto (-73), 3) := by decide +kernel
theorem dX4_readHopes_93 : decode cX4_readHopes 93 = .ok (.return_, 1) := by decide +kernel
theorem dX4_canTake_0 : decode cX4_canTake 0 = .ok (.aload_n 1, 1) := by decide +kernel
theorem dX4_canTake_1 : decode cX4_canTake 1 = .ok (.iload_n 2, 1) := by decide +kernel
theorem dX4_canTake_2 : decode cX4_canTake 2 = .ok (.iconst 0, 1) := by decide +kernel
theorem dX4_canTake_3 : decode cX4_canTake 3 = .ok (.invokevirtual 44, 3) := by decide +kernel
theorem dX4_canTake_6 : decode cX4_canTake 6 = .ok (.aload_n 0, 1) := by decide +kernel
theorem dX4_canTake_7 : decode cX4_canTake 7 = .ok (.getfield 18, 3) := by decide +kernel
theorem dX4_canTake_10 : decode cX4_canTake 10 = .ok (.iload_n 3, 1) := by decide +kernel
theorem dX4_canTake_11 : decode cX4_canTake 11 = .ok (.iaload, 1) := by decide +kernel
theorem dX4_canTake_12 : decode cX4_canTake 12 = .ok (.iand, 1) := by decide +kernel
theorem dX4_canTake_13 : decode cX4_canTake 13 = .ok (.ifCond .eq 7, 3) := by decide +kernel
theorem dX4_canTake_16 : decode cX4_canTake 16 = .ok (.iconst 1, 1) := by decide +kernel
theorem dX4_canTake_17 : decode cX4_canTake 17 = .ok (.goto 4, 3) := by decide +kernel
theorem dX4_canTake_20 : decode cX4_canTake 20 = .ok (.iconst 0, 1) := by decide +kernel
theorem dX4_canTake_21 : decode cX4_canTake 21 = .ok (.istore 4, 2) := by decide +kernel
theorem dX4_canTake_23 : decode cX4_canTake 23 = .ok (.iload 4, 2) := by decide +kernel
theorem dX4_canTake_25 : decode cX4_canTake 25 = .ok (.ifCond .eq 22, 3) := by decide +kernel
theorem dX4_canTake_28 : decode cX4_canTake 28 = .ok (.aload_n 0, 1) := by decide +kernel
theorem dX4_canTake_29 : decode cX4_canTake 29 = .ok (.getfield 15, 3) := by decide +kernel
theorem dX4_canTake_32 : decode cX4_canTake 32 = .ok (.iload_n 3, 1) := by decide +kernel
theorem dX4_canTake_33 : decode cX4_canTake 33 = .ok (.iaload, 1) := by decide +kernel
theorem dX4_canTake_34 : decode cX4_canTake 34 = .ok (.aload_n 0, 1) := by decide +kernel
theorem dX4_canTake_35 : decode cX4_canTake 35 = .ok (.getfield 30, 3) := by decide +kernel
theorem dX4_canTake_38 : decode cX4_canTake 38 = .ok (.iload_n 2, 1) := by decide +kernel
theorem dX4_canTake_39 : decode cX4_canTake 39 = .ok (.iaload, 1) := by decide +kernel
theorem dX4_canTake_40 : decode cX4_canTake 40 = .ok (.if_icmp .gt 7, 3) := by decide +kernel
theorem dX4_canTake_43 : decode cX4_canTake 43 = .ok (.iconst 1, 1) := by decide +kernel
theorem dX4_canTake_44 : decode cX4_canTake 44 = .ok (.goto 4, 3) := by decide +kernel
theorem dX4_canTake_47 : decode cX4_canTake 47 = .ok (.iconst 0, 1) := by decide +kernel
theorem dX4_canTake_48 : decode cX4_canTake 48 = .ok (.ireturn, 1) := by decide +kernel
theorem dX4_place_0 : decode cX4_place 0 = .ok (.iload_n 2, 1) := by decide +kernel
theorem dX4_place_1 : decode cX4_place 1 = .ok (.bipush 8, 2) := by decide +kernel
theorem dX4_place_3 : decode cX4_place 3 = .ok (.if_icmp .gt 18, 3) := by decide +kernel
theorem dX4_place_6 : decode cX4_place 6 = .ok (.iload_n 3, 1) := by decide +kernel
theorem dX4_place_7 : decode cX4_place 7 = .ok (.aload_n 0, 1) := by decide +kernel
theorem dX4_place_8 : decode cX4_place 8 = .ok (.getfield 27, 3) := by decide +kernel
theorem dX4_place_11 : decode cX4_place 11 = .ok (.iload_n 2, 1) := by decide +kernel
theorem dX4_place_12 : decode cX4_place 12 = .ok (.iaload, 1) := by decide +kernel
theorem dX4_place_13 : decode cX4_place 13 = .ok (.iadd, 1) := by decide +kernel
theorem dX4_place_14 : decode cX4_place 14 = .ok (.aload_n 0, 1) := by decide +kernel
theorem dX4_place_15 : decode cX4_place 15 = .ok (.getfield 37, 3) := by decide +kernel
theorem dX4_place_18 : decode cX4_place 18 = .ok (.if_icmp .gt 4, 3) := by decide +kernel
theorem dX4_place_21 : decode cX4_place 21 = .ok (.return_, 1) := by decide +kernel
theorem dX4_place_22 : decode cX4_place 22 = .ok (.iload_n 2, 1) := by decide +kernel
theorem dX4_place_23 : decode cX4_place 23 = .ok (.aload_n 0, 1) := by decide +kernel
theorem dX4_place_24 : decode cX4_place 24 = .ok (.getfield 33, 3) := by decide +kernel
theorem dX4_place_27 : decode cX4_place 27 = .ok (.if_icmp .lt 41, 3) := by decide +kernel
theorem dX4_place_30 : decode cX4_place 30 = .ok (.aload_n 0, 1) := by decide +kernel
theorem dX4_place_31 : decode cX4_place 31 = .ok (.iload_n 3, 1) := by decide +kernel
theorem dX4_place_32 : decode cX4_place 32 = .ok (.putfield 37, 3) := by decide +kernel
theorem dX4_place_35 : decode cX4_place 35 = .ok (.iconst 0, 1) := by decide +kernel
theorem dX4_place_36 : decode cX4_place 36 = .ok (.istore 4, 2) := by decide +kernel
theorem dX4_place_38 : decode cX4_place 38 = .ok (.iload 4, 2) := by decide +kernel
theorem dX4_place_40 : decode cX4_place 40 = .ok (.aload_n 0, 1) := by decide +kernel
theorem dX4_place_41 : decode cX4_place 41 = .ok (.getfield 33, 3) := by decide +kernel
theorem dX4_place_44 : decode cX4_place 44 = .ok (.if_icmp .ge 23, 3) := by decide +kernel
theorem dX4_place_47 : decode cX4_place 47 = .ok (.aload_n 0, 1) := by decide +kernel
theorem dX4_place_48 : decode cX4_place 48 = .ok (.getfield 24, 3) := by decide +kernel
theorem dX4_place_51 : decode cX4_place 51 = .ok (.iload 4, 2) := by decide +kernel
theorem dX4_place_53 : decode cX4_place 53 = .ok (.aload_n 0, 1) := by decide +kernel
theorem dX4_place_54 : decode cX4_place 54 = .ok (.getfield 21, 3) := by decide +kernel
theorem dX4_place_57 : decode cX4_place 57 = .ok (.iload 4, 2) := by decide +kernel
theorem dX4_place_59 : decode cX4_place 59 = .ok (.iaload, 1) := by decide +kernel
theorem dX4_place_60 : decode cX4_place 60 = .ok (.iastore, 1) := by decide +kernel
theorem dX4_place_61 : decode cX4_place 61 = .ok (.iinc 4 1, 3) := by decide +kernel
theorem dX4_place_64 : decode cX4_place 64 = .ok (.goto (-26), 3) := by decide +kernel
theorem dX4_place_67 : decode cX4_place 67 = .ok (.return_, 1) := by decide +kernel
theorem dX4_place_68 : decode cX4_place 68 = .ok (.aload_n 0, 1) := by decide +kernel
theorem dX4_place_69 : decode cX4_place 69 = .ok (.getfield 15, 3) := by decide +kernel
theorem dX4_place_72 : decode cX4_place 72 = .ok (.iload_n 2, 1) := by decide +kernel
theorem dX4_place_73 : decode cX4_place 73 = .ok (.iaload, 1) := by decide +kernel
theorem dX4_place_74 : decode cX4_place 74 = .ok (.istore 4, 2) := by decide +kernel
theorem dX4_place_76 : decode cX4_place 76 = .ok (.iconst 0, 1) := by decide +kernel
theorem dX4_place_77 : decode cX4_place 77 = .ok (.istore 5, 2) := by decide +kernel
theorem dX4_place_79 : decode cX4_place 79 = .ok (.iload 5, 2) := by decide +kernel
theorem dX4_place_81 : decode cX4_place 81 = .ok (.aload_n 1, 1) := by decide +kernel
theorem dX4_place_82 : decode cX4_place 82 = .ok (.getfield 57, 3) := by decide +kernel
theorem dX4_place_85 : decode cX4_place 85 = .ok (.if_icmp .ge 81, 3) := by decide +kernel
theorem dX4_place_88 : decode cX4_place 88 = .ok (.iload 5, 2) := by decide +kernel
theorem dX4_place_90 : decode cX4_place 90 = .ok (.iconst 3, 1) := by decide +kernel
theorem dX4_place_91 : decode cX4_place 91 = .ok (.if_icmp .ge 75, 3) := by decide +kernel
theorem dX4_place_94 : decode cX4_place 94 = .ok (.aload_n 0, 1) := by decide +kernel
theorem dX4_place_95 : decode cX4_place 95 = .ok (.aload_n 1, 1) := by decide +kernel
theorem dX4_place_96 : decode cX4_place 96 = .ok (.iload 5, 2) := by decide +kernel
theorem dX4_place_98 : decode cX4_place 98 = .ok (.iload_n 2, 1) := by decide +kernel
theorem dX4_place_99 : decode cX4_place 99 = .ok (.invokevirtual 60, 3) := by decide +kernel
theorem dX4_place_102 : decode cX4_place 102 = .ok (.ifCond .ne 6, 3) := by decide +kernel
theorem dX4_place_105 : decode cX4_place 105 = .ok (.goto 55, 3) := by decide +kernel
theorem dX4_place_108 : decode cX4_place 108 = .ok (.aload_n 0, 1) := by decide +kernel
theorem dX4_place_109 : decode cX4_place 109 = .ok (.getfield 21, 3) := by decide +kernel
theorem dX4_place_112 : decode cX4_place 112 = .ok (.iload_n 2, 1) := by decide +kernel
theorem dX4_place_113 : decode cX4_place 113 = .ok (.iload 5, 2) := by decide +kernel
theorem dX4_place_115 : decode cX4_place 115 = .ok (.iastore, 1) := by decide +kernel
theorem dX4_place_116 : decode cX4_place 116 = .ok (.aload_n 0, 1) := by decide +kernel
theorem dX4_place_117 : decode cX4_place 117 = .ok (.getfield 30, 3) := by decide +kernel
theorem dX4_place_120 : decode cX4_place 120 = .ok (.iload 5, 2) := by decide +kernel
theorem dX4_place_122 : decode cX4_place 122 = .ok (.dup2, 1) := by decide +kernel
theorem dX4_place_123 : decode cX4_place 123 = .ok (.iaload, 1) := by decide +kernel
theorem dX4_place_124 : decode cX4_place 124 = .ok (.iload 4, 2) := by decide +kernel
theorem dX4_place_126 : decode cX4_place 126 = .ok (.isub, 1) := by decide +kernel
theorem dX4_place_127 : decode cX4_place 127 = .ok (.iastore, 1) := by decide +kernel
theorem dX4_place_128 : decode cX4_place 128 = .ok (.aload_n 0, 1) := by decide +kernel
theorem dX4_place_129 : decode cX4_place 129 = .ok (.aload_n 1, 1) := by decide +kernel
theorem dX4_place_130 : decode cX4_place 130 = .ok (.iload_n 2, 1) := by decide +kernel
theorem dX4_place_131 : decode cX4_place 131 = .ok (.iconst 1, 1) := by decide +kernel
theorem dX4_place_132 : decode cX4_place 132 = .ok (.iadd, 1) := by decide +kernel
theorem dX4_place_133 : decode cX4_place 133 = .ok (.iload_n 3, 1) := by decide +kernel
theorem dX4_place_134 : decode cX4_place 134 = .ok (.iload 4, 2) := by decide +kernel
theorem dX4_place_136 : decode cX4_place 136 = .ok (.aload_n 1, 1) := by decide +kernel
theorem dX4_place_137 : decode cX4_place 137 = .ok (.iload 5, 2) := by decide +kernel
theorem dX4_place_139 : decode cX4_place 139 = .ok (.iconst 2, 1) := by decide +kernel
theorem dX4_place_140 : decode cX4_place 140 = .ok (.invokevirtual 44, 3) := by decide +kernel
theorem dX4_place_143 : decode cX4_place 143 = .ok (.imul, 1) := by decide +kernel
theorem dX4_place_144 : decode cX4_place 144 = .ok (.iadd, 1) := by decide +kernel
theorem dX4_place_145 : decode cX4_place 145 = .ok (.invokestatic 53, 3) := by decide +kernel
theorem dX4_place_148 : decode cX4_place 148 = .ok (.aload_n 0, 1) := by decide +kernel
theorem dX4_place_149 : decode cX4_place 149 = .ok (.getfield 30, 3) := by decide +kernel
theorem dX4_place_152 : decode cX4_place 152 = .ok (.iload 5, 2) := by decide +kernel
theorem dX4_place_154 : decode cX4_place 154 = .ok (.dup2, 1) := by decide +kernel
theorem dX4_place_155 : decode cX4_place 155 = .ok (.iaload, 1) := by decide +kernel
theorem dX4_place_156 : decode cX4_place 156 = .ok (.iload 4, 2) := by decide +kernel
theorem dX4_place_158 : decode cX4_place 158 = .ok (.iadd, 1) := by decide +kernel
theorem dX4_place_159 : decode cX4_place 159 = .ok (.iastore, 1) := by decide +kernel
theorem dX4_place_160 : decode cX4_place 160 = .ok (.iinc 5 1, 3) := by decide +kernel
theorem dX4_place_163 : decode cX4_place 163 = .ok (.goto (-84), 3) := by decide +kernel
theorem dX4_place_166 : decode cX4_place 166 = .ok (.aload_n 0, 1) := by decide +kernel
theorem dX4_place_167 : decode cX4_place 167 = .ok (.getfield 21, 3) := by decide +kernel
theorem dX4_place_170 : decode cX4_place 170 = .ok (.iload_n 2, 1) := by decide +kernel
theorem dX4_place_171 : decode cX4_place 171 = .ok (.iconst (-1), 1) := by decide +kernel
theorem dX4_place_172 : decode cX4_place 172 = .ok (.iastore, 1) := by decide +kernel
theorem dX4_place_173 : decode cX4_place 173 = .ok (.aload_n 0, 1) := by decide +kernel
theorem dX4_place_174 : decode cX4_place 174 = .ok (.aload_n 1, 1) := by decide +kernel
theorem dX4_place_175 : decode cX4_place 175 = .ok (.iload_n 2, 1) := by decide +kernel
theorem dX4_place_176 : decode cX4_place 176 = .ok (.iconst 1, 1) := by decide +kernel
theorem dX4_place_177 : decode cX4_place 177 = .ok (.iadd, 1) := by decide +kernel
theorem dX4_place_178 : decode cX4_place 178 = .ok (.iload_n 3, 1) := by decide +kernel
theorem dX4_place_179 : decode cX4_place 179 = .ok (.invokestatic 53, 3) := by decide +kernel
theorem dX4_place_182 : decode cX4_place 182 = .ok (.return_, 1) := by decide +kernel
theorem dX5_init_0 : decode cX5_init 0 = .ok (.aload_n 0, 1) := by decide +kernel
theorem dX5_init_1 : decode cX5_init 1 = .ok (.invokespecial 3, 3) := by decide +kernel
theorem dX5_init_4 : decode cX5_init 4 = .ok (.aload_n 0, 1) := by decide +kernel
theorem dX5_init_5 : decode cX5_init 5 = .ok (.iconst 3, 1) := by decide +kernel
theorem dX5_init_6 : decode cX5_init 6 = .ok (.newarray .int, 2) := by decide +kernel
theorem dX5_init_8 : decode cX5_init 8 = .ok (.putfield 9, 3) := by decide +kernel
theorem dX5_init_11 : decode cX5_init 11 = .ok (.aload_n 0, 1) := by decide +kernel
theorem dX5_init_12 : decode cX5_init 12 = .ok (.iconst 3, 1) := by decide +kernel
theorem dX5_init_13 : decode cX5_init 13 = .ok (.newarray .int, 2) := by decide +kernel
theorem dX5_init_15 : decode cX5_init 15 = .ok (.putfield 15, 3) := by decide +kernel
theorem dX5_init_18 : decode cX5_init 18 = .ok (.iconst 0, 1) := by decide +kernel
theorem dX5_init_19 : decode cX5_init 19 = .ok (.istore_n 1, 1) := by decide +kernel
theorem dX5_init_20 : decode cX5_init 20 = .ok (.iload_n 1, 1) := by decide +kernel
theorem dX5_init_21 : decode cX5_init 21 = .ok (.iconst 3, 1) := by decide +kernel
theorem dX5_init_22 : decode cX5_init 22 = .ok (.if_icmp .ge 16, 3) := by decide +kernel
theorem dX5_init_25 : decode cX5_init 25 = .ok (.aload_n 0, 1) := by decide +kernel
theorem dX5_init_26 : decode cX5_init 26 = .ok (.getfield 9, 3) := by decide +kernel
theorem dX5_init_29 : decode cX5_init 29 = .ok (.iload_n 1, 1) := by decide +kernel
theorem dX5_init_30 : decode cX5_init 30 = .ok (.iconst (-1), 1) := by decide +kernel
theorem dX5_init_31 : decode cX5_init 31 = .ok (.iastore, 1) := by decide +kernel
theorem dX5_init_32 : decode cX5_init 32 = .ok (.iinc 1 1, 3) := by decide +kernel
theorem dX5_init_35 : decode cX5_init 35 = .ok (.goto (-15), 3) := by decide +kernel
theorem dX5_init_38 : decode cX5_init 38 = .ok (.return_, 1) := by decide +kernel
theorem dX5_look_0 : decode cX5_look 0 = .ok (.aload_n 0, 1) := by decide +kernel
theorem dX5_look_1 : decode cX5_look 1 = .ok (.getfield 9, 3) := by decide +kernel
theorem dX5_look_4 : decode cX5_look 4 = .ok (.iconst 0, 1) := by decide +kernel
theorem dX5_look_5 : decode cX5_look 5 = .ok (.iload_n 1, 1) := by decide +kernel
theorem dX5_look_6 : decode cX5_look 6 = .ok (.iastore, 1) := by decide +kernel
theorem dX5_look_7 : decode cX5_look 7 = .ok (.aload_n 0, 1) := by decide +kernel
theorem dX5_look_8 : decode cX5_look 8 = .ok (.getfield 9, 3) := by decide +kernel
theorem dX5_look_11 : decode cX5_look 11 = .ok (.iconst 1, 1) := by decide +kernel
theorem dX5_look_12 : decode cX5_look 12 = .ok (.iload_n 2, 1) := by decide +kernel
theorem dX5_look_13 : decode cX5_look 13 = .ok (.iastore, 1) := by decide +kernel
theorem dX5_look_14 : decode cX5_look 14 = .ok (.aload_n 0, 1) := by decide +kernel
theorem dX5_look_15 : decode cX5_look 15 = .ok (.getfield 9, 3) := by decide +kernel
theorem dX5_look_18 : decode cX5_look 18 = .ok (.iconst 2, 1) := by decide +kernel
theorem dX5_look_19 : decode cX5_look 19 = .ok (.iload_n 3, 1) := by decide +kernel
theorem dX5_look_20 : decode cX5_look 20 = .ok (.iastore, 1) := by decide +kernel
theorem dX5_look_21 : decode cX5_look 21 = .ok (.iconst 0, 1) := by decide +kernel
theorem dX5_look_22 : decode cX5_look 22 = .ok (.istore 4, 2) := by decide +kernel
theorem dX5_look_24 : decode cX5_look 24 = .ok (.iload 4, 2) := by decide +kernel
theorem dX5_look_26 : decode cX5_look 26 = .ok (.iconst 3, 1) := by decide +kernel
theorem dX5_look_27 : decode cX5_look 27 = .ok (.if_icmp .ge 41, 3) := by decide +kernel
theorem dX5_look_30 : decode cX5_look 30 = .ok (.aload_n 0, 1) := by decide +kernel
theorem dX5_look_31 : decode cX5_look 31 = .ok (.getfield 15, 3) := by decide +kernel
theorem dX5_look_34 : decode cX5_look 34 = .ok (.iload 4, 2) := by decide +kernel
theorem dX5_look_36 : decode cX5_look 36 = .ok (.iaload, 1) := by decide +kernel
theorem dX5_look_37 : decode cX5_look 37 = .ok (.ifCond .gt 6, 3) := by decide +kernel
theorem dX5_look_40 : decode cX5_look 40 = .ok (.goto 22, 3) := by decide +kernel
theorem dX5_look_43 : decode cX5_look 43 = .ok (.aload_n 0, 1) := by decide +kernel
theorem dX5_look_44 : decode cX5_look 44 = .ok (.getfield 9, 3) := by decide +kernel
theorem dX5_look_47 : decode cX5_look 47 = .ok (.iload 4, 2) := by decide +kernel
theorem dX5_look_49 : decode cX5_look 49 = .ok (.iconst (-1), 1) := by decide +kernel
theorem dX5_look_50 : decode cX5_look 50 = .ok (.iastore, 1) := by decide +kernel
theorem dX5_look_51 : decode cX5_look 51 = .ok (.aload_n 0, 1) := by decide +kernel
theorem dX5_look_52 : decode cX5_look 52 = .ok (.getfield 15, 3) := by decide +kernel
theorem dX5_look_55 : decode cX5_look 55 = .ok (.iload 4, 2) := by decide +kernel
theorem dX5_look_57 : decode cX5_look 57 = .ok (.dup2, 1) := by decide +kernel
theorem dX5_look_58 : decode cX5_look 58 = .ok (.iaload, 1) := by decide +kernel
theorem dX5_look_59 : decode cX5_look 59 = .ok (.iconst 1, 1) := by decide +kernel
theorem dX5_look_60 : decode cX5_look 60 = .ok (.isub, 1) := by decide +kernel
theorem dX5_look_61 : decode cX5_look 61 = .ok (.iastore, 1) := by decide +kernel
theorem dX5_look_62 : decode cX5_look 62 = .ok (.iinc 4 1, 3) := by decide +kernel
theorem dX5_look_65 : decode cX5_look 65 = .ok (.goto (-41), 3) := by decide +kernel
theorem dX5_look_68 : decode cX5_look 68 = .ok (.return_, 1) := by decide +kernel
theorem dX6_init_0 : decode cX6_init 0 = .ok (.aload_n 0, 1) := by decide +kernel
theorem dX6_init_1 : decode cX6_init 1 = .ok (.invokespecial 3, 3) := by decide +kernel
theorem dX6_init_4 : decode cX6_init 4 = .ok (.aload_n 0, 1) := by decide +kernel
theorem dX6_init_5 : decode cX6_init 5 = .ok (.iconst 0, 1) := by decide +kernel
theorem dX6_init_6 : decode cX6_init 6 = .ok (.putfield 9, 3) := by decide +kernel
theorem dX6_init_9 : decode cX6_init 9 = .ok (.aload_n 0, 1) := by decide +kernel
theorem dX6_init_10 : decode cX6_init 10 = .ok (.iconst 0, 1) := by decide +kernel
theorem dX6_init_11 : decode cX6_init 11 = .ok (.iload_n 1, 1) := by decide +kernel
theorem dX6_init_12 : decode cX6_init 12 = .ok (.invokestatic 15, 3) := by decide +kernel
theorem dX6_init_15 : decode cX6_init 15 = .ok (.putfield 21, 3) := by decide +kernel
theorem dX6_init_18 : decode cX6_init 18 = .ok (.aload_n 0, 1) := by decide +kernel
theorem dX6_init_19 : decode cX6_init 19 = .ok (.iconst 0, 1) := by decide +kernel
theorem dX6_init_20 : decode cX6_init 20 = .ok (.iload_n 2, 1) := by decide +kernel
theorem dX6_init_21 : decode cX6_init 21 = .ok (.invokestatic 15, 3) := by decide +kernel
theorem dX6_init_24 : decode cX6_init 24 = .ok (.putfield 24, 3) := by decide +kernel
theorem dX6_init_27 : decode cX6_init 27 = .ok (.aload_n 0, 1) := by decide +kernel
theorem dX6_init_28 : decode cX6_init 28 = .ok (.aload_n 0, 1) := by decide +kernel
theorem dX6_init_29 : decode cX6_init 29 = .ok (.getfield 21, 3) := by decide +kernel
theorem dX6_init_32 : decode cX6_init 32 = .ok (.aload_n 0, 1) := by decide +kernel
theorem dX6_init_33 : decode cX6_init 33 = .ok (.getfield 24, 3) := by decide +kernel
theorem dX6_init_36 : decode cX6_init 36 = .ok (.imul, 1) := by decide +kernel
theorem dX6_init_37 : decode cX6_init 37 = .ok (.newarray .int, 2) := by decide +kernel
theorem dX6_init_39 : decode cX6_init 39 = .ok (.putfield 27, 3) := by decide +kernel
theorem dX6_init_42 : decode cX6_init 42 = .ok (.return_, 1) := by decide +kernel
theorem dX6_isFull_0 : decode cX6_isFull 0 = .ok (.aload_n 0, 1) := by decide +kernel
theorem dX6_isFull_1 : decode cX6_isFull 1 = .ok (.getfield 9, 3) := by decide +kernel
theorem dX6_isFull_4 : decode cX6_isFull 4 = .ok (.aload_n 0, 1) := by decide +kernel
theorem dX6_isFull_5 : decode cX6_isFull 5 = .ok (.getfield 21, 3) := by decide +kernel
theorem dX6_isFull_8 : decode cX6_isFull 8 = .ok (.if_icmp .lt 7, 3) := by decide +kernel
theorem dX6_isFull_11 : decode cX6_isFull 11 = .ok (.iconst 1, 1) := by decide +kernel
theorem dX6_isFull_12 : decode cX6_isFull 12 = .ok (.goto 4, 3) := by decide +kernel
theorem dX6_isFull_15 : decode cX6_isFull 15 = .ok (.iconst 0, 1) := by decide +kernel
theorem dX6_isFull_16 : decode cX6_isFull 16 = .ok (.ireturn, 1) := by decide +kernel
theorem dX6_add_0 : decode cX6_add 0 = .ok (.aload_n 0, 1) := by decide +kernel
theorem dX6_add_1 : decode cX6_add 1 = .ok (.invokevirtual 31, 3) := by decide +kernel
theorem dX6_add_4 : decode cX6_add 4 = .ok (.ifCond .eq 5, 3) := by decide +kernel
theorem dX6_add_7 : decode cX6_add 7 = .ok (.iconst (-1), 1) := by decide +kernel
theorem dX6_add_8 : decode cX6_add 8 = .ok (.ireturn, 1) := by decide +kernel
theorem dX6_add_9 : decode cX6_add 9 = .ok (.aload_n 0, 1) := by decide +kernel
theorem dX6_add_10 : decode cX6_add 10 = .ok (.dup, 1) := by decide +kernel
theorem dX6_add_11 : decode cX6_add 11 = .ok (.getfield 9, 3) := by decide +kernel
theorem dX6_add_14 : decode cX6_add 14 = .ok (.dup_x1, 1) := by decide +kernel
theorem dX6_add_15 : decode cX6_add 15 = .ok (.iconst 1, 1) := by decide +kernel
theorem dX6_add_16 : decode cX6_add 16 = .ok (.iadd, 1) := by decide +kernel
theorem dX6_add_17 : decode cX6_add 17 = .ok (.putfield 9, 3) := by decide +kernel
theorem dX6_add_20 : decode cX6_add 20 = .ok (.ireturn, 1) := by decide +kernel
theorem dX6_get_0 : decode cX6_get 0 = .ok (.aload_n 0, 1) := by decide +kernel
theorem dX6_get_1 : decode cX6_get 1 = .ok (.iload_n 1, 1) := by decide +kernel
theorem dX6_get_2 : decode cX6_get 2 = .ok (.iload_n 2, 1) := by decide +kernel
theorem dX6_get_3 : decode cX6_get 3 = .ok (.invokevirtual 35, 3) := by decide +kernel
theorem dX6_get_6 : decode cX6_get 6 = .ok (.ifCond .eq 19, 3) := by decide +kernel
theorem dX6_get_9 : decode cX6_get 9 = .ok (.aload_n 0, 1) := by decide +kernel
theorem dX6_get_10 : decode cX6_get 10 = .ok (.getfield 27, 3) := by decide +kernel
theorem dX6_get_13 : decode cX6_get 13 = .ok (.iload_n 1, 1) := by decide +kernel
theorem dX6_get_14 : decode cX6_get 14 = .ok (.aload_n 0, 1) := by decide +kernel
theorem dX6_get_15 : decode cX6_get 15 = .ok (.getfield 24, 3) := by decide +kernel
theorem dX6_get_18 : decode cX6_get 18 = .ok (.imul, 1) := by decide +kernel
theorem dX6_get_19 : decode cX6_get 19 = .ok (.iload_n 2, 1) := by decide +kernel
theorem dX6_get_20 : decode cX6_get 20 = .ok (.iadd, 1) := by decide +kernel
theorem dX6_get_21 : decode cX6_get 21 = .ok (.iaload, 1) := by decide +kernel
theorem dX6_get_22 : decode cX6_get 22 = .ok (.goto 4, 3) := by decide +kernel
theorem dX6_get_25 : decode cX6_get 25 = .ok (.iconst (-1), 1) := by decide +kernel
theorem dX6_get_26 : decode cX6_get 26 = .ok (.ireturn, 1) := by decide +kernel
theorem dX6_set_0 : decode cX6_set 0 = .ok (.aload_n 0, 1) := by decide +kernel
theorem dX6_set_1 : decode cX6_set 1 = .ok (.iload_n 1, 1) := by decide +kernel
theorem dX6_set_2 : decode cX6_set 2 = .ok (.iload_n 2, 1) := by decide +kernel
theorem dX6_set_3 : decode cX6_set 3 = .ok (.invokevirtual 35, 3) := by decide +kernel
theorem dX6_set_6 : decode cX6_set 6 = .ok (.ifCond .eq 17, 3) := by decide +kernel
theorem dX6_set_9 : decode cX6_set 9 = .ok (.aload_n 0, 1) := by decide +kernel
theorem dX6_set_10 : decode cX6_set 10 = .ok (.getfield 27, 3) := by decide +kernel
theorem dX6_set_13 : decode cX6_set 13 = .ok (.iload_n 1, 1) := by decide +kernel
theorem dX6_set_14 : decode cX6_set 14 = .ok (.aload_n 0, 1) := by decide +kernel
theorem dX6_set_15 : decode cX6_set 15 = .ok (.getfield 24, 3) := by decide +kernel
theorem dX6_set_18 : decode cX6_set 18 = .ok (.imul, 1) := by decide +kernel
theorem dX6_set_19 : decode cX6_set 19 = .ok (.iload_n 2, 1) := by decide +kernel
theorem dX6_set_20 : decode cX6_set 20 = .ok (.iadd, 1) := by decide +kernel
theorem dX6_set_21 : decode cX6_set 21 = .ok (.iload_n 3, 1) := by decide +kernel
theorem dX6_set_22 : decode cX6_set 22 = .ok (.iastore, 1) := by decide +kernel
theorem dX6_set_23 : decode cX6_set 23 = .ok (.return_, 1) := by decide +kernel
theorem dX6_mixInto_0 : decode cX6_mixInto 0 = .ok (.aload_n 0, 1) := by decide +kernel
theorem dX6_mixInto_1 : decode cX6_mixInto 1 = .ok (.getfield 9, 3) := by decide +kernel
theorem dX6_mixInto_4 : decode cX6_mixInto 4 = .ok (.aload_n 0, 1) := by decide +kernel
theorem dX6_mixInto_5 : decode cX6_mixInto 5 = .ok (.getfield 24, 3) := by decide +kernel
theorem dX6_mixInto_8 : decode cX6_mixInto 8 = .ok (.imul, 1) := by decide +kernel
theorem dX6_mixInto_9 : decode cX6_mixInto 9 = .ok (.istore_n 3, 1) := by decide +kernel
theorem dX6_mixInto_10 : decode cX6_mixInto 10 = .ok (.iconst 0, 1) := by decide +kernel
theorem dX6_mixInto_11 : decode cX6_mixInto 11 = .ok (.istore 4, 2) := by decide +kernel
theorem dX6_mixInto_13 : decode cX6_mixInto 13 = .ok (.iload 4, 2) := by decide +kernel
theorem dX6_mixInto_15 : decode cX6_mixInto 15 = .ok (.iload_n 3, 1) := by decide +kernel
theorem dX6_mixInto_16 : decode cX6_mixInto 16 = .ok (.if_icmp .ge 34, 3) := by decide +kernel
theorem dX6_mixInto_19 : decode cX6_mixInto 19 = .ok (.iload 4, 2) := by decide +kernel
theorem dX6_mixInto_21 : decode cX6_mixInto 21 = .ok (.aload_n 0, 1) := by decide +kernel
theorem dX6_mixInto_22 : decode cX6_mixInto 22 = .ok (.getfield 27, 3) := by decide +kernel
theorem dX6_mixInto_25 : decode cX6_mixInto 25 = .ok (.arraylength, 1) := by decide +kernel
theorem dX6_mixInto_26 : decode cX6_mixInto 26 = .ok (.if_icmp .ge 24, 3) := by decide +kernel
theorem dX6_mixInto_29 : decode cX6_mixInto 29 = .ok (.ldc2_w 39, 3) := by decide +kernel
theorem dX6_mixInto_32 : decode cX6_mixInto 32 = .ok (.lload_n 1, 1) := by decide +kernel
theorem dX6_mixInto_33 : decode cX6_mixInto 33 = .ok (.lmul, 1) := by decide +kernel
theorem dX6_mixInto_34 : decode cX6_mixInto 34 = .ok (.aload_n 0, 1) := by decide +kernel
theorem dX6_mixInto_35 : decode cX6_mixInto 35 = .ok (.getfield 27, 3) := by decide +kernel
theorem dX6_mixInto_38 : decode cX6_mixInto 38 = .ok (.iload 4, 2) := by decide +kernel
theorem dX6_mixInto_40 : decode cX6_mixInto 40 = .ok (.iaload, 1) := by decide +kernel
theorem dX6_mixInto_41 : decode cX6_mixInto 41 = .ok (.i2l, 1) := by decide +kernel
theorem dX6_mixInto_42 : decode cX6_mixInto 42 = .ok (.ladd, 1) := by decide +kernel
theorem dX6_mixInto_43 : decode cX6_mixInto 43 = .ok (.lstore_n 1, 1) := by decide +kernel
theorem dX6_mixInto_44 : decode cX6_mixInto 44 = .ok (.iinc 4 1, 3) := by decide +kernel
theorem dX6_mixInto_47 : decode cX6_mixInto 47 = .ok (.goto (-34), 3) := by decide +kernel
theorem dX6_mixInto_50 : decode cX6_mixInto 50 = .ok (.lload_n 1, 1) := by decide +kernel
theorem dX6_mixInto_51 : decode cX6_mixInto 51 = .ok (.lreturn, 1) := by decide +kernel
theorem dX6_has_0 : decode cX6_has 0 = .ok (.iload_n 1, 1) := by decide +kernel
theorem dX6_has_1 : decode cX6_has 1 = .ok (.ifCond .lt 27, 3) := by decide +kernel
theorem dX6_has_4 : decode cX6_has 4 = .ok (.iload_n 1, 1) := by decide +kernel
theorem dX6_has_5 : decode cX6_has 5 = .ok (.aload_n 0, 1) := by decide +kernel
theorem dX6_has_6 : decode cX6_has 6 = .ok (.getfield 21, 3) := by decide +kernel
theorem dX6_has_9 : decode cX6_has 9 = .ok (.if_icmp .ge 19, 3) := by decide +kernel
theorem dX6_has_12 : decode cX6_has 12 = .ok (.iload_n 2, 1) := by decide +kernel
theorem dX6_has_13 : decode cX6_has 13 = .ok (.ifCond .lt 15, 3) := by decide +kernel
theorem dX6_has_16 : decode cX6_has 16 = .ok (.iload_n 2, 1) := by decide +kernel
theorem dX6_has_17 : decode cX6_has 17 = .ok (.aload_n 0, 1) := by decide +kernel
theorem dX6_has_18 : decode cX6_has 18 = .ok (.getfield 24, 3) := by decide +kernel
theorem dX6_has_21 : decode cX6_has 21 = .ok (.if_icmp .ge 7, 3) := by decide +kernel
theorem dX6_has_24 : decode cX6_has 24 = .ok (.iconst 1, 1) := by decide +kernel
theorem dX6_has_25 : decode cX6_has 25 = .ok (.goto 4, 3) := by decide +kernel
theorem dX6_has_28 : decode cX6_has 28 = .ok (.iconst 0, 1) := by decide +kernel
theorem dX6_has_29 : decode cX6_has 29 = .ok (.ireturn, 1) := by decide +kernel
theorem dX7_init_0 : decode cX7_init 0 = .ok (.aload_n 0, 1) := by decide +kernel
theorem dX7_init_1 : decode cX7_init 1 = .ok (.invokespecial 1, 3) := by decide +kernel
theorem dX7_init_4 : decode cX7_init 4 = .ok (.aload_n 0, 1) := by decide +kernel
theorem dX7_init_5 : decode cX7_init 5 = .ok (.bipush 6, 2) := by decide +kernel
theorem dX7_init_7 : decode cX7_init 7 = .ok (.newarray .int, 2) := by decide +kernel
theorem dX7_init_9 : decode cX7_init 9 = .ok (.putfield 9, 3) := by decide +kernel
theorem dX7_init_12 : decode cX7_init 12 = .ok (.aload_n 0, 1) := by decide +kernel
theorem dX7_init_13 : decode cX7_init 13 = .ok (.iconst 4, 1) := by decide +kernel
theorem dX7_init_14 : decode cX7_init 14 = .ok (.newarray .int, 2) := by decide +kernel
theorem dX7_init_16 : decode cX7_init 16 = .ok (.putfield 13, 3) := by decide +kernel
theorem dX7_init_19 : decode cX7_init 19 = .ok (.aload_n 0, 1) := by decide +kernel
theorem dX7_init_20 : decode cX7_init 20 = .ok (.new 16, 3) := by decide +kernel
theorem dX7_init_23 : decode cX7_init 23 = .ok (.dup, 1) := by decide +kernel
theorem dX7_init_24 : decode cX7_init 24 = .ok (.invokespecial 18, 3) := by decide +kernel
theorem dX7_init_27 : decode cX7_init 27 = .ok (.putfield 19, 3) := by decide +kernel
theorem dX7_init_30 : decode cX7_init 30 = .ok (.aload_n 0, 1) := by decide +kernel
theorem dX7_init_31 : decode cX7_init 31 = .ok (.new 23, 3) := by decide +kernel
theorem dX7_init_34 : decode cX7_init 34 = .ok (.dup, 1) := by decide +kernel
theorem dX7_init_35 : decode cX7_init 35 = .ok (.invokespecial 25, 3) := by decide +kernel
theorem dX7_init_38 : decode cX7_init 38 = .ok (.putfield 26, 3) := by decide +kernel
theorem dX7_init_41 : decode cX7_init 41 = .ok (.aload_n 0, 1) := by decide +kernel
theorem dX7_init_42 : decode cX7_init 42 = .ok (.new 30, 3) := by decide +kernel
theorem dX7_init_45 : decode cX7_init 45 = .ok (.dup, 1) := by decide +kernel
theorem dX7_init_46 : decode cX7_init 46 = .ok (.invokespecial 32, 3) := by decide +kernel
theorem dX7_init_49 : decode cX7_init 49 = .ok (.putfield 33, 3) := by decide +kernel
theorem dX7_init_52 : decode cX7_init 52 = .ok (.aload_n 0, 1) := by decide +kernel
theorem dX7_init_53 : decode cX7_init 53 = .ok (.new 37, 3) := by decide +kernel
theorem dX7_init_56 : decode cX7_init 56 = .ok (.dup, 1) := by decide +kernel
theorem dX7_init_57 : decode cX7_init 57 = .ok (.bipush 60, 2) := by decide +kernel
theorem dX7_init_59 : decode cX7_init 59 = .ok (.bipush 6, 2) := by decide +kernel
theorem dX7_init_61 : decode cX7_init 61 = .ok (.invokespecial 39, 3) := by decide +kernel
theorem dX7_init_64 : decode cX7_init 64 = .ok (.putfield 42, 3) := by decide +kernel
theorem dX7_init_67 : decode cX7_init 67 = .ok (.aload_n 0, 1) := by decide +kernel
theorem dX7_init_68 : decode cX7_init 68 = .ok (.new 46, 3) := by decide +kernel
theorem dX7_init_71 : decode cX7_init 71 = .ok (.dup, 1) := by decide +kernel
theorem dX7_init_72 : decode cX7_init 72 = .ok (.invokespecial 48, 3) := by decide +kernel
theorem dX7_init_75 : decode cX7_init 75 = .ok (.putfield 49, 3) := by decide +kernel
theorem dX7_init_78 : decode cX7_init 78 = .ok (.aload_n 0, 1) := by decide +kernel
theorem dX7_init_79 : decode cX7_init 79 = .ok (.new 37, 3) := by decide +kernel
theorem dX7_init_82 : decode cX7_init 82 = .ok (.dup, 1) := by decide +kernel
theorem dX7_init_83 : decode cX7_init 83 = .ok (.bipush 8, 2) := by decide +kernel
theorem dX7_init_85 : decode cX7_init 85 = .ok (.iconst 4, 1) := by decide +kernel
theorem dX7_init_86 : decode cX7_init 86 = .ok (.invokespecial 39, 3) := by decide +kernel
theorem dX7_init_89 : decode cX7_init 89 = .ok (.putfield 53, 3) := by decide +kernel
theorem dX7_init_92 : decode cX7_init 92 = .ok (.aload_n 0, 1) := by decide +kernel
theorem dX7_init_93 : decode cX7_init 93 = .ok (.new 37, 3) := by decide +kernel
theorem dX7_init_96 : decode cX7_init 96 = .ok (.dup, 1) := by decide +kernel
theorem dX7_init_97 : decode cX7_init 97 = .ok (.iconst 3, 1) := by decide +kernel
theorem dX7_init_98 : decode cX7_init 98 = .ok (.iconst 3, 1) := by decide +kernel
theorem dX7_init_99 : decode cX7_init 99 = .ok (.invokespecial 39, 3) := by decide +kernel
theorem dX7_init_102 : decode cX7_init 102 = .ok (.putfield 56, 3) := by decide +kernel
theorem dX7_init_105 : decode cX7_init 105 = .ok (.aload_n 0, 1) := by decide +kernel
theorem dX7_init_106 : decode cX7_init 106 = .ok (.new 59, 3) := by decide +kernel
theorem dX7_init_109 : decode cX7_init 109 = .ok (.dup, 1) := by decide +kernel
theorem dX7_init_110 : decode cX7_init 110 = .ok (.invokespecial 61, 3) := by decide +kernel
theorem dX7_init_113 : decode cX7_init 113 = .ok (.putfield 62, 3) := by decide +kernel
theorem dX7_init_116 : decode cX7_init 116 = .ok (.aload_n 0, 1) := by decide +kernel
