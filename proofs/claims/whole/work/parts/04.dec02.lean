theorem dX3_sumByTable_80 : decode cX3_sumByTable 80 = .ok (.lload 5, 2) := by decide +kernel
theorem dX3_sumByTable_82 : decode cX3_sumByTable 82 = .ok (.ldc2_w 247, 3) := by decide +kernel
theorem dX3_sumByTable_85 : decode cX3_sumByTable 85 = .ok (.ldiv, 1) := by decide +kernel
theorem dX3_sumByTable_86 : decode cX3_sumByTable 86 = .ok (.lreturn, 1) := by decide +kernel
theorem dX3_sumByTable_87 : decode cX3_sumByTable 87 = .ok (.lload 5, 2) := by decide +kernel
theorem dX3_sumByTable_89 : decode cX3_sumByTable 89 = .ok (.ldc2_w 82, 3) := by decide +kernel
theorem dX3_sumByTable_92 : decode cX3_sumByTable 92 = .ok (.ldiv, 1) := by decide +kernel
theorem dX3_sumByTable_93 : decode cX3_sumByTable 93 = .ok (.lreturn, 1) := by decide +kernel
theorem dX3_sumByTable_94 : decode cX3_sumByTable 94 = .ok (.lload 5, 2) := by decide +kernel
theorem dX3_sumByTable_96 : decode cX3_sumByTable 96 = .ok (.lreturn, 1) := by decide +kernel
theorem dX3_limit_0 : decode cX3_limit 0 = .ok (.iload_n 1, 1) := by decide +kernel
theorem dX3_limit_1 : decode cX3_limit 1 = .ok (.bipush 10, 2) := by decide +kernel
theorem dX3_limit_3 : decode cX3_limit 3 = .ok (.invokestatic 44, 3) := by decide +kernel
theorem dX3_limit_6 : decode cX3_limit 6 = .ok (.ifCond .eq 10, 3) := by decide +kernel
theorem dX3_limit_9 : decode cX3_limit 9 = .ok (.lload_n 2, 1) := by decide +kernel
theorem dX3_limit_10 : decode cX3_limit 10 = .ok (.invokestatic 48, 3) := by decide +kernel
theorem dX3_limit_13 : decode cX3_limit 13 = .ok (.ifCond .ne 6, 3) := by decide +kernel
theorem dX3_limit_16 : decode cX3_limit 16 = .ok (.bipush (-102), 2) := by decide +kernel
theorem dX3_limit_18 : decode cX3_limit 18 = .ok (.ireturn, 1) := by decide +kernel
theorem dX3_limit_19 : decode cX3_limit 19 = .ok (.aload_n 0, 1) := by decide +kernel
theorem dX3_limit_20 : decode cX3_limit 20 = .ok (.getfield 35, 3) := by decide +kernel
theorem dX3_limit_23 : decode cX3_limit 23 = .ok (.iload_n 1, 1) := by decide +kernel
theorem dX3_limit_24 : decode cX3_limit 24 = .ok (.lload_n 2, 1) := by decide +kernel
theorem dX3_limit_25 : decode cX3_limit 25 = .ok (.lastore, 1) := by decide +kernel
theorem dX3_limit_26 : decode cX3_limit 26 = .ok (.iconst 1, 1) := by decide +kernel
theorem dX3_limit_27 : decode cX3_limit 27 = .ok (.ireturn, 1) := by decide +kernel
theorem dX3_decide_0 : decode cX3_decide 0 = .ok (.aload_n 0, 1) := by decide +kernel
theorem dX3_decide_1 : decode cX3_decide 1 = .ok (.iload_n 1, 1) := by decide +kernel
theorem dX3_decide_2 : decode cX3_decide 2 = .ok (.invokevirtual 116, 3) := by decide +kernel
theorem dX3_decide_5 : decode cX3_decide 5 = .ok (.astore_n 3, 1) := by decide +kernel
theorem dX3_decide_6 : decode cX3_decide 6 = .ok (.aload_n 3, 1) := by decide +kernel
theorem dX3_decide_7 : decode cX3_decide 7 = .ok (.ifnonnull 6, 3) := by decide +kernel
theorem dX3_decide_10 : decode cX3_decide 10 = .ok (.bipush (-101), 2) := by decide +kernel
theorem dX3_decide_12 : decode cX3_decide 12 = .ok (.ireturn, 1) := by decide +kernel
theorem dX3_decide_13 : decode cX3_decide 13 = .ok (.iload_n 2, 1) := by decide +kernel
theorem dX3_decide_14 : decode cX3_decide 14 = .ok (.bipush 10, 2) := by decide +kernel
theorem dX3_decide_16 : decode cX3_decide 16 = .ok (.invokestatic 44, 3) := by decide +kernel
theorem dX3_decide_19 : decode cX3_decide 19 = .ok (.ifCond .ne 6, 3) := by decide +kernel
theorem dX3_decide_22 : decode cX3_decide 22 = .ok (.bipush (-102), 2) := by decide +kernel
theorem dX3_decide_24 : decode cX3_decide 24 = .ok (.ireturn, 1) := by decide +kernel
theorem dX3_decide_25 : decode cX3_decide 25 = .ok (.aload_n 3, 1) := by decide +kernel
theorem dX3_decide_26 : decode cX3_decide 26 = .ok (.invokevirtual 171, 3) := by decide +kernel
theorem dX3_decide_29 : decode cX3_decide 29 = .ok (.ifCond .ne 6, 3) := by decide +kernel
theorem dX3_decide_32 : decode cX3_decide 32 = .ok (.bipush (-103), 2) := by decide +kernel
theorem dX3_decide_34 : decode cX3_decide 34 = .ok (.ireturn, 1) := by decide +kernel
theorem dX3_decide_35 : decode cX3_decide 35 = .ok (.aload_n 3, 1) := by decide +kernel
theorem dX3_decide_36 : decode cX3_decide 36 = .ok (.getfield 175, 3) := by decide +kernel
theorem dX3_decide_39 : decode cX3_decide 39 = .ok (.ifCond .eq 9, 3) := by decide +kernel
theorem dX3_decide_42 : decode cX3_decide 42 = .ok (.aload_n 0, 1) := by decide +kernel
theorem dX3_decide_43 : decode cX3_decide 43 = .ok (.aload_n 3, 1) := by decide +kernel
theorem dX3_decide_44 : decode cX3_decide 44 = .ok (.invokevirtual 178, 3) := by decide +kernel
theorem dX3_decide_47 : decode cX3_decide 47 = .ok (.ireturn, 1) := by decide +kernel
theorem dX3_decide_48 : decode cX3_decide 48 = .ok (.aload_n 0, 1) := by decide +kernel
theorem dX3_decide_49 : decode cX3_decide 49 = .ok (.aload_n 3, 1) := by decide +kernel
theorem dX3_decide_50 : decode cX3_decide 50 = .ok (.invokevirtual 167, 3) := by decide +kernel
theorem dX3_decide_53 : decode cX3_decide 53 = .ok (.lstore 4, 2) := by decide +kernel
theorem dX3_decide_55 : decode cX3_decide 55 = .ok (.lload 4, 2) := by decide +kernel
theorem dX3_decide_57 : decode cX3_decide 57 = .ok (.aload_n 0, 1) := by decide +kernel
theorem dX3_decide_58 : decode cX3_decide 58 = .ok (.getfield 35, 3) := by decide +kernel
theorem dX3_decide_61 : decode cX3_decide 61 = .ok (.iload_n 2, 1) := by decide +kernel
theorem dX3_decide_62 : decode cX3_decide 62 = .ok (.laload, 1) := by decide +kernel
theorem dX3_decide_63 : decode cX3_decide 63 = .ok (.lcmp, 1) := by decide +kernel
theorem dX3_decide_64 : decode cX3_decide 64 = .ok (.ifCond .le 6, 3) := by decide +kernel
theorem dX3_decide_67 : decode cX3_decide 67 = .ok (.bipush (-107), 2) := by decide +kernel
theorem dX3_decide_69 : decode cX3_decide 69 = .ok (.ireturn, 1) := by decide +kernel
theorem dX3_decide_70 : decode cX3_decide 70 = .ok (.aload_n 0, 1) := by decide +kernel
theorem dX3_decide_71 : decode cX3_decide 71 = .ok (.aload_n 3, 1) := by decide +kernel
theorem dX3_decide_72 : decode cX3_decide 72 = .ok (.lload 4, 2) := by decide +kernel
theorem dX3_decide_74 : decode cX3_decide 74 = .ok (.invokevirtual 182, 3) := by decide +kernel
theorem dX3_decide_77 : decode cX3_decide 77 = .ok (.ireturn, 1) := by decide +kernel
theorem dX0_isReady_0 : decode cX0_isReady 0 = .ok (.aload_n 0, 1) := by decide +kernel
theorem dX0_isReady_1 : decode cX0_isReady 1 = .ok (.getfield 9, 3) := by decide +kernel
theorem dX0_isReady_4 : decode cX0_isReady 4 = .ok (.ifCond .ne 10, 3) := by decide +kernel
theorem dX0_isReady_7 : decode cX0_isReady 7 = .ok (.aload_n 0, 1) := by decide +kernel
theorem dX0_isReady_8 : decode cX0_isReady 8 = .ok (.getfield 39, 3) := by decide +kernel
theorem dX0_isReady_11 : decode cX0_isReady 11 = .ok (.ifCond .eq 5, 3) := by decide +kernel
theorem dX0_isReady_14 : decode cX0_isReady 14 = .ok (.iconst 0, 1) := by decide +kernel
theorem dX0_isReady_15 : decode cX0_isReady 15 = .ok (.ireturn, 1) := by decide +kernel
theorem dX0_isReady_16 : decode cX0_isReady 16 = .ok (.aload_n 0, 1) := by decide +kernel
theorem dX0_isReady_17 : decode cX0_isReady 17 = .ok (.getfield 25, 3) := by decide +kernel
theorem dX0_isReady_20 : decode cX0_isReady 20 = .ok (.ifCond .ne 17, 3) := by decide +kernel
theorem dX0_isReady_23 : decode cX0_isReady 23 = .ok (.aload_n 0, 1) := by decide +kernel
theorem dX0_isReady_24 : decode cX0_isReady 24 = .ok (.getfield 42, 3) := by decide +kernel
theorem dX0_isReady_27 : decode cX0_isReady 27 = .ok (.ifCond .le 14, 3) := by decide +kernel
theorem dX0_isReady_30 : decode cX0_isReady 30 = .ok (.aload_n 0, 1) := by decide +kernel
theorem dX0_isReady_31 : decode cX0_isReady 31 = .ok (.getfield 45, 3) := by decide +kernel
theorem dX0_isReady_34 : decode cX0_isReady 34 = .ok (.ifCond .ne 7, 3) := by decide +kernel
theorem dX0_isReady_37 : decode cX0_isReady 37 = .ok (.iconst 1, 1) := by decide +kernel
theorem dX0_isReady_38 : decode cX0_isReady 38 = .ok (.goto 4, 3) := by decide +kernel
theorem dX0_isReady_41 : decode cX0_isReady 41 = .ok (.iconst 0, 1) := by decide +kernel
theorem dX0_isReady_42 : decode cX0_isReady 42 = .ok (.ireturn, 1) := by decide +kernel
theorem dX3_refuse_0 : decode cX3_refuse 0 = .ok (.aload_n 1, 1) := by decide +kernel
theorem dX3_refuse_1 : decode cX3_refuse 1 = .ok (.iconst 2, 1) := by decide +kernel
theorem dX3_refuse_2 : decode cX3_refuse 2 = .ok (.putfield 120, 3) := by decide +kernel
theorem dX3_refuse_5 : decode cX3_refuse 5 = .ok (.aload_n 0, 1) := by decide +kernel
theorem dX3_refuse_6 : decode cX3_refuse 6 = .ok (.dup, 1) := by decide +kernel
theorem dX3_refuse_7 : decode cX3_refuse 7 = .ok (.getfield 233, 3) := by decide +kernel
theorem dX3_refuse_10 : decode cX3_refuse 10 = .ok (.iconst 1, 1) := by decide +kernel
theorem dX3_refuse_11 : decode cX3_refuse 11 = .ok (.iadd, 1) := by decide +kernel
theorem dX3_refuse_12 : decode cX3_refuse 12 = .ok (.putfield 233, 3) := by decide +kernel
theorem dX3_refuse_15 : decode cX3_refuse 15 = .ok (.aload_n 0, 1) := by decide +kernel
theorem dX3_refuse_16 : decode cX3_refuse 16 = .ok (.aload_n 1, 1) := by decide +kernel
theorem dX3_refuse_17 : decode cX3_refuse 17 = .ok (.getfield 199, 3) := by decide +kernel
theorem dX3_refuse_20 : decode cX3_refuse 20 = .ok (.iconst 4, 1) := by decide +kernel
theorem dX3_refuse_21 : decode cX3_refuse 21 = .ok (.invokevirtual 112, 3) := by decide +kernel
theorem dX3_refuse_24 : decode cX3_refuse 24 = .ok (.iconst 2, 1) := by decide +kernel
theorem dX3_refuse_25 : decode cX3_refuse 25 = .ok (.ireturn, 1) := by decide +kernel
theorem dX3_pay_0 : decode cX3_pay 0 = .ok (.aload_n 1, 1) := by decide +kernel
theorem dX3_pay_1 : decode cX3_pay 1 = .ok (.iconst 1, 1) := by decide +kernel
theorem dX3_pay_2 : decode cX3_pay 2 = .ok (.putfield 120, 3) := by decide +kernel
theorem dX3_pay_5 : decode cX3_pay 5 = .ok (.aload_n 1, 1) := by decide +kernel
theorem dX3_pay_6 : decode cX3_pay 6 = .ok (.lload_n 2, 1) := by decide +kernel
theorem dX3_pay_7 : decode cX3_pay 7 = .ok (.putfield 163, 3) := by decide +kernel
theorem dX3_pay_10 : decode cX3_pay 10 = .ok (.aload_n 0, 1) := by decide +kernel
theorem dX3_pay_11 : decode cX3_pay 11 = .ok (.dup, 1) := by decide +kernel
theorem dX3_pay_12 : decode cX3_pay 12 = .ok (.getfield 230, 3) := by decide +kernel
theorem dX3_pay_15 : decode cX3_pay 15 = .ok (.lload_n 2, 1) := by decide +kernel
theorem dX3_pay_16 : decode cX3_pay 16 = .ok (.ladd, 1) := by decide +kernel
theorem dX3_pay_17 : decode cX3_pay 17 = .ok (.putfield 230, 3) := by decide +kernel
theorem dX3_pay_20 : decode cX3_pay 20 = .ok (.aload_n 0, 1) := by decide +kernel
theorem dX3_pay_21 : decode cX3_pay 21 = .ok (.aload_n 1, 1) := by decide +kernel
theorem dX3_pay_22 : decode cX3_pay 22 = .ok (.getfield 199, 3) := by decide +kernel
theorem dX3_pay_25 : decode cX3_pay 25 = .ok (.iconst 3, 1) := by decide +kernel
theorem dX3_pay_26 : decode cX3_pay 26 = .ok (.invokevirtual 112, 3) := by decide +kernel
theorem dX3_pay_29 : decode cX3_pay 29 = .ok (.iconst 1, 1) := by decide +kernel
theorem dX3_pay_30 : decode cX3_pay 30 = .ok (.ireturn, 1) := by decide +kernel
theorem dX3_share_0 : decode cX3_share 0 = .ok (.aload_n 0, 1) := by decide +kernel
theorem dX3_share_1 : decode cX3_share 1 = .ok (.iload_n 1, 1) := by decide +kernel
theorem dX3_share_2 : decode cX3_share 2 = .ok (.invokevirtual 116, 3) := by decide +kernel
theorem dX3_share_5 : decode cX3_share 5 = .ok (.astore_n 3, 1) := by decide +kernel
theorem dX3_share_6 : decode cX3_share 6 = .ok (.aload_n 3, 1) := by decide +kernel
theorem dX3_share_7 : decode cX3_share 7 = .ok (.ifnonnull 7, 3) := by decide +kernel
theorem dX3_share_10 : decode cX3_share 10 = .ok (.ldc2_w 161, 3) := by decide +kernel
theorem dX3_share_13 : decode cX3_share 13 = .ok (.lreturn, 1) := by decide +kernel
theorem dX3_share_14 : decode cX3_share 14 = .ok (.iload_n 2, 1) := by decide +kernel
theorem dX3_share_15 : decode cX3_share 15 = .ok (.bipush 6, 2) := by decide +kernel
theorem dX3_share_17 : decode cX3_share 17 = .ok (.invokestatic 44, 3) := by decide +kernel
theorem dX3_share_20 : decode cX3_share 20 = .ok (.ifCond .ne 7, 3) := by decide +kernel
theorem dX3_share_23 : decode cX3_share 23 = .ok (.ldc2_w 186, 3) := by decide +kernel
theorem dX3_share_26 : decode cX3_share 26 = .ok (.lreturn, 1) := by decide +kernel
theorem dX3_share_27 : decode cX3_share 27 = .ok (.aload_n 3, 1) := by decide +kernel
theorem dX3_share_28 : decode cX3_share 28 = .ok (.getfield 120, 3) := by decide +kernel
theorem dX3_share_31 : decode cX3_share 31 = .ok (.iconst 1, 1) := by decide +kernel
theorem dX3_share_32 : decode cX3_share 32 = .ok (.if_icmp .ne 18, 3) := by decide +kernel
theorem dX3_share_35 : decode cX3_share 35 = .ok (.aload_n 3, 1) := by decide +kernel
theorem dX3_share_36 : decode cX3_share 36 = .ok (.getfield 188, 3) := by decide +kernel
theorem dX3_share_39 : decode cX3_share 39 = .ok (.aload_n 3, 1) := by decide +kernel
theorem dX3_share_40 : decode cX3_share 40 = .ok (.getfield 163, 3) := by decide +kernel
theorem dX3_share_43 : decode cX3_share 43 = .ok (.iload_n 2, 1) := by decide +kernel
theorem dX3_share_44 : decode cX3_share 44 = .ok (.invokevirtual 192, 3) := by decide +kernel
theorem dX3_share_47 : decode cX3_share 47 = .ok (.goto 4, 3) := by decide +kernel
theorem dX3_share_50 : decode cX3_share 50 = .ok (.lconst 0, 1) := by decide +kernel
theorem dX3_share_51 : decode cX3_share 51 = .ok (.lreturn, 1) := by decide +kernel
theorem dX1_partOf_0 : decode cX1_partOf 0 = .ok (.aload_n 0, 1) := by decide +kernel
theorem dX1_partOf_1 : decode cX1_partOf 1 = .ok (.getfield 32, 3) := by decide +kernel
theorem dX1_partOf_4 : decode cX1_partOf 4 = .ok (.aload_n 0, 1) := by decide +kernel
theorem dX1_partOf_5 : decode cX1_partOf 5 = .ok (.getfield 35, 3) := by decide +kernel
theorem dX1_partOf_8 : decode cX1_partOf 8 = .ok (.isub, 1) := by decide +kernel
theorem dX1_partOf_9 : decode cX1_partOf 9 = .ok (.istore 4, 2) := by decide +kernel
theorem dX1_partOf_11 : decode cX1_partOf 11 = .ok (.iload 4, 2) := by decide +kernel
theorem dX1_partOf_13 : decode cX1_partOf 13 = .ok (.ifCond .gt 5, 3) := by decide +kernel
theorem dX1_partOf_16 : decode cX1_partOf 16 = .ok (.lconst 0, 1) := by decide +kernel
theorem dX1_partOf_17 : decode cX1_partOf 17 = .ok (.lreturn, 1) := by decide +kernel
theorem dX1_partOf_18 : decode cX1_partOf 18 = .ok (.lload_n 1, 1) := by decide +kernel
theorem dX1_partOf_19 : decode cX1_partOf 19 = .ok (.iload 4, 2) := by decide +kernel
theorem dX1_partOf_21 : decode cX1_partOf 21 = .ok (.i2l, 1) := by decide +kernel
theorem dX1_partOf_22 : decode cX1_partOf 22 = .ok (.ldiv, 1) := by decide +kernel
theorem dX1_partOf_23 : decode cX1_partOf 23 = .ok (.lstore 5, 2) := by decide +kernel
theorem dX1_partOf_25 : decode cX1_partOf 25 = .ok (.lload_n 1, 1) := by decide +kernel
theorem dX1_partOf_26 : decode cX1_partOf 26 = .ok (.iload 4, 2) := by decide +kernel
theorem dX1_partOf_28 : decode cX1_partOf 28 = .ok (.i2l, 1) := by decide +kernel
theorem dX1_partOf_29 : decode cX1_partOf 29 = .ok (.lrem, 1) := by decide +kernel
theorem dX1_partOf_30 : decode cX1_partOf 30 = .ok (.lstore 7, 2) := by decide +kernel
theorem dX1_partOf_32 : decode cX1_partOf 32 = .ok (.lconst 0, 1) := by decide +kernel
theorem dX1_partOf_33 : decode cX1_partOf 33 = .ok (.lstore 9, 2) := by decide +kernel
theorem dX1_partOf_35 : decode cX1_partOf 35 = .ok (.iconst 0, 1) := by decide +kernel
theorem dX1_partOf_36 : decode cX1_partOf 36 = .ok (.istore 11, 2) := by decide +kernel
theorem dX1_partOf_38 : decode cX1_partOf 38 = .ok (.iload 11, 2) := by decide +kernel
theorem dX1_partOf_40 : decode cX1_partOf 40 = .ok (.iload 4, 2) := by decide +kernel
theorem dX1_partOf_42 : decode cX1_partOf 42 = .ok (.if_icmp .ge 48, 3) := by decide +kernel
theorem dX1_partOf_45 : decode cX1_partOf 45 = .ok (.aload_n 0, 1) := by decide +kernel
theorem dX1_partOf_46 : decode cX1_partOf 46 = .ok (.getfield 9, 3) := by decide +kernel
theorem dX1_partOf_49 : decode cX1_partOf 49 = .ok (.aload_n 0, 1) := by decide +kernel
theorem dX1_partOf_50 : decode cX1_partOf 50 = .ok (.getfield 35, 3) := by decide +kernel
theorem dX1_partOf_53 : decode cX1_partOf 53 = .ok (.iload 11, 2) := by decide +kernel
theorem dX1_partOf_55 : decode cX1_partOf 55 = .ok (.iadd, 1) := by decide +kernel
theorem dX1_partOf_56 : decode cX1_partOf 56 = .ok (.iaload, 1) := by decide +kernel
theorem dX1_partOf_57 : decode cX1_partOf 57 = .ok (.iload_n 3, 1) := by decide +kernel
theorem dX1_partOf_58 : decode cX1_partOf 58 = .ok (.if_icmp .ne 26, 3) := by decide +kernel
theorem dX1_partOf_61 : decode cX1_partOf 61 = .ok (.lload 9, 2) := by decide +kernel
theorem dX1_partOf_63 : decode cX1_partOf 63 = .ok (.iload 11, 2) := by decide +kernel
theorem dX1_partOf_65 : decode cX1_partOf 65 = .ok (.i2l, 1) := by decide +kernel
theorem dX1_partOf_66 : decode cX1_partOf 66 = .ok (.lload 7, 2) := by decide +kernel
theorem dX1_partOf_68 : decode cX1_partOf 68 = .ok (.lcmp, 1) := by decide +kernel
theorem dX1_partOf_69 : decode cX1_partOf 69 = .ok (.ifCond .ge 10, 3) := by decide +kernel
theorem dX1_partOf_72 : decode cX1_partOf 72 = .ok (.lload 5, 2) := by decide +kernel
theorem dX1_partOf_74 : decode cX1_partOf 74 = .ok (.lconst 1, 1) := by decide +kernel
theorem dX1_partOf_75 : decode cX1_partOf 75 = .ok (.ladd, 1) := by decide +kernel
theorem dX1_partOf_76 : decode cX1_partOf 76 = .ok (.goto 5, 3) := by decide +kernel
theorem dX1_partOf_79 : decode cX1_partOf 79 = .ok (.lload 5, 2) := by decide +kernel
theorem dX1_partOf_81 : decode cX1_partOf 81 = .ok (.ladd, 1) := by decide +kernel
theorem dX1_partOf_82 : decode cX1_partOf 82 = .ok (.lstore 9, 2) := by decide +kernel
theorem dX1_partOf_84 : decode cX1_partOf 84 = .ok (.iinc 11 1, 3) := by decide +kernel
theorem dX1_partOf_87 : decode cX1_partOf 87 = .ok (.goto (-49), 3) := by decide +kernel
theorem dX1_partOf_90 : decode cX1_partOf 90 = .ok (.lload 9, 2) := by decide +kernel
theorem dX1_partOf_92 : decode cX1_partOf 92 = .ok (.lreturn, 1) := by decide +kernel
theorem dX3_found_0 : decode cX3_found 0 = .ok (.aload_n 0, 1) := by decide +kernel
theorem dX3_found_1 : decode cX3_found 1 = .ok (.iload_n 1, 1) := by decide +kernel
theorem dX3_found_2 : decode cX3_found 2 = .ok (.invokevirtual 65, 3) := by decide +kernel
theorem dX3_found_5 : decode cX3_found 5 = .ok (.astore_n 2, 1) := by decide +kernel
theorem dX3_found_6 : decode cX3_found 6 = .ok (.aload_n 2, 1) := by decide +kernel
theorem dX3_found_7 : decode cX3_found 7 = .ok (.ifnonnull 6, 3) := by decide +kernel
theorem dX3_found_10 : decode cX3_found 10 = .ok (.bipush (-101), 2) := by decide +kernel
theorem dX3_found_12 : decode cX3_found 12 = .ok (.ireturn, 1) := by decide +kernel
theorem dX3_found_13 : decode cX3_found 13 = .ok (.aload_n 0, 1) := by decide +kernel
theorem dX3_found_14 : decode cX3_found 14 = .ok (.iload_n 1, 1) := by decide +kernel
theorem dX3_found_15 : decode cX3_found 15 = .ok (.iconst 0, 1) := by decide +kernel
theorem dX3_found_16 : decode cX3_found 16 = .ok (.invokevirtual 95, 3) := by decide +kernel
theorem dX3_found_19 : decode cX3_found 19 = .ok (.astore_n 3, 1) := by decide +kernel
theorem dX3_found_20 : decode cX3_found 20 = .ok (.aload_n 3, 1) := by decide +kernel
theorem dX3_found_21 : decode cX3_found 21 = .ok (.ifnull 18, 3) := by decide +kernel
theorem dX3_found_24 : decode cX3_found 24 = .ok (.aload_n 3, 1) := by decide +kernel
theorem dX3_found_25 : decode cX3_found 25 = .ok (.getfield 120, 3) := by decide +kernel
theorem dX3_found_28 : decode cX3_found 28 = .ok (.iconst 1, 1) := by decide +kernel
theorem dX3_found_29 : decode cX3_found 29 = .ok (.if_icmp .ne 10, 3) := by decide +kernel
theorem dX3_found_32 : decode cX3_found 32 = .ok (.aload_n 2, 1) := by decide +kernel
theorem dX3_found_33 : decode cX3_found 33 = .ok (.getfield 196, 3) := by decide +kernel
theorem dX3_found_36 : decode cX3_found 36 = .ok (.ifCond .eq 6, 3) := by decide +kernel
theorem dX3_found_39 : decode cX3_found 39 = .ok (.bipush (-103), 2) := by decide +kernel
theorem dX3_found_41 : decode cX3_found 41 = .ok (.ireturn, 1) := by decide +kernel
theorem dX3_found_42 : decode cX3_found 42 = .ok (.aload_n 2, 1) := by decide +kernel
theorem dX3_found_43 : decode cX3_found 43 = .ok (.iconst 1, 1) := by decide +kernel
theorem dX3_found_44 : decode cX3_found 44 = .ok (.putfield 196, 3) := by decide +kernel
theorem dX3_found_47 : decode cX3_found 47 = .ok (.aload_n 3, 1) := by decide +kernel
theorem dX3_found_48 : decode cX3_found 48 = .ok (.getfield 199, 3) := by decide +kernel
theorem dX3_found_51 : decode cX3_found 51 = .ok (.ireturn, 1) := by decide +kernel
theorem dX3_back_0 : decode cX3_back 0 = .ok (.aload_n 0, 1) := by decide +kernel
theorem dX3_back_1 : decode cX3_back 1 = .ok (.iload_n 1, 1) := by decide +kernel
theorem dX3_back_2 : decode cX3_back 2 = .ok (.invokevirtual 116, 3) := by decide +kernel
theorem dX3_back_5 : decode cX3_back 5 = .ok (.astore_n 3, 1) := by decide +kernel
theorem dX3_back_6 : decode cX3_back 6 = .ok (.aload_n 3, 1) := by decide +kernel
theorem dX3_back_7 : decode cX3_back 7 = .ok (.ifnonnull 6, 3) := by decide +kernel
theorem dX3_back_10 : decode cX3_back 10 = .ok (.bipush (-101), 2) := by decide +kernel
theorem dX3_back_12 : decode cX3_back 12 = .ok (.ireturn, 1) := by decide +kernel
theorem dX3_back_13 : decode cX3_back 13 = .ok (.aload_n 3, 1) := by decide +kernel
theorem dX3_back_14 : decode cX3_back 14 = .ok (.getfield 134, 3) := by decide +kernel
theorem dX3_back_17 : decode cX3_back 17 = .ok (.ifCond .ne 28, 3) := by decide +kernel
theorem dX3_back_20 : decode cX3_back 20 = .ok (.aload_n 3, 1) := by decide +kernel
theorem dX3_back_21 : decode cX3_back 21 = .ok (.getfield 120, 3) := by decide +kernel
theorem dX3_back_24 : decode cX3_back 24 = .ok (.iconst 1, 1) := by decide +kernel
theorem dX3_back_25 : decode cX3_back 25 = .ok (.if_icmp .ne 20, 3) := by decide +kernel
theorem dX3_back_28 : decode cX3_back 28 = .ok (.aload_n 3, 1) := by decide +kernel
theorem dX3_back_29 : decode cX3_back 29 = .ok (.getfield 188, 3) := by decide +kernel
theorem dX3_back_32 : decode cX3_back 32 = .ok (.getfield 196, 3) := by decide +kernel
theorem dX3_back_35 : decode cX3_back 35 = .ok (.ifCond .eq 10, 3) := by decide +kernel
theorem dX3_back_38 : decode cX3_back 38 = .ok (.aload_n 3, 1) := by decide +kernel
theorem dX3_back_39 : decode cX3_back 39 = .ok (.getfield 202, 3) := by decide +kernel
theorem dX3_back_42 : decode cX3_back 42 = .ok (.ifCond .eq 6, 3) := by decide +kernel
theorem dX3_back_45 : decode cX3_back 45 = .ok (.bipush (-103), 2) := by decide +kernel
theorem dX3_back_47 : decode cX3_back 47 = .ok (.ireturn, 1) := by decide +kernel
theorem dX3_back_48 : decode cX3_back 48 = .ok (.aload_n 3, 1) := by decide +kernel
theorem dX3_back_49 : decode cX3_back 49 = .ok (.iconst 1, 1) := by decide +kernel
theorem dX3_back_50 : decode cX3_back 50 = .ok (.putfield 202, 3) := by decide +kernel
theorem dX3_back_53 : decode cX3_back 53 = .ok (.iload_n 2, 1) := by decide +kernel
theorem dX3_back_54 : decode cX3_back 54 = .ok (.ifCond .eq 22, 3) := by decide +kernel
theorem dX3_back_57 : decode cX3_back 57 = .ok (.aload_n 0, 1) := by decide +kernel
theorem dX3_back_58 : decode cX3_back 58 = .ok (.dup, 1) := by decide +kernel
theorem dX3_back_59 : decode cX3_back 59 = .ok (.getfield 205, 3) := by decide +kernel
theorem dX3_back_62 : decode cX3_back 62 = .ok (.aload_n 3, 1) := by decide +kernel
theorem dX3_back_63 : decode cX3_back 63 = .ok (.getfield 163, 3) := by decide +kernel
theorem dX3_back_66 : decode cX3_back 66 = .ok (.ladd, 1) := by decide +kernel
theorem dX3_back_67 : decode cX3_back 67 = .ok (.putfield 205, 3) := by decide +kernel
theorem dX3_back_70 : decode cX3_back 70 = .ok (.aload_n 0, 1) := by decide +kernel
theorem dX3_back_71 : decode cX3_back 71 = .ok (.iload_n 1, 1) := by decide +kernel
theorem dX3_back_72 : decode cX3_back 72 = .ok (.iconst 5, 1) := by decide +kernel
theorem dX3_back_73 : decode cX3_back 73 = .ok (.invokevirtual 112, 3) := by decide +kernel
theorem dX3_back_76 : decode cX3_back 76 = .ok (.iconst 1, 1) := by decide +kernel
theorem dX3_back_77 : decode cX3_back 77 = .ok (.ireturn, 1) := by decide +kernel
theorem dX3_appeal_0 : decode cX3_appeal 0 = .ok (.aload_n 0, 1) := by decide +kernel
theorem dX3_appeal_1 : decode cX3_appeal 1 = .ok (.iload_n 1, 1) := by decide +kernel
theorem dX3_appeal_2 : decode cX3_appeal 2 = .ok (.invokevirtual 116, 3) := by decide +kernel
theorem dX3_appeal_5 : decode cX3_appeal 5 = .ok (.astore_n 2, 1) := by decide +kernel
theorem dX3_appeal_6 : decode cX3_appeal 6 = .ok (.aload_n 2, 1) := by decide +kernel
theorem dX3_appeal_7 : decode cX3_appeal 7 = .ok (.ifnonnull 6, 3) := by decide +kernel
theorem dX3_appeal_10 : decode cX3_appeal 10 = .ok (.bipush (-101), 2) := by decide +kernel
theorem dX3_appeal_12 : decode cX3_appeal 12 = .ok (.ireturn, 1) := by decide +kernel
theorem dX3_appeal_13 : decode cX3_appeal 13 = .ok (.aload_n 2, 1) := by decide +kernel
theorem dX3_appeal_14 : decode cX3_appeal 14 = .ok (.getfield 120, 3) := by decide +kernel
theorem dX3_appeal_17 : decode cX3_appeal 17 = .ok (.iconst 2, 1) := by decide +kernel
theorem dX3_appeal_18 : decode cX3_appeal 18 = .ok (.if_icmp .ne 25, 3) := by decide +kernel
theorem dX3_appeal_21 : decode cX3_appeal 21 = .ok (.aload_n 2, 1) := by decide +kernel
theorem dX3_appeal_22 : decode cX3_appeal 22 = .ok (.getfield 208, 3) := by decide +kernel
theorem dX3_appeal_25 : decode cX3_appeal 25 = .ok (.ifCond .ne 18, 3) := by decide +kernel
theorem dX3_appeal_28 : decode cX3_appeal 28 = .ok (.aload_n 0, 1) := by decide +kernel
theorem dX3_appeal_29 : decode cX3_appeal 29 = .ok (.aload_n 2, 1) := by decide +kernel
theorem dX3_appeal_30 : decode cX3_appeal 30 = .ok (.getfield 211, 3) := by decide +kernel
theorem dX3_appeal_33 : decode cX3_appeal 33 = .ok (.aload_n 2, 1) := by decide +kernel
theorem dX3_appeal_34 : decode cX3_appeal 34 = .ok (.getfield 134, 3) := by decide +kernel
theorem dX3_appeal_37 : decode cX3_appeal 37 = .ok (.invokevirtual 95, 3) := by decide +kernel
theorem dX3_appeal_40 : decode cX3_appeal 40 = .ok (.ifnull 6, 3) := by decide +kernel
theorem dX3_appeal_43 : decode cX3_appeal 43 = .ok (.bipush (-103), 2) := by decide +kernel
theorem dX3_appeal_45 : decode cX3_appeal 45 = .ok (.ireturn, 1) := by decide +kernel
theorem dX3_appeal_46 : decode cX3_appeal 46 = .ok (.aload_n 2, 1) := by decide +kernel
theorem dX3_appeal_47 : decode cX3_appeal 47 = .ok (.invokevirtual 214, 3) := by decide +kernel
theorem dX3_appeal_50 : decode cX3_appeal 50 = .ok (.aload_n 0, 1) := by decide +kernel
theorem dX3_appeal_51 : decode cX3_appeal 51 = .ok (.iload_n 1, 1) := by decide +kernel
theorem dX3_appeal_52 : decode cX3_appeal 52 = .ok (.bipush 6, 2) := by decide +kernel
theorem dX3_appeal_54 : decode cX3_appeal 54 = .ok (.invokevirtual 112, 3) := by decide +kernel
theorem dX3_appeal_57 : decode cX3_appeal 57 = .ok (.iconst 1, 1) := by decide +kernel
theorem dX3_appeal_58 : decode cX3_appeal 58 = .ok (.ireturn, 1) := by decide +kernel
theorem dX0_reopen_0 : decode cX0_reopen 0 = .ok (.aload_n 0, 1) := by decide +kernel
theorem dX0_reopen_1 : decode cX0_reopen 1 = .ok (.iconst 0, 1) := by decide +kernel
theorem dX0_reopen_2 : decode cX0_reopen 2 = .ok (.putfield 9, 3) := by decide +kernel
theorem dX0_reopen_5 : decode cX0_reopen 5 = .ok (.aload_n 0, 1) := by decide +kernel
theorem dX0_reopen_6 : decode cX0_reopen 6 = .ok (.iconst 1, 1) := by decide +kernel
theorem dX0_reopen_7 : decode cX0_reopen 7 = .ok (.putfield 52, 3) := by decide +kernel
theorem dX0_reopen_10 : decode cX0_reopen 10 = .ok (.aload_n 0, 1) := by decide +kernel
theorem dX0_reopen_11 : decode cX0_reopen 11 = .ok (.iconst 0, 1) := by decide +kernel
theorem dX0_reopen_12 : decode cX0_reopen 12 = .ok (.putfield 42, 3) := by decide +kernel
theorem dX0_reopen_15 : decode cX0_reopen 15 = .ok (.aload_n 0, 1) := by decide +kernel
theorem dX0_reopen_16 : decode cX0_reopen 16 = .ok (.iconst 0, 1) := by decide +kernel
theorem dX0_reopen_17 : decode cX0_reopen 17 = .ok (.putfield 48, 3) := by decide +kernel
theorem dX0_reopen_20 : decode cX0_reopen 20 = .ok (.return_, 1) := by decide +kernel
theorem dX3_paid_0 : decode cX3_paid 0 = .ok (.aload_n 0, 1) := by decide +kernel
theorem dX3_paid_1 : decode cX3_paid 1 = .ok (.iload_n 1, 1) := by decide +kernel
theorem dX3_paid_2 : decode cX3_paid 2 = .ok (.iload_n 2, 1) := by decide +kernel
theorem dX3_paid_3 : decode cX3_paid 3 = .ok (.invokevirtual 95, 3) := by decide +kernel
theorem dX3_paid_6 : decode cX3_paid 6 = .ok (.astore_n 3, 1) := by decide +kernel
theorem dX3_paid_7 : decode cX3_paid 7 = .ok (.aload_n 3, 1) := by decide +kernel
theorem dX3_paid_8 : decode cX3_paid 8 = .ok (.ifnull 15, 3) := by decide +kernel
theorem dX3_paid_11 : decode cX3_paid 11 = .ok (.aload_n 3, 1) := by decide +kernel
theorem dX3_paid_12 : decode cX3_paid 12 = .ok (.getfield 120, 3) := by decide +kernel
theorem dX3_paid_15 : decode cX3_paid 15 = .ok (.iconst 1, 1) := by decide +kernel
theorem dX3_paid_16 : decode cX3_paid 16 = .ok (.if_icmp .ne 7, 3) := by decide +kernel
theorem dX3_paid_19 : decode cX3_paid 19 = .ok (.iconst 1, 1) := by decide +kernel
theorem dX3_paid_20 : decode cX3_paid 20 = .ok (.goto 4, 3) := by decide +kernel
theorem dX3_paid_23 : decode cX3_paid 23 = .ok (.iconst 0, 1) := by decide +kernel
theorem dX3_paid_24 : decode cX3_paid 24 = .ok (.ireturn, 1) := by decide +kernel
theorem dX3_about_0 : decode cX3_about 0 = .ok (.aload_n 0, 1) := by decide +kernel
theorem dX3_about_1 : decode cX3_about 1 = .ok (.iload_n 1, 1) := by decide +kernel
theorem dX3_about_2 : decode cX3_about 2 = .ok (.invokevirtual 116, 3) := by decide +kernel
theorem dX3_about_5 : decode cX3_about 5 = .ok (.astore_n 3, 1) := by decide +kernel
theorem dX3_about_6 : decode cX3_about 6 = .ok (.aload_n 3, 1) := by decide +kernel
theorem dX3_about_7 : decode cX3_about 7 = .ok (.ifnonnull 6, 3) := by decide +kernel
theorem dX3_about_10 : decode cX3_about 10 = .ok (.bipush (-101), 2) := by decide +kernel
theorem dX3_about_12 : decode cX3_about 12 = .ok (.ireturn, 1) := by decide +kernel
theorem dX3_about_13 : decode cX3_about 13 = .ok (.iload_n 2, 1) := by decide +kernel
theorem dX3_about_14 : decode cX3_about 14 = .ok (.tableswitch 71 0 5 #[38, 43, 48, 53, 61, 66], 38) := by decide +kernel
theorem dX3_about_52 : decode cX3_about 52 = .ok (.aload_n 3, 1) := by decide +kernel
theorem dX3_about_53 : decode cX3_about 53 = .ok (.getfield 120, 3) := by decide +kernel
theorem dX3_about_56 : decode cX3_about 56 = .ok (.ireturn, 1) := by decide +kernel
theorem dX3_about_57 : decode cX3_about 57 = .ok (.aload_n 3, 1) := by decide +kernel
theorem dX3_about_58 : decode cX3_about 58 = .ok (.getfield 211, 3) := by decide +kernel
theorem dX3_about_61 : decode cX3_about 61 = .ok (.ireturn, 1) := by decide +kernel
theorem dX3_about_62 : decode cX3_about 62 = .ok (.aload_n 3, 1) := by decide +kernel
theorem dX3_about_63 : decode cX3_about 63 = .ok (.getfield 134, 3) := by decide +kernel
theorem dX3_about_66 : decode cX3_about 66 = .ok (.ireturn, 1) := by decide +kernel
theorem dX3_about_67 : decode cX3_about 67 = .ok (.aload_n 3, 1) := by decide +kernel
theorem dX3_about_68 : decode cX3_about 68 = .ok (.getfield 123, 3) := by decide +kernel
theorem dX3_about_71 : decode cX3_about 71 = .ok (.invokestatic 126, 3) := by decide +kernel
theorem dX3_about_74 : decode cX3_about 74 = .ok (.ireturn, 1) := by decide +kernel
theorem dX3_about_75 : decode cX3_about 75 = .ok (.aload_n 3, 1) := by decide +kernel
theorem dX3_about_76 : decode cX3_about 76 = .ok (.getfield 217, 3) := by decide +kernel
theorem dX3_about_79 : decode cX3_about 79 = .ok (.ireturn, 1) := by decide +kernel
theorem dX3_about_80 : decode cX3_about 80 = .ok (.aload_n 3, 1) := by decide +kernel
theorem dX3_about_81 : decode cX3_about 81 = .ok (.getfield 219, 3) := by decide +kernel
theorem dX3_about_84 : decode cX3_about 84 = .ok (.ireturn, 1) := by decide +kernel
theorem dX3_about_85 : decode cX3_about 85 = .ok (.bipush (-102), 2) := by decide +kernel
theorem dX3_about_87 : decode cX3_about 87 = .ok (.ireturn, 1) := by decide +kernel
theorem dX3_letter_0 : decode cX3_letter 0 = .ok (.iload_n 1, 1) := by decide +kernel
theorem dX3_letter_1 : decode cX3_letter 1 = .ok (.aload_n 0, 1) := by decide +kernel
theorem dX3_letter_2 : decode cX3_letter 2 = .ok (.getfield 222, 3) := by decide +kernel
theorem dX3_letter_5 : decode cX3_letter 5 = .ok (.sipush 200, 3) := by decide +kernel
theorem dX3_letter_8 : decode cX3_letter 8 = .ok (.invokestatic 225, 3) := by decide +kernel
theorem dX3_letter_11 : decode cX3_letter 11 = .ok (.invokestatic 44, 3) := by decide +kernel
theorem dX3_letter_14 : decode cX3_letter 14 = .ok (.ifCond .ne 5, 3) := by decide +kernel
theorem dX3_letter_17 : decode cX3_letter 17 = .ok (.iconst (-1), 1) := by decide +kernel
theorem dX3_letter_18 : decode cX3_letter 18 = .ok (.ireturn, 1) := by decide +kernel
theorem dX3_letter_19 : decode cX3_letter 19 = .ok (.iload_n 2, 1) := by decide +kernel
theorem dX3_letter_20 : decode cX3_letter 20 = .ok (.lookupswitch 42 #[(0, 28), (1, 35)], 28) := by decide +kernel
theorem dX3_letter_48 : decode cX3_letter 48 = .ok (.aload_n 0, 1) := by decide +kernel
theorem dX3_letter_49 : decode cX3_letter 49 = .ok (.getfield 38, 3) := by decide +kernel
theorem dX3_letter_52 : decode cX3_letter 52 = .ok (.iload_n 1, 1) := by decide +kernel
theorem dX3_letter_53 : decode cX3_letter 53 = .ok (.iaload, 1) := by decide +kernel
theorem dX3_letter_54 : decode cX3_letter 54 = .ok (.ireturn, 1) := by decide +kernel
theorem dX3_letter_55 : decode cX3_letter 55 = .ok (.aload_n 0, 1) := by decide +kernel
theorem dX3_letter_56 : decode cX3_letter 56 = .ok (.getfield 41, 3) := by decide +kernel
theorem dX3_letter_59 : decode cX3_letter 59 = .ok (.iload_n 1, 1) := by decide +kernel
theorem dX3_letter_60 : decode cX3_letter 60 = .ok (.iaload, 1) := by decide +kernel
theorem dX3_letter_61 : decode cX3_letter 61 = .ok (.ireturn, 1) := by decide +kernel
theorem dX3_letter_62 : decode cX3_letter 62 = .ok (.iconst (-1), 1) := by decide +kernel
theorem dX3_letter_63 : decode cX3_letter 63 = .ok (.ireturn, 1) := by decide +kernel
theorem dX3_all_0 : decode cX3_all 0 = .ok (.iload_n 1, 1) := by decide +kernel
theorem dX3_all_1 : decode cX3_all 1 = .ok (.tableswitch 53 0 3 #[31, 36, 41, 47], 31) := by decide +kernel
theorem dX3_all_32 : decode cX3_all 32 = .ok (.aload_n 0, 1) := by decide +kernel
theorem dX3_all_33 : decode cX3_all 33 = .ok (.getfield 230, 3) := by decide +kernel
theorem dX3_all_36 : decode cX3_all 36 = .ok (.lreturn, 1) := by decide +kernel
theorem dX3_all_37 : decode cX3_all 37 = .ok (.aload_n 0, 1) := by decide +kernel
theorem dX3_all_38 : decode cX3_all 38 = .ok (.getfield 205, 3) := by decide +kernel
theorem dX3_all_41 : decode cX3_all 41 = .ok (.lreturn, 1) := by decide +kernel
