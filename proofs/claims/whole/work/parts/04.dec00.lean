theorem dX3_init_0 : decode cX3_init 0 = .ok (.aload_n 0, 1) := by decide +kernel
theorem dX3_init_1 : decode cX3_init 1 = .ok (.invokespecial 1, 3) := by decide +kernel
theorem dX3_init_4 : decode cX3_init 4 = .ok (.aload_n 0, 1) := by decide +kernel
theorem dX3_init_5 : decode cX3_init 5 = .ok (.bipush 100, 2) := by decide +kernel
theorem dX3_init_7 : decode cX3_init 7 = .ok (.anewarray 9, 3) := by decide +kernel
theorem dX3_init_10 : decode cX3_init 10 = .ok (.putfield 11, 3) := by decide +kernel
theorem dX3_init_13 : decode cX3_init 13 = .ok (.aload_n 0, 1) := by decide +kernel
theorem dX3_init_14 : decode cX3_init 14 = .ok (.bipush 60, 2) := by decide +kernel
theorem dX3_init_16 : decode cX3_init 16 = .ok (.anewarray 15, 3) := by decide +kernel
theorem dX3_init_19 : decode cX3_init 19 = .ok (.putfield 17, 3) := by decide +kernel
theorem dX3_init_22 : decode cX3_init 22 = .ok (.aload_n 0, 1) := by decide +kernel
theorem dX3_init_23 : decode cX3_init 23 = .ok (.bipush 100, 2) := by decide +kernel
theorem dX3_init_25 : decode cX3_init 25 = .ok (.anewarray 21, 3) := by decide +kernel
theorem dX3_init_28 : decode cX3_init 28 = .ok (.putfield 23, 3) := by decide +kernel
theorem dX3_init_31 : decode cX3_init 31 = .ok (.aload_n 0, 1) := by decide +kernel
theorem dX3_init_32 : decode cX3_init 32 = .ok (.bipush 16, 2) := by decide +kernel
theorem dX3_init_34 : decode cX3_init 34 = .ok (.newarray .long, 2) := by decide +kernel
theorem dX3_init_36 : decode cX3_init 36 = .ok (.putfield 27, 3) := by decide +kernel
theorem dX3_init_39 : decode cX3_init 39 = .ok (.aload_n 0, 1) := by decide +kernel
theorem dX3_init_40 : decode cX3_init 40 = .ok (.bipush 16, 2) := by decide +kernel
theorem dX3_init_42 : decode cX3_init 42 = .ok (.newarray .int, 2) := by decide +kernel
theorem dX3_init_44 : decode cX3_init 44 = .ok (.putfield 31, 3) := by decide +kernel
theorem dX3_init_47 : decode cX3_init 47 = .ok (.aload_n 0, 1) := by decide +kernel
theorem dX3_init_48 : decode cX3_init 48 = .ok (.bipush 10, 2) := by decide +kernel
theorem dX3_init_50 : decode cX3_init 50 = .ok (.newarray .long, 2) := by decide +kernel
theorem dX3_init_52 : decode cX3_init 52 = .ok (.putfield 35, 3) := by decide +kernel
theorem dX3_init_55 : decode cX3_init 55 = .ok (.aload_n 0, 1) := by decide +kernel
theorem dX3_init_56 : decode cX3_init 56 = .ok (.sipush 200, 3) := by decide +kernel
theorem dX3_init_59 : decode cX3_init 59 = .ok (.newarray .int, 2) := by decide +kernel
theorem dX3_init_61 : decode cX3_init 61 = .ok (.putfield 38, 3) := by decide +kernel
theorem dX3_init_64 : decode cX3_init 64 = .ok (.aload_n 0, 1) := by decide +kernel
theorem dX3_init_65 : decode cX3_init 65 = .ok (.sipush 200, 3) := by decide +kernel
theorem dX3_init_68 : decode cX3_init 68 = .ok (.newarray .int, 2) := by decide +kernel
theorem dX3_init_70 : decode cX3_init 70 = .ok (.putfield 41, 3) := by decide +kernel
theorem dX3_init_73 : decode cX3_init 73 = .ok (.return_, 1) := by decide +kernel
theorem dX3_item_0 : decode cX3_item 0 = .ok (.iload_n 1, 1) := by decide +kernel
theorem dX3_item_1 : decode cX3_item 1 = .ok (.iconst 4, 1) := by decide +kernel
theorem dX3_item_2 : decode cX3_item 2 = .ok (.invokestatic 44, 3) := by decide +kernel
theorem dX3_item_5 : decode cX3_item 5 = .ok (.ifCond .eq 18, 3) := by decide +kernel
theorem dX3_item_8 : decode cX3_item 8 = .ok (.lload_n 2, 1) := by decide +kernel
theorem dX3_item_9 : decode cX3_item 9 = .ok (.invokestatic 48, 3) := by decide +kernel
theorem dX3_item_12 : decode cX3_item 12 = .ok (.ifCond .eq 11, 3) := by decide +kernel
theorem dX3_item_15 : decode cX3_item 15 = .ok (.lload 4, 2) := by decide +kernel
theorem dX3_item_17 : decode cX3_item 17 = .ok (.invokestatic 48, 3) := by decide +kernel
theorem dX3_item_20 : decode cX3_item 20 = .ok (.ifCond .ne 6, 3) := by decide +kernel
theorem dX3_item_23 : decode cX3_item 23 = .ok (.bipush (-102), 2) := by decide +kernel
theorem dX3_item_25 : decode cX3_item 25 = .ok (.ireturn, 1) := by decide +kernel
theorem dX3_item_26 : decode cX3_item 26 = .ok (.iload 6, 2) := by decide +kernel
theorem dX3_item_28 : decode cX3_item 28 = .ok (.i2l, 1) := by decide +kernel
theorem dX3_item_29 : decode cX3_item 29 = .ok (.lconst 0, 1) := by decide +kernel
theorem dX3_item_30 : decode cX3_item 30 = .ok (.ldc2_w 52, 3) := by decide +kernel
theorem dX3_item_33 : decode cX3_item 33 = .ok (.invokestatic 54, 3) := by decide +kernel
theorem dX3_item_36 : decode cX3_item 36 = .ok (.ifCond .eq 13, 3) := by decide +kernel
theorem dX3_item_39 : decode cX3_item 39 = .ok (.iload 7, 2) := by decide +kernel
theorem dX3_item_41 : decode cX3_item 41 = .ok (.bipush 20, 2) := by decide +kernel
theorem dX3_item_43 : decode cX3_item 43 = .ok (.invokestatic 44, 3) := by decide +kernel
theorem dX3_item_46 : decode cX3_item 46 = .ok (.ifCond .ne 6, 3) := by decide +kernel
theorem dX3_item_49 : decode cX3_item 49 = .ok (.bipush (-102), 2) := by decide +kernel
theorem dX3_item_51 : decode cX3_item 51 = .ok (.ireturn, 1) := by decide +kernel
theorem dX3_item_52 : decode cX3_item 52 = .ok (.aload_n 0, 1) := by decide +kernel
theorem dX3_item_53 : decode cX3_item 53 = .ok (.getfield 58, 3) := by decide +kernel
theorem dX3_item_56 : decode cX3_item 56 = .ok (.bipush 100, 2) := by decide +kernel
theorem dX3_item_58 : decode cX3_item 58 = .ok (.if_icmp .lt 6, 3) := by decide +kernel
theorem dX3_item_61 : decode cX3_item 61 = .ok (.bipush (-104), 2) := by decide +kernel
theorem dX3_item_63 : decode cX3_item 63 = .ok (.ireturn, 1) := by decide +kernel
theorem dX3_item_64 : decode cX3_item 64 = .ok (.aload_n 0, 1) := by decide +kernel
theorem dX3_item_65 : decode cX3_item 65 = .ok (.getfield 11, 3) := by decide +kernel
theorem dX3_item_68 : decode cX3_item 68 = .ok (.aload_n 0, 1) := by decide +kernel
theorem dX3_item_69 : decode cX3_item 69 = .ok (.getfield 58, 3) := by decide +kernel
theorem dX3_item_72 : decode cX3_item 72 = .ok (.new 9, 3) := by decide +kernel
theorem dX3_item_75 : decode cX3_item 75 = .ok (.dup, 1) := by decide +kernel
theorem dX3_item_76 : decode cX3_item 76 = .ok (.iload_n 1, 1) := by decide +kernel
theorem dX3_item_77 : decode cX3_item 77 = .ok (.lload_n 2, 1) := by decide +kernel
theorem dX3_item_78 : decode cX3_item 78 = .ok (.lload 4, 2) := by decide +kernel
theorem dX3_item_80 : decode cX3_item 80 = .ok (.iload 6, 2) := by decide +kernel
theorem dX3_item_82 : decode cX3_item 82 = .ok (.iload 7, 2) := by decide +kernel
theorem dX3_item_84 : decode cX3_item 84 = .ok (.invokespecial 62, 3) := by decide +kernel
theorem dX3_item_87 : decode cX3_item 87 = .ok (.aastore, 1) := by decide +kernel
theorem dX3_item_88 : decode cX3_item 88 = .ok (.aload_n 0, 1) := by decide +kernel
theorem dX3_item_89 : decode cX3_item 89 = .ok (.dup, 1) := by decide +kernel
theorem dX3_item_90 : decode cX3_item 90 = .ok (.getfield 58, 3) := by decide +kernel
theorem dX3_item_93 : decode cX3_item 93 = .ok (.iconst 1, 1) := by decide +kernel
theorem dX3_item_94 : decode cX3_item 94 = .ok (.iadd, 1) := by decide +kernel
theorem dX3_item_95 : decode cX3_item 95 = .ok (.putfield 58, 3) := by decide +kernel
theorem dX3_item_98 : decode cX3_item 98 = .ok (.aload_n 0, 1) := by decide +kernel
theorem dX3_item_99 : decode cX3_item 99 = .ok (.getfield 58, 3) := by decide +kernel
theorem dX3_item_102 : decode cX3_item 102 = .ok (.ireturn, 1) := by decide +kernel
theorem dX3_isBelow_0 : decode cX3_isBelow 0 = .ok (.iload_n 0, 1) := by decide +kernel
theorem dX3_isBelow_1 : decode cX3_isBelow 1 = .ok (.ifCond .lt 12, 3) := by decide +kernel
theorem dX3_isBelow_4 : decode cX3_isBelow 4 = .ok (.iload_n 0, 1) := by decide +kernel
theorem dX3_isBelow_5 : decode cX3_isBelow 5 = .ok (.iload_n 1, 1) := by decide +kernel
theorem dX3_isBelow_6 : decode cX3_isBelow 6 = .ok (.if_icmp .ge 7, 3) := by decide +kernel
theorem dX3_isBelow_9 : decode cX3_isBelow 9 = .ok (.iconst 1, 1) := by decide +kernel
theorem dX3_isBelow_10 : decode cX3_isBelow 10 = .ok (.goto 4, 3) := by decide +kernel
theorem dX3_isBelow_13 : decode cX3_isBelow 13 = .ok (.iconst 0, 1) := by decide +kernel
theorem dX3_isBelow_14 : decode cX3_isBelow 14 = .ok (.ireturn, 1) := by decide +kernel
theorem dX3_areCents_0 : decode cX3_areCents 0 = .ok (.lload_n 0, 1) := by decide +kernel
theorem dX3_areCents_1 : decode cX3_areCents 1 = .ok (.lconst 0, 1) := by decide +kernel
theorem dX3_areCents_2 : decode cX3_areCents 2 = .ok (.ldc2_w 236, 3) := by decide +kernel
theorem dX3_areCents_5 : decode cX3_areCents 5 = .ok (.invokestatic 54, 3) := by decide +kernel
theorem dX3_areCents_8 : decode cX3_areCents 8 = .ok (.ireturn, 1) := by decide +kernel
theorem dX3_isWithin_0 : decode cX3_isWithin 0 = .ok (.lload_n 0, 1) := by decide +kernel
theorem dX3_isWithin_1 : decode cX3_isWithin 1 = .ok (.lload_n 2, 1) := by decide +kernel
theorem dX3_isWithin_2 : decode cX3_isWithin 2 = .ok (.lcmp, 1) := by decide +kernel
theorem dX3_isWithin_3 : decode cX3_isWithin 3 = .ok (.ifCond .lt 14, 3) := by decide +kernel
theorem dX3_isWithin_6 : decode cX3_isWithin 6 = .ok (.lload_n 0, 1) := by decide +kernel
theorem dX3_isWithin_7 : decode cX3_isWithin 7 = .ok (.lload 4, 2) := by decide +kernel
theorem dX3_isWithin_9 : decode cX3_isWithin 9 = .ok (.lcmp, 1) := by decide +kernel
theorem dX3_isWithin_10 : decode cX3_isWithin 10 = .ok (.ifCond .gt 7, 3) := by decide +kernel
theorem dX3_isWithin_13 : decode cX3_isWithin 13 = .ok (.iconst 1, 1) := by decide +kernel
theorem dX3_isWithin_14 : decode cX3_isWithin 14 = .ok (.goto 4, 3) := by decide +kernel
theorem dX3_isWithin_17 : decode cX3_isWithin 17 = .ok (.iconst 0, 1) := by decide +kernel
theorem dX3_isWithin_18 : decode cX3_isWithin 18 = .ok (.ireturn, 1) := by decide +kernel
theorem dX1_init_0 : decode cX1_init 0 = .ok (.aload_n 0, 1) := by decide +kernel
theorem dX1_init_1 : decode cX1_init 1 = .ok (.invokespecial 3, 3) := by decide +kernel
theorem dX1_init_4 : decode cX1_init 4 = .ok (.aload_n 0, 1) := by decide +kernel
theorem dX1_init_5 : decode cX1_init 5 = .ok (.bipush 8, 2) := by decide +kernel
theorem dX1_init_7 : decode cX1_init 7 = .ok (.newarray .int, 2) := by decide +kernel
theorem dX1_init_9 : decode cX1_init 9 = .ok (.putfield 9, 3) := by decide +kernel
theorem dX1_init_12 : decode cX1_init 12 = .ok (.aload_n 0, 1) := by decide +kernel
theorem dX1_init_13 : decode cX1_init 13 = .ok (.iload_n 1, 1) := by decide +kernel
theorem dX1_init_14 : decode cX1_init 14 = .ok (.putfield 15, 3) := by decide +kernel
theorem dX1_init_17 : decode cX1_init 17 = .ok (.aload_n 0, 1) := by decide +kernel
theorem dX1_init_18 : decode cX1_init 18 = .ok (.lload_n 2, 1) := by decide +kernel
theorem dX1_init_19 : decode cX1_init 19 = .ok (.putfield 19, 3) := by decide +kernel
theorem dX1_init_22 : decode cX1_init 22 = .ok (.aload_n 0, 1) := by decide +kernel
theorem dX1_init_23 : decode cX1_init 23 = .ok (.lload 4, 2) := by decide +kernel
theorem dX1_init_25 : decode cX1_init 25 = .ok (.putfield 23, 3) := by decide +kernel
theorem dX1_init_28 : decode cX1_init 28 = .ok (.aload_n 0, 1) := by decide +kernel
theorem dX1_init_29 : decode cX1_init 29 = .ok (.iload 6, 2) := by decide +kernel
theorem dX1_init_31 : decode cX1_init 31 = .ok (.putfield 26, 3) := by decide +kernel
theorem dX1_init_34 : decode cX1_init 34 = .ok (.aload_n 0, 1) := by decide +kernel
theorem dX1_init_35 : decode cX1_init 35 = .ok (.iload 7, 2) := by decide +kernel
theorem dX1_init_37 : decode cX1_init 37 = .ok (.putfield 29, 3) := by decide +kernel
theorem dX1_init_40 : decode cX1_init 40 = .ok (.return_, 1) := by decide +kernel
theorem dX3_pass_0 : decode cX3_pass 0 = .ok (.aload_n 0, 1) := by decide +kernel
theorem dX3_pass_1 : decode cX3_pass 1 = .ok (.iload_n 1, 1) := by decide +kernel
theorem dX3_pass_2 : decode cX3_pass 2 = .ok (.invokevirtual 65, 3) := by decide +kernel
theorem dX3_pass_5 : decode cX3_pass 5 = .ok (.astore 4, 2) := by decide +kernel
theorem dX3_pass_7 : decode cX3_pass 7 = .ok (.aload 4, 2) := by decide +kernel
theorem dX3_pass_9 : decode cX3_pass 9 = .ok (.ifnonnull 6, 3) := by decide +kernel
theorem dX3_pass_12 : decode cX3_pass 12 = .ok (.bipush (-101), 2) := by decide +kernel
theorem dX3_pass_14 : decode cX3_pass 14 = .ok (.ireturn, 1) := by decide +kernel
theorem dX3_pass_15 : decode cX3_pass 15 = .ok (.iload_n 2, 1) := by decide +kernel
theorem dX3_pass_16 : decode cX3_pass 16 = .ok (.bipush 6, 2) := by decide +kernel
theorem dX3_pass_18 : decode cX3_pass 18 = .ok (.invokestatic 44, 3) := by decide +kernel
theorem dX3_pass_21 : decode cX3_pass 21 = .ok (.ifCond .ne 6, 3) := by decide +kernel
theorem dX3_pass_24 : decode cX3_pass 24 = .ok (.bipush (-102), 2) := by decide +kernel
theorem dX3_pass_26 : decode cX3_pass 26 = .ok (.ireturn, 1) := by decide +kernel
theorem dX3_pass_27 : decode cX3_pass 27 = .ok (.aload 4, 2) := by decide +kernel
theorem dX3_pass_29 : decode cX3_pass 29 = .ok (.getfield 69, 3) := by decide +kernel
theorem dX3_pass_32 : decode cX3_pass 32 = .ok (.bipush 8, 2) := by decide +kernel
theorem dX3_pass_34 : decode cX3_pass 34 = .ok (.if_icmp .lt 6, 3) := by decide +kernel
theorem dX3_pass_37 : decode cX3_pass 37 = .ok (.bipush (-104), 2) := by decide +kernel
theorem dX3_pass_39 : decode cX3_pass 39 = .ok (.ireturn, 1) := by decide +kernel
theorem dX3_pass_40 : decode cX3_pass 40 = .ok (.aload 4, 2) := by decide +kernel
theorem dX3_pass_42 : decode cX3_pass 42 = .ok (.iload_n 2, 1) := by decide +kernel
theorem dX3_pass_43 : decode cX3_pass 43 = .ok (.iload_n 3, 1) := by decide +kernel
theorem dX3_pass_44 : decode cX3_pass 44 = .ok (.invokevirtual 72, 3) := by decide +kernel
theorem dX3_pass_47 : decode cX3_pass 47 = .ok (.aload 4, 2) := by decide +kernel
theorem dX3_pass_49 : decode cX3_pass 49 = .ok (.getfield 69, 3) := by decide +kernel
theorem dX3_pass_52 : decode cX3_pass 52 = .ok (.ireturn, 1) := by decide +kernel
theorem dX3_itemNumbered_0 : decode cX3_itemNumbered 0 = .ok (.iload_n 1, 1) := by decide +kernel
theorem dX3_itemNumbered_1 : decode cX3_itemNumbered 1 = .ok (.i2l, 1) := by decide +kernel
theorem dX3_itemNumbered_2 : decode cX3_itemNumbered 2 = .ok (.lconst 1, 1) := by decide +kernel
theorem dX3_itemNumbered_3 : decode cX3_itemNumbered 3 = .ok (.aload_n 0, 1) := by decide +kernel
theorem dX3_itemNumbered_4 : decode cX3_itemNumbered 4 = .ok (.getfield 58, 3) := by decide +kernel
theorem dX3_itemNumbered_7 : decode cX3_itemNumbered 7 = .ok (.i2l, 1) := by decide +kernel
theorem dX3_itemNumbered_8 : decode cX3_itemNumbered 8 = .ok (.invokestatic 54, 3) := by decide +kernel
theorem dX3_itemNumbered_11 : decode cX3_itemNumbered 11 = .ok (.ifCond .eq 14, 3) := by decide +kernel
theorem dX3_itemNumbered_14 : decode cX3_itemNumbered 14 = .ok (.aload_n 0, 1) := by decide +kernel
theorem dX3_itemNumbered_15 : decode cX3_itemNumbered 15 = .ok (.getfield 11, 3) := by decide +kernel
theorem dX3_itemNumbered_18 : decode cX3_itemNumbered 18 = .ok (.iload_n 1, 1) := by decide +kernel
theorem dX3_itemNumbered_19 : decode cX3_itemNumbered 19 = .ok (.iconst 1, 1) := by decide +kernel
theorem dX3_itemNumbered_20 : decode cX3_itemNumbered 20 = .ok (.isub, 1) := by decide +kernel
theorem dX3_itemNumbered_21 : decode cX3_itemNumbered 21 = .ok (.aaload, 1) := by decide +kernel
theorem dX3_itemNumbered_22 : decode cX3_itemNumbered 22 = .ok (.goto 4, 3) := by decide +kernel
theorem dX3_itemNumbered_25 : decode cX3_itemNumbered 25 = .ok (.aconst_null, 1) := by decide +kernel
theorem dX3_itemNumbered_26 : decode cX3_itemNumbered 26 = .ok (.areturn, 1) := by decide +kernel
theorem dX1_addPost_0 : decode cX1_addPost 0 = .ok (.aload_n 0, 1) := by decide +kernel
theorem dX1_addPost_1 : decode cX1_addPost 1 = .ok (.getfield 32, 3) := by decide +kernel
theorem dX1_addPost_4 : decode cX1_addPost 4 = .ok (.bipush 8, 2) := by decide +kernel
theorem dX1_addPost_6 : decode cX1_addPost 6 = .ok (.if_icmp .lt 4, 3) := by decide +kernel
theorem dX1_addPost_9 : decode cX1_addPost 9 = .ok (.return_, 1) := by decide +kernel
theorem dX1_addPost_10 : decode cX1_addPost 10 = .ok (.aload_n 0, 1) := by decide +kernel
theorem dX1_addPost_11 : decode cX1_addPost 11 = .ok (.getfield 9, 3) := by decide +kernel
theorem dX1_addPost_14 : decode cX1_addPost 14 = .ok (.aload_n 0, 1) := by decide +kernel
theorem dX1_addPost_15 : decode cX1_addPost 15 = .ok (.getfield 32, 3) := by decide +kernel
theorem dX1_addPost_18 : decode cX1_addPost 18 = .ok (.iload_n 1, 1) := by decide +kernel
theorem dX1_addPost_19 : decode cX1_addPost 19 = .ok (.iastore, 1) := by decide +kernel
theorem dX1_addPost_20 : decode cX1_addPost 20 = .ok (.iload_n 2, 1) := by decide +kernel
theorem dX1_addPost_21 : decode cX1_addPost 21 = .ok (.ifCond .eq 11, 3) := by decide +kernel
theorem dX1_addPost_24 : decode cX1_addPost 24 = .ok (.aload_n 0, 1) := by decide +kernel
theorem dX1_addPost_25 : decode cX1_addPost 25 = .ok (.aload_n 0, 1) := by decide +kernel
theorem dX1_addPost_26 : decode cX1_addPost 26 = .ok (.getfield 32, 3) := by decide +kernel
theorem dX1_addPost_29 : decode cX1_addPost 29 = .ok (.putfield 35, 3) := by decide +kernel
theorem dX1_addPost_32 : decode cX1_addPost 32 = .ok (.aload_n 0, 1) := by decide +kernel
theorem dX1_addPost_33 : decode cX1_addPost 33 = .ok (.dup, 1) := by decide +kernel
theorem dX1_addPost_34 : decode cX1_addPost 34 = .ok (.getfield 32, 3) := by decide +kernel
theorem dX1_addPost_37 : decode cX1_addPost 37 = .ok (.iconst 1, 1) := by decide +kernel
theorem dX1_addPost_38 : decode cX1_addPost 38 = .ok (.iadd, 1) := by decide +kernel
theorem dX1_addPost_39 : decode cX1_addPost 39 = .ok (.putfield 32, 3) := by decide +kernel
theorem dX1_addPost_42 : decode cX1_addPost 42 = .ok (.return_, 1) := by decide +kernel
theorem dX3_table_0 : decode cX3_table 0 = .ok (.iload_n 1, 1) := by decide +kernel
theorem dX3_table_1 : decode cX3_table 1 = .ok (.iconst 4, 1) := by decide +kernel
theorem dX3_table_2 : decode cX3_table 2 = .ok (.invokestatic 44, 3) := by decide +kernel
theorem dX3_table_5 : decode cX3_table 5 = .ok (.ifCond .eq 11, 3) := by decide +kernel
theorem dX3_table_8 : decode cX3_table 8 = .ok (.iload_n 2, 1) := by decide +kernel
theorem dX3_table_9 : decode cX3_table 9 = .ok (.iconst 4, 1) := by decide +kernel
theorem dX3_table_10 : decode cX3_table 10 = .ok (.invokestatic 44, 3) := by decide +kernel
theorem dX3_table_13 : decode cX3_table 13 = .ok (.ifCond .ne 6, 3) := by decide +kernel
theorem dX3_table_16 : decode cX3_table 16 = .ok (.bipush (-102), 2) := by decide +kernel
theorem dX3_table_18 : decode cX3_table 18 = .ok (.ireturn, 1) := by decide +kernel
theorem dX3_table_19 : decode cX3_table 19 = .ok (.lload_n 3, 1) := by decide +kernel
theorem dX3_table_20 : decode cX3_table 20 = .ok (.invokestatic 48, 3) := by decide +kernel
theorem dX3_table_23 : decode cX3_table 23 = .ok (.ifCond .eq 16, 3) := by decide +kernel
theorem dX3_table_26 : decode cX3_table 26 = .ok (.iload 5, 2) := by decide +kernel
theorem dX3_table_28 : decode cX3_table 28 = .ok (.i2l, 1) := by decide +kernel
theorem dX3_table_29 : decode cX3_table 29 = .ok (.lconst 0, 1) := by decide +kernel
theorem dX3_table_30 : decode cX3_table 30 = .ok (.ldc2_w 76, 3) := by decide +kernel
theorem dX3_table_33 : decode cX3_table 33 = .ok (.invokestatic 54, 3) := by decide +kernel
theorem dX3_table_36 : decode cX3_table 36 = .ok (.ifCond .ne 6, 3) := by decide +kernel
theorem dX3_table_39 : decode cX3_table 39 = .ok (.bipush (-102), 2) := by decide +kernel
theorem dX3_table_41 : decode cX3_table 41 = .ok (.ireturn, 1) := by decide +kernel
theorem dX3_table_42 : decode cX3_table 42 = .ok (.iload_n 1, 1) := by decide +kernel
theorem dX3_table_43 : decode cX3_table 43 = .ok (.iload_n 2, 1) := by decide +kernel
theorem dX3_table_44 : decode cX3_table 44 = .ok (.invokestatic 78, 3) := by decide +kernel
theorem dX3_table_47 : decode cX3_table 47 = .ok (.istore 6, 2) := by decide +kernel
theorem dX3_table_49 : decode cX3_table 49 = .ok (.aload_n 0, 1) := by decide +kernel
theorem dX3_table_50 : decode cX3_table 50 = .ok (.getfield 27, 3) := by decide +kernel
theorem dX3_table_53 : decode cX3_table 53 = .ok (.iload 6, 2) := by decide +kernel
theorem dX3_table_55 : decode cX3_table 55 = .ok (.lload_n 3, 1) := by decide +kernel
theorem dX3_table_56 : decode cX3_table 56 = .ok (.lastore, 1) := by decide +kernel
theorem dX3_table_57 : decode cX3_table 57 = .ok (.aload_n 0, 1) := by decide +kernel
theorem dX3_table_58 : decode cX3_table 58 = .ok (.getfield 31, 3) := by decide +kernel
theorem dX3_table_61 : decode cX3_table 61 = .ok (.iload 6, 2) := by decide +kernel
theorem dX3_table_63 : decode cX3_table 63 = .ok (.iload 5, 2) := by decide +kernel
theorem dX3_table_65 : decode cX3_table 65 = .ok (.iastore, 1) := by decide +kernel
theorem dX3_table_66 : decode cX3_table 66 = .ok (.iconst 1, 1) := by decide +kernel
theorem dX3_table_67 : decode cX3_table 67 = .ok (.ireturn, 1) := by decide +kernel
theorem dX3_rowOf_0 : decode cX3_rowOf 0 = .ok (.iload_n 0, 1) := by decide +kernel
theorem dX3_rowOf_1 : decode cX3_rowOf 1 = .ok (.iconst 4, 1) := by decide +kernel
theorem dX3_rowOf_2 : decode cX3_rowOf 2 = .ok (.imul, 1) := by decide +kernel
theorem dX3_rowOf_3 : decode cX3_rowOf 3 = .ok (.iload_n 1, 1) := by decide +kernel
theorem dX3_rowOf_4 : decode cX3_rowOf 4 = .ok (.iadd, 1) := by decide +kernel
theorem dX3_rowOf_5 : decode cX3_rowOf 5 = .ok (.ireturn, 1) := by decide +kernel
theorem dX3_claim_0 : decode cX3_claim 0 = .ok (.aload_n 0, 1) := by decide +kernel
theorem dX3_claim_1 : decode cX3_claim 1 = .ok (.iload_n 1, 1) := by decide +kernel
theorem dX3_claim_2 : decode cX3_claim 2 = .ok (.invokevirtual 65, 3) := by decide +kernel
theorem dX3_claim_5 : decode cX3_claim 5 = .ok (.astore 5, 2) := by decide +kernel
theorem dX3_claim_7 : decode cX3_claim 7 = .ok (.aload 5, 2) := by decide +kernel
theorem dX3_claim_9 : decode cX3_claim 9 = .ok (.ifnonnull 6, 3) := by decide +kernel
theorem dX3_claim_12 : decode cX3_claim 12 = .ok (.bipush (-101), 2) := by decide +kernel
theorem dX3_claim_14 : decode cX3_claim 14 = .ok (.ireturn, 1) := by decide +kernel
theorem dX3_claim_15 : decode cX3_claim 15 = .ok (.iload_n 2, 1) := by decide +kernel
theorem dX3_claim_16 : decode cX3_claim 16 = .ok (.iconst 4, 1) := by decide +kernel
theorem dX3_claim_17 : decode cX3_claim 17 = .ok (.invokestatic 44, 3) := by decide +kernel
theorem dX3_claim_20 : decode cX3_claim 20 = .ok (.ifCond .eq 28, 3) := by decide +kernel
theorem dX3_claim_23 : decode cX3_claim 23 = .ok (.iload_n 3, 1) := by decide +kernel
theorem dX3_claim_24 : decode cX3_claim 24 = .ok (.i2l, 1) := by decide +kernel
theorem dX3_claim_25 : decode cX3_claim 25 = .ok (.lconst 0, 1) := by decide +kernel
theorem dX3_claim_26 : decode cX3_claim 26 = .ok (.ldc2_w 82, 3) := by decide +kernel
theorem dX3_claim_29 : decode cX3_claim 29 = .ok (.invokestatic 54, 3) := by decide +kernel
theorem dX3_claim_32 : decode cX3_claim 32 = .ok (.ifCond .eq 16, 3) := by decide +kernel
theorem dX3_claim_35 : decode cX3_claim 35 = .ok (.iload 4, 2) := by decide +kernel
theorem dX3_claim_37 : decode cX3_claim 37 = .ok (.i2l, 1) := by decide +kernel
theorem dX3_claim_38 : decode cX3_claim 38 = .ok (.lconst 0, 1) := by decide +kernel
theorem dX3_claim_39 : decode cX3_claim 39 = .ok (.ldc2_w 84, 3) := by decide +kernel
theorem dX3_claim_42 : decode cX3_claim 42 = .ok (.invokestatic 54, 3) := by decide +kernel
theorem dX3_claim_45 : decode cX3_claim 45 = .ok (.ifCond .ne 6, 3) := by decide +kernel
theorem dX3_claim_48 : decode cX3_claim 48 = .ok (.bipush (-102), 2) := by decide +kernel
theorem dX3_claim_50 : decode cX3_claim 50 = .ok (.ireturn, 1) := by decide +kernel
theorem dX3_claim_51 : decode cX3_claim 51 = .ok (.iload_n 2, 1) := by decide +kernel
theorem dX3_claim_52 : decode cX3_claim 52 = .ok (.iload_n 3, 1) := by decide +kernel
theorem dX3_claim_53 : decode cX3_claim 53 = .ok (.invokestatic 86, 3) := by decide +kernel
theorem dX3_claim_56 : decode cX3_claim 56 = .ok (.ifCond .ne 6, 3) := by decide +kernel
theorem dX3_claim_59 : decode cX3_claim 59 = .ok (.bipush (-105), 2) := by decide +kernel
theorem dX3_claim_61 : decode cX3_claim 61 = .ok (.ireturn, 1) := by decide +kernel
theorem dX3_claim_62 : decode cX3_claim 62 = .ok (.iload 4, 2) := by decide +kernel
theorem dX3_claim_64 : decode cX3_claim 64 = .ok (.aload 5, 2) := by decide +kernel
theorem dX3_claim_66 : decode cX3_claim 66 = .ok (.getfield 89, 3) := by decide +kernel
theorem dX3_claim_69 : decode cX3_claim 69 = .ok (.aload_n 0, 1) := by decide +kernel
theorem dX3_claim_70 : decode cX3_claim 70 = .ok (.getfield 31, 3) := by decide +kernel
theorem dX3_claim_73 : decode cX3_claim 73 = .ok (.aload 5, 2) := by decide +kernel
theorem dX3_claim_75 : decode cX3_claim 75 = .ok (.getfield 92, 3) := by decide +kernel
theorem dX3_claim_78 : decode cX3_claim 78 = .ok (.iload_n 2, 1) := by decide +kernel
theorem dX3_claim_79 : decode cX3_claim 79 = .ok (.invokestatic 78, 3) := by decide +kernel
theorem dX3_claim_82 : decode cX3_claim 82 = .ok (.iaload, 1) := by decide +kernel
theorem dX3_claim_83 : decode cX3_claim 83 = .ok (.iadd, 1) := by decide +kernel
theorem dX3_claim_84 : decode cX3_claim 84 = .ok (.if_icmp .le 6, 3) := by decide +kernel
theorem dX3_claim_87 : decode cX3_claim 87 = .ok (.bipush (-106), 2) := by decide +kernel
theorem dX3_claim_89 : decode cX3_claim 89 = .ok (.ireturn, 1) := by decide +kernel
theorem dX3_claim_90 : decode cX3_claim 90 = .ok (.aload_n 0, 1) := by decide +kernel
theorem dX3_claim_91 : decode cX3_claim 91 = .ok (.iload_n 1, 1) := by decide +kernel
theorem dX3_claim_92 : decode cX3_claim 92 = .ok (.iload_n 2, 1) := by decide +kernel
theorem dX3_claim_93 : decode cX3_claim 93 = .ok (.invokevirtual 95, 3) := by decide +kernel
theorem dX3_claim_96 : decode cX3_claim 96 = .ok (.ifnull 6, 3) := by decide +kernel
theorem dX3_claim_99 : decode cX3_claim 99 = .ok (.bipush (-103), 2) := by decide +kernel
theorem dX3_claim_101 : decode cX3_claim 101 = .ok (.ireturn, 1) := by decide +kernel
theorem dX3_claim_102 : decode cX3_claim 102 = .ok (.aload_n 0, 1) := by decide +kernel
theorem dX3_claim_103 : decode cX3_claim 103 = .ok (.getfield 99, 3) := by decide +kernel
theorem dX3_claim_106 : decode cX3_claim 106 = .ok (.bipush 60, 2) := by decide +kernel
theorem dX3_claim_108 : decode cX3_claim 108 = .ok (.if_icmp .lt 6, 3) := by decide +kernel
theorem dX3_claim_111 : decode cX3_claim 111 = .ok (.bipush (-104), 2) := by decide +kernel
theorem dX3_claim_113 : decode cX3_claim 113 = .ok (.ireturn, 1) := by decide +kernel
theorem dX3_claim_114 : decode cX3_claim 114 = .ok (.aload_n 0, 1) := by decide +kernel
theorem dX3_claim_115 : decode cX3_claim 115 = .ok (.aload 5, 2) := by decide +kernel
theorem dX3_claim_117 : decode cX3_claim 117 = .ok (.getfield 102, 3) := by decide +kernel
theorem dX3_claim_120 : decode cX3_claim 120 = .ok (.invokevirtual 105, 3) := by decide +kernel
theorem dX3_claim_123 : decode cX3_claim 123 = .ok (.istore 6, 2) := by decide +kernel
theorem dX3_claim_125 : decode cX3_claim 125 = .ok (.aload_n 0, 1) := by decide +kernel
theorem dX3_claim_126 : decode cX3_claim 126 = .ok (.getfield 17, 3) := by decide +kernel
theorem dX3_claim_129 : decode cX3_claim 129 = .ok (.aload_n 0, 1) := by decide +kernel
theorem dX3_claim_130 : decode cX3_claim 130 = .ok (.getfield 99, 3) := by decide +kernel
theorem dX3_claim_133 : decode cX3_claim 133 = .ok (.new 15, 3) := by decide +kernel
theorem dX3_claim_136 : decode cX3_claim 136 = .ok (.dup, 1) := by decide +kernel
theorem dX3_claim_137 : decode cX3_claim 137 = .ok (.aload_n 0, 1) := by decide +kernel
theorem dX3_claim_138 : decode cX3_claim 138 = .ok (.getfield 99, 3) := by decide +kernel
theorem dX3_claim_141 : decode cX3_claim 141 = .ok (.iconst 1, 1) := by decide +kernel
theorem dX3_claim_142 : decode cX3_claim 142 = .ok (.iadd, 1) := by decide +kernel
theorem dX3_claim_143 : decode cX3_claim 143 = .ok (.iload_n 1, 1) := by decide +kernel
theorem dX3_claim_144 : decode cX3_claim 144 = .ok (.aload 5, 2) := by decide +kernel
theorem dX3_claim_146 : decode cX3_claim 146 = .ok (.iload_n 2, 1) := by decide +kernel
theorem dX3_claim_147 : decode cX3_claim 147 = .ok (.iload 6, 2) := by decide +kernel
theorem dX3_claim_149 : decode cX3_claim 149 = .ok (.invokespecial 109, 3) := by decide +kernel
theorem dX3_claim_152 : decode cX3_claim 152 = .ok (.aastore, 1) := by decide +kernel
theorem dX3_claim_153 : decode cX3_claim 153 = .ok (.aload_n 0, 1) := by decide +kernel
theorem dX3_claim_154 : decode cX3_claim 154 = .ok (.dup, 1) := by decide +kernel
theorem dX3_claim_155 : decode cX3_claim 155 = .ok (.getfield 99, 3) := by decide +kernel
theorem dX3_claim_158 : decode cX3_claim 158 = .ok (.iconst 1, 1) := by decide +kernel
theorem dX3_claim_159 : decode cX3_claim 159 = .ok (.iadd, 1) := by decide +kernel
theorem dX3_claim_160 : decode cX3_claim 160 = .ok (.putfield 99, 3) := by decide +kernel
theorem dX3_claim_163 : decode cX3_claim 163 = .ok (.aload_n 0, 1) := by decide +kernel
theorem dX3_claim_164 : decode cX3_claim 164 = .ok (.aload_n 0, 1) := by decide +kernel
theorem dX3_claim_165 : decode cX3_claim 165 = .ok (.getfield 99, 3) := by decide +kernel
theorem dX3_claim_168 : decode cX3_claim 168 = .ok (.iconst 1, 1) := by decide +kernel
theorem dX3_claim_169 : decode cX3_claim 169 = .ok (.invokevirtual 112, 3) := by decide +kernel
theorem dX3_claim_172 : decode cX3_claim 172 = .ok (.aload_n 0, 1) := by decide +kernel
theorem dX3_claim_173 : decode cX3_claim 173 = .ok (.getfield 99, 3) := by decide +kernel
theorem dX3_claim_176 : decode cX3_claim 176 = .ok (.ireturn, 1) := by decide +kernel
theorem dX3_mayClaim_0 : decode cX3_mayClaim 0 = .ok (.iload_n 1, 1) := by decide +kernel
theorem dX3_mayClaim_1 : decode cX3_mayClaim 1 = .ok (.ifCond .ne 5, 3) := by decide +kernel
theorem dX3_mayClaim_4 : decode cX3_mayClaim 4 = .ok (.iconst 1, 1) := by decide +kernel
theorem dX3_mayClaim_5 : decode cX3_mayClaim 5 = .ok (.ireturn, 1) := by decide +kernel
theorem dX3_mayClaim_6 : decode cX3_mayClaim 6 = .ok (.iload_n 1, 1) := by decide +kernel
theorem dX3_mayClaim_7 : decode cX3_mayClaim 7 = .ok (.iconst 1, 1) := by decide +kernel
theorem dX3_mayClaim_8 : decode cX3_mayClaim 8 = .ok (.if_icmp .ne 17, 3) := by decide +kernel
theorem dX3_mayClaim_11 : decode cX3_mayClaim 11 = .ok (.iload_n 0, 1) := by decide +kernel
theorem dX3_mayClaim_12 : decode cX3_mayClaim 12 = .ok (.iconst 1, 1) := by decide +kernel
theorem dX3_mayClaim_13 : decode cX3_mayClaim 13 = .ok (.if_icmp .eq 8, 3) := by decide +kernel
theorem dX3_mayClaim_16 : decode cX3_mayClaim 16 = .ok (.iload_n 0, 1) := by decide +kernel
theorem dX3_mayClaim_17 : decode cX3_mayClaim 17 = .ok (.iconst 2, 1) := by decide +kernel
theorem dX3_mayClaim_18 : decode cX3_mayClaim 18 = .ok (.if_icmp .ne 7, 3) := by decide +kernel
theorem dX3_mayClaim_21 : decode cX3_mayClaim 21 = .ok (.iconst 1, 1) := by decide +kernel
theorem dX3_mayClaim_22 : decode cX3_mayClaim 22 = .ok (.goto 4, 3) := by decide +kernel
theorem dX3_mayClaim_25 : decode cX3_mayClaim 25 = .ok (.iconst 0, 1) := by decide +kernel
theorem dX3_mayClaim_26 : decode cX3_mayClaim 26 = .ok (.ireturn, 1) := by decide +kernel
theorem dX3_standingClaim_0 : decode cX3_standingClaim 0 = .ok (.iconst 1, 1) := by decide +kernel
theorem dX3_standingClaim_1 : decode cX3_standingClaim 1 = .ok (.istore_n 3, 1) := by decide +kernel
theorem dX3_standingClaim_2 : decode cX3_standingClaim 2 = .ok (.iload_n 3, 1) := by decide +kernel
theorem dX3_standingClaim_3 : decode cX3_standingClaim 3 = .ok (.aload_n 0, 1) := by decide +kernel
theorem dX3_standingClaim_4 : decode cX3_standingClaim 4 = .ok (.getfield 99, 3) := by decide +kernel
theorem dX3_standingClaim_7 : decode cX3_standingClaim 7 = .ok (.if_icmp .gt 51, 3) := by decide +kernel
theorem dX3_standingClaim_10 : decode cX3_standingClaim 10 = .ok (.aload_n 0, 1) := by decide +kernel
theorem dX3_standingClaim_11 : decode cX3_standingClaim 11 = .ok (.iload_n 3, 1) := by decide +kernel
theorem dX3_standingClaim_12 : decode cX3_standingClaim 12 = .ok (.invokevirtual 116, 3) := by decide +kernel
theorem dX3_standingClaim_15 : decode cX3_standingClaim 15 = .ok (.astore 4, 2) := by decide +kernel
theorem dX3_standingClaim_17 : decode cX3_standingClaim 17 = .ok (.aload 4, 2) := by decide +kernel
theorem dX3_standingClaim_19 : decode cX3_standingClaim 19 = .ok (.ifnull 33, 3) := by decide +kernel
theorem dX3_standingClaim_22 : decode cX3_standingClaim 22 = .ok (.aload 4, 2) := by decide +kernel
theorem dX3_standingClaim_24 : decode cX3_standingClaim 24 = .ok (.getfield 211, 3) := by decide +kernel
theorem dX3_standingClaim_27 : decode cX3_standingClaim 27 = .ok (.iload_n 1, 1) := by decide +kernel
theorem dX3_standingClaim_28 : decode cX3_standingClaim 28 = .ok (.if_icmp .ne 24, 3) := by decide +kernel
theorem dX3_standingClaim_31 : decode cX3_standingClaim 31 = .ok (.aload 4, 2) := by decide +kernel
theorem dX3_standingClaim_33 : decode cX3_standingClaim 33 = .ok (.getfield 134, 3) := by decide +kernel
theorem dX3_standingClaim_36 : decode cX3_standingClaim 36 = .ok (.iload_n 2, 1) := by decide +kernel
theorem dX3_standingClaim_37 : decode cX3_standingClaim 37 = .ok (.if_icmp .ne 15, 3) := by decide +kernel
theorem dX3_standingClaim_40 : decode cX3_standingClaim 40 = .ok (.aload 4, 2) := by decide +kernel
theorem dX3_standingClaim_42 : decode cX3_standingClaim 42 = .ok (.getfield 120, 3) := by decide +kernel
theorem dX3_standingClaim_45 : decode cX3_standingClaim 45 = .ok (.iconst 2, 1) := by decide +kernel
theorem dX3_standingClaim_46 : decode cX3_standingClaim 46 = .ok (.if_icmp .eq 6, 3) := by decide +kernel
theorem dX3_standingClaim_49 : decode cX3_standingClaim 49 = .ok (.aload 4, 2) := by decide +kernel
theorem dX3_standingClaim_51 : decode cX3_standingClaim 51 = .ok (.areturn, 1) := by decide +kernel
theorem dX3_standingClaim_52 : decode cX3_standingClaim 52 = .ok (.iinc 3 1, 3) := by decide +kernel
theorem dX3_standingClaim_55 : decode cX3_standingClaim 55 = .ok (.goto (-53), 3) := by decide +kernel
theorem dX3_standingClaim_58 : decode cX3_standingClaim 58 = .ok (.aconst_null, 1) := by decide +kernel
theorem dX3_standingClaim_59 : decode cX3_standingClaim 59 = .ok (.areturn, 1) := by decide +kernel
theorem dX3_claimNumbered_0 : decode cX3_claimNumbered 0 = .ok (.iload_n 1, 1) := by decide +kernel
theorem dX3_claimNumbered_1 : decode cX3_claimNumbered 1 = .ok (.i2l, 1) := by decide +kernel
theorem dX3_claimNumbered_2 : decode cX3_claimNumbered 2 = .ok (.lconst 1, 1) := by decide +kernel
theorem dX3_claimNumbered_3 : decode cX3_claimNumbered 3 = .ok (.aload_n 0, 1) := by decide +kernel
theorem dX3_claimNumbered_4 : decode cX3_claimNumbered 4 = .ok (.getfield 99, 3) := by decide +kernel
theorem dX3_claimNumbered_7 : decode cX3_claimNumbered 7 = .ok (.i2l, 1) := by decide +kernel
theorem dX3_claimNumbered_8 : decode cX3_claimNumbered 8 = .ok (.invokestatic 54, 3) := by decide +kernel
theorem dX3_claimNumbered_11 : decode cX3_claimNumbered 11 = .ok (.ifCond .eq 14, 3) := by decide +kernel
theorem dX3_claimNumbered_14 : decode cX3_claimNumbered 14 = .ok (.aload_n 0, 1) := by decide +kernel
theorem dX3_claimNumbered_15 : decode cX3_claimNumbered 15 = .ok (.getfield 17, 3) := by decide +kernel
theorem dX3_claimNumbered_18 : decode cX3_claimNumbered 18 = .ok (.iload_n 1, 1) := by decide +kernel
theorem dX3_claimNumbered_19 : decode cX3_claimNumbered 19 = .ok (.iconst 1, 1) := by decide +kernel
theorem dX3_claimNumbered_20 : decode cX3_claimNumbered 20 = .ok (.isub, 1) := by decide +kernel
