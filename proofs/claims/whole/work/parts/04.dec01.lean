theorem dX3_claimNumbered_21 : decode cX3_claimNumbered 21 = .ok (.aaload, 1) := by decide +kernel
theorem dX3_claimNumbered_22 : decode cX3_claimNumbered 22 = .ok (.goto 4, 3) := by decide +kernel
theorem dX3_claimNumbered_25 : decode cX3_claimNumbered 25 = .ok (.aconst_null, 1) := by decide +kernel
theorem dX3_claimNumbered_26 : decode cX3_claimNumbered 26 = .ok (.areturn, 1) := by decide +kernel
theorem dX3_claimsOfSender_0 : decode cX3_claimsOfSender 0 = .ok (.iconst 0, 1) := by decide +kernel
theorem dX3_claimsOfSender_1 : decode cX3_claimsOfSender 1 = .ok (.istore_n 2, 1) := by decide +kernel
theorem dX3_claimsOfSender_2 : decode cX3_claimsOfSender 2 = .ok (.iconst 1, 1) := by decide +kernel
theorem dX3_claimsOfSender_3 : decode cX3_claimsOfSender 3 = .ok (.istore_n 3, 1) := by decide +kernel
theorem dX3_claimsOfSender_4 : decode cX3_claimsOfSender 4 = .ok (.iload_n 3, 1) := by decide +kernel
theorem dX3_claimsOfSender_5 : decode cX3_claimsOfSender 5 = .ok (.aload_n 0, 1) := by decide +kernel
theorem dX3_claimsOfSender_6 : decode cX3_claimsOfSender 6 = .ok (.getfield 99, 3) := by decide +kernel
theorem dX3_claimsOfSender_9 : decode cX3_claimsOfSender 9 = .ok (.if_icmp .gt 36, 3) := by decide +kernel
theorem dX3_claimsOfSender_12 : decode cX3_claimsOfSender 12 = .ok (.aload_n 0, 1) := by decide +kernel
theorem dX3_claimsOfSender_13 : decode cX3_claimsOfSender 13 = .ok (.iload_n 3, 1) := by decide +kernel
theorem dX3_claimsOfSender_14 : decode cX3_claimsOfSender 14 = .ok (.invokevirtual 116, 3) := by decide +kernel
theorem dX3_claimsOfSender_17 : decode cX3_claimsOfSender 17 = .ok (.astore 4, 2) := by decide +kernel
theorem dX3_claimsOfSender_19 : decode cX3_claimsOfSender 19 = .ok (.aload 4, 2) := by decide +kernel
theorem dX3_claimsOfSender_21 : decode cX3_claimsOfSender 21 = .ok (.ifnull 18, 3) := by decide +kernel
theorem dX3_claimsOfSender_24 : decode cX3_claimsOfSender 24 = .ok (.aload 4, 2) := by decide +kernel
theorem dX3_claimsOfSender_26 : decode cX3_claimsOfSender 26 = .ok (.getfield 188, 3) := by decide +kernel
theorem dX3_claimsOfSender_29 : decode cX3_claimsOfSender 29 = .ok (.getfield 102, 3) := by decide +kernel
theorem dX3_claimsOfSender_32 : decode cX3_claimsOfSender 32 = .ok (.iload_n 1, 1) := by decide +kernel
theorem dX3_claimsOfSender_33 : decode cX3_claimsOfSender 33 = .ok (.if_icmp .ne 6, 3) := by decide +kernel
theorem dX3_claimsOfSender_36 : decode cX3_claimsOfSender 36 = .ok (.iinc 2 1, 3) := by decide +kernel
theorem dX3_claimsOfSender_39 : decode cX3_claimsOfSender 39 = .ok (.iinc 3 1, 3) := by decide +kernel
theorem dX3_claimsOfSender_42 : decode cX3_claimsOfSender 42 = .ok (.goto (-38), 3) := by decide +kernel
theorem dX3_claimsOfSender_45 : decode cX3_claimsOfSender 45 = .ok (.iload_n 2, 1) := by decide +kernel
theorem dX3_claimsOfSender_46 : decode cX3_claimsOfSender 46 = .ok (.ireturn, 1) := by decide +kernel
theorem dX0_init_0 : decode cX0_init 0 = .ok (.aload_n 0, 1) := by decide +kernel
theorem dX0_init_1 : decode cX0_init 1 = .ok (.invokespecial 3, 3) := by decide +kernel
theorem dX0_init_4 : decode cX0_init 4 = .ok (.aload_n 0, 1) := by decide +kernel
theorem dX0_init_5 : decode cX0_init 5 = .ok (.iconst 0, 1) := by decide +kernel
theorem dX0_init_6 : decode cX0_init 6 = .ok (.putfield 9, 3) := by decide +kernel
theorem dX0_init_9 : decode cX0_init 9 = .ok (.aload_n 0, 1) := by decide +kernel
theorem dX0_init_10 : decode cX0_init 10 = .ok (.iload_n 1, 1) := by decide +kernel
theorem dX0_init_11 : decode cX0_init 11 = .ok (.putfield 15, 3) := by decide +kernel
theorem dX0_init_14 : decode cX0_init 14 = .ok (.aload_n 0, 1) := by decide +kernel
theorem dX0_init_15 : decode cX0_init 15 = .ok (.iload_n 2, 1) := by decide +kernel
theorem dX0_init_16 : decode cX0_init 16 = .ok (.putfield 18, 3) := by decide +kernel
theorem dX0_init_19 : decode cX0_init 19 = .ok (.aload_n 0, 1) := by decide +kernel
theorem dX0_init_20 : decode cX0_init 20 = .ok (.aload_n 3, 1) := by decide +kernel
theorem dX0_init_21 : decode cX0_init 21 = .ok (.putfield 21, 3) := by decide +kernel
theorem dX0_init_24 : decode cX0_init 24 = .ok (.aload_n 0, 1) := by decide +kernel
theorem dX0_init_25 : decode cX0_init 25 = .ok (.iload 4, 2) := by decide +kernel
theorem dX0_init_27 : decode cX0_init 27 = .ok (.putfield 25, 3) := by decide +kernel
theorem dX0_init_30 : decode cX0_init 30 = .ok (.aload_n 0, 1) := by decide +kernel
theorem dX0_init_31 : decode cX0_init 31 = .ok (.iload 5, 2) := by decide +kernel
theorem dX0_init_33 : decode cX0_init 33 = .ok (.putfield 28, 3) := by decide +kernel
theorem dX0_init_36 : decode cX0_init 36 = .ok (.aload_n 0, 1) := by decide +kernel
theorem dX0_init_37 : decode cX0_init 37 = .ok (.iload 4, 2) := by decide +kernel
theorem dX0_init_39 : decode cX0_init 39 = .ok (.getstatic 31, 3) := by decide +kernel
theorem dX0_init_42 : decode cX0_init 42 = .ok (.arraylength, 1) := by decide +kernel
theorem dX0_init_43 : decode cX0_init 43 = .ok (.invokestatic 35, 3) := by decide +kernel
theorem dX0_init_46 : decode cX0_init 46 = .ok (.ifCond .eq 12, 3) := by decide +kernel
theorem dX0_init_49 : decode cX0_init 49 = .ok (.getstatic 31, 3) := by decide +kernel
theorem dX0_init_52 : decode cX0_init 52 = .ok (.iload 4, 2) := by decide +kernel
theorem dX0_init_54 : decode cX0_init 54 = .ok (.iaload, 1) := by decide +kernel
theorem dX0_init_55 : decode cX0_init 55 = .ok (.goto 4, 3) := by decide +kernel
theorem dX0_init_58 : decode cX0_init 58 = .ok (.iconst 0, 1) := by decide +kernel
theorem dX0_init_59 : decode cX0_init 59 = .ok (.putfield 39, 3) := by decide +kernel
theorem dX0_init_62 : decode cX0_init 62 = .ok (.return_, 1) := by decide +kernel
theorem dX3_send_0 : decode cX3_send 0 = .ok (.aload_n 0, 1) := by decide +kernel
theorem dX3_send_1 : decode cX3_send 1 = .ok (.getfield 222, 3) := by decide +kernel
theorem dX3_send_4 : decode cX3_send 4 = .ok (.sipush 200, 3) := by decide +kernel
theorem dX3_send_7 : decode cX3_send 7 = .ok (.if_icmp .ge 23, 3) := by decide +kernel
theorem dX3_send_10 : decode cX3_send 10 = .ok (.aload_n 0, 1) := by decide +kernel
theorem dX3_send_11 : decode cX3_send 11 = .ok (.getfield 38, 3) := by decide +kernel
theorem dX3_send_14 : decode cX3_send 14 = .ok (.aload_n 0, 1) := by decide +kernel
theorem dX3_send_15 : decode cX3_send 15 = .ok (.getfield 222, 3) := by decide +kernel
theorem dX3_send_18 : decode cX3_send 18 = .ok (.iload_n 1, 1) := by decide +kernel
theorem dX3_send_19 : decode cX3_send 19 = .ok (.iastore, 1) := by decide +kernel
theorem dX3_send_20 : decode cX3_send 20 = .ok (.aload_n 0, 1) := by decide +kernel
theorem dX3_send_21 : decode cX3_send 21 = .ok (.getfield 41, 3) := by decide +kernel
theorem dX3_send_24 : decode cX3_send 24 = .ok (.aload_n 0, 1) := by decide +kernel
theorem dX3_send_25 : decode cX3_send 25 = .ok (.getfield 222, 3) := by decide +kernel
theorem dX3_send_28 : decode cX3_send 28 = .ok (.iload_n 2, 1) := by decide +kernel
theorem dX3_send_29 : decode cX3_send 29 = .ok (.iastore, 1) := by decide +kernel
theorem dX3_send_30 : decode cX3_send 30 = .ok (.aload_n 0, 1) := by decide +kernel
theorem dX3_send_31 : decode cX3_send 31 = .ok (.dup, 1) := by decide +kernel
theorem dX3_send_32 : decode cX3_send 32 = .ok (.getfield 222, 3) := by decide +kernel
theorem dX3_send_35 : decode cX3_send 35 = .ok (.iconst 1, 1) := by decide +kernel
theorem dX3_send_36 : decode cX3_send 36 = .ok (.iadd, 1) := by decide +kernel
theorem dX3_send_37 : decode cX3_send 37 = .ok (.putfield 222, 3) := by decide +kernel
theorem dX3_send_40 : decode cX3_send 40 = .ok (.return_, 1) := by decide +kernel
theorem dX3_proof_0 : decode cX3_proof 0 = .ok (.aload_n 0, 1) := by decide +kernel
theorem dX3_proof_1 : decode cX3_proof 1 = .ok (.iload_n 1, 1) := by decide +kernel
theorem dX3_proof_2 : decode cX3_proof 2 = .ok (.invokevirtual 116, 3) := by decide +kernel
theorem dX3_proof_5 : decode cX3_proof 5 = .ok (.astore_n 3, 1) := by decide +kernel
theorem dX3_proof_6 : decode cX3_proof 6 = .ok (.aload_n 3, 1) := by decide +kernel
theorem dX3_proof_7 : decode cX3_proof 7 = .ok (.ifnonnull 6, 3) := by decide +kernel
theorem dX3_proof_10 : decode cX3_proof 10 = .ok (.bipush (-101), 2) := by decide +kernel
theorem dX3_proof_12 : decode cX3_proof 12 = .ok (.ireturn, 1) := by decide +kernel
theorem dX3_proof_13 : decode cX3_proof 13 = .ok (.iload_n 2, 1) := by decide +kernel
theorem dX3_proof_14 : decode cX3_proof 14 = .ok (.iconst 4, 1) := by decide +kernel
theorem dX3_proof_15 : decode cX3_proof 15 = .ok (.invokestatic 44, 3) := by decide +kernel
theorem dX3_proof_18 : decode cX3_proof 18 = .ok (.ifCond .ne 6, 3) := by decide +kernel
theorem dX3_proof_21 : decode cX3_proof 21 = .ok (.bipush (-102), 2) := by decide +kernel
theorem dX3_proof_23 : decode cX3_proof 23 = .ok (.ireturn, 1) := by decide +kernel
theorem dX3_proof_24 : decode cX3_proof 24 = .ok (.iconst 1, 1) := by decide +kernel
theorem dX3_proof_25 : decode cX3_proof 25 = .ok (.iload_n 2, 1) := by decide +kernel
theorem dX3_proof_26 : decode cX3_proof 26 = .ok (.ishl, 1) := by decide +kernel
theorem dX3_proof_27 : decode cX3_proof 27 = .ok (.istore 4, 2) := by decide +kernel
theorem dX3_proof_29 : decode cX3_proof 29 = .ok (.aload_n 3, 1) := by decide +kernel
theorem dX3_proof_30 : decode cX3_proof 30 = .ok (.getfield 120, 3) := by decide +kernel
theorem dX3_proof_33 : decode cX3_proof 33 = .ok (.ifCond .ne 13, 3) := by decide +kernel
theorem dX3_proof_36 : decode cX3_proof 36 = .ok (.aload_n 3, 1) := by decide +kernel
theorem dX3_proof_37 : decode cX3_proof 37 = .ok (.getfield 123, 3) := by decide +kernel
theorem dX3_proof_40 : decode cX3_proof 40 = .ok (.iload 4, 2) := by decide +kernel
theorem dX3_proof_42 : decode cX3_proof 42 = .ok (.iand, 1) := by decide +kernel
theorem dX3_proof_43 : decode cX3_proof 43 = .ok (.ifCond .ne 6, 3) := by decide +kernel
theorem dX3_proof_46 : decode cX3_proof 46 = .ok (.bipush (-103), 2) := by decide +kernel
theorem dX3_proof_48 : decode cX3_proof 48 = .ok (.ireturn, 1) := by decide +kernel
theorem dX3_proof_49 : decode cX3_proof 49 = .ok (.aload_n 3, 1) := by decide +kernel
theorem dX3_proof_50 : decode cX3_proof 50 = .ok (.dup, 1) := by decide +kernel
theorem dX3_proof_51 : decode cX3_proof 51 = .ok (.getfield 123, 3) := by decide +kernel
theorem dX3_proof_54 : decode cX3_proof 54 = .ok (.iload 4, 2) := by decide +kernel
theorem dX3_proof_56 : decode cX3_proof 56 = .ok (.iconst (-1), 1) := by decide +kernel
theorem dX3_proof_57 : decode cX3_proof 57 = .ok (.ixor, 1) := by decide +kernel
theorem dX3_proof_58 : decode cX3_proof 58 = .ok (.iand, 1) := by decide +kernel
theorem dX3_proof_59 : decode cX3_proof 59 = .ok (.putfield 123, 3) := by decide +kernel
theorem dX3_proof_62 : decode cX3_proof 62 = .ok (.aload_n 3, 1) := by decide +kernel
theorem dX3_proof_63 : decode cX3_proof 63 = .ok (.getfield 123, 3) := by decide +kernel
theorem dX3_proof_66 : decode cX3_proof 66 = .ok (.invokestatic 126, 3) := by decide +kernel
theorem dX3_proof_69 : decode cX3_proof 69 = .ok (.istore 5, 2) := by decide +kernel
theorem dX3_proof_71 : decode cX3_proof 71 = .ok (.iload 5, 2) := by decide +kernel
theorem dX3_proof_73 : decode cX3_proof 73 = .ok (.ifCond .le 9, 3) := by decide +kernel
theorem dX3_proof_76 : decode cX3_proof 76 = .ok (.aload_n 0, 1) := by decide +kernel
theorem dX3_proof_77 : decode cX3_proof 77 = .ok (.iload_n 1, 1) := by decide +kernel
theorem dX3_proof_78 : decode cX3_proof 78 = .ok (.iconst 2, 1) := by decide +kernel
theorem dX3_proof_79 : decode cX3_proof 79 = .ok (.invokevirtual 112, 3) := by decide +kernel
theorem dX3_proof_82 : decode cX3_proof 82 = .ok (.iload 5, 2) := by decide +kernel
theorem dX3_proof_84 : decode cX3_proof 84 = .ok (.ireturn, 1) := by decide +kernel
theorem dJ6_bitCount_0 : decode cJ6_bitCount 0 = .ok (.iload_n 0, 1) := by decide +kernel
theorem dJ6_bitCount_1 : decode cJ6_bitCount 1 = .ok (.iload_n 0, 1) := by decide +kernel
theorem dJ6_bitCount_2 : decode cJ6_bitCount 2 = .ok (.iconst 1, 1) := by decide +kernel
theorem dJ6_bitCount_3 : decode cJ6_bitCount 3 = .ok (.iushr, 1) := by decide +kernel
theorem dJ6_bitCount_4 : decode cJ6_bitCount 4 = .ok (.ldc_w 265, 3) := by decide +kernel
theorem dJ6_bitCount_7 : decode cJ6_bitCount 7 = .ok (.iand, 1) := by decide +kernel
theorem dJ6_bitCount_8 : decode cJ6_bitCount 8 = .ok (.isub, 1) := by decide +kernel
theorem dJ6_bitCount_9 : decode cJ6_bitCount 9 = .ok (.istore_n 0, 1) := by decide +kernel
theorem dJ6_bitCount_10 : decode cJ6_bitCount 10 = .ok (.iload_n 0, 1) := by decide +kernel
theorem dJ6_bitCount_11 : decode cJ6_bitCount 11 = .ok (.ldc_w 266, 3) := by decide +kernel
theorem dJ6_bitCount_14 : decode cJ6_bitCount 14 = .ok (.iand, 1) := by decide +kernel
theorem dJ6_bitCount_15 : decode cJ6_bitCount 15 = .ok (.iload_n 0, 1) := by decide +kernel
theorem dJ6_bitCount_16 : decode cJ6_bitCount 16 = .ok (.iconst 2, 1) := by decide +kernel
theorem dJ6_bitCount_17 : decode cJ6_bitCount 17 = .ok (.iushr, 1) := by decide +kernel
theorem dJ6_bitCount_18 : decode cJ6_bitCount 18 = .ok (.ldc_w 266, 3) := by decide +kernel
theorem dJ6_bitCount_21 : decode cJ6_bitCount 21 = .ok (.iand, 1) := by decide +kernel
theorem dJ6_bitCount_22 : decode cJ6_bitCount 22 = .ok (.iadd, 1) := by decide +kernel
theorem dJ6_bitCount_23 : decode cJ6_bitCount 23 = .ok (.istore_n 0, 1) := by decide +kernel
theorem dJ6_bitCount_24 : decode cJ6_bitCount 24 = .ok (.iload_n 0, 1) := by decide +kernel
theorem dJ6_bitCount_25 : decode cJ6_bitCount 25 = .ok (.iload_n 0, 1) := by decide +kernel
theorem dJ6_bitCount_26 : decode cJ6_bitCount 26 = .ok (.iconst 4, 1) := by decide +kernel
theorem dJ6_bitCount_27 : decode cJ6_bitCount 27 = .ok (.iushr, 1) := by decide +kernel
theorem dJ6_bitCount_28 : decode cJ6_bitCount 28 = .ok (.iadd, 1) := by decide +kernel
theorem dJ6_bitCount_29 : decode cJ6_bitCount 29 = .ok (.ldc_w 267, 3) := by decide +kernel
theorem dJ6_bitCount_32 : decode cJ6_bitCount 32 = .ok (.iand, 1) := by decide +kernel
theorem dJ6_bitCount_33 : decode cJ6_bitCount 33 = .ok (.istore_n 0, 1) := by decide +kernel
theorem dJ6_bitCount_34 : decode cJ6_bitCount 34 = .ok (.iload_n 0, 1) := by decide +kernel
theorem dJ6_bitCount_35 : decode cJ6_bitCount 35 = .ok (.iload_n 0, 1) := by decide +kernel
theorem dJ6_bitCount_36 : decode cJ6_bitCount 36 = .ok (.bipush 8, 2) := by decide +kernel
theorem dJ6_bitCount_38 : decode cJ6_bitCount 38 = .ok (.iushr, 1) := by decide +kernel
theorem dJ6_bitCount_39 : decode cJ6_bitCount 39 = .ok (.iadd, 1) := by decide +kernel
theorem dJ6_bitCount_40 : decode cJ6_bitCount 40 = .ok (.istore_n 0, 1) := by decide +kernel
theorem dJ6_bitCount_41 : decode cJ6_bitCount 41 = .ok (.iload_n 0, 1) := by decide +kernel
theorem dJ6_bitCount_42 : decode cJ6_bitCount 42 = .ok (.iload_n 0, 1) := by decide +kernel
theorem dJ6_bitCount_43 : decode cJ6_bitCount 43 = .ok (.bipush 16, 2) := by decide +kernel
theorem dJ6_bitCount_45 : decode cJ6_bitCount 45 = .ok (.iushr, 1) := by decide +kernel
theorem dJ6_bitCount_46 : decode cJ6_bitCount 46 = .ok (.iadd, 1) := by decide +kernel
theorem dJ6_bitCount_47 : decode cJ6_bitCount 47 = .ok (.istore_n 0, 1) := by decide +kernel
theorem dJ6_bitCount_48 : decode cJ6_bitCount 48 = .ok (.iload_n 0, 1) := by decide +kernel
theorem dJ6_bitCount_49 : decode cJ6_bitCount 49 = .ok (.bipush 63, 2) := by decide +kernel
theorem dJ6_bitCount_51 : decode cJ6_bitCount 51 = .ok (.iand, 1) := by decide +kernel
theorem dJ6_bitCount_52 : decode cJ6_bitCount 52 = .ok (.ireturn, 1) := by decide +kernel
theorem dX3_search_0 : decode cX3_search 0 = .ok (.aload_n 0, 1) := by decide +kernel
theorem dX3_search_1 : decode cX3_search 1 = .ok (.iload_n 1, 1) := by decide +kernel
theorem dX3_search_2 : decode cX3_search 2 = .ok (.invokevirtual 116, 3) := by decide +kernel
theorem dX3_search_5 : decode cX3_search 5 = .ok (.astore 4, 2) := by decide +kernel
theorem dX3_search_7 : decode cX3_search 7 = .ok (.aload 4, 2) := by decide +kernel
theorem dX3_search_9 : decode cX3_search 9 = .ok (.ifnonnull 6, 3) := by decide +kernel
theorem dX3_search_12 : decode cX3_search 12 = .ok (.bipush (-101), 2) := by decide +kernel
theorem dX3_search_14 : decode cX3_search 14 = .ok (.ireturn, 1) := by decide +kernel
theorem dX3_search_15 : decode cX3_search 15 = .ok (.iload_n 2, 1) := by decide +kernel
theorem dX3_search_16 : decode cX3_search 16 = .ok (.bipush 50, 2) := by decide +kernel
theorem dX3_search_18 : decode cX3_search 18 = .ok (.invokestatic 44, 3) := by decide +kernel
theorem dX3_search_21 : decode cX3_search 21 = .ok (.ifCond .eq 19, 3) := by decide +kernel
theorem dX3_search_24 : decode cX3_search 24 = .ok (.iload_n 3, 1) := by decide +kernel
theorem dX3_search_25 : decode cX3_search 25 = .ok (.i2l, 1) := by decide +kernel
theorem dX3_search_26 : decode cX3_search 26 = .ok (.aload_n 0, 1) := by decide +kernel
theorem dX3_search_27 : decode cX3_search 27 = .ok (.getfield 131, 3) := by decide +kernel
theorem dX3_search_30 : decode cX3_search 30 = .ok (.i2l, 1) := by decide +kernel
theorem dX3_search_31 : decode cX3_search 31 = .ok (.ldc2_w 84, 3) := by decide +kernel
theorem dX3_search_34 : decode cX3_search 34 = .ok (.invokestatic 54, 3) := by decide +kernel
theorem dX3_search_37 : decode cX3_search 37 = .ok (.ifCond .ne 6, 3) := by decide +kernel
theorem dX3_search_40 : decode cX3_search 40 = .ok (.bipush (-102), 2) := by decide +kernel
theorem dX3_search_42 : decode cX3_search 42 = .ok (.ireturn, 1) := by decide +kernel
theorem dX3_search_43 : decode cX3_search 43 = .ok (.aload 4, 2) := by decide +kernel
theorem dX3_search_45 : decode cX3_search 45 = .ok (.getfield 120, 3) := by decide +kernel
theorem dX3_search_48 : decode cX3_search 48 = .ok (.ifCond .ne 11, 3) := by decide +kernel
theorem dX3_search_51 : decode cX3_search 51 = .ok (.aload 4, 2) := by decide +kernel
theorem dX3_search_53 : decode cX3_search 53 = .ok (.getfield 134, 3) := by decide +kernel
theorem dX3_search_56 : decode cX3_search 56 = .ok (.ifCond .eq 6, 3) := by decide +kernel
theorem dX3_search_59 : decode cX3_search 59 = .ok (.bipush (-103), 2) := by decide +kernel
theorem dX3_search_61 : decode cX3_search 61 = .ok (.ireturn, 1) := by decide +kernel
theorem dX3_search_62 : decode cX3_search 62 = .ok (.aload_n 0, 1) := by decide +kernel
theorem dX3_search_63 : decode cX3_search 63 = .ok (.getfield 137, 3) := by decide +kernel
theorem dX3_search_66 : decode cX3_search 66 = .ok (.bipush 100, 2) := by decide +kernel
theorem dX3_search_68 : decode cX3_search 68 = .ok (.if_icmp .lt 6, 3) := by decide +kernel
theorem dX3_search_71 : decode cX3_search 71 = .ok (.bipush (-104), 2) := by decide +kernel
theorem dX3_search_73 : decode cX3_search 73 = .ok (.ireturn, 1) := by decide +kernel
theorem dX3_search_74 : decode cX3_search 74 = .ok (.aload_n 0, 1) := by decide +kernel
theorem dX3_search_75 : decode cX3_search 75 = .ok (.getfield 23, 3) := by decide +kernel
theorem dX3_search_78 : decode cX3_search 78 = .ok (.aload_n 0, 1) := by decide +kernel
theorem dX3_search_79 : decode cX3_search 79 = .ok (.getfield 137, 3) := by decide +kernel
theorem dX3_search_82 : decode cX3_search 82 = .ok (.new 21, 3) := by decide +kernel
theorem dX3_search_85 : decode cX3_search 85 = .ok (.dup, 1) := by decide +kernel
theorem dX3_search_86 : decode cX3_search 86 = .ok (.aload 4, 2) := by decide +kernel
theorem dX3_search_88 : decode cX3_search 88 = .ok (.iload_n 3, 1) := by decide +kernel
theorem dX3_search_89 : decode cX3_search 89 = .ok (.invokespecial 140, 3) := by decide +kernel
theorem dX3_search_92 : decode cX3_search 92 = .ok (.aastore, 1) := by decide +kernel
theorem dX3_search_93 : decode cX3_search 93 = .ok (.aload_n 0, 1) := by decide +kernel
theorem dX3_search_94 : decode cX3_search 94 = .ok (.dup, 1) := by decide +kernel
theorem dX3_search_95 : decode cX3_search 95 = .ok (.getfield 137, 3) := by decide +kernel
theorem dX3_search_98 : decode cX3_search 98 = .ok (.iconst 1, 1) := by decide +kernel
theorem dX3_search_99 : decode cX3_search 99 = .ok (.iadd, 1) := by decide +kernel
theorem dX3_search_100 : decode cX3_search 100 = .ok (.putfield 137, 3) := by decide +kernel
theorem dX3_search_103 : decode cX3_search 103 = .ok (.aload 4, 2) := by decide +kernel
theorem dX3_search_105 : decode cX3_search 105 = .ok (.invokevirtual 143, 3) := by decide +kernel
theorem dX3_search_108 : decode cX3_search 108 = .ok (.aload_n 0, 1) := by decide +kernel
theorem dX3_search_109 : decode cX3_search 109 = .ok (.getfield 137, 3) := by decide +kernel
theorem dX3_search_112 : decode cX3_search 112 = .ok (.ireturn, 1) := by decide +kernel
theorem dX2_init_0 : decode cX2_init 0 = .ok (.aload_n 0, 1) := by decide +kernel
theorem dX2_init_1 : decode cX2_init 1 = .ok (.invokespecial 1, 3) := by decide +kernel
theorem dX2_init_4 : decode cX2_init 4 = .ok (.aload_n 0, 1) := by decide +kernel
theorem dX2_init_5 : decode cX2_init 5 = .ok (.iconst 1, 1) := by decide +kernel
theorem dX2_init_6 : decode cX2_init 6 = .ok (.putfield 7, 3) := by decide +kernel
theorem dX2_init_9 : decode cX2_init 9 = .ok (.aload_n 0, 1) := by decide +kernel
theorem dX2_init_10 : decode cX2_init 10 = .ok (.aload_n 1, 1) := by decide +kernel
theorem dX2_init_11 : decode cX2_init 11 = .ok (.putfield 13, 3) := by decide +kernel
theorem dX2_init_14 : decode cX2_init 14 = .ok (.aload_n 0, 1) := by decide +kernel
theorem dX2_init_15 : decode cX2_init 15 = .ok (.iload_n 2, 1) := by decide +kernel
theorem dX2_init_16 : decode cX2_init 16 = .ok (.putfield 17, 3) := by decide +kernel
theorem dX2_init_19 : decode cX2_init 19 = .ok (.return_, 1) := by decide +kernel
theorem dX0_addSearch_0 : decode cX0_addSearch 0 = .ok (.aload_n 0, 1) := by decide +kernel
theorem dX0_addSearch_1 : decode cX0_addSearch 1 = .ok (.dup, 1) := by decide +kernel
theorem dX0_addSearch_2 : decode cX0_addSearch 2 = .ok (.getfield 42, 3) := by decide +kernel
theorem dX0_addSearch_5 : decode cX0_addSearch 5 = .ok (.iconst 1, 1) := by decide +kernel
theorem dX0_addSearch_6 : decode cX0_addSearch 6 = .ok (.iadd, 1) := by decide +kernel
theorem dX0_addSearch_7 : decode cX0_addSearch 7 = .ok (.putfield 42, 3) := by decide +kernel
theorem dX0_addSearch_10 : decode cX0_addSearch 10 = .ok (.aload_n 0, 1) := by decide +kernel
theorem dX0_addSearch_11 : decode cX0_addSearch 11 = .ok (.dup, 1) := by decide +kernel
theorem dX0_addSearch_12 : decode cX0_addSearch 12 = .ok (.getfield 45, 3) := by decide +kernel
theorem dX0_addSearch_15 : decode cX0_addSearch 15 = .ok (.iconst 1, 1) := by decide +kernel
theorem dX0_addSearch_16 : decode cX0_addSearch 16 = .ok (.iadd, 1) := by decide +kernel
theorem dX0_addSearch_17 : decode cX0_addSearch 17 = .ok (.putfield 45, 3) := by decide +kernel
theorem dX0_addSearch_20 : decode cX0_addSearch 20 = .ok (.return_, 1) := by decide +kernel
theorem dX3_answer_0 : decode cX3_answer 0 = .ok (.aload_n 0, 1) := by decide +kernel
theorem dX3_answer_1 : decode cX3_answer 1 = .ok (.iload_n 1, 1) := by decide +kernel
theorem dX3_answer_2 : decode cX3_answer 2 = .ok (.invokevirtual 146, 3) := by decide +kernel
theorem dX3_answer_5 : decode cX3_answer 5 = .ok (.astore_n 3, 1) := by decide +kernel
theorem dX3_answer_6 : decode cX3_answer 6 = .ok (.aload_n 3, 1) := by decide +kernel
theorem dX3_answer_7 : decode cX3_answer 7 = .ok (.ifnonnull 6, 3) := by decide +kernel
theorem dX3_answer_10 : decode cX3_answer 10 = .ok (.bipush (-101), 2) := by decide +kernel
theorem dX3_answer_12 : decode cX3_answer 12 = .ok (.ireturn, 1) := by decide +kernel
theorem dX3_answer_13 : decode cX3_answer 13 = .ok (.aload_n 3, 1) := by decide +kernel
theorem dX3_answer_14 : decode cX3_answer 14 = .ok (.getfield 150, 3) := by decide +kernel
theorem dX3_answer_17 : decode cX3_answer 17 = .ok (.ifCond .ne 6, 3) := by decide +kernel
theorem dX3_answer_20 : decode cX3_answer 20 = .ok (.bipush (-103), 2) := by decide +kernel
theorem dX3_answer_22 : decode cX3_answer 22 = .ok (.ireturn, 1) := by decide +kernel
theorem dX3_answer_23 : decode cX3_answer 23 = .ok (.aload_n 3, 1) := by decide +kernel
theorem dX3_answer_24 : decode cX3_answer 24 = .ok (.iload_n 2, 1) := by decide +kernel
theorem dX3_answer_25 : decode cX3_answer 25 = .ok (.invokevirtual 154, 3) := by decide +kernel
theorem dX3_answer_28 : decode cX3_answer 28 = .ok (.iconst 1, 1) := by decide +kernel
theorem dX3_answer_29 : decode cX3_answer 29 = .ok (.ireturn, 1) := by decide +kernel
theorem dX3_searchNumbered_0 : decode cX3_searchNumbered 0 = .ok (.iload_n 1, 1) := by decide +kernel
theorem dX3_searchNumbered_1 : decode cX3_searchNumbered 1 = .ok (.i2l, 1) := by decide +kernel
theorem dX3_searchNumbered_2 : decode cX3_searchNumbered 2 = .ok (.lconst 1, 1) := by decide +kernel
theorem dX3_searchNumbered_3 : decode cX3_searchNumbered 3 = .ok (.aload_n 0, 1) := by decide +kernel
theorem dX3_searchNumbered_4 : decode cX3_searchNumbered 4 = .ok (.getfield 137, 3) := by decide +kernel
theorem dX3_searchNumbered_7 : decode cX3_searchNumbered 7 = .ok (.i2l, 1) := by decide +kernel
theorem dX3_searchNumbered_8 : decode cX3_searchNumbered 8 = .ok (.invokestatic 54, 3) := by decide +kernel
theorem dX3_searchNumbered_11 : decode cX3_searchNumbered 11 = .ok (.ifCond .eq 14, 3) := by decide +kernel
theorem dX3_searchNumbered_14 : decode cX3_searchNumbered 14 = .ok (.aload_n 0, 1) := by decide +kernel
theorem dX3_searchNumbered_15 : decode cX3_searchNumbered 15 = .ok (.getfield 23, 3) := by decide +kernel
theorem dX3_searchNumbered_18 : decode cX3_searchNumbered 18 = .ok (.iload_n 1, 1) := by decide +kernel
theorem dX3_searchNumbered_19 : decode cX3_searchNumbered 19 = .ok (.iconst 1, 1) := by decide +kernel
theorem dX3_searchNumbered_20 : decode cX3_searchNumbered 20 = .ok (.isub, 1) := by decide +kernel
theorem dX3_searchNumbered_21 : decode cX3_searchNumbered 21 = .ok (.aaload, 1) := by decide +kernel
theorem dX3_searchNumbered_22 : decode cX3_searchNumbered 22 = .ok (.goto 4, 3) := by decide +kernel
theorem dX3_searchNumbered_25 : decode cX3_searchNumbered 25 = .ok (.aconst_null, 1) := by decide +kernel
theorem dX3_searchNumbered_26 : decode cX3_searchNumbered 26 = .ok (.areturn, 1) := by decide +kernel
theorem dX2_close_0 : decode cX2_close 0 = .ok (.aload_n 0, 1) := by decide +kernel
theorem dX2_close_1 : decode cX2_close 1 = .ok (.iconst 0, 1) := by decide +kernel
theorem dX2_close_2 : decode cX2_close 2 = .ok (.putfield 7, 3) := by decide +kernel
theorem dX2_close_5 : decode cX2_close 5 = .ok (.aload_n 0, 1) := by decide +kernel
theorem dX2_close_6 : decode cX2_close 6 = .ok (.getfield 13, 3) := by decide +kernel
theorem dX2_close_9 : decode cX2_close 9 = .ok (.iload_n 1, 1) := by decide +kernel
theorem dX2_close_10 : decode cX2_close 10 = .ok (.invokevirtual 21, 3) := by decide +kernel
theorem dX2_close_13 : decode cX2_close 13 = .ok (.return_, 1) := by decide +kernel
theorem dX0_endSearch_0 : decode cX0_endSearch 0 = .ok (.aload_n 0, 1) := by decide +kernel
theorem dX0_endSearch_1 : decode cX0_endSearch 1 = .ok (.dup, 1) := by decide +kernel
theorem dX0_endSearch_2 : decode cX0_endSearch 2 = .ok (.getfield 45, 3) := by decide +kernel
theorem dX0_endSearch_5 : decode cX0_endSearch 5 = .ok (.iconst 1, 1) := by decide +kernel
theorem dX0_endSearch_6 : decode cX0_endSearch 6 = .ok (.isub, 1) := by decide +kernel
theorem dX0_endSearch_7 : decode cX0_endSearch 7 = .ok (.putfield 45, 3) := by decide +kernel
theorem dX0_endSearch_10 : decode cX0_endSearch 10 = .ok (.iload_n 1, 1) := by decide +kernel
theorem dX0_endSearch_11 : decode cX0_endSearch 11 = .ok (.ifCond .eq 8, 3) := by decide +kernel
theorem dX0_endSearch_14 : decode cX0_endSearch 14 = .ok (.aload_n 0, 1) := by decide +kernel
theorem dX0_endSearch_15 : decode cX0_endSearch 15 = .ok (.iconst 1, 1) := by decide +kernel
theorem dX0_endSearch_16 : decode cX0_endSearch 16 = .ok (.putfield 48, 3) := by decide +kernel
theorem dX0_endSearch_19 : decode cX0_endSearch 19 = .ok (.return_, 1) := by decide +kernel
theorem dX3_tick_0 : decode cX3_tick 0 = .ok (.iload_n 1, 1) := by decide +kernel
theorem dX3_tick_1 : decode cX3_tick 1 = .ok (.i2l, 1) := by decide +kernel
theorem dX3_tick_2 : decode cX3_tick 2 = .ok (.aload_n 0, 1) := by decide +kernel
theorem dX3_tick_3 : decode cX3_tick 3 = .ok (.getfield 131, 3) := by decide +kernel
theorem dX3_tick_6 : decode cX3_tick 6 = .ok (.i2l, 1) := by decide +kernel
theorem dX3_tick_7 : decode cX3_tick 7 = .ok (.ldc2_w 84, 3) := by decide +kernel
theorem dX3_tick_10 : decode cX3_tick 10 = .ok (.invokestatic 54, 3) := by decide +kernel
theorem dX3_tick_13 : decode cX3_tick 13 = .ok (.ifCond .ne 6, 3) := by decide +kernel
theorem dX3_tick_16 : decode cX3_tick 16 = .ok (.bipush (-102), 2) := by decide +kernel
theorem dX3_tick_18 : decode cX3_tick 18 = .ok (.ireturn, 1) := by decide +kernel
theorem dX3_tick_19 : decode cX3_tick 19 = .ok (.aload_n 0, 1) := by decide +kernel
theorem dX3_tick_20 : decode cX3_tick 20 = .ok (.iload_n 1, 1) := by decide +kernel
theorem dX3_tick_21 : decode cX3_tick 21 = .ok (.putfield 131, 3) := by decide +kernel
theorem dX3_tick_24 : decode cX3_tick 24 = .ok (.iconst 0, 1) := by decide +kernel
theorem dX3_tick_25 : decode cX3_tick 25 = .ok (.istore_n 2, 1) := by decide +kernel
theorem dX3_tick_26 : decode cX3_tick 26 = .ok (.iconst 1, 1) := by decide +kernel
theorem dX3_tick_27 : decode cX3_tick 27 = .ok (.istore_n 3, 1) := by decide +kernel
theorem dX3_tick_28 : decode cX3_tick 28 = .ok (.iload_n 3, 1) := by decide +kernel
theorem dX3_tick_29 : decode cX3_tick 29 = .ok (.aload_n 0, 1) := by decide +kernel
theorem dX3_tick_30 : decode cX3_tick 30 = .ok (.getfield 137, 3) := by decide +kernel
theorem dX3_tick_33 : decode cX3_tick 33 = .ok (.if_icmp .gt 47, 3) := by decide +kernel
theorem dX3_tick_36 : decode cX3_tick 36 = .ok (.aload_n 0, 1) := by decide +kernel
theorem dX3_tick_37 : decode cX3_tick 37 = .ok (.iload_n 3, 1) := by decide +kernel
theorem dX3_tick_38 : decode cX3_tick 38 = .ok (.invokevirtual 146, 3) := by decide +kernel
theorem dX3_tick_41 : decode cX3_tick 41 = .ok (.astore 4, 2) := by decide +kernel
theorem dX3_tick_43 : decode cX3_tick 43 = .ok (.aload 4, 2) := by decide +kernel
theorem dX3_tick_45 : decode cX3_tick 45 = .ok (.ifnull 29, 3) := by decide +kernel
theorem dX3_tick_48 : decode cX3_tick 48 = .ok (.aload 4, 2) := by decide +kernel
theorem dX3_tick_50 : decode cX3_tick 50 = .ok (.getfield 150, 3) := by decide +kernel
theorem dX3_tick_53 : decode cX3_tick 53 = .ok (.ifCond .eq 21, 3) := by decide +kernel
theorem dX3_tick_56 : decode cX3_tick 56 = .ok (.aload 4, 2) := by decide +kernel
theorem dX3_tick_58 : decode cX3_tick 58 = .ok (.getfield 158, 3) := by decide +kernel
theorem dX3_tick_61 : decode cX3_tick 61 = .ok (.iload_n 1, 1) := by decide +kernel
theorem dX3_tick_62 : decode cX3_tick 62 = .ok (.if_icmp .ge 12, 3) := by decide +kernel
theorem dX3_tick_65 : decode cX3_tick 65 = .ok (.aload 4, 2) := by decide +kernel
theorem dX3_tick_67 : decode cX3_tick 67 = .ok (.iconst 0, 1) := by decide +kernel
theorem dX3_tick_68 : decode cX3_tick 68 = .ok (.invokevirtual 154, 3) := by decide +kernel
theorem dX3_tick_71 : decode cX3_tick 71 = .ok (.iinc 2 1, 3) := by decide +kernel
theorem dX3_tick_74 : decode cX3_tick 74 = .ok (.iinc 3 1, 3) := by decide +kernel
theorem dX3_tick_77 : decode cX3_tick 77 = .ok (.goto (-49), 3) := by decide +kernel
theorem dX3_tick_80 : decode cX3_tick 80 = .ok (.iload_n 2, 1) := by decide +kernel
theorem dX3_tick_81 : decode cX3_tick 81 = .ok (.ireturn, 1) := by decide +kernel
theorem dX3_sum_0 : decode cX3_sum 0 = .ok (.aload_n 0, 1) := by decide +kernel
theorem dX3_sum_1 : decode cX3_sum 1 = .ok (.iload_n 1, 1) := by decide +kernel
theorem dX3_sum_2 : decode cX3_sum 2 = .ok (.invokevirtual 116, 3) := by decide +kernel
theorem dX3_sum_5 : decode cX3_sum 5 = .ok (.astore_n 2, 1) := by decide +kernel
theorem dX3_sum_6 : decode cX3_sum 6 = .ok (.aload_n 2, 1) := by decide +kernel
theorem dX3_sum_7 : decode cX3_sum 7 = .ok (.ifnonnull 7, 3) := by decide +kernel
theorem dX3_sum_10 : decode cX3_sum 10 = .ok (.ldc2_w 161, 3) := by decide +kernel
theorem dX3_sum_13 : decode cX3_sum 13 = .ok (.lreturn, 1) := by decide +kernel
theorem dX3_sum_14 : decode cX3_sum 14 = .ok (.aload_n 2, 1) := by decide +kernel
theorem dX3_sum_15 : decode cX3_sum 15 = .ok (.getfield 120, 3) := by decide +kernel
theorem dX3_sum_18 : decode cX3_sum 18 = .ok (.iconst 1, 1) := by decide +kernel
theorem dX3_sum_19 : decode cX3_sum 19 = .ok (.if_icmp .ne 10, 3) := by decide +kernel
theorem dX3_sum_22 : decode cX3_sum 22 = .ok (.aload_n 2, 1) := by decide +kernel
theorem dX3_sum_23 : decode cX3_sum 23 = .ok (.getfield 163, 3) := by decide +kernel
theorem dX3_sum_26 : decode cX3_sum 26 = .ok (.goto 8, 3) := by decide +kernel
theorem dX3_sum_29 : decode cX3_sum 29 = .ok (.aload_n 0, 1) := by decide +kernel
theorem dX3_sum_30 : decode cX3_sum 30 = .ok (.aload_n 2, 1) := by decide +kernel
theorem dX3_sum_31 : decode cX3_sum 31 = .ok (.invokevirtual 167, 3) := by decide +kernel
theorem dX3_sum_34 : decode cX3_sum 34 = .ok (.lreturn, 1) := by decide +kernel
theorem dX3_sumByTable_0 : decode cX3_sumByTable 0 = .ok (.aload_n 1, 1) := by decide +kernel
theorem dX3_sumByTable_1 : decode cX3_sumByTable 1 = .ok (.getfield 188, 3) := by decide +kernel
theorem dX3_sumByTable_4 : decode cX3_sumByTable 4 = .ok (.astore_n 2, 1) := by decide +kernel
theorem dX3_sumByTable_5 : decode cX3_sumByTable 5 = .ok (.aload_n 2, 1) := by decide +kernel
theorem dX3_sumByTable_6 : decode cX3_sumByTable 6 = .ok (.getfield 238, 3) := by decide +kernel
theorem dX3_sumByTable_9 : decode cX3_sumByTable 9 = .ok (.lconst 0, 1) := by decide +kernel
theorem dX3_sumByTable_10 : decode cX3_sumByTable 10 = .ok (.lcmp, 1) := by decide +kernel
theorem dX3_sumByTable_11 : decode cX3_sumByTable 11 = .ok (.ifCond .le 10, 3) := by decide +kernel
theorem dX3_sumByTable_14 : decode cX3_sumByTable 14 = .ok (.aload_n 2, 1) := by decide +kernel
theorem dX3_sumByTable_15 : decode cX3_sumByTable 15 = .ok (.getfield 238, 3) := by decide +kernel
theorem dX3_sumByTable_18 : decode cX3_sumByTable 18 = .ok (.goto 19, 3) := by decide +kernel
theorem dX3_sumByTable_21 : decode cX3_sumByTable 21 = .ok (.aload_n 0, 1) := by decide +kernel
theorem dX3_sumByTable_22 : decode cX3_sumByTable 22 = .ok (.getfield 27, 3) := by decide +kernel
theorem dX3_sumByTable_25 : decode cX3_sumByTable 25 = .ok (.aload_n 2, 1) := by decide +kernel
theorem dX3_sumByTable_26 : decode cX3_sumByTable 26 = .ok (.getfield 92, 3) := by decide +kernel
theorem dX3_sumByTable_29 : decode cX3_sumByTable 29 = .ok (.aload_n 1, 1) := by decide +kernel
theorem dX3_sumByTable_30 : decode cX3_sumByTable 30 = .ok (.getfield 134, 3) := by decide +kernel
theorem dX3_sumByTable_33 : decode cX3_sumByTable 33 = .ok (.invokestatic 78, 3) := by decide +kernel
theorem dX3_sumByTable_36 : decode cX3_sumByTable 36 = .ok (.laload, 1) := by decide +kernel
theorem dX3_sumByTable_37 : decode cX3_sumByTable 37 = .ok (.lstore_n 3, 1) := by decide +kernel
theorem dX3_sumByTable_38 : decode cX3_sumByTable 38 = .ok (.aload_n 2, 1) := by decide +kernel
theorem dX3_sumByTable_39 : decode cX3_sumByTable 39 = .ok (.getfield 241, 3) := by decide +kernel
theorem dX3_sumByTable_42 : decode cX3_sumByTable 42 = .ok (.lload_n 3, 1) := by decide +kernel
theorem dX3_sumByTable_43 : decode cX3_sumByTable 43 = .ok (.invokestatic 244, 3) := by decide +kernel
theorem dX3_sumByTable_46 : decode cX3_sumByTable 46 = .ok (.lstore 5, 2) := by decide +kernel
theorem dX3_sumByTable_48 : decode cX3_sumByTable 48 = .ok (.aload_n 1, 1) := by decide +kernel
theorem dX3_sumByTable_49 : decode cX3_sumByTable 49 = .ok (.getfield 134, 3) := by decide +kernel
theorem dX3_sumByTable_52 : decode cX3_sumByTable 52 = .ok (.lookupswitch 42 #[(1, 28), (2, 35)], 28) := by decide +kernel
