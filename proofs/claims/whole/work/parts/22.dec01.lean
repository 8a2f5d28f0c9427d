theorem dX4_claim_171 : decode cX4_claim 171 = .ok (.aload_n 0, 1) := by decide +kernel
theorem dX4_claim_172 : decode cX4_claim 172 = .ok (.getfield 51, 3) := by decide +kernel
theorem dX4_claim_175 : decode cX4_claim 175 = .ok (.aload_n 0, 1) := by decide +kernel
theorem dX4_claim_176 : decode cX4_claim 176 = .ok (.getfield 91, 3) := by decide +kernel
theorem dX4_claim_179 : decode cX4_claim 179 = .ok (.iconst 0, 1) := by decide +kernel
theorem dX4_claim_180 : decode cX4_claim 180 = .ok (.iastore, 1) := by decide +kernel
theorem dX4_claim_181 : decode cX4_claim 181 = .ok (.aload_n 0, 1) := by decide +kernel
theorem dX4_claim_182 : decode cX4_claim 182 = .ok (.aload_n 0, 1) := by decide +kernel
theorem dX4_claim_183 : decode cX4_claim 183 = .ok (.getfield 91, 3) := by decide +kernel
theorem dX4_claim_186 : decode cX4_claim 186 = .ok (.iconst 1, 1) := by decide +kernel
theorem dX4_claim_187 : decode cX4_claim 187 = .ok (.invokevirtual 125, 3) := by decide +kernel
theorem dX4_claim_190 : decode cX4_claim 190 = .ok (.aload_n 0, 1) := by decide +kernel
theorem dX4_claim_191 : decode cX4_claim 191 = .ok (.getfield 91, 3) := by decide +kernel
theorem dX4_claim_194 : decode cX4_claim 194 = .ok (.ireturn, 1) := by decide +kernel
theorem dX4_other_0 : decode cX4_other 0 = .ok (.iconst 0, 1) := by decide +kernel
theorem dX4_other_1 : decode cX4_other 1 = .ok (.istore 4, 2) := by decide +kernel
theorem dX4_other_3 : decode cX4_other 3 = .ok (.iconst 1, 1) := by decide +kernel
theorem dX4_other_4 : decode cX4_other 4 = .ok (.istore 5, 2) := by decide +kernel
theorem dX4_other_6 : decode cX4_other 6 = .ok (.iload 5, 2) := by decide +kernel
theorem dX4_other_8 : decode cX4_other 8 = .ok (.aload_n 0, 1) := by decide +kernel
theorem dX4_other_9 : decode cX4_other 9 = .ok (.getfield 91, 3) := by decide +kernel
theorem dX4_other_12 : decode cX4_other 12 = .ok (.if_icmp .gt 52, 3) := by decide +kernel
theorem dX4_other_15 : decode cX4_other 15 = .ok (.iload 5, 2) := by decide +kernel
theorem dX4_other_17 : decode cX4_other 17 = .ok (.iload_n 3, 1) := by decide +kernel
theorem dX4_other_18 : decode cX4_other 18 = .ok (.if_icmp .eq 40, 3) := by decide +kernel
theorem dX4_other_21 : decode cX4_other 21 = .ok (.aload_n 0, 1) := by decide +kernel
theorem dX4_other_22 : decode cX4_other 22 = .ok (.getfield 45, 3) := by decide +kernel
theorem dX4_other_25 : decode cX4_other 25 = .ok (.iload 5, 2) := by decide +kernel
theorem dX4_other_27 : decode cX4_other 27 = .ok (.iaload, 1) := by decide +kernel
theorem dX4_other_28 : decode cX4_other 28 = .ok (.iload_n 1, 1) := by decide +kernel
theorem dX4_other_29 : decode cX4_other 29 = .ok (.if_icmp .ne 29, 3) := by decide +kernel
theorem dX4_other_32 : decode cX4_other 32 = .ok (.aload_n 0, 1) := by decide +kernel
theorem dX4_other_33 : decode cX4_other 33 = .ok (.getfield 48, 3) := by decide +kernel
theorem dX4_other_36 : decode cX4_other 36 = .ok (.iload 5, 2) := by decide +kernel
theorem dX4_other_38 : decode cX4_other 38 = .ok (.iaload, 1) := by decide +kernel
theorem dX4_other_39 : decode cX4_other 39 = .ok (.iload_n 2, 1) := by decide +kernel
theorem dX4_other_40 : decode cX4_other 40 = .ok (.if_icmp .ne 18, 3) := by decide +kernel
theorem dX4_other_43 : decode cX4_other 43 = .ok (.aload_n 0, 1) := by decide +kernel
theorem dX4_other_44 : decode cX4_other 44 = .ok (.getfield 51, 3) := by decide +kernel
theorem dX4_other_47 : decode cX4_other 47 = .ok (.iload 5, 2) := by decide +kernel
theorem dX4_other_49 : decode cX4_other 49 = .ok (.iaload, 1) := by decide +kernel
theorem dX4_other_50 : decode cX4_other 50 = .ok (.iconst 2, 1) := by decide +kernel
theorem dX4_other_51 : decode cX4_other 51 = .ok (.if_icmp .eq 7, 3) := by decide +kernel
theorem dX4_other_54 : decode cX4_other 54 = .ok (.iload 5, 2) := by decide +kernel
theorem dX4_other_56 : decode cX4_other 56 = .ok (.istore 4, 2) := by decide +kernel
theorem dX4_other_58 : decode cX4_other 58 = .ok (.iinc 5 1, 3) := by decide +kernel
theorem dX4_other_61 : decode cX4_other 61 = .ok (.goto (-55), 3) := by decide +kernel
theorem dX4_other_64 : decode cX4_other 64 = .ok (.iload 4, 2) := by decide +kernel
theorem dX4_other_66 : decode cX4_other 66 = .ok (.ireturn, 1) := by decide +kernel
theorem dX4_send_0 : decode cX4_send 0 = .ok (.aload_n 0, 1) := by decide +kernel
theorem dX4_send_1 : decode cX4_send 1 = .ok (.getfield 94, 3) := by decide +kernel
theorem dX4_send_4 : decode cX4_send 4 = .ok (.sipush 200, 3) := by decide +kernel
theorem dX4_send_7 : decode cX4_send 7 = .ok (.if_icmp .ge 23, 3) := by decide +kernel
theorem dX4_send_10 : decode cX4_send 10 = .ok (.aload_n 0, 1) := by decide +kernel
theorem dX4_send_11 : decode cX4_send 11 = .ok (.getfield 81, 3) := by decide +kernel
theorem dX4_send_14 : decode cX4_send 14 = .ok (.aload_n 0, 1) := by decide +kernel
theorem dX4_send_15 : decode cX4_send 15 = .ok (.getfield 94, 3) := by decide +kernel
theorem dX4_send_18 : decode cX4_send 18 = .ok (.iload_n 1, 1) := by decide +kernel
theorem dX4_send_19 : decode cX4_send 19 = .ok (.iastore, 1) := by decide +kernel
theorem dX4_send_20 : decode cX4_send 20 = .ok (.aload_n 0, 1) := by decide +kernel
theorem dX4_send_21 : decode cX4_send 21 = .ok (.getfield 84, 3) := by decide +kernel
theorem dX4_send_24 : decode cX4_send 24 = .ok (.aload_n 0, 1) := by decide +kernel
theorem dX4_send_25 : decode cX4_send 25 = .ok (.getfield 94, 3) := by decide +kernel
theorem dX4_send_28 : decode cX4_send 28 = .ok (.iload_n 2, 1) := by decide +kernel
theorem dX4_send_29 : decode cX4_send 29 = .ok (.iastore, 1) := by decide +kernel
theorem dX4_send_30 : decode cX4_send 30 = .ok (.aload_n 0, 1) := by decide +kernel
theorem dX4_send_31 : decode cX4_send 31 = .ok (.dup, 1) := by decide +kernel
theorem dX4_send_32 : decode cX4_send 32 = .ok (.getfield 94, 3) := by decide +kernel
theorem dX4_send_35 : decode cX4_send 35 = .ok (.iconst 1, 1) := by decide +kernel
theorem dX4_send_36 : decode cX4_send 36 = .ok (.iadd, 1) := by decide +kernel
theorem dX4_send_37 : decode cX4_send 37 = .ok (.putfield 94, 3) := by decide +kernel
theorem dX4_send_40 : decode cX4_send 40 = .ok (.return_, 1) := by decide +kernel
theorem dX4_proof_0 : decode cX4_proof 0 = .ok (.aload_n 0, 1) := by decide +kernel
theorem dX4_proof_1 : decode cX4_proof 1 = .ok (.iload_n 1, 1) := by decide +kernel
theorem dX4_proof_2 : decode cX4_proof 2 = .ok (.invokevirtual 133, 3) := by decide +kernel
theorem dX4_proof_5 : decode cX4_proof 5 = .ok (.ifCond .ne 6, 3) := by decide +kernel
theorem dX4_proof_8 : decode cX4_proof 8 = .ok (.bipush (-101), 2) := by decide +kernel
theorem dX4_proof_10 : decode cX4_proof 10 = .ok (.ireturn, 1) := by decide +kernel
theorem dX4_proof_11 : decode cX4_proof 11 = .ok (.iload_n 2, 1) := by decide +kernel
theorem dX4_proof_12 : decode cX4_proof 12 = .ok (.i2l, 1) := by decide +kernel
theorem dX4_proof_13 : decode cX4_proof 13 = .ok (.lconst 0, 1) := by decide +kernel
theorem dX4_proof_14 : decode cX4_proof 14 = .ok (.ldc2_w 97, 3) := by decide +kernel
theorem dX4_proof_17 : decode cX4_proof 17 = .ok (.invokestatic 99, 3) := by decide +kernel
theorem dX4_proof_20 : decode cX4_proof 20 = .ok (.ifCond .ne 6, 3) := by decide +kernel
theorem dX4_proof_23 : decode cX4_proof 23 = .ok (.bipush (-102), 2) := by decide +kernel
theorem dX4_proof_25 : decode cX4_proof 25 = .ok (.ireturn, 1) := by decide +kernel
theorem dX4_proof_26 : decode cX4_proof 26 = .ok (.aload_n 0, 1) := by decide +kernel
theorem dX4_proof_27 : decode cX4_proof 27 = .ok (.getfield 51, 3) := by decide +kernel
theorem dX4_proof_30 : decode cX4_proof 30 = .ok (.iload_n 1, 1) := by decide +kernel
theorem dX4_proof_31 : decode cX4_proof 31 = .ok (.iaload, 1) := by decide +kernel
theorem dX4_proof_32 : decode cX4_proof 32 = .ok (.ifCond .ne 31, 3) := by decide +kernel
theorem dX4_proof_35 : decode cX4_proof 35 = .ok (.aload_n 0, 1) := by decide +kernel
theorem dX4_proof_36 : decode cX4_proof 36 = .ok (.getfield 48, 3) := by decide +kernel
theorem dX4_proof_39 : decode cX4_proof 39 = .ok (.iload_n 1, 1) := by decide +kernel
theorem dX4_proof_40 : decode cX4_proof 40 = .ok (.iaload, 1) := by decide +kernel
theorem dX4_proof_41 : decode cX4_proof 41 = .ok (.iload_n 2, 1) := by decide +kernel
theorem dX4_proof_42 : decode cX4_proof 42 = .ok (.invokestatic 129, 3) := by decide +kernel
theorem dX4_proof_45 : decode cX4_proof 45 = .ok (.ifCond .eq 18, 3) := by decide +kernel
theorem dX4_proof_48 : decode cX4_proof 48 = .ok (.aload_n 0, 1) := by decide +kernel
theorem dX4_proof_49 : decode cX4_proof 49 = .ok (.getfield 54, 3) := by decide +kernel
theorem dX4_proof_52 : decode cX4_proof 52 = .ok (.iconst 4, 1) := by decide +kernel
theorem dX4_proof_53 : decode cX4_proof 53 = .ok (.iload_n 1, 1) := by decide +kernel
theorem dX4_proof_54 : decode cX4_proof 54 = .ok (.imul, 1) := by decide +kernel
theorem dX4_proof_55 : decode cX4_proof 55 = .ok (.iconst 4, 1) := by decide +kernel
theorem dX4_proof_56 : decode cX4_proof 56 = .ok (.isub, 1) := by decide +kernel
theorem dX4_proof_57 : decode cX4_proof 57 = .ok (.iload_n 2, 1) := by decide +kernel
theorem dX4_proof_58 : decode cX4_proof 58 = .ok (.iadd, 1) := by decide +kernel
theorem dX4_proof_59 : decode cX4_proof 59 = .ok (.baload, 1) := by decide +kernel
theorem dX4_proof_60 : decode cX4_proof 60 = .ok (.ifCond .eq 6, 3) := by decide +kernel
theorem dX4_proof_63 : decode cX4_proof 63 = .ok (.bipush (-103), 2) := by decide +kernel
theorem dX4_proof_65 : decode cX4_proof 65 = .ok (.ireturn, 1) := by decide +kernel
theorem dX4_proof_66 : decode cX4_proof 66 = .ok (.aload_n 0, 1) := by decide +kernel
theorem dX4_proof_67 : decode cX4_proof 67 = .ok (.getfield 54, 3) := by decide +kernel
theorem dX4_proof_70 : decode cX4_proof 70 = .ok (.iconst 4, 1) := by decide +kernel
theorem dX4_proof_71 : decode cX4_proof 71 = .ok (.iload_n 1, 1) := by decide +kernel
theorem dX4_proof_72 : decode cX4_proof 72 = .ok (.imul, 1) := by decide +kernel
theorem dX4_proof_73 : decode cX4_proof 73 = .ok (.iconst 4, 1) := by decide +kernel
theorem dX4_proof_74 : decode cX4_proof 74 = .ok (.isub, 1) := by decide +kernel
theorem dX4_proof_75 : decode cX4_proof 75 = .ok (.iload_n 2, 1) := by decide +kernel
theorem dX4_proof_76 : decode cX4_proof 76 = .ok (.iadd, 1) := by decide +kernel
theorem dX4_proof_77 : decode cX4_proof 77 = .ok (.iconst 1, 1) := by decide +kernel
theorem dX4_proof_78 : decode cX4_proof 78 = .ok (.bastore, 1) := by decide +kernel
theorem dX4_proof_79 : decode cX4_proof 79 = .ok (.aload_n 0, 1) := by decide +kernel
theorem dX4_proof_80 : decode cX4_proof 80 = .ok (.iload_n 1, 1) := by decide +kernel
theorem dX4_proof_81 : decode cX4_proof 81 = .ok (.invokevirtual 136, 3) := by decide +kernel
theorem dX4_proof_84 : decode cX4_proof 84 = .ok (.istore_n 3, 1) := by decide +kernel
theorem dX4_proof_85 : decode cX4_proof 85 = .ok (.iload_n 3, 1) := by decide +kernel
theorem dX4_proof_86 : decode cX4_proof 86 = .ok (.ifCond .le 9, 3) := by decide +kernel
theorem dX4_proof_89 : decode cX4_proof 89 = .ok (.aload_n 0, 1) := by decide +kernel
theorem dX4_proof_90 : decode cX4_proof 90 = .ok (.iload_n 1, 1) := by decide +kernel
theorem dX4_proof_91 : decode cX4_proof 91 = .ok (.iconst 2, 1) := by decide +kernel
theorem dX4_proof_92 : decode cX4_proof 92 = .ok (.invokevirtual 125, 3) := by decide +kernel
theorem dX4_proof_95 : decode cX4_proof 95 = .ok (.iload_n 3, 1) := by decide +kernel
theorem dX4_proof_96 : decode cX4_proof 96 = .ok (.ireturn, 1) := by decide +kernel
theorem dX4_isClaim_0 : decode cX4_isClaim 0 = .ok (.iload_n 1, 1) := by decide +kernel
theorem dX4_isClaim_1 : decode cX4_isClaim 1 = .ok (.iconst 1, 1) := by decide +kernel
theorem dX4_isClaim_2 : decode cX4_isClaim 2 = .ok (.if_icmp .lt 15, 3) := by decide +kernel
theorem dX4_isClaim_5 : decode cX4_isClaim 5 = .ok (.iload_n 1, 1) := by decide +kernel
theorem dX4_isClaim_6 : decode cX4_isClaim 6 = .ok (.aload_n 0, 1) := by decide +kernel
theorem dX4_isClaim_7 : decode cX4_isClaim 7 = .ok (.getfield 91, 3) := by decide +kernel
theorem dX4_isClaim_10 : decode cX4_isClaim 10 = .ok (.if_icmp .gt 7, 3) := by decide +kernel
theorem dX4_isClaim_13 : decode cX4_isClaim 13 = .ok (.iconst 1, 1) := by decide +kernel
theorem dX4_isClaim_14 : decode cX4_isClaim 14 = .ok (.goto 4, 3) := by decide +kernel
theorem dX4_isClaim_17 : decode cX4_isClaim 17 = .ok (.iconst 0, 1) := by decide +kernel
theorem dX4_isClaim_18 : decode cX4_isClaim 18 = .ok (.ireturn, 1) := by decide +kernel
theorem dX4_needs_0 : decode cX4_needs 0 = .ok (.iload_n 1, 1) := by decide +kernel
theorem dX4_needs_1 : decode cX4_needs 1 = .ok (.ifCond .eq 33, 3) := by decide +kernel
theorem dX4_needs_4 : decode cX4_needs 4 = .ok (.iload_n 0, 1) := by decide +kernel
theorem dX4_needs_5 : decode cX4_needs 5 = .ok (.iconst 1, 1) := by decide +kernel
theorem dX4_needs_6 : decode cX4_needs 6 = .ok (.if_icmp .ne 8, 3) := by decide +kernel
theorem dX4_needs_9 : decode cX4_needs 9 = .ok (.iload_n 1, 1) := by decide +kernel
theorem dX4_needs_10 : decode cX4_needs 10 = .ok (.iconst 1, 1) := by decide +kernel
theorem dX4_needs_11 : decode cX4_needs 11 = .ok (.if_icmp .eq 23, 3) := by decide +kernel
theorem dX4_needs_14 : decode cX4_needs 14 = .ok (.iload_n 0, 1) := by decide +kernel
theorem dX4_needs_15 : decode cX4_needs 15 = .ok (.iconst 2, 1) := by decide +kernel
theorem dX4_needs_16 : decode cX4_needs 16 = .ok (.if_icmp .ne 8, 3) := by decide +kernel
theorem dX4_needs_19 : decode cX4_needs 19 = .ok (.iload_n 1, 1) := by decide +kernel
theorem dX4_needs_20 : decode cX4_needs 20 = .ok (.iconst 2, 1) := by decide +kernel
theorem dX4_needs_21 : decode cX4_needs 21 = .ok (.if_icmp .eq 13, 3) := by decide +kernel
theorem dX4_needs_24 : decode cX4_needs 24 = .ok (.iload_n 0, 1) := by decide +kernel
theorem dX4_needs_25 : decode cX4_needs 25 = .ok (.iconst 3, 1) := by decide +kernel
theorem dX4_needs_26 : decode cX4_needs 26 = .ok (.if_icmp .ne 12, 3) := by decide +kernel
theorem dX4_needs_29 : decode cX4_needs 29 = .ok (.iload_n 1, 1) := by decide +kernel
theorem dX4_needs_30 : decode cX4_needs 30 = .ok (.iconst 2, 1) := by decide +kernel
theorem dX4_needs_31 : decode cX4_needs 31 = .ok (.if_icmp .lt 7, 3) := by decide +kernel
theorem dX4_needs_34 : decode cX4_needs 34 = .ok (.iconst 1, 1) := by decide +kernel
theorem dX4_needs_35 : decode cX4_needs 35 = .ok (.goto 4, 3) := by decide +kernel
theorem dX4_needs_38 : decode cX4_needs 38 = .ok (.iconst 0, 1) := by decide +kernel
theorem dX4_needs_39 : decode cX4_needs 39 = .ok (.ireturn, 1) := by decide +kernel
theorem dX4_lacks_0 : decode cX4_lacks 0 = .ok (.iconst 0, 1) := by decide +kernel
theorem dX4_lacks_1 : decode cX4_lacks 1 = .ok (.istore_n 2, 1) := by decide +kernel
theorem dX4_lacks_2 : decode cX4_lacks 2 = .ok (.iconst 0, 1) := by decide +kernel
theorem dX4_lacks_3 : decode cX4_lacks 3 = .ok (.istore_n 3, 1) := by decide +kernel
theorem dX4_lacks_4 : decode cX4_lacks 4 = .ok (.iload_n 3, 1) := by decide +kernel
theorem dX4_lacks_5 : decode cX4_lacks 5 = .ok (.iconst 4, 1) := by decide +kernel
theorem dX4_lacks_6 : decode cX4_lacks 6 = .ok (.if_icmp .ge 40, 3) := by decide +kernel
theorem dX4_lacks_9 : decode cX4_lacks 9 = .ok (.aload_n 0, 1) := by decide +kernel
theorem dX4_lacks_10 : decode cX4_lacks 10 = .ok (.getfield 48, 3) := by decide +kernel
theorem dX4_lacks_13 : decode cX4_lacks 13 = .ok (.iload_n 1, 1) := by decide +kernel
theorem dX4_lacks_14 : decode cX4_lacks 14 = .ok (.iaload, 1) := by decide +kernel
theorem dX4_lacks_15 : decode cX4_lacks 15 = .ok (.iload_n 3, 1) := by decide +kernel
theorem dX4_lacks_16 : decode cX4_lacks 16 = .ok (.invokestatic 129, 3) := by decide +kernel
theorem dX4_lacks_19 : decode cX4_lacks 19 = .ok (.ifCond .eq 21, 3) := by decide +kernel
theorem dX4_lacks_22 : decode cX4_lacks 22 = .ok (.aload_n 0, 1) := by decide +kernel
theorem dX4_lacks_23 : decode cX4_lacks 23 = .ok (.getfield 54, 3) := by decide +kernel
theorem dX4_lacks_26 : decode cX4_lacks 26 = .ok (.iconst 4, 1) := by decide +kernel
theorem dX4_lacks_27 : decode cX4_lacks 27 = .ok (.iload_n 1, 1) := by decide +kernel
theorem dX4_lacks_28 : decode cX4_lacks 28 = .ok (.imul, 1) := by decide +kernel
theorem dX4_lacks_29 : decode cX4_lacks 29 = .ok (.iconst 4, 1) := by decide +kernel
theorem dX4_lacks_30 : decode cX4_lacks 30 = .ok (.isub, 1) := by decide +kernel
theorem dX4_lacks_31 : decode cX4_lacks 31 = .ok (.iload_n 3, 1) := by decide +kernel
theorem dX4_lacks_32 : decode cX4_lacks 32 = .ok (.iadd, 1) := by decide +kernel
theorem dX4_lacks_33 : decode cX4_lacks 33 = .ok (.baload, 1) := by decide +kernel
theorem dX4_lacks_34 : decode cX4_lacks 34 = .ok (.ifCond .ne 6, 3) := by decide +kernel
theorem dX4_lacks_37 : decode cX4_lacks 37 = .ok (.iinc 2 1, 3) := by decide +kernel
theorem dX4_lacks_40 : decode cX4_lacks 40 = .ok (.iinc 3 1, 3) := by decide +kernel
theorem dX4_lacks_43 : decode cX4_lacks 43 = .ok (.goto (-39), 3) := by decide +kernel
theorem dX4_lacks_46 : decode cX4_lacks 46 = .ok (.iload_n 2, 1) := by decide +kernel
theorem dX4_lacks_47 : decode cX4_lacks 47 = .ok (.ireturn, 1) := by decide +kernel
theorem dX4_search_0 : decode cX4_search 0 = .ok (.aload_n 0, 1) := by decide +kernel
theorem dX4_search_1 : decode cX4_search 1 = .ok (.iload_n 1, 1) := by decide +kernel
theorem dX4_search_2 : decode cX4_search 2 = .ok (.invokevirtual 133, 3) := by decide +kernel
theorem dX4_search_5 : decode cX4_search 5 = .ok (.ifCond .ne 6, 3) := by decide +kernel
theorem dX4_search_8 : decode cX4_search 8 = .ok (.bipush (-101), 2) := by decide +kernel
theorem dX4_search_10 : decode cX4_search 10 = .ok (.ireturn, 1) := by decide +kernel
theorem dX4_search_11 : decode cX4_search 11 = .ok (.iload_n 2, 1) := by decide +kernel
theorem dX4_search_12 : decode cX4_search 12 = .ok (.i2l, 1) := by decide +kernel
theorem dX4_search_13 : decode cX4_search 13 = .ok (.lconst 0, 1) := by decide +kernel
theorem dX4_search_14 : decode cX4_search 14 = .ok (.ldc2_w 140, 3) := by decide +kernel
theorem dX4_search_17 : decode cX4_search 17 = .ok (.invokestatic 99, 3) := by decide +kernel
theorem dX4_search_20 : decode cX4_search 20 = .ok (.ifCond .eq 19, 3) := by decide +kernel
theorem dX4_search_23 : decode cX4_search 23 = .ok (.iload_n 3, 1) := by decide +kernel
theorem dX4_search_24 : decode cX4_search 24 = .ok (.i2l, 1) := by decide +kernel
theorem dX4_search_25 : decode cX4_search 25 = .ok (.aload_n 0, 1) := by decide +kernel
theorem dX4_search_26 : decode cX4_search 26 = .ok (.getfield 142, 3) := by decide +kernel
theorem dX4_search_29 : decode cX4_search 29 = .ok (.i2l, 1) := by decide +kernel
theorem dX4_search_30 : decode cX4_search 30 = .ok (.ldc2_w 119, 3) := by decide +kernel
theorem dX4_search_33 : decode cX4_search 33 = .ok (.invokestatic 99, 3) := by decide +kernel
theorem dX4_search_36 : decode cX4_search 36 = .ok (.ifCond .ne 6, 3) := by decide +kernel
theorem dX4_search_39 : decode cX4_search 39 = .ok (.bipush (-102), 2) := by decide +kernel
theorem dX4_search_41 : decode cX4_search 41 = .ok (.ireturn, 1) := by decide +kernel
theorem dX4_search_42 : decode cX4_search 42 = .ok (.aload_n 0, 1) := by decide +kernel
theorem dX4_search_43 : decode cX4_search 43 = .ok (.getfield 51, 3) := by decide +kernel
theorem dX4_search_46 : decode cX4_search 46 = .ok (.iload_n 1, 1) := by decide +kernel
theorem dX4_search_47 : decode cX4_search 47 = .ok (.iaload, 1) := by decide +kernel
theorem dX4_search_48 : decode cX4_search 48 = .ok (.ifCond .ne 12, 3) := by decide +kernel
theorem dX4_search_51 : decode cX4_search 51 = .ok (.aload_n 0, 1) := by decide +kernel
theorem dX4_search_52 : decode cX4_search 52 = .ok (.getfield 48, 3) := by decide +kernel
theorem dX4_search_55 : decode cX4_search 55 = .ok (.iload_n 1, 1) := by decide +kernel
theorem dX4_search_56 : decode cX4_search 56 = .ok (.iaload, 1) := by decide +kernel
theorem dX4_search_57 : decode cX4_search 57 = .ok (.ifCond .eq 6, 3) := by decide +kernel
theorem dX4_search_60 : decode cX4_search 60 = .ok (.bipush (-103), 2) := by decide +kernel
theorem dX4_search_62 : decode cX4_search 62 = .ok (.ireturn, 1) := by decide +kernel
theorem dX4_search_63 : decode cX4_search 63 = .ok (.aload_n 0, 1) := by decide +kernel
theorem dX4_search_64 : decode cX4_search 64 = .ok (.getfield 145, 3) := by decide +kernel
theorem dX4_search_67 : decode cX4_search 67 = .ok (.bipush 100, 2) := by decide +kernel
theorem dX4_search_69 : decode cX4_search 69 = .ok (.if_icmp .ne 6, 3) := by decide +kernel
theorem dX4_search_72 : decode cX4_search 72 = .ok (.bipush (-104), 2) := by decide +kernel
theorem dX4_search_74 : decode cX4_search 74 = .ok (.ireturn, 1) := by decide +kernel
theorem dX4_search_75 : decode cX4_search 75 = .ok (.aload_n 0, 1) := by decide +kernel
theorem dX4_search_76 : decode cX4_search 76 = .ok (.dup, 1) := by decide +kernel
theorem dX4_search_77 : decode cX4_search 77 = .ok (.getfield 145, 3) := by decide +kernel
theorem dX4_search_80 : decode cX4_search 80 = .ok (.iconst 1, 1) := by decide +kernel
theorem dX4_search_81 : decode cX4_search 81 = .ok (.iadd, 1) := by decide +kernel
theorem dX4_search_82 : decode cX4_search 82 = .ok (.putfield 145, 3) := by decide +kernel
theorem dX4_search_85 : decode cX4_search 85 = .ok (.aload_n 0, 1) := by decide +kernel
theorem dX4_search_86 : decode cX4_search 86 = .ok (.getfield 66, 3) := by decide +kernel
theorem dX4_search_89 : decode cX4_search 89 = .ok (.aload_n 0, 1) := by decide +kernel
theorem dX4_search_90 : decode cX4_search 90 = .ok (.getfield 145, 3) := by decide +kernel
theorem dX4_search_93 : decode cX4_search 93 = .ok (.iload_n 1, 1) := by decide +kernel
theorem dX4_search_94 : decode cX4_search 94 = .ok (.iastore, 1) := by decide +kernel
theorem dX4_search_95 : decode cX4_search 95 = .ok (.aload_n 0, 1) := by decide +kernel
theorem dX4_search_96 : decode cX4_search 96 = .ok (.getfield 69, 3) := by decide +kernel
theorem dX4_search_99 : decode cX4_search 99 = .ok (.aload_n 0, 1) := by decide +kernel
theorem dX4_search_100 : decode cX4_search 100 = .ok (.getfield 145, 3) := by decide +kernel
theorem dX4_search_103 : decode cX4_search 103 = .ok (.iload_n 3, 1) := by decide +kernel
theorem dX4_search_104 : decode cX4_search 104 = .ok (.iastore, 1) := by decide +kernel
theorem dX4_search_105 : decode cX4_search 105 = .ok (.aload_n 0, 1) := by decide +kernel
theorem dX4_search_106 : decode cX4_search 106 = .ok (.getfield 72, 3) := by decide +kernel
theorem dX4_search_109 : decode cX4_search 109 = .ok (.aload_n 0, 1) := by decide +kernel
theorem dX4_search_110 : decode cX4_search 110 = .ok (.getfield 145, 3) := by decide +kernel
theorem dX4_search_113 : decode cX4_search 113 = .ok (.iconst 0, 1) := by decide +kernel
theorem dX4_search_114 : decode cX4_search 114 = .ok (.iastore, 1) := by decide +kernel
theorem dX4_search_115 : decode cX4_search 115 = .ok (.aload_n 0, 1) := by decide +kernel
theorem dX4_search_116 : decode cX4_search 116 = .ok (.getfield 75, 3) := by decide +kernel
theorem dX4_search_119 : decode cX4_search 119 = .ok (.aload_n 0, 1) := by decide +kernel
theorem dX4_search_120 : decode cX4_search 120 = .ok (.getfield 145, 3) := by decide +kernel
theorem dX4_search_123 : decode cX4_search 123 = .ok (.iconst 1, 1) := by decide +kernel
theorem dX4_search_124 : decode cX4_search 124 = .ok (.bastore, 1) := by decide +kernel
theorem dX4_search_125 : decode cX4_search 125 = .ok (.aload_n 0, 1) := by decide +kernel
theorem dX4_search_126 : decode cX4_search 126 = .ok (.getfield 145, 3) := by decide +kernel
theorem dX4_search_129 : decode cX4_search 129 = .ok (.ireturn, 1) := by decide +kernel
theorem dX4_answer_0 : decode cX4_answer 0 = .ok (.iload_n 1, 1) := by decide +kernel
theorem dX4_answer_1 : decode cX4_answer 1 = .ok (.iconst 1, 1) := by decide +kernel
theorem dX4_answer_2 : decode cX4_answer 2 = .ok (.if_icmp .lt 11, 3) := by decide +kernel
theorem dX4_answer_5 : decode cX4_answer 5 = .ok (.iload_n 1, 1) := by decide +kernel
theorem dX4_answer_6 : decode cX4_answer 6 = .ok (.aload_n 0, 1) := by decide +kernel
theorem dX4_answer_7 : decode cX4_answer 7 = .ok (.getfield 145, 3) := by decide +kernel
theorem dX4_answer_10 : decode cX4_answer 10 = .ok (.if_icmp .le 6, 3) := by decide +kernel
theorem dX4_answer_13 : decode cX4_answer 13 = .ok (.bipush (-101), 2) := by decide +kernel
theorem dX4_answer_15 : decode cX4_answer 15 = .ok (.ireturn, 1) := by decide +kernel
theorem dX4_answer_16 : decode cX4_answer 16 = .ok (.aload_n 0, 1) := by decide +kernel
theorem dX4_answer_17 : decode cX4_answer 17 = .ok (.getfield 72, 3) := by decide +kernel
theorem dX4_answer_20 : decode cX4_answer 20 = .ok (.iload_n 1, 1) := by decide +kernel
theorem dX4_answer_21 : decode cX4_answer 21 = .ok (.iaload, 1) := by decide +kernel
theorem dX4_answer_22 : decode cX4_answer 22 = .ok (.ifCond .eq 6, 3) := by decide +kernel
theorem dX4_answer_25 : decode cX4_answer 25 = .ok (.bipush (-103), 2) := by decide +kernel
theorem dX4_answer_27 : decode cX4_answer 27 = .ok (.ireturn, 1) := by decide +kernel
theorem dX4_answer_28 : decode cX4_answer 28 = .ok (.aload_n 0, 1) := by decide +kernel
theorem dX4_answer_29 : decode cX4_answer 29 = .ok (.getfield 72, 3) := by decide +kernel
theorem dX4_answer_32 : decode cX4_answer 32 = .ok (.iload_n 1, 1) := by decide +kernel
theorem dX4_answer_33 : decode cX4_answer 33 = .ok (.iload_n 2, 1) := by decide +kernel
theorem dX4_answer_34 : decode cX4_answer 34 = .ok (.ifCond .eq 7, 3) := by decide +kernel
theorem dX4_answer_37 : decode cX4_answer 37 = .ok (.iconst 1, 1) := by decide +kernel
theorem dX4_answer_38 : decode cX4_answer 38 = .ok (.goto 4, 3) := by decide +kernel
theorem dX4_answer_41 : decode cX4_answer 41 = .ok (.iconst 2, 1) := by decide +kernel
theorem dX4_answer_42 : decode cX4_answer 42 = .ok (.iastore, 1) := by decide +kernel
theorem dX4_answer_43 : decode cX4_answer 43 = .ok (.iconst 1, 1) := by decide +kernel
theorem dX4_answer_44 : decode cX4_answer 44 = .ok (.ireturn, 1) := by decide +kernel
theorem dX4_tick_0 : decode cX4_tick 0 = .ok (.iload_n 1, 1) := by decide +kernel
theorem dX4_tick_1 : decode cX4_tick 1 = .ok (.i2l, 1) := by decide +kernel
theorem dX4_tick_2 : decode cX4_tick 2 = .ok (.aload_n 0, 1) := by decide +kernel
theorem dX4_tick_3 : decode cX4_tick 3 = .ok (.getfield 142, 3) := by decide +kernel
theorem dX4_tick_6 : decode cX4_tick 6 = .ok (.i2l, 1) := by decide +kernel
theorem dX4_tick_7 : decode cX4_tick 7 = .ok (.ldc2_w 119, 3) := by decide +kernel
theorem dX4_tick_10 : decode cX4_tick 10 = .ok (.invokestatic 99, 3) := by decide +kernel
theorem dX4_tick_13 : decode cX4_tick 13 = .ok (.ifCond .ne 6, 3) := by decide +kernel
theorem dX4_tick_16 : decode cX4_tick 16 = .ok (.bipush (-102), 2) := by decide +kernel
theorem dX4_tick_18 : decode cX4_tick 18 = .ok (.ireturn, 1) := by decide +kernel
theorem dX4_tick_19 : decode cX4_tick 19 = .ok (.aload_n 0, 1) := by decide +kernel
theorem dX4_tick_20 : decode cX4_tick 20 = .ok (.iload_n 1, 1) := by decide +kernel
theorem dX4_tick_21 : decode cX4_tick 21 = .ok (.putfield 142, 3) := by decide +kernel
theorem dX4_tick_24 : decode cX4_tick 24 = .ok (.iconst 0, 1) := by decide +kernel
theorem dX4_tick_25 : decode cX4_tick 25 = .ok (.istore_n 2, 1) := by decide +kernel
theorem dX4_tick_26 : decode cX4_tick 26 = .ok (.iconst 1, 1) := by decide +kernel
theorem dX4_tick_27 : decode cX4_tick 27 = .ok (.istore_n 3, 1) := by decide +kernel
theorem dX4_tick_28 : decode cX4_tick 28 = .ok (.iload_n 3, 1) := by decide +kernel
theorem dX4_tick_29 : decode cX4_tick 29 = .ok (.aload_n 0, 1) := by decide +kernel
theorem dX4_tick_30 : decode cX4_tick 30 = .ok (.getfield 145, 3) := by decide +kernel
theorem dX4_tick_33 : decode cX4_tick 33 = .ok (.if_icmp .gt 41, 3) := by decide +kernel
theorem dX4_tick_36 : decode cX4_tick 36 = .ok (.aload_n 0, 1) := by decide +kernel
theorem dX4_tick_37 : decode cX4_tick 37 = .ok (.getfield 72, 3) := by decide +kernel
theorem dX4_tick_40 : decode cX4_tick 40 = .ok (.iload_n 3, 1) := by decide +kernel
theorem dX4_tick_41 : decode cX4_tick 41 = .ok (.iaload, 1) := by decide +kernel
theorem dX4_tick_42 : decode cX4_tick 42 = .ok (.ifCond .ne 26, 3) := by decide +kernel
theorem dX4_tick_45 : decode cX4_tick 45 = .ok (.aload_n 0, 1) := by decide +kernel
theorem dX4_tick_46 : decode cX4_tick 46 = .ok (.getfield 69, 3) := by decide +kernel
theorem dX4_tick_49 : decode cX4_tick 49 = .ok (.iload_n 3, 1) := by decide +kernel
theorem dX4_tick_50 : decode cX4_tick 50 = .ok (.iaload, 1) := by decide +kernel
theorem dX4_tick_51 : decode cX4_tick 51 = .ok (.aload_n 0, 1) := by decide +kernel
theorem dX4_tick_52 : decode cX4_tick 52 = .ok (.getfield 142, 3) := by decide +kernel
theorem dX4_tick_55 : decode cX4_tick 55 = .ok (.if_icmp .ge 13, 3) := by decide +kernel
theorem dX4_tick_58 : decode cX4_tick 58 = .ok (.aload_n 0, 1) := by decide +kernel
theorem dX4_tick_59 : decode cX4_tick 59 = .ok (.getfield 72, 3) := by decide +kernel
theorem dX4_tick_62 : decode cX4_tick 62 = .ok (.iload_n 3, 1) := by decide +kernel
theorem dX4_tick_63 : decode cX4_tick 63 = .ok (.iconst 2, 1) := by decide +kernel
theorem dX4_tick_64 : decode cX4_tick 64 = .ok (.iastore, 1) := by decide +kernel
theorem dX4_tick_65 : decode cX4_tick 65 = .ok (.iinc 2 1, 3) := by decide +kernel
theorem dX4_tick_68 : decode cX4_tick 68 = .ok (.iinc 3 1, 3) := by decide +kernel
theorem dX4_tick_71 : decode cX4_tick 71 = .ok (.goto (-43), 3) := by decide +kernel
theorem dX4_tick_74 : decode cX4_tick 74 = .ok (.iload_n 2, 1) := by decide +kernel
theorem dX4_tick_75 : decode cX4_tick 75 = .ok (.ireturn, 1) := by decide +kernel
theorem dX4_sum_0 : decode cX4_sum 0 = .ok (.aload_n 0, 1) := by decide +kernel
theorem dX4_sum_1 : decode cX4_sum 1 = .ok (.iload_n 1, 1) := by decide +kernel
theorem dX4_sum_2 : decode cX4_sum 2 = .ok (.invokevirtual 133, 3) := by decide +kernel
theorem dX4_sum_5 : decode cX4_sum 5 = .ok (.ifCond .ne 7, 3) := by decide +kernel
theorem dX4_sum_8 : decode cX4_sum 8 = .ok (.ldc2_w 150, 3) := by decide +kernel
theorem dX4_sum_11 : decode cX4_sum 11 = .ok (.lreturn, 1) := by decide +kernel
theorem dX4_sum_12 : decode cX4_sum 12 = .ok (.aload_n 0, 1) := by decide +kernel
theorem dX4_sum_13 : decode cX4_sum 13 = .ok (.getfield 51, 3) := by decide +kernel
theorem dX4_sum_16 : decode cX4_sum 16 = .ok (.iload_n 1, 1) := by decide +kernel
theorem dX4_sum_17 : decode cX4_sum 17 = .ok (.iaload, 1) := by decide +kernel
theorem dX4_sum_18 : decode cX4_sum 18 = .ok (.iconst 1, 1) := by decide +kernel
theorem dX4_sum_19 : decode cX4_sum 19 = .ok (.if_icmp .ne 12, 3) := by decide +kernel
theorem dX4_sum_22 : decode cX4_sum 22 = .ok (.aload_n 0, 1) := by decide +kernel
theorem dX4_sum_23 : decode cX4_sum 23 = .ok (.getfield 63, 3) := by decide +kernel
theorem dX4_sum_26 : decode cX4_sum 26 = .ok (.iload_n 1, 1) := by decide +kernel
theorem dX4_sum_27 : decode cX4_sum 27 = .ok (.laload, 1) := by decide +kernel
theorem dX4_sum_28 : decode cX4_sum 28 = .ok (.goto 8, 3) := by decide +kernel
theorem dX4_sum_31 : decode cX4_sum 31 = .ok (.aload_n 0, 1) := by decide +kernel
theorem dX4_sum_32 : decode cX4_sum 32 = .ok (.iload_n 1, 1) := by decide +kernel
theorem dX4_sum_33 : decode cX4_sum 33 = .ok (.invokevirtual 152, 3) := by decide +kernel
theorem dX4_sum_36 : decode cX4_sum 36 = .ok (.lreturn, 1) := by decide +kernel
theorem dX4_sumNow_0 : decode cX4_sumNow 0 = .ok (.aload_n 0, 1) := by decide +kernel
theorem dX4_sumNow_1 : decode cX4_sumNow 1 = .ok (.getfield 45, 3) := by decide +kernel
theorem dX4_sumNow_4 : decode cX4_sumNow 4 = .ok (.iload_n 1, 1) := by decide +kernel
theorem dX4_sumNow_5 : decode cX4_sumNow 5 = .ok (.iaload, 1) := by decide +kernel
theorem dX4_sumNow_6 : decode cX4_sumNow 6 = .ok (.istore_n 2, 1) := by decide +kernel
theorem dX4_sumNow_7 : decode cX4_sumNow 7 = .ok (.aload_n 0, 1) := by decide +kernel
theorem dX4_sumNow_8 : decode cX4_sumNow 8 = .ok (.getfield 48, 3) := by decide +kernel
theorem dX4_sumNow_11 : decode cX4_sumNow 11 = .ok (.iload_n 1, 1) := by decide +kernel
theorem dX4_sumNow_12 : decode cX4_sumNow 12 = .ok (.iaload, 1) := by decide +kernel
theorem dX4_sumNow_13 : decode cX4_sumNow 13 = .ok (.istore_n 3, 1) := by decide +kernel
theorem dX4_sumNow_14 : decode cX4_sumNow 14 = .ok (.aload_n 0, 1) := by decide +kernel
theorem dX4_sumNow_15 : decode cX4_sumNow 15 = .ok (.getfield 17, 3) := by decide +kernel
theorem dX4_sumNow_18 : decode cX4_sumNow 18 = .ok (.iload_n 2, 1) := by decide +kernel
theorem dX4_sumNow_19 : decode cX4_sumNow 19 = .ok (.laload, 1) := by decide +kernel
theorem dX4_sumNow_20 : decode cX4_sumNow 20 = .ok (.lconst 0, 1) := by decide +kernel
theorem dX4_sumNow_21 : decode cX4_sumNow 21 = .ok (.lcmp, 1) := by decide +kernel
theorem dX4_sumNow_22 : decode cX4_sumNow 22 = .ok (.ifCond .le 12, 3) := by decide +kernel
theorem dX4_sumNow_25 : decode cX4_sumNow 25 = .ok (.aload_n 0, 1) := by decide +kernel
theorem dX4_sumNow_26 : decode cX4_sumNow 26 = .ok (.getfield 17, 3) := by decide +kernel
theorem dX4_sumNow_29 : decode cX4_sumNow 29 = .ok (.iload_n 2, 1) := by decide +kernel
theorem dX4_sumNow_30 : decode cX4_sumNow 30 = .ok (.laload, 1) := by decide +kernel
theorem dX4_sumNow_31 : decode cX4_sumNow 31 = .ok (.goto 18, 3) := by decide +kernel
theorem dX4_sumNow_34 : decode cX4_sumNow 34 = .ok (.aload_n 0, 1) := by decide +kernel
theorem dX4_sumNow_35 : decode cX4_sumNow 35 = .ok (.getfield 39, 3) := by decide +kernel
theorem dX4_sumNow_38 : decode cX4_sumNow 38 = .ok (.iconst 4, 1) := by decide +kernel
theorem dX4_sumNow_39 : decode cX4_sumNow 39 = .ok (.aload_n 0, 1) := by decide +kernel
theorem dX4_sumNow_40 : decode cX4_sumNow 40 = .ok (.getfield 7, 3) := by decide +kernel
theorem dX4_sumNow_43 : decode cX4_sumNow 43 = .ok (.iload_n 2, 1) := by decide +kernel
theorem dX4_sumNow_44 : decode cX4_sumNow 44 = .ok (.iaload, 1) := by decide +kernel
theorem dX4_sumNow_45 : decode cX4_sumNow 45 = .ok (.imul, 1) := by decide +kernel
theorem dX4_sumNow_46 : decode cX4_sumNow 46 = .ok (.iload_n 3, 1) := by decide +kernel
theorem dX4_sumNow_47 : decode cX4_sumNow 47 = .ok (.iadd, 1) := by decide +kernel
theorem dX4_sumNow_48 : decode cX4_sumNow 48 = .ok (.laload, 1) := by decide +kernel
theorem dX4_sumNow_49 : decode cX4_sumNow 49 = .ok (.lstore 4, 2) := by decide +kernel
theorem dX4_sumNow_51 : decode cX4_sumNow 51 = .ok (.aload_n 0, 1) := by decide +kernel
theorem dX4_sumNow_52 : decode cX4_sumNow 52 = .ok (.getfield 13, 3) := by decide +kernel
theorem dX4_sumNow_55 : decode cX4_sumNow 55 = .ok (.iload_n 2, 1) := by decide +kernel
