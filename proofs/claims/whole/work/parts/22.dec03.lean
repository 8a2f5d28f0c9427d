theorem dX4_appeal_12 : decode cX4_appeal 12 = .ok (.getfield 51, 3) := by decide +kernel
theorem dX4_appeal_15 : decode cX4_appeal 15 = .ok (.iload_n 1, 1) := by decide +kernel
theorem dX4_appeal_16 : decode cX4_appeal 16 = .ok (.iaload, 1) := by decide +kernel
theorem dX4_appeal_17 : decode cX4_appeal 17 = .ok (.iconst 2, 1) := by decide +kernel
theorem dX4_appeal_18 : decode cX4_appeal 18 = .ok (.if_icmp .ne 32, 3) := by decide +kernel
theorem dX4_appeal_21 : decode cX4_appeal 21 = .ok (.aload_n 0, 1) := by decide +kernel
theorem dX4_appeal_22 : decode cX4_appeal 22 = .ok (.getfield 57, 3) := by decide +kernel
theorem dX4_appeal_25 : decode cX4_appeal 25 = .ok (.iload_n 1, 1) := by decide +kernel
theorem dX4_appeal_26 : decode cX4_appeal 26 = .ok (.baload, 1) := by decide +kernel
theorem dX4_appeal_27 : decode cX4_appeal 27 = .ok (.ifCond .ne 23, 3) := by decide +kernel
theorem dX4_appeal_30 : decode cX4_appeal 30 = .ok (.aload_n 0, 1) := by decide +kernel
theorem dX4_appeal_31 : decode cX4_appeal 31 = .ok (.aload_n 0, 1) := by decide +kernel
theorem dX4_appeal_32 : decode cX4_appeal 32 = .ok (.getfield 45, 3) := by decide +kernel
theorem dX4_appeal_35 : decode cX4_appeal 35 = .ok (.iload_n 1, 1) := by decide +kernel
theorem dX4_appeal_36 : decode cX4_appeal 36 = .ok (.iaload, 1) := by decide +kernel
theorem dX4_appeal_37 : decode cX4_appeal 37 = .ok (.aload_n 0, 1) := by decide +kernel
theorem dX4_appeal_38 : decode cX4_appeal 38 = .ok (.getfield 48, 3) := by decide +kernel
theorem dX4_appeal_41 : decode cX4_appeal 41 = .ok (.iload_n 1, 1) := by decide +kernel
theorem dX4_appeal_42 : decode cX4_appeal 42 = .ok (.iaload, 1) := by decide +kernel
theorem dX4_appeal_43 : decode cX4_appeal 43 = .ok (.iload_n 1, 1) := by decide +kernel
theorem dX4_appeal_44 : decode cX4_appeal 44 = .ok (.invokevirtual 121, 3) := by decide +kernel
theorem dX4_appeal_47 : decode cX4_appeal 47 = .ok (.ifCond .le 6, 3) := by decide +kernel
theorem dX4_appeal_50 : decode cX4_appeal 50 = .ok (.bipush (-103), 2) := by decide +kernel
theorem dX4_appeal_52 : decode cX4_appeal 52 = .ok (.ireturn, 1) := by decide +kernel
theorem dX4_appeal_53 : decode cX4_appeal 53 = .ok (.aload_n 0, 1) := by decide +kernel
theorem dX4_appeal_54 : decode cX4_appeal 54 = .ok (.getfield 57, 3) := by decide +kernel
theorem dX4_appeal_57 : decode cX4_appeal 57 = .ok (.iload_n 1, 1) := by decide +kernel
theorem dX4_appeal_58 : decode cX4_appeal 58 = .ok (.iconst 1, 1) := by decide +kernel
theorem dX4_appeal_59 : decode cX4_appeal 59 = .ok (.bastore, 1) := by decide +kernel
theorem dX4_appeal_60 : decode cX4_appeal 60 = .ok (.aload_n 0, 1) := by decide +kernel
theorem dX4_appeal_61 : decode cX4_appeal 61 = .ok (.getfield 51, 3) := by decide +kernel
theorem dX4_appeal_64 : decode cX4_appeal 64 = .ok (.iload_n 1, 1) := by decide +kernel
theorem dX4_appeal_65 : decode cX4_appeal 65 = .ok (.iconst 0, 1) := by decide +kernel
theorem dX4_appeal_66 : decode cX4_appeal 66 = .ok (.iastore, 1) := by decide +kernel
theorem dX4_appeal_67 : decode cX4_appeal 67 = .ok (.iconst 1, 1) := by decide +kernel
theorem dX4_appeal_68 : decode cX4_appeal 68 = .ok (.istore_n 2, 1) := by decide +kernel
theorem dX4_appeal_69 : decode cX4_appeal 69 = .ok (.iload_n 2, 1) := by decide +kernel
theorem dX4_appeal_70 : decode cX4_appeal 70 = .ok (.aload_n 0, 1) := by decide +kernel
theorem dX4_appeal_71 : decode cX4_appeal 71 = .ok (.getfield 145, 3) := by decide +kernel
theorem dX4_appeal_74 : decode cX4_appeal 74 = .ok (.if_icmp .gt 26, 3) := by decide +kernel
theorem dX4_appeal_77 : decode cX4_appeal 77 = .ok (.aload_n 0, 1) := by decide +kernel
theorem dX4_appeal_78 : decode cX4_appeal 78 = .ok (.getfield 66, 3) := by decide +kernel
theorem dX4_appeal_81 : decode cX4_appeal 81 = .ok (.iload_n 2, 1) := by decide +kernel
theorem dX4_appeal_82 : decode cX4_appeal 82 = .ok (.iaload, 1) := by decide +kernel
theorem dX4_appeal_83 : decode cX4_appeal 83 = .ok (.iload_n 1, 1) := by decide +kernel
theorem dX4_appeal_84 : decode cX4_appeal 84 = .ok (.if_icmp .ne 10, 3) := by decide +kernel
theorem dX4_appeal_87 : decode cX4_appeal 87 = .ok (.aload_n 0, 1) := by decide +kernel
theorem dX4_appeal_88 : decode cX4_appeal 88 = .ok (.getfield 75, 3) := by decide +kernel
theorem dX4_appeal_91 : decode cX4_appeal 91 = .ok (.iload_n 2, 1) := by decide +kernel
theorem dX4_appeal_92 : decode cX4_appeal 92 = .ok (.iconst 0, 1) := by decide +kernel
theorem dX4_appeal_93 : decode cX4_appeal 93 = .ok (.bastore, 1) := by decide +kernel
theorem dX4_appeal_94 : decode cX4_appeal 94 = .ok (.iinc 2 1, 3) := by decide +kernel
theorem dX4_appeal_97 : decode cX4_appeal 97 = .ok (.goto (-28), 3) := by decide +kernel
theorem dX4_appeal_100 : decode cX4_appeal 100 = .ok (.aload_n 0, 1) := by decide +kernel
theorem dX4_appeal_101 : decode cX4_appeal 101 = .ok (.iload_n 1, 1) := by decide +kernel
theorem dX4_appeal_102 : decode cX4_appeal 102 = .ok (.bipush 6, 2) := by decide +kernel
theorem dX4_appeal_104 : decode cX4_appeal 104 = .ok (.invokevirtual 125, 3) := by decide +kernel
theorem dX4_appeal_107 : decode cX4_appeal 107 = .ok (.iconst 1, 1) := by decide +kernel
theorem dX4_appeal_108 : decode cX4_appeal 108 = .ok (.ireturn, 1) := by decide +kernel
theorem dX4_paid_0 : decode cX4_paid 0 = .ok (.iconst 0, 1) := by decide +kernel
theorem dX4_paid_1 : decode cX4_paid 1 = .ok (.istore_n 3, 1) := by decide +kernel
theorem dX4_paid_2 : decode cX4_paid 2 = .ok (.iconst 1, 1) := by decide +kernel
theorem dX4_paid_3 : decode cX4_paid 3 = .ok (.istore 4, 2) := by decide +kernel
theorem dX4_paid_5 : decode cX4_paid 5 = .ok (.iload 4, 2) := by decide +kernel
theorem dX4_paid_7 : decode cX4_paid 7 = .ok (.aload_n 0, 1) := by decide +kernel
theorem dX4_paid_8 : decode cX4_paid 8 = .ok (.getfield 91, 3) := by decide +kernel
theorem dX4_paid_11 : decode cX4_paid 11 = .ok (.if_icmp .gt 52, 3) := by decide +kernel
theorem dX4_paid_14 : decode cX4_paid 14 = .ok (.iload_n 3, 1) := by decide +kernel
theorem dX4_paid_15 : decode cX4_paid 15 = .ok (.ifCond .ne 36, 3) := by decide +kernel
theorem dX4_paid_18 : decode cX4_paid 18 = .ok (.aload_n 0, 1) := by decide +kernel
theorem dX4_paid_19 : decode cX4_paid 19 = .ok (.getfield 45, 3) := by decide +kernel
theorem dX4_paid_22 : decode cX4_paid 22 = .ok (.iload 4, 2) := by decide +kernel
theorem dX4_paid_24 : decode cX4_paid 24 = .ok (.iaload, 1) := by decide +kernel
theorem dX4_paid_25 : decode cX4_paid 25 = .ok (.iload_n 1, 1) := by decide +kernel
theorem dX4_paid_26 : decode cX4_paid 26 = .ok (.if_icmp .ne 29, 3) := by decide +kernel
theorem dX4_paid_29 : decode cX4_paid 29 = .ok (.aload_n 0, 1) := by decide +kernel
theorem dX4_paid_30 : decode cX4_paid 30 = .ok (.getfield 48, 3) := by decide +kernel
theorem dX4_paid_33 : decode cX4_paid 33 = .ok (.iload 4, 2) := by decide +kernel
theorem dX4_paid_35 : decode cX4_paid 35 = .ok (.iaload, 1) := by decide +kernel
theorem dX4_paid_36 : decode cX4_paid 36 = .ok (.iload_n 2, 1) := by decide +kernel
theorem dX4_paid_37 : decode cX4_paid 37 = .ok (.if_icmp .ne 18, 3) := by decide +kernel
theorem dX4_paid_40 : decode cX4_paid 40 = .ok (.aload_n 0, 1) := by decide +kernel
theorem dX4_paid_41 : decode cX4_paid 41 = .ok (.getfield 51, 3) := by decide +kernel
theorem dX4_paid_44 : decode cX4_paid 44 = .ok (.iload 4, 2) := by decide +kernel
theorem dX4_paid_46 : decode cX4_paid 46 = .ok (.iaload, 1) := by decide +kernel
theorem dX4_paid_47 : decode cX4_paid 47 = .ok (.iconst 1, 1) := by decide +kernel
theorem dX4_paid_48 : decode cX4_paid 48 = .ok (.if_icmp .ne 7, 3) := by decide +kernel
theorem dX4_paid_51 : decode cX4_paid 51 = .ok (.iconst 1, 1) := by decide +kernel
theorem dX4_paid_52 : decode cX4_paid 52 = .ok (.goto 4, 3) := by decide +kernel
theorem dX4_paid_55 : decode cX4_paid 55 = .ok (.iconst 0, 1) := by decide +kernel
theorem dX4_paid_56 : decode cX4_paid 56 = .ok (.istore_n 3, 1) := by decide +kernel
theorem dX4_paid_57 : decode cX4_paid 57 = .ok (.iinc 4 1, 3) := by decide +kernel
theorem dX4_paid_60 : decode cX4_paid 60 = .ok (.goto (-55), 3) := by decide +kernel
theorem dX4_paid_63 : decode cX4_paid 63 = .ok (.iload_n 3, 1) := by decide +kernel
theorem dX4_paid_64 : decode cX4_paid 64 = .ok (.ireturn, 1) := by decide +kernel
theorem dX4_about_0 : decode cX4_about 0 = .ok (.aload_n 0, 1) := by decide +kernel
theorem dX4_about_1 : decode cX4_about 1 = .ok (.iload_n 1, 1) := by decide +kernel
theorem dX4_about_2 : decode cX4_about 2 = .ok (.invokevirtual 133, 3) := by decide +kernel
theorem dX4_about_5 : decode cX4_about 5 = .ok (.ifCond .ne 6, 3) := by decide +kernel
theorem dX4_about_8 : decode cX4_about 8 = .ok (.bipush (-101), 2) := by decide +kernel
theorem dX4_about_10 : decode cX4_about 10 = .ok (.ireturn, 1) := by decide +kernel
theorem dX4_about_11 : decode cX4_about 11 = .ok (.iload_n 2, 1) := by decide +kernel
theorem dX4_about_12 : decode cX4_about 12 = .ok (.tableswitch 80 0 5 #[40, 47, 54, 61, 67, 74], 40) := by decide +kernel
theorem dX4_about_52 : decode cX4_about 52 = .ok (.aload_n 0, 1) := by decide +kernel
theorem dX4_about_53 : decode cX4_about 53 = .ok (.getfield 51, 3) := by decide +kernel
theorem dX4_about_56 : decode cX4_about 56 = .ok (.iload_n 1, 1) := by decide +kernel
theorem dX4_about_57 : decode cX4_about 57 = .ok (.iaload, 1) := by decide +kernel
theorem dX4_about_58 : decode cX4_about 58 = .ok (.ireturn, 1) := by decide +kernel
theorem dX4_about_59 : decode cX4_about 59 = .ok (.aload_n 0, 1) := by decide +kernel
theorem dX4_about_60 : decode cX4_about 60 = .ok (.getfield 45, 3) := by decide +kernel
theorem dX4_about_63 : decode cX4_about 63 = .ok (.iload_n 1, 1) := by decide +kernel
theorem dX4_about_64 : decode cX4_about 64 = .ok (.iaload, 1) := by decide +kernel
theorem dX4_about_65 : decode cX4_about 65 = .ok (.ireturn, 1) := by decide +kernel
theorem dX4_about_66 : decode cX4_about 66 = .ok (.aload_n 0, 1) := by decide +kernel
theorem dX4_about_67 : decode cX4_about 67 = .ok (.getfield 48, 3) := by decide +kernel
theorem dX4_about_70 : decode cX4_about 70 = .ok (.iload_n 1, 1) := by decide +kernel
theorem dX4_about_71 : decode cX4_about 71 = .ok (.iaload, 1) := by decide +kernel
theorem dX4_about_72 : decode cX4_about 72 = .ok (.ireturn, 1) := by decide +kernel
theorem dX4_about_73 : decode cX4_about 73 = .ok (.aload_n 0, 1) := by decide +kernel
theorem dX4_about_74 : decode cX4_about 74 = .ok (.iload_n 1, 1) := by decide +kernel
theorem dX4_about_75 : decode cX4_about 75 = .ok (.invokevirtual 136, 3) := by decide +kernel
theorem dX4_about_78 : decode cX4_about 78 = .ok (.ireturn, 1) := by decide +kernel
theorem dX4_about_79 : decode cX4_about 79 = .ok (.aload_n 0, 1) := by decide +kernel
theorem dX4_about_80 : decode cX4_about 80 = .ok (.iload_n 1, 1) := by decide +kernel
theorem dX4_about_81 : decode cX4_about 81 = .ok (.iconst 0, 1) := by decide +kernel
theorem dX4_about_82 : decode cX4_about 82 = .ok (.invokevirtual 158, 3) := by decide +kernel
theorem dX4_about_85 : decode cX4_about 85 = .ok (.ireturn, 1) := by decide +kernel
theorem dX4_about_86 : decode cX4_about 86 = .ok (.aload_n 0, 1) := by decide +kernel
theorem dX4_about_87 : decode cX4_about 87 = .ok (.iload_n 1, 1) := by decide +kernel
theorem dX4_about_88 : decode cX4_about 88 = .ok (.invokevirtual 174, 3) := by decide +kernel
theorem dX4_about_91 : decode cX4_about 91 = .ok (.ireturn, 1) := by decide +kernel
theorem dX4_about_92 : decode cX4_about 92 = .ok (.bipush (-102), 2) := by decide +kernel
theorem dX4_about_94 : decode cX4_about 94 = .ok (.ireturn, 1) := by decide +kernel
theorem dX4_before_0 : decode cX4_before 0 = .ok (.iconst 0, 1) := by decide +kernel
theorem dX4_before_1 : decode cX4_before 1 = .ok (.istore_n 2, 1) := by decide +kernel
theorem dX4_before_2 : decode cX4_before 2 = .ok (.iconst 1, 1) := by decide +kernel
theorem dX4_before_3 : decode cX4_before 3 = .ok (.istore_n 3, 1) := by decide +kernel
theorem dX4_before_4 : decode cX4_before 4 = .ok (.iload_n 3, 1) := by decide +kernel
theorem dX4_before_5 : decode cX4_before 5 = .ok (.iload_n 1, 1) := by decide +kernel
theorem dX4_before_6 : decode cX4_before 6 = .ok (.if_icmp .ge 37, 3) := by decide +kernel
theorem dX4_before_9 : decode cX4_before 9 = .ok (.aload_n 0, 1) := by decide +kernel
theorem dX4_before_10 : decode cX4_before 10 = .ok (.getfield 23, 3) := by decide +kernel
theorem dX4_before_13 : decode cX4_before 13 = .ok (.aload_n 0, 1) := by decide +kernel
theorem dX4_before_14 : decode cX4_before 14 = .ok (.getfield 45, 3) := by decide +kernel
theorem dX4_before_17 : decode cX4_before 17 = .ok (.iload_n 3, 1) := by decide +kernel
theorem dX4_before_18 : decode cX4_before 18 = .ok (.iaload, 1) := by decide +kernel
theorem dX4_before_19 : decode cX4_before 19 = .ok (.iaload, 1) := by decide +kernel
theorem dX4_before_20 : decode cX4_before 20 = .ok (.aload_n 0, 1) := by decide +kernel
theorem dX4_before_21 : decode cX4_before 21 = .ok (.getfield 23, 3) := by decide +kernel
theorem dX4_before_24 : decode cX4_before 24 = .ok (.aload_n 0, 1) := by decide +kernel
theorem dX4_before_25 : decode cX4_before 25 = .ok (.getfield 45, 3) := by decide +kernel
theorem dX4_before_28 : decode cX4_before 28 = .ok (.iload_n 1, 1) := by decide +kernel
theorem dX4_before_29 : decode cX4_before 29 = .ok (.iaload, 1) := by decide +kernel
theorem dX4_before_30 : decode cX4_before 30 = .ok (.iaload, 1) := by decide +kernel
theorem dX4_before_31 : decode cX4_before 31 = .ok (.if_icmp .ne 6, 3) := by decide +kernel
theorem dX4_before_34 : decode cX4_before 34 = .ok (.iinc 2 1, 3) := by decide +kernel
theorem dX4_before_37 : decode cX4_before 37 = .ok (.iinc 3 1, 3) := by decide +kernel
theorem dX4_before_40 : decode cX4_before 40 = .ok (.goto (-36), 3) := by decide +kernel
theorem dX4_before_43 : decode cX4_before 43 = .ok (.iload_n 2, 1) := by decide +kernel
theorem dX4_before_44 : decode cX4_before 44 = .ok (.ireturn, 1) := by decide +kernel
theorem dX4_letter_0 : decode cX4_letter 0 = .ok (.iload_n 1, 1) := by decide +kernel
theorem dX4_letter_1 : decode cX4_letter 1 = .ok (.ifCond .lt 18, 3) := by decide +kernel
theorem dX4_letter_4 : decode cX4_letter 4 = .ok (.iload_n 1, 1) := by decide +kernel
theorem dX4_letter_5 : decode cX4_letter 5 = .ok (.aload_n 0, 1) := by decide +kernel
theorem dX4_letter_6 : decode cX4_letter 6 = .ok (.getfield 94, 3) := by decide +kernel
theorem dX4_letter_9 : decode cX4_letter 9 = .ok (.if_icmp .ge 10, 3) := by decide +kernel
theorem dX4_letter_12 : decode cX4_letter 12 = .ok (.iload_n 1, 1) := by decide +kernel
theorem dX4_letter_13 : decode cX4_letter 13 = .ok (.sipush 200, 3) := by decide +kernel
theorem dX4_letter_16 : decode cX4_letter 16 = .ok (.if_icmp .lt 5, 3) := by decide +kernel
theorem dX4_letter_19 : decode cX4_letter 19 = .ok (.iconst (-1), 1) := by decide +kernel
theorem dX4_letter_20 : decode cX4_letter 20 = .ok (.ireturn, 1) := by decide +kernel
theorem dX4_letter_21 : decode cX4_letter 21 = .ok (.iload_n 2, 1) := by decide +kernel
theorem dX4_letter_22 : decode cX4_letter 22 = .ok (.ifCond .ne 12, 3) := by decide +kernel
theorem dX4_letter_25 : decode cX4_letter 25 = .ok (.aload_n 0, 1) := by decide +kernel
theorem dX4_letter_26 : decode cX4_letter 26 = .ok (.getfield 81, 3) := by decide +kernel
theorem dX4_letter_29 : decode cX4_letter 29 = .ok (.iload_n 1, 1) := by decide +kernel
theorem dX4_letter_30 : decode cX4_letter 30 = .ok (.iaload, 1) := by decide +kernel
theorem dX4_letter_31 : decode cX4_letter 31 = .ok (.goto 18, 3) := by decide +kernel
theorem dX4_letter_34 : decode cX4_letter 34 = .ok (.iload_n 2, 1) := by decide +kernel
theorem dX4_letter_35 : decode cX4_letter 35 = .ok (.iconst 1, 1) := by decide +kernel
theorem dX4_letter_36 : decode cX4_letter 36 = .ok (.if_icmp .ne 12, 3) := by decide +kernel
theorem dX4_letter_39 : decode cX4_letter 39 = .ok (.aload_n 0, 1) := by decide +kernel
theorem dX4_letter_40 : decode cX4_letter 40 = .ok (.getfield 84, 3) := by decide +kernel
theorem dX4_letter_43 : decode cX4_letter 43 = .ok (.iload_n 1, 1) := by decide +kernel
theorem dX4_letter_44 : decode cX4_letter 44 = .ok (.iaload, 1) := by decide +kernel
theorem dX4_letter_45 : decode cX4_letter 45 = .ok (.goto 4, 3) := by decide +kernel
theorem dX4_letter_48 : decode cX4_letter 48 = .ok (.iconst (-1), 1) := by decide +kernel
theorem dX4_letter_49 : decode cX4_letter 49 = .ok (.ireturn, 1) := by decide +kernel
theorem dX4_all_0 : decode cX4_all 0 = .ok (.iload_n 1, 1) := by decide +kernel
theorem dX4_all_1 : decode cX4_all 1 = .ok (.tableswitch 53 0 3 #[31, 36, 41, 47], 31) := by decide +kernel
theorem dX4_all_32 : decode cX4_all 32 = .ok (.aload_n 0, 1) := by decide +kernel
theorem dX4_all_33 : decode cX4_all 33 = .ok (.getfield 165, 3) := by decide +kernel
theorem dX4_all_36 : decode cX4_all 36 = .ok (.lreturn, 1) := by decide +kernel
theorem dX4_all_37 : decode cX4_all 37 = .ok (.aload_n 0, 1) := by decide +kernel
theorem dX4_all_38 : decode cX4_all 38 = .ok (.getfield 171, 3) := by decide +kernel
theorem dX4_all_41 : decode cX4_all 41 = .ok (.lreturn, 1) := by decide +kernel
theorem dX4_all_42 : decode cX4_all 42 = .ok (.aload_n 0, 1) := by decide +kernel
theorem dX4_all_43 : decode cX4_all 43 = .ok (.getfield 162, 3) := by decide +kernel
theorem dX4_all_46 : decode cX4_all 46 = .ok (.i2l, 1) := by decide +kernel
theorem dX4_all_47 : decode cX4_all 47 = .ok (.lreturn, 1) := by decide +kernel
theorem dX4_all_48 : decode cX4_all 48 = .ok (.aload_n 0, 1) := by decide +kernel
theorem dX4_all_49 : decode cX4_all 49 = .ok (.getfield 94, 3) := by decide +kernel
theorem dX4_all_52 : decode cX4_all 52 = .ok (.i2l, 1) := by decide +kernel
theorem dX4_all_53 : decode cX4_all 53 = .ok (.lreturn, 1) := by decide +kernel
theorem dX4_all_54 : decode cX4_all 54 = .ok (.ldc2_w 169, 3) := by decide +kernel
theorem dX4_all_57 : decode cX4_all 57 = .ok (.lreturn, 1) := by decide +kernel
