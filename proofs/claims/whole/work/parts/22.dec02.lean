theorem dX4_sumNow_56 : decode cX4_sumNow 56 = .ok (.laload, 1) := by decide +kernel
theorem dX4_sumNow_57 : decode cX4_sumNow 57 = .ok (.lload 4, 2) := by decide +kernel
theorem dX4_sumNow_59 : decode cX4_sumNow 59 = .ok (.lcmp, 1) := by decide +kernel
theorem dX4_sumNow_60 : decode cX4_sumNow 60 = .ok (.ifCond .ge 12, 3) := by decide +kernel
theorem dX4_sumNow_63 : decode cX4_sumNow 63 = .ok (.aload_n 0, 1) := by decide +kernel
theorem dX4_sumNow_64 : decode cX4_sumNow 64 = .ok (.getfield 13, 3) := by decide +kernel
theorem dX4_sumNow_67 : decode cX4_sumNow 67 = .ok (.iload_n 2, 1) := by decide +kernel
theorem dX4_sumNow_68 : decode cX4_sumNow 68 = .ok (.laload, 1) := by decide +kernel
theorem dX4_sumNow_69 : decode cX4_sumNow 69 = .ok (.goto 5, 3) := by decide +kernel
theorem dX4_sumNow_72 : decode cX4_sumNow 72 = .ok (.lload 4, 2) := by decide +kernel
theorem dX4_sumNow_74 : decode cX4_sumNow 74 = .ok (.lstore 6, 2) := by decide +kernel
theorem dX4_sumNow_76 : decode cX4_sumNow 76 = .ok (.iload_n 3, 1) := by decide +kernel
theorem dX4_sumNow_77 : decode cX4_sumNow 77 = .ok (.iconst 1, 1) := by decide +kernel
theorem dX4_sumNow_78 : decode cX4_sumNow 78 = .ok (.if_icmp .ne 12, 3) := by decide +kernel
theorem dX4_sumNow_81 : decode cX4_sumNow 81 = .ok (.lload 6, 2) := by decide +kernel
theorem dX4_sumNow_83 : decode cX4_sumNow 83 = .ok (.ldc2_w 148, 3) := by decide +kernel
theorem dX4_sumNow_86 : decode cX4_sumNow 86 = .ok (.ldiv, 1) := by decide +kernel
theorem dX4_sumNow_87 : decode cX4_sumNow 87 = .ok (.goto 19, 3) := by decide +kernel
theorem dX4_sumNow_90 : decode cX4_sumNow 90 = .ok (.iload_n 3, 1) := by decide +kernel
theorem dX4_sumNow_91 : decode cX4_sumNow 91 = .ok (.iconst 2, 1) := by decide +kernel
theorem dX4_sumNow_92 : decode cX4_sumNow 92 = .ok (.if_icmp .ne 12, 3) := by decide +kernel
theorem dX4_sumNow_95 : decode cX4_sumNow 95 = .ok (.lload 6, 2) := by decide +kernel
theorem dX4_sumNow_97 : decode cX4_sumNow 97 = .ok (.ldc2_w 117, 3) := by decide +kernel
theorem dX4_sumNow_100 : decode cX4_sumNow 100 = .ok (.ldiv, 1) := by decide +kernel
theorem dX4_sumNow_101 : decode cX4_sumNow 101 = .ok (.goto 5, 3) := by decide +kernel
theorem dX4_sumNow_104 : decode cX4_sumNow 104 = .ok (.lload 6, 2) := by decide +kernel
theorem dX4_sumNow_106 : decode cX4_sumNow 106 = .ok (.lreturn, 1) := by decide +kernel
theorem dX4_limit_0 : decode cX4_limit 0 = .ok (.iload_n 1, 1) := by decide +kernel
theorem dX4_limit_1 : decode cX4_limit 1 = .ok (.i2l, 1) := by decide +kernel
theorem dX4_limit_2 : decode cX4_limit 2 = .ok (.lconst 0, 1) := by decide +kernel
theorem dX4_limit_3 : decode cX4_limit 3 = .ok (.ldc2_w 156, 3) := by decide +kernel
theorem dX4_limit_6 : decode cX4_limit 6 = .ok (.invokestatic 99, 3) := by decide +kernel
theorem dX4_limit_9 : decode cX4_limit 9 = .ok (.ifCond .eq 14, 3) := by decide +kernel
theorem dX4_limit_12 : decode cX4_limit 12 = .ok (.lload_n 2, 1) := by decide +kernel
theorem dX4_limit_13 : decode cX4_limit 13 = .ok (.lconst 0, 1) := by decide +kernel
theorem dX4_limit_14 : decode cX4_limit 14 = .ok (.ldc2_w 103, 3) := by decide +kernel
theorem dX4_limit_17 : decode cX4_limit 17 = .ok (.invokestatic 99, 3) := by decide +kernel
theorem dX4_limit_20 : decode cX4_limit 20 = .ok (.ifCond .ne 6, 3) := by decide +kernel
theorem dX4_limit_23 : decode cX4_limit 23 = .ok (.bipush (-102), 2) := by decide +kernel
theorem dX4_limit_25 : decode cX4_limit 25 = .ok (.ireturn, 1) := by decide +kernel
theorem dX4_limit_26 : decode cX4_limit 26 = .ok (.aload_n 0, 1) := by decide +kernel
theorem dX4_limit_27 : decode cX4_limit 27 = .ok (.getfield 78, 3) := by decide +kernel
theorem dX4_limit_30 : decode cX4_limit 30 = .ok (.iload_n 1, 1) := by decide +kernel
theorem dX4_limit_31 : decode cX4_limit 31 = .ok (.lload_n 2, 1) := by decide +kernel
theorem dX4_limit_32 : decode cX4_limit 32 = .ok (.lastore, 1) := by decide +kernel
theorem dX4_limit_33 : decode cX4_limit 33 = .ok (.iconst 1, 1) := by decide +kernel
theorem dX4_limit_34 : decode cX4_limit 34 = .ok (.ireturn, 1) := by decide +kernel
theorem dX4_decide_0 : decode cX4_decide 0 = .ok (.aload_n 0, 1) := by decide +kernel
theorem dX4_decide_1 : decode cX4_decide 1 = .ok (.iload_n 1, 1) := by decide +kernel
theorem dX4_decide_2 : decode cX4_decide 2 = .ok (.invokevirtual 133, 3) := by decide +kernel
theorem dX4_decide_5 : decode cX4_decide 5 = .ok (.ifCond .ne 6, 3) := by decide +kernel
theorem dX4_decide_8 : decode cX4_decide 8 = .ok (.bipush (-101), 2) := by decide +kernel
theorem dX4_decide_10 : decode cX4_decide 10 = .ok (.ireturn, 1) := by decide +kernel
theorem dX4_decide_11 : decode cX4_decide 11 = .ok (.iload_n 2, 1) := by decide +kernel
theorem dX4_decide_12 : decode cX4_decide 12 = .ok (.i2l, 1) := by decide +kernel
theorem dX4_decide_13 : decode cX4_decide 13 = .ok (.lconst 0, 1) := by decide +kernel
theorem dX4_decide_14 : decode cX4_decide 14 = .ok (.ldc2_w 156, 3) := by decide +kernel
theorem dX4_decide_17 : decode cX4_decide 17 = .ok (.invokestatic 99, 3) := by decide +kernel
theorem dX4_decide_20 : decode cX4_decide 20 = .ok (.ifCond .ne 6, 3) := by decide +kernel
theorem dX4_decide_23 : decode cX4_decide 23 = .ok (.bipush (-102), 2) := by decide +kernel
theorem dX4_decide_25 : decode cX4_decide 25 = .ok (.ireturn, 1) := by decide +kernel
theorem dX4_decide_26 : decode cX4_decide 26 = .ok (.aload_n 0, 1) := by decide +kernel
theorem dX4_decide_27 : decode cX4_decide 27 = .ok (.getfield 51, 3) := by decide +kernel
theorem dX4_decide_30 : decode cX4_decide 30 = .ok (.iload_n 1, 1) := by decide +kernel
theorem dX4_decide_31 : decode cX4_decide 31 = .ok (.iaload, 1) := by decide +kernel
theorem dX4_decide_32 : decode cX4_decide 32 = .ok (.ifCond .ne 11, 3) := by decide +kernel
theorem dX4_decide_35 : decode cX4_decide 35 = .ok (.aload_n 0, 1) := by decide +kernel
theorem dX4_decide_36 : decode cX4_decide 36 = .ok (.iload_n 1, 1) := by decide +kernel
theorem dX4_decide_37 : decode cX4_decide 37 = .ok (.invokevirtual 136, 3) := by decide +kernel
theorem dX4_decide_40 : decode cX4_decide 40 = .ok (.ifCond .le 6, 3) := by decide +kernel
theorem dX4_decide_43 : decode cX4_decide 43 = .ok (.bipush (-103), 2) := by decide +kernel
theorem dX4_decide_45 : decode cX4_decide 45 = .ok (.ireturn, 1) := by decide +kernel
theorem dX4_decide_46 : decode cX4_decide 46 = .ok (.aload_n 0, 1) := by decide +kernel
theorem dX4_decide_47 : decode cX4_decide 47 = .ok (.getfield 48, 3) := by decide +kernel
theorem dX4_decide_50 : decode cX4_decide 50 = .ok (.iload_n 1, 1) := by decide +kernel
theorem dX4_decide_51 : decode cX4_decide 51 = .ok (.iaload, 1) := by decide +kernel
theorem dX4_decide_52 : decode cX4_decide 52 = .ok (.ifCond .ne 7, 3) := by decide +kernel
theorem dX4_decide_55 : decode cX4_decide 55 = .ok (.iconst 1, 1) := by decide +kernel
theorem dX4_decide_56 : decode cX4_decide 56 = .ok (.goto 4, 3) := by decide +kernel
theorem dX4_decide_59 : decode cX4_decide 59 = .ok (.iconst 0, 1) := by decide +kernel
theorem dX4_decide_60 : decode cX4_decide 60 = .ok (.istore_n 3, 1) := by decide +kernel
theorem dX4_decide_61 : decode cX4_decide 61 = .ok (.iload_n 3, 1) := by decide +kernel
theorem dX4_decide_62 : decode cX4_decide 62 = .ok (.ifCond .eq 31, 3) := by decide +kernel
theorem dX4_decide_65 : decode cX4_decide 65 = .ok (.aload_n 0, 1) := by decide +kernel
theorem dX4_decide_66 : decode cX4_decide 66 = .ok (.iload_n 1, 1) := by decide +kernel
theorem dX4_decide_67 : decode cX4_decide 67 = .ok (.iconst 0, 1) := by decide +kernel
theorem dX4_decide_68 : decode cX4_decide 68 = .ok (.invokevirtual 158, 3) := by decide +kernel
theorem dX4_decide_71 : decode cX4_decide 71 = .ok (.ifCond .gt 19, 3) := by decide +kernel
theorem dX4_decide_74 : decode cX4_decide 74 = .ok (.aload_n 0, 1) := by decide +kernel
theorem dX4_decide_75 : decode cX4_decide 75 = .ok (.iload_n 1, 1) := by decide +kernel
theorem dX4_decide_76 : decode cX4_decide 76 = .ok (.iconst 1, 1) := by decide +kernel
theorem dX4_decide_77 : decode cX4_decide 77 = .ok (.invokevirtual 158, 3) := by decide +kernel
theorem dX4_decide_80 : decode cX4_decide 80 = .ok (.aload_n 0, 1) := by decide +kernel
theorem dX4_decide_81 : decode cX4_decide 81 = .ok (.iload_n 1, 1) := by decide +kernel
theorem dX4_decide_82 : decode cX4_decide 82 = .ok (.iconst 2, 1) := by decide +kernel
theorem dX4_decide_83 : decode cX4_decide 83 = .ok (.invokevirtual 158, 3) := by decide +kernel
theorem dX4_decide_86 : decode cX4_decide 86 = .ok (.iadd, 1) := by decide +kernel
theorem dX4_decide_87 : decode cX4_decide 87 = .ok (.ifCond .ne 6, 3) := by decide +kernel
theorem dX4_decide_90 : decode cX4_decide 90 = .ok (.bipush (-103), 2) := by decide +kernel
theorem dX4_decide_92 : decode cX4_decide 92 = .ok (.ireturn, 1) := by decide +kernel
theorem dX4_decide_93 : decode cX4_decide 93 = .ok (.iload_n 3, 1) := by decide +kernel
theorem dX4_decide_94 : decode cX4_decide 94 = .ok (.ifCond .eq 37, 3) := by decide +kernel
theorem dX4_decide_97 : decode cX4_decide 97 = .ok (.aload_n 0, 1) := by decide +kernel
theorem dX4_decide_98 : decode cX4_decide 98 = .ok (.iload_n 1, 1) := by decide +kernel
theorem dX4_decide_99 : decode cX4_decide 99 = .ok (.iconst 1, 1) := by decide +kernel
theorem dX4_decide_100 : decode cX4_decide 100 = .ok (.invokevirtual 158, 3) := by decide +kernel
theorem dX4_decide_103 : decode cX4_decide 103 = .ok (.ifCond .le 28, 3) := by decide +kernel
theorem dX4_decide_106 : decode cX4_decide 106 = .ok (.aload_n 0, 1) := by decide +kernel
theorem dX4_decide_107 : decode cX4_decide 107 = .ok (.getfield 51, 3) := by decide +kernel
theorem dX4_decide_110 : decode cX4_decide 110 = .ok (.iload_n 1, 1) := by decide +kernel
theorem dX4_decide_111 : decode cX4_decide 111 = .ok (.iconst 2, 1) := by decide +kernel
theorem dX4_decide_112 : decode cX4_decide 112 = .ok (.iastore, 1) := by decide +kernel
theorem dX4_decide_113 : decode cX4_decide 113 = .ok (.aload_n 0, 1) := by decide +kernel
theorem dX4_decide_114 : decode cX4_decide 114 = .ok (.dup, 1) := by decide +kernel
theorem dX4_decide_115 : decode cX4_decide 115 = .ok (.getfield 162, 3) := by decide +kernel
theorem dX4_decide_118 : decode cX4_decide 118 = .ok (.iconst 1, 1) := by decide +kernel
theorem dX4_decide_119 : decode cX4_decide 119 = .ok (.iadd, 1) := by decide +kernel
theorem dX4_decide_120 : decode cX4_decide 120 = .ok (.putfield 162, 3) := by decide +kernel
theorem dX4_decide_123 : decode cX4_decide 123 = .ok (.aload_n 0, 1) := by decide +kernel
theorem dX4_decide_124 : decode cX4_decide 124 = .ok (.iload_n 1, 1) := by decide +kernel
theorem dX4_decide_125 : decode cX4_decide 125 = .ok (.iconst 4, 1) := by decide +kernel
theorem dX4_decide_126 : decode cX4_decide 126 = .ok (.invokevirtual 125, 3) := by decide +kernel
theorem dX4_decide_129 : decode cX4_decide 129 = .ok (.iconst 2, 1) := by decide +kernel
theorem dX4_decide_130 : decode cX4_decide 130 = .ok (.ireturn, 1) := by decide +kernel
theorem dX4_decide_131 : decode cX4_decide 131 = .ok (.aload_n 0, 1) := by decide +kernel
theorem dX4_decide_132 : decode cX4_decide 132 = .ok (.iload_n 1, 1) := by decide +kernel
theorem dX4_decide_133 : decode cX4_decide 133 = .ok (.invokevirtual 152, 3) := by decide +kernel
theorem dX4_decide_136 : decode cX4_decide 136 = .ok (.lstore 4, 2) := by decide +kernel
theorem dX4_decide_138 : decode cX4_decide 138 = .ok (.lload 4, 2) := by decide +kernel
theorem dX4_decide_140 : decode cX4_decide 140 = .ok (.aload_n 0, 1) := by decide +kernel
theorem dX4_decide_141 : decode cX4_decide 141 = .ok (.getfield 78, 3) := by decide +kernel
theorem dX4_decide_144 : decode cX4_decide 144 = .ok (.iload_n 2, 1) := by decide +kernel
theorem dX4_decide_145 : decode cX4_decide 145 = .ok (.laload, 1) := by decide +kernel
theorem dX4_decide_146 : decode cX4_decide 146 = .ok (.lcmp, 1) := by decide +kernel
theorem dX4_decide_147 : decode cX4_decide 147 = .ok (.ifCond .le 6, 3) := by decide +kernel
theorem dX4_decide_150 : decode cX4_decide 150 = .ok (.bipush (-107), 2) := by decide +kernel
theorem dX4_decide_152 : decode cX4_decide 152 = .ok (.ireturn, 1) := by decide +kernel
theorem dX4_decide_153 : decode cX4_decide 153 = .ok (.aload_n 0, 1) := by decide +kernel
theorem dX4_decide_154 : decode cX4_decide 154 = .ok (.getfield 51, 3) := by decide +kernel
theorem dX4_decide_157 : decode cX4_decide 157 = .ok (.iload_n 1, 1) := by decide +kernel
theorem dX4_decide_158 : decode cX4_decide 158 = .ok (.iconst 1, 1) := by decide +kernel
theorem dX4_decide_159 : decode cX4_decide 159 = .ok (.iastore, 1) := by decide +kernel
theorem dX4_decide_160 : decode cX4_decide 160 = .ok (.aload_n 0, 1) := by decide +kernel
theorem dX4_decide_161 : decode cX4_decide 161 = .ok (.getfield 63, 3) := by decide +kernel
theorem dX4_decide_164 : decode cX4_decide 164 = .ok (.iload_n 1, 1) := by decide +kernel
theorem dX4_decide_165 : decode cX4_decide 165 = .ok (.lload 4, 2) := by decide +kernel
theorem dX4_decide_167 : decode cX4_decide 167 = .ok (.lastore, 1) := by decide +kernel
theorem dX4_decide_168 : decode cX4_decide 168 = .ok (.aload_n 0, 1) := by decide +kernel
theorem dX4_decide_169 : decode cX4_decide 169 = .ok (.dup, 1) := by decide +kernel
theorem dX4_decide_170 : decode cX4_decide 170 = .ok (.getfield 165, 3) := by decide +kernel
theorem dX4_decide_173 : decode cX4_decide 173 = .ok (.lload 4, 2) := by decide +kernel
theorem dX4_decide_175 : decode cX4_decide 175 = .ok (.ladd, 1) := by decide +kernel
theorem dX4_decide_176 : decode cX4_decide 176 = .ok (.putfield 165, 3) := by decide +kernel
theorem dX4_decide_179 : decode cX4_decide 179 = .ok (.aload_n 0, 1) := by decide +kernel
theorem dX4_decide_180 : decode cX4_decide 180 = .ok (.iload_n 1, 1) := by decide +kernel
theorem dX4_decide_181 : decode cX4_decide 181 = .ok (.iconst 3, 1) := by decide +kernel
theorem dX4_decide_182 : decode cX4_decide 182 = .ok (.invokevirtual 125, 3) := by decide +kernel
theorem dX4_decide_185 : decode cX4_decide 185 = .ok (.iconst 1, 1) := by decide +kernel
theorem dX4_decide_186 : decode cX4_decide 186 = .ok (.ireturn, 1) := by decide +kernel
theorem dX4_many_0 : decode cX4_many 0 = .ok (.iconst 0, 1) := by decide +kernel
theorem dX4_many_1 : decode cX4_many 1 = .ok (.istore_n 3, 1) := by decide +kernel
theorem dX4_many_2 : decode cX4_many 2 = .ok (.iconst 1, 1) := by decide +kernel
theorem dX4_many_3 : decode cX4_many 3 = .ok (.istore 4, 2) := by decide +kernel
theorem dX4_many_5 : decode cX4_many 5 = .ok (.iload 4, 2) := by decide +kernel
theorem dX4_many_7 : decode cX4_many 7 = .ok (.aload_n 0, 1) := by decide +kernel
theorem dX4_many_8 : decode cX4_many 8 = .ok (.getfield 145, 3) := by decide +kernel
theorem dX4_many_11 : decode cX4_many 11 = .ok (.if_icmp .gt 44, 3) := by decide +kernel
theorem dX4_many_14 : decode cX4_many 14 = .ok (.aload_n 0, 1) := by decide +kernel
theorem dX4_many_15 : decode cX4_many 15 = .ok (.getfield 66, 3) := by decide +kernel
theorem dX4_many_18 : decode cX4_many 18 = .ok (.iload 4, 2) := by decide +kernel
theorem dX4_many_20 : decode cX4_many 20 = .ok (.iaload, 1) := by decide +kernel
theorem dX4_many_21 : decode cX4_many 21 = .ok (.iload_n 1, 1) := by decide +kernel
theorem dX4_many_22 : decode cX4_many 22 = .ok (.if_icmp .ne 27, 3) := by decide +kernel
theorem dX4_many_25 : decode cX4_many 25 = .ok (.aload_n 0, 1) := by decide +kernel
theorem dX4_many_26 : decode cX4_many 26 = .ok (.getfield 75, 3) := by decide +kernel
theorem dX4_many_29 : decode cX4_many 29 = .ok (.iload 4, 2) := by decide +kernel
theorem dX4_many_31 : decode cX4_many 31 = .ok (.baload, 1) := by decide +kernel
theorem dX4_many_32 : decode cX4_many 32 = .ok (.ifCond .eq 17, 3) := by decide +kernel
theorem dX4_many_35 : decode cX4_many 35 = .ok (.aload_n 0, 1) := by decide +kernel
theorem dX4_many_36 : decode cX4_many 36 = .ok (.getfield 72, 3) := by decide +kernel
theorem dX4_many_39 : decode cX4_many 39 = .ok (.iload 4, 2) := by decide +kernel
theorem dX4_many_41 : decode cX4_many 41 = .ok (.iaload, 1) := by decide +kernel
theorem dX4_many_42 : decode cX4_many 42 = .ok (.iload_n 2, 1) := by decide +kernel
theorem dX4_many_43 : decode cX4_many 43 = .ok (.if_icmp .ne 6, 3) := by decide +kernel
theorem dX4_many_46 : decode cX4_many 46 = .ok (.iinc 3 1, 3) := by decide +kernel
theorem dX4_many_49 : decode cX4_many 49 = .ok (.iinc 4 1, 3) := by decide +kernel
theorem dX4_many_52 : decode cX4_many 52 = .ok (.goto (-47), 3) := by decide +kernel
theorem dX4_many_55 : decode cX4_many 55 = .ok (.iload_n 3, 1) := by decide +kernel
theorem dX4_many_56 : decode cX4_many 56 = .ok (.ireturn, 1) := by decide +kernel
theorem dX4_share_0 : decode cX4_share 0 = .ok (.aload_n 0, 1) := by decide +kernel
theorem dX4_share_1 : decode cX4_share 1 = .ok (.iload_n 1, 1) := by decide +kernel
theorem dX4_share_2 : decode cX4_share 2 = .ok (.invokevirtual 133, 3) := by decide +kernel
theorem dX4_share_5 : decode cX4_share 5 = .ok (.ifCond .ne 7, 3) := by decide +kernel
theorem dX4_share_8 : decode cX4_share 8 = .ok (.ldc2_w 150, 3) := by decide +kernel
theorem dX4_share_11 : decode cX4_share 11 = .ok (.lreturn, 1) := by decide +kernel
theorem dX4_share_12 : decode cX4_share 12 = .ok (.iload_n 2, 1) := by decide +kernel
theorem dX4_share_13 : decode cX4_share 13 = .ok (.i2l, 1) := by decide +kernel
theorem dX4_share_14 : decode cX4_share 14 = .ok (.lconst 0, 1) := by decide +kernel
theorem dX4_share_15 : decode cX4_share 15 = .ok (.ldc2_w 113, 3) := by decide +kernel
theorem dX4_share_18 : decode cX4_share 18 = .ok (.invokestatic 99, 3) := by decide +kernel
theorem dX4_share_21 : decode cX4_share 21 = .ok (.ifCond .ne 7, 3) := by decide +kernel
theorem dX4_share_24 : decode cX4_share 24 = .ok (.ldc2_w 169, 3) := by decide +kernel
theorem dX4_share_27 : decode cX4_share 27 = .ok (.lreturn, 1) := by decide +kernel
theorem dX4_share_28 : decode cX4_share 28 = .ok (.aload_n 0, 1) := by decide +kernel
theorem dX4_share_29 : decode cX4_share 29 = .ok (.getfield 45, 3) := by decide +kernel
theorem dX4_share_32 : decode cX4_share 32 = .ok (.iload_n 1, 1) := by decide +kernel
theorem dX4_share_33 : decode cX4_share 33 = .ok (.iaload, 1) := by decide +kernel
theorem dX4_share_34 : decode cX4_share 34 = .ok (.istore_n 3, 1) := by decide +kernel
theorem dX4_share_35 : decode cX4_share 35 = .ok (.aload_n 0, 1) := by decide +kernel
theorem dX4_share_36 : decode cX4_share 36 = .ok (.getfield 26, 3) := by decide +kernel
theorem dX4_share_39 : decode cX4_share 39 = .ok (.iload_n 3, 1) := by decide +kernel
theorem dX4_share_40 : decode cX4_share 40 = .ok (.iaload, 1) := by decide +kernel
theorem dX4_share_41 : decode cX4_share 41 = .ok (.istore 4, 2) := by decide +kernel
theorem dX4_share_43 : decode cX4_share 43 = .ok (.aload_n 0, 1) := by decide +kernel
theorem dX4_share_44 : decode cX4_share 44 = .ok (.getfield 51, 3) := by decide +kernel
theorem dX4_share_47 : decode cX4_share 47 = .ok (.iload_n 1, 1) := by decide +kernel
theorem dX4_share_48 : decode cX4_share 48 = .ok (.iaload, 1) := by decide +kernel
theorem dX4_share_49 : decode cX4_share 49 = .ok (.iconst 1, 1) := by decide +kernel
theorem dX4_share_50 : decode cX4_share 50 = .ok (.if_icmp .ne 8, 3) := by decide +kernel
theorem dX4_share_53 : decode cX4_share 53 = .ok (.iload 4, 2) := by decide +kernel
theorem dX4_share_55 : decode cX4_share 55 = .ok (.ifCond .ne 5, 3) := by decide +kernel
theorem dX4_share_58 : decode cX4_share 58 = .ok (.lconst 0, 1) := by decide +kernel
theorem dX4_share_59 : decode cX4_share 59 = .ok (.lreturn, 1) := by decide +kernel
theorem dX4_share_60 : decode cX4_share 60 = .ok (.iconst 0, 1) := by decide +kernel
theorem dX4_share_61 : decode cX4_share 61 = .ok (.istore 5, 2) := by decide +kernel
theorem dX4_share_63 : decode cX4_share 63 = .ok (.iconst 0, 1) := by decide +kernel
theorem dX4_share_64 : decode cX4_share 64 = .ok (.istore 6, 2) := by decide +kernel
theorem dX4_share_66 : decode cX4_share 66 = .ok (.iload 6, 2) := by decide +kernel
theorem dX4_share_68 : decode cX4_share 68 = .ok (.iload 4, 2) := by decide +kernel
theorem dX4_share_70 : decode cX4_share 70 = .ok (.if_icmp .ge 31, 3) := by decide +kernel
theorem dX4_share_73 : decode cX4_share 73 = .ok (.aload_n 0, 1) := by decide +kernel
theorem dX4_share_74 : decode cX4_share 74 = .ok (.getfield 32, 3) := by decide +kernel
theorem dX4_share_77 : decode cX4_share 77 = .ok (.bipush 8, 2) := by decide +kernel
theorem dX4_share_79 : decode cX4_share 79 = .ok (.iload_n 3, 1) := by decide +kernel
theorem dX4_share_80 : decode cX4_share 80 = .ok (.imul, 1) := by decide +kernel
theorem dX4_share_81 : decode cX4_share 81 = .ok (.bipush 8, 2) := by decide +kernel
theorem dX4_share_83 : decode cX4_share 83 = .ok (.isub, 1) := by decide +kernel
theorem dX4_share_84 : decode cX4_share 84 = .ok (.iload 6, 2) := by decide +kernel
theorem dX4_share_86 : decode cX4_share 86 = .ok (.iadd, 1) := by decide +kernel
theorem dX4_share_87 : decode cX4_share 87 = .ok (.baload, 1) := by decide +kernel
theorem dX4_share_88 : decode cX4_share 88 = .ok (.ifCond .eq 7, 3) := by decide +kernel
theorem dX4_share_91 : decode cX4_share 91 = .ok (.iload 6, 2) := by decide +kernel
theorem dX4_share_93 : decode cX4_share 93 = .ok (.istore 5, 2) := by decide +kernel
theorem dX4_share_95 : decode cX4_share 95 = .ok (.iinc 6 1, 3) := by decide +kernel
theorem dX4_share_98 : decode cX4_share 98 = .ok (.goto (-32), 3) := by decide +kernel
theorem dX4_share_101 : decode cX4_share 101 = .ok (.aload_n 0, 1) := by decide +kernel
theorem dX4_share_102 : decode cX4_share 102 = .ok (.getfield 63, 3) := by decide +kernel
theorem dX4_share_105 : decode cX4_share 105 = .ok (.iload_n 1, 1) := by decide +kernel
theorem dX4_share_106 : decode cX4_share 106 = .ok (.laload, 1) := by decide +kernel
theorem dX4_share_107 : decode cX4_share 107 = .ok (.iload 4, 2) := by decide +kernel
theorem dX4_share_109 : decode cX4_share 109 = .ok (.iload 5, 2) := by decide +kernel
theorem dX4_share_111 : decode cX4_share 111 = .ok (.isub, 1) := by decide +kernel
theorem dX4_share_112 : decode cX4_share 112 = .ok (.i2l, 1) := by decide +kernel
theorem dX4_share_113 : decode cX4_share 113 = .ok (.ldiv, 1) := by decide +kernel
theorem dX4_share_114 : decode cX4_share 114 = .ok (.lstore 6, 2) := by decide +kernel
theorem dX4_share_116 : decode cX4_share 116 = .ok (.aload_n 0, 1) := by decide +kernel
theorem dX4_share_117 : decode cX4_share 117 = .ok (.getfield 63, 3) := by decide +kernel
theorem dX4_share_120 : decode cX4_share 120 = .ok (.iload_n 1, 1) := by decide +kernel
theorem dX4_share_121 : decode cX4_share 121 = .ok (.laload, 1) := by decide +kernel
theorem dX4_share_122 : decode cX4_share 122 = .ok (.lload 6, 2) := by decide +kernel
theorem dX4_share_124 : decode cX4_share 124 = .ok (.iload 4, 2) := by decide +kernel
theorem dX4_share_126 : decode cX4_share 126 = .ok (.iload 5, 2) := by decide +kernel
theorem dX4_share_128 : decode cX4_share 128 = .ok (.isub, 1) := by decide +kernel
theorem dX4_share_129 : decode cX4_share 129 = .ok (.i2l, 1) := by decide +kernel
theorem dX4_share_130 : decode cX4_share 130 = .ok (.lmul, 1) := by decide +kernel
theorem dX4_share_131 : decode cX4_share 131 = .ok (.lsub, 1) := by decide +kernel
theorem dX4_share_132 : decode cX4_share 132 = .ok (.lstore 8, 2) := by decide +kernel
theorem dX4_share_134 : decode cX4_share 134 = .ok (.lconst 0, 1) := by decide +kernel
theorem dX4_share_135 : decode cX4_share 135 = .ok (.lstore 10, 2) := by decide +kernel
theorem dX4_share_137 : decode cX4_share 137 = .ok (.iload 5, 2) := by decide +kernel
theorem dX4_share_139 : decode cX4_share 139 = .ok (.istore 12, 2) := by decide +kernel
theorem dX4_share_141 : decode cX4_share 141 = .ok (.iload 12, 2) := by decide +kernel
theorem dX4_share_143 : decode cX4_share 143 = .ok (.iload 4, 2) := by decide +kernel
theorem dX4_share_145 : decode cX4_share 145 = .ok (.if_icmp .ge 54, 3) := by decide +kernel
theorem dX4_share_148 : decode cX4_share 148 = .ok (.aload_n 0, 1) := by decide +kernel
theorem dX4_share_149 : decode cX4_share 149 = .ok (.getfield 29, 3) := by decide +kernel
theorem dX4_share_152 : decode cX4_share 152 = .ok (.bipush 8, 2) := by decide +kernel
theorem dX4_share_154 : decode cX4_share 154 = .ok (.iload_n 3, 1) := by decide +kernel
theorem dX4_share_155 : decode cX4_share 155 = .ok (.imul, 1) := by decide +kernel
theorem dX4_share_156 : decode cX4_share 156 = .ok (.bipush 8, 2) := by decide +kernel
theorem dX4_share_158 : decode cX4_share 158 = .ok (.isub, 1) := by decide +kernel
theorem dX4_share_159 : decode cX4_share 159 = .ok (.iload 12, 2) := by decide +kernel
theorem dX4_share_161 : decode cX4_share 161 = .ok (.iadd, 1) := by decide +kernel
theorem dX4_share_162 : decode cX4_share 162 = .ok (.iaload, 1) := by decide +kernel
theorem dX4_share_163 : decode cX4_share 163 = .ok (.iload_n 2, 1) := by decide +kernel
theorem dX4_share_164 : decode cX4_share 164 = .ok (.if_icmp .ne 29, 3) := by decide +kernel
theorem dX4_share_167 : decode cX4_share 167 = .ok (.lload 10, 2) := by decide +kernel
theorem dX4_share_169 : decode cX4_share 169 = .ok (.iload 12, 2) := by decide +kernel
theorem dX4_share_171 : decode cX4_share 171 = .ok (.iload 5, 2) := by decide +kernel
theorem dX4_share_173 : decode cX4_share 173 = .ok (.isub, 1) := by decide +kernel
theorem dX4_share_174 : decode cX4_share 174 = .ok (.i2l, 1) := by decide +kernel
theorem dX4_share_175 : decode cX4_share 175 = .ok (.lload 8, 2) := by decide +kernel
theorem dX4_share_177 : decode cX4_share 177 = .ok (.lcmp, 1) := by decide +kernel
theorem dX4_share_178 : decode cX4_share 178 = .ok (.ifCond .ge 10, 3) := by decide +kernel
theorem dX4_share_181 : decode cX4_share 181 = .ok (.lload 6, 2) := by decide +kernel
theorem dX4_share_183 : decode cX4_share 183 = .ok (.lconst 1, 1) := by decide +kernel
theorem dX4_share_184 : decode cX4_share 184 = .ok (.ladd, 1) := by decide +kernel
theorem dX4_share_185 : decode cX4_share 185 = .ok (.goto 5, 3) := by decide +kernel
theorem dX4_share_188 : decode cX4_share 188 = .ok (.lload 6, 2) := by decide +kernel
theorem dX4_share_190 : decode cX4_share 190 = .ok (.ladd, 1) := by decide +kernel
theorem dX4_share_191 : decode cX4_share 191 = .ok (.lstore 10, 2) := by decide +kernel
theorem dX4_share_193 : decode cX4_share 193 = .ok (.iinc 12 1, 3) := by decide +kernel
theorem dX4_share_196 : decode cX4_share 196 = .ok (.goto (-55), 3) := by decide +kernel
theorem dX4_share_199 : decode cX4_share 199 = .ok (.lload 10, 2) := by decide +kernel
theorem dX4_share_201 : decode cX4_share 201 = .ok (.lreturn, 1) := by decide +kernel
theorem dX4_found_0 : decode cX4_found 0 = .ok (.aload_n 0, 1) := by decide +kernel
theorem dX4_found_1 : decode cX4_found 1 = .ok (.iload_n 1, 1) := by decide +kernel
theorem dX4_found_2 : decode cX4_found 2 = .ok (.invokevirtual 109, 3) := by decide +kernel
theorem dX4_found_5 : decode cX4_found 5 = .ok (.ifCond .ne 6, 3) := by decide +kernel
theorem dX4_found_8 : decode cX4_found 8 = .ok (.bipush (-101), 2) := by decide +kernel
theorem dX4_found_10 : decode cX4_found 10 = .ok (.ireturn, 1) := by decide +kernel
theorem dX4_found_11 : decode cX4_found 11 = .ok (.aload_n 0, 1) := by decide +kernel
theorem dX4_found_12 : decode cX4_found 12 = .ok (.iload_n 1, 1) := by decide +kernel
theorem dX4_found_13 : decode cX4_found 13 = .ok (.iconst 0, 1) := by decide +kernel
theorem dX4_found_14 : decode cX4_found 14 = .ok (.iconst 0, 1) := by decide +kernel
theorem dX4_found_15 : decode cX4_found 15 = .ok (.invokevirtual 121, 3) := by decide +kernel
theorem dX4_found_18 : decode cX4_found 18 = .ok (.istore_n 2, 1) := by decide +kernel
theorem dX4_found_19 : decode cX4_found 19 = .ok (.iload_n 2, 1) := by decide +kernel
theorem dX4_found_20 : decode cX4_found 20 = .ok (.ifCond .eq 22, 3) := by decide +kernel
theorem dX4_found_23 : decode cX4_found 23 = .ok (.aload_n 0, 1) := by decide +kernel
theorem dX4_found_24 : decode cX4_found 24 = .ok (.getfield 51, 3) := by decide +kernel
theorem dX4_found_27 : decode cX4_found 27 = .ok (.iload_n 2, 1) := by decide +kernel
theorem dX4_found_28 : decode cX4_found 28 = .ok (.iaload, 1) := by decide +kernel
theorem dX4_found_29 : decode cX4_found 29 = .ok (.iconst 1, 1) := by decide +kernel
theorem dX4_found_30 : decode cX4_found 30 = .ok (.if_icmp .ne 12, 3) := by decide +kernel
theorem dX4_found_33 : decode cX4_found 33 = .ok (.aload_n 0, 1) := by decide +kernel
theorem dX4_found_34 : decode cX4_found 34 = .ok (.getfield 36, 3) := by decide +kernel
theorem dX4_found_37 : decode cX4_found 37 = .ok (.iload_n 1, 1) := by decide +kernel
theorem dX4_found_38 : decode cX4_found 38 = .ok (.baload, 1) := by decide +kernel
theorem dX4_found_39 : decode cX4_found 39 = .ok (.ifCond .eq 6, 3) := by decide +kernel
theorem dX4_found_42 : decode cX4_found 42 = .ok (.bipush (-103), 2) := by decide +kernel
theorem dX4_found_44 : decode cX4_found 44 = .ok (.ireturn, 1) := by decide +kernel
theorem dX4_found_45 : decode cX4_found 45 = .ok (.aload_n 0, 1) := by decide +kernel
theorem dX4_found_46 : decode cX4_found 46 = .ok (.getfield 36, 3) := by decide +kernel
theorem dX4_found_49 : decode cX4_found 49 = .ok (.iload_n 1, 1) := by decide +kernel
theorem dX4_found_50 : decode cX4_found 50 = .ok (.iconst 1, 1) := by decide +kernel
theorem dX4_found_51 : decode cX4_found 51 = .ok (.bastore, 1) := by decide +kernel
theorem dX4_found_52 : decode cX4_found 52 = .ok (.iload_n 2, 1) := by decide +kernel
theorem dX4_found_53 : decode cX4_found 53 = .ok (.ireturn, 1) := by decide +kernel
theorem dX4_back_0 : decode cX4_back 0 = .ok (.aload_n 0, 1) := by decide +kernel
theorem dX4_back_1 : decode cX4_back 1 = .ok (.iload_n 1, 1) := by decide +kernel
theorem dX4_back_2 : decode cX4_back 2 = .ok (.invokevirtual 133, 3) := by decide +kernel
theorem dX4_back_5 : decode cX4_back 5 = .ok (.ifCond .ne 6, 3) := by decide +kernel
theorem dX4_back_8 : decode cX4_back 8 = .ok (.bipush (-101), 2) := by decide +kernel
theorem dX4_back_10 : decode cX4_back 10 = .ok (.ireturn, 1) := by decide +kernel
theorem dX4_back_11 : decode cX4_back 11 = .ok (.aload_n 0, 1) := by decide +kernel
theorem dX4_back_12 : decode cX4_back 12 = .ok (.getfield 51, 3) := by decide +kernel
theorem dX4_back_15 : decode cX4_back 15 = .ok (.iload_n 1, 1) := by decide +kernel
theorem dX4_back_16 : decode cX4_back 16 = .ok (.iaload, 1) := by decide +kernel
theorem dX4_back_17 : decode cX4_back 17 = .ok (.iconst 1, 1) := by decide +kernel
theorem dX4_back_18 : decode cX4_back 18 = .ok (.if_icmp .ne 35, 3) := by decide +kernel
theorem dX4_back_21 : decode cX4_back 21 = .ok (.aload_n 0, 1) := by decide +kernel
theorem dX4_back_22 : decode cX4_back 22 = .ok (.getfield 48, 3) := by decide +kernel
theorem dX4_back_25 : decode cX4_back 25 = .ok (.iload_n 1, 1) := by decide +kernel
theorem dX4_back_26 : decode cX4_back 26 = .ok (.iaload, 1) := by decide +kernel
theorem dX4_back_27 : decode cX4_back 27 = .ok (.ifCond .ne 26, 3) := by decide +kernel
theorem dX4_back_30 : decode cX4_back 30 = .ok (.aload_n 0, 1) := by decide +kernel
theorem dX4_back_31 : decode cX4_back 31 = .ok (.getfield 36, 3) := by decide +kernel
theorem dX4_back_34 : decode cX4_back 34 = .ok (.aload_n 0, 1) := by decide +kernel
theorem dX4_back_35 : decode cX4_back 35 = .ok (.getfield 45, 3) := by decide +kernel
theorem dX4_back_38 : decode cX4_back 38 = .ok (.iload_n 1, 1) := by decide +kernel
theorem dX4_back_39 : decode cX4_back 39 = .ok (.iaload, 1) := by decide +kernel
theorem dX4_back_40 : decode cX4_back 40 = .ok (.baload, 1) := by decide +kernel
theorem dX4_back_41 : decode cX4_back 41 = .ok (.ifCond .eq 12, 3) := by decide +kernel
theorem dX4_back_44 : decode cX4_back 44 = .ok (.aload_n 0, 1) := by decide +kernel
theorem dX4_back_45 : decode cX4_back 45 = .ok (.getfield 60, 3) := by decide +kernel
theorem dX4_back_48 : decode cX4_back 48 = .ok (.iload_n 1, 1) := by decide +kernel
theorem dX4_back_49 : decode cX4_back 49 = .ok (.baload, 1) := by decide +kernel
theorem dX4_back_50 : decode cX4_back 50 = .ok (.ifCond .eq 6, 3) := by decide +kernel
theorem dX4_back_53 : decode cX4_back 53 = .ok (.bipush (-103), 2) := by decide +kernel
theorem dX4_back_55 : decode cX4_back 55 = .ok (.ireturn, 1) := by decide +kernel
theorem dX4_back_56 : decode cX4_back 56 = .ok (.aload_n 0, 1) := by decide +kernel
theorem dX4_back_57 : decode cX4_back 57 = .ok (.getfield 60, 3) := by decide +kernel
theorem dX4_back_60 : decode cX4_back 60 = .ok (.iload_n 1, 1) := by decide +kernel
theorem dX4_back_61 : decode cX4_back 61 = .ok (.iconst 1, 1) := by decide +kernel
theorem dX4_back_62 : decode cX4_back 62 = .ok (.bastore, 1) := by decide +kernel
theorem dX4_back_63 : decode cX4_back 63 = .ok (.iload_n 2, 1) := by decide +kernel
theorem dX4_back_64 : decode cX4_back 64 = .ok (.ifCond .eq 24, 3) := by decide +kernel
theorem dX4_back_67 : decode cX4_back 67 = .ok (.aload_n 0, 1) := by decide +kernel
theorem dX4_back_68 : decode cX4_back 68 = .ok (.dup, 1) := by decide +kernel
theorem dX4_back_69 : decode cX4_back 69 = .ok (.getfield 171, 3) := by decide +kernel
theorem dX4_back_72 : decode cX4_back 72 = .ok (.aload_n 0, 1) := by decide +kernel
theorem dX4_back_73 : decode cX4_back 73 = .ok (.getfield 63, 3) := by decide +kernel
theorem dX4_back_76 : decode cX4_back 76 = .ok (.iload_n 1, 1) := by decide +kernel
theorem dX4_back_77 : decode cX4_back 77 = .ok (.laload, 1) := by decide +kernel
theorem dX4_back_78 : decode cX4_back 78 = .ok (.ladd, 1) := by decide +kernel
theorem dX4_back_79 : decode cX4_back 79 = .ok (.putfield 171, 3) := by decide +kernel
theorem dX4_back_82 : decode cX4_back 82 = .ok (.aload_n 0, 1) := by decide +kernel
theorem dX4_back_83 : decode cX4_back 83 = .ok (.iload_n 1, 1) := by decide +kernel
theorem dX4_back_84 : decode cX4_back 84 = .ok (.iconst 5, 1) := by decide +kernel
theorem dX4_back_85 : decode cX4_back 85 = .ok (.invokevirtual 125, 3) := by decide +kernel
theorem dX4_back_88 : decode cX4_back 88 = .ok (.iconst 1, 1) := by decide +kernel
theorem dX4_back_89 : decode cX4_back 89 = .ok (.ireturn, 1) := by decide +kernel
theorem dX4_appeal_0 : decode cX4_appeal 0 = .ok (.aload_n 0, 1) := by decide +kernel
theorem dX4_appeal_1 : decode cX4_appeal 1 = .ok (.iload_n 1, 1) := by decide +kernel
theorem dX4_appeal_2 : decode cX4_appeal 2 = .ok (.invokevirtual 133, 3) := by decide +kernel
theorem dX4_appeal_5 : decode cX4_appeal 5 = .ok (.ifCond .ne 6, 3) := by decide +kernel
theorem dX4_appeal_8 : decode cX4_appeal 8 = .ok (.bipush (-101), 2) := by decide +kernel
theorem dX4_appeal_10 : decode cX4_appeal 10 = .ok (.ireturn, 1) := by decide +kernel
theorem dX4_appeal_11 : decode cX4_appeal 11 = .ok (.aload_n 0, 1) := by decide +kernel
