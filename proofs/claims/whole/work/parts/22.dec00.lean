theorem dX4_init_0 : decode cX4_init 0 = .ok (.aload_n 0, 1) := by decide +kernel
theorem dX4_init_1 : decode cX4_init 1 = .ok (.invokespecial 1, 3) := by decide +kernel
theorem dX4_init_4 : decode cX4_init 4 = .ok (.aload_n 0, 1) := by decide +kernel
theorem dX4_init_5 : decode cX4_init 5 = .ok (.bipush 101, 2) := by decide +kernel
theorem dX4_init_7 : decode cX4_init 7 = .ok (.newarray .int, 2) := by decide +kernel
theorem dX4_init_9 : decode cX4_init 9 = .ok (.putfield 7, 3) := by decide +kernel
theorem dX4_init_12 : decode cX4_init 12 = .ok (.aload_n 0, 1) := by decide +kernel
theorem dX4_init_13 : decode cX4_init 13 = .ok (.bipush 101, 2) := by decide +kernel
theorem dX4_init_15 : decode cX4_init 15 = .ok (.newarray .long, 2) := by decide +kernel
theorem dX4_init_17 : decode cX4_init 17 = .ok (.putfield 13, 3) := by decide +kernel
theorem dX4_init_20 : decode cX4_init 20 = .ok (.aload_n 0, 1) := by decide +kernel
theorem dX4_init_21 : decode cX4_init 21 = .ok (.bipush 101, 2) := by decide +kernel
theorem dX4_init_23 : decode cX4_init 23 = .ok (.newarray .long, 2) := by decide +kernel
theorem dX4_init_25 : decode cX4_init 25 = .ok (.putfield 17, 3) := by decide +kernel
theorem dX4_init_28 : decode cX4_init 28 = .ok (.aload_n 0, 1) := by decide +kernel
theorem dX4_init_29 : decode cX4_init 29 = .ok (.bipush 101, 2) := by decide +kernel
theorem dX4_init_31 : decode cX4_init 31 = .ok (.newarray .int, 2) := by decide +kernel
theorem dX4_init_33 : decode cX4_init 33 = .ok (.putfield 20, 3) := by decide +kernel
theorem dX4_init_36 : decode cX4_init 36 = .ok (.aload_n 0, 1) := by decide +kernel
theorem dX4_init_37 : decode cX4_init 37 = .ok (.bipush 101, 2) := by decide +kernel
theorem dX4_init_39 : decode cX4_init 39 = .ok (.newarray .int, 2) := by decide +kernel
theorem dX4_init_41 : decode cX4_init 41 = .ok (.putfield 23, 3) := by decide +kernel
theorem dX4_init_44 : decode cX4_init 44 = .ok (.aload_n 0, 1) := by decide +kernel
theorem dX4_init_45 : decode cX4_init 45 = .ok (.bipush 101, 2) := by decide +kernel
theorem dX4_init_47 : decode cX4_init 47 = .ok (.newarray .int, 2) := by decide +kernel
theorem dX4_init_49 : decode cX4_init 49 = .ok (.putfield 26, 3) := by decide +kernel
theorem dX4_init_52 : decode cX4_init 52 = .ok (.aload_n 0, 1) := by decide +kernel
theorem dX4_init_53 : decode cX4_init 53 = .ok (.sipush 808, 3) := by decide +kernel
theorem dX4_init_56 : decode cX4_init 56 = .ok (.newarray .int, 2) := by decide +kernel
theorem dX4_init_58 : decode cX4_init 58 = .ok (.putfield 29, 3) := by decide +kernel
theorem dX4_init_61 : decode cX4_init 61 = .ok (.aload_n 0, 1) := by decide +kernel
theorem dX4_init_62 : decode cX4_init 62 = .ok (.sipush 808, 3) := by decide +kernel
theorem dX4_init_65 : decode cX4_init 65 = .ok (.newarray .boolean, 2) := by decide +kernel
theorem dX4_init_67 : decode cX4_init 67 = .ok (.putfield 32, 3) := by decide +kernel
theorem dX4_init_70 : decode cX4_init 70 = .ok (.aload_n 0, 1) := by decide +kernel
theorem dX4_init_71 : decode cX4_init 71 = .ok (.bipush 101, 2) := by decide +kernel
theorem dX4_init_73 : decode cX4_init 73 = .ok (.newarray .boolean, 2) := by decide +kernel
theorem dX4_init_75 : decode cX4_init 75 = .ok (.putfield 36, 3) := by decide +kernel
theorem dX4_init_78 : decode cX4_init 78 = .ok (.aload_n 0, 1) := by decide +kernel
theorem dX4_init_79 : decode cX4_init 79 = .ok (.bipush 16, 2) := by decide +kernel
theorem dX4_init_81 : decode cX4_init 81 = .ok (.newarray .long, 2) := by decide +kernel
theorem dX4_init_83 : decode cX4_init 83 = .ok (.putfield 39, 3) := by decide +kernel
theorem dX4_init_86 : decode cX4_init 86 = .ok (.aload_n 0, 1) := by decide +kernel
theorem dX4_init_87 : decode cX4_init 87 = .ok (.bipush 16, 2) := by decide +kernel
theorem dX4_init_89 : decode cX4_init 89 = .ok (.newarray .int, 2) := by decide +kernel
theorem dX4_init_91 : decode cX4_init 91 = .ok (.putfield 42, 3) := by decide +kernel
theorem dX4_init_94 : decode cX4_init 94 = .ok (.aload_n 0, 1) := by decide +kernel
theorem dX4_init_95 : decode cX4_init 95 = .ok (.bipush 61, 2) := by decide +kernel
theorem dX4_init_97 : decode cX4_init 97 = .ok (.newarray .int, 2) := by decide +kernel
theorem dX4_init_99 : decode cX4_init 99 = .ok (.putfield 45, 3) := by decide +kernel
theorem dX4_init_102 : decode cX4_init 102 = .ok (.aload_n 0, 1) := by decide +kernel
theorem dX4_init_103 : decode cX4_init 103 = .ok (.bipush 61, 2) := by decide +kernel
theorem dX4_init_105 : decode cX4_init 105 = .ok (.newarray .int, 2) := by decide +kernel
theorem dX4_init_107 : decode cX4_init 107 = .ok (.putfield 48, 3) := by decide +kernel
theorem dX4_init_110 : decode cX4_init 110 = .ok (.aload_n 0, 1) := by decide +kernel
theorem dX4_init_111 : decode cX4_init 111 = .ok (.bipush 61, 2) := by decide +kernel
theorem dX4_init_113 : decode cX4_init 113 = .ok (.newarray .int, 2) := by decide +kernel
theorem dX4_init_115 : decode cX4_init 115 = .ok (.putfield 51, 3) := by decide +kernel
theorem dX4_init_118 : decode cX4_init 118 = .ok (.aload_n 0, 1) := by decide +kernel
theorem dX4_init_119 : decode cX4_init 119 = .ok (.sipush 244, 3) := by decide +kernel
theorem dX4_init_122 : decode cX4_init 122 = .ok (.newarray .boolean, 2) := by decide +kernel
theorem dX4_init_124 : decode cX4_init 124 = .ok (.putfield 54, 3) := by decide +kernel
theorem dX4_init_127 : decode cX4_init 127 = .ok (.aload_n 0, 1) := by decide +kernel
theorem dX4_init_128 : decode cX4_init 128 = .ok (.bipush 61, 2) := by decide +kernel
theorem dX4_init_130 : decode cX4_init 130 = .ok (.newarray .boolean, 2) := by decide +kernel
theorem dX4_init_132 : decode cX4_init 132 = .ok (.putfield 57, 3) := by decide +kernel
theorem dX4_init_135 : decode cX4_init 135 = .ok (.aload_n 0, 1) := by decide +kernel
theorem dX4_init_136 : decode cX4_init 136 = .ok (.bipush 61, 2) := by decide +kernel
theorem dX4_init_138 : decode cX4_init 138 = .ok (.newarray .boolean, 2) := by decide +kernel
theorem dX4_init_140 : decode cX4_init 140 = .ok (.putfield 60, 3) := by decide +kernel
theorem dX4_init_143 : decode cX4_init 143 = .ok (.aload_n 0, 1) := by decide +kernel
theorem dX4_init_144 : decode cX4_init 144 = .ok (.bipush 61, 2) := by decide +kernel
theorem dX4_init_146 : decode cX4_init 146 = .ok (.newarray .long, 2) := by decide +kernel
theorem dX4_init_148 : decode cX4_init 148 = .ok (.putfield 63, 3) := by decide +kernel
theorem dX4_init_151 : decode cX4_init 151 = .ok (.aload_n 0, 1) := by decide +kernel
theorem dX4_init_152 : decode cX4_init 152 = .ok (.bipush 101, 2) := by decide +kernel
theorem dX4_init_154 : decode cX4_init 154 = .ok (.newarray .int, 2) := by decide +kernel
theorem dX4_init_156 : decode cX4_init 156 = .ok (.putfield 66, 3) := by decide +kernel
theorem dX4_init_159 : decode cX4_init 159 = .ok (.aload_n 0, 1) := by decide +kernel
theorem dX4_init_160 : decode cX4_init 160 = .ok (.bipush 101, 2) := by decide +kernel
theorem dX4_init_162 : decode cX4_init 162 = .ok (.newarray .int, 2) := by decide +kernel
theorem dX4_init_164 : decode cX4_init 164 = .ok (.putfield 69, 3) := by decide +kernel
theorem dX4_init_167 : decode cX4_init 167 = .ok (.aload_n 0, 1) := by decide +kernel
theorem dX4_init_168 : decode cX4_init 168 = .ok (.bipush 101, 2) := by decide +kernel
theorem dX4_init_170 : decode cX4_init 170 = .ok (.newarray .int, 2) := by decide +kernel
theorem dX4_init_172 : decode cX4_init 172 = .ok (.putfield 72, 3) := by decide +kernel
theorem dX4_init_175 : decode cX4_init 175 = .ok (.aload_n 0, 1) := by decide +kernel
theorem dX4_init_176 : decode cX4_init 176 = .ok (.bipush 101, 2) := by decide +kernel
theorem dX4_init_178 : decode cX4_init 178 = .ok (.newarray .boolean, 2) := by decide +kernel
theorem dX4_init_180 : decode cX4_init 180 = .ok (.putfield 75, 3) := by decide +kernel
theorem dX4_init_183 : decode cX4_init 183 = .ok (.aload_n 0, 1) := by decide +kernel
theorem dX4_init_184 : decode cX4_init 184 = .ok (.bipush 10, 2) := by decide +kernel
theorem dX4_init_186 : decode cX4_init 186 = .ok (.newarray .long, 2) := by decide +kernel
theorem dX4_init_188 : decode cX4_init 188 = .ok (.putfield 78, 3) := by decide +kernel
theorem dX4_init_191 : decode cX4_init 191 = .ok (.aload_n 0, 1) := by decide +kernel
theorem dX4_init_192 : decode cX4_init 192 = .ok (.sipush 200, 3) := by decide +kernel
theorem dX4_init_195 : decode cX4_init 195 = .ok (.newarray .int, 2) := by decide +kernel
theorem dX4_init_197 : decode cX4_init 197 = .ok (.putfield 81, 3) := by decide +kernel
theorem dX4_init_200 : decode cX4_init 200 = .ok (.aload_n 0, 1) := by decide +kernel
theorem dX4_init_201 : decode cX4_init 201 = .ok (.sipush 200, 3) := by decide +kernel
theorem dX4_init_204 : decode cX4_init 204 = .ok (.newarray .int, 2) := by decide +kernel
theorem dX4_init_206 : decode cX4_init 206 = .ok (.putfield 84, 3) := by decide +kernel
theorem dX4_init_209 : decode cX4_init 209 = .ok (.return_, 1) := by decide +kernel
theorem dX4_item_0 : decode cX4_item 0 = .ok (.iload_n 1, 1) := by decide +kernel
theorem dX4_item_1 : decode cX4_item 1 = .ok (.i2l, 1) := by decide +kernel
theorem dX4_item_2 : decode cX4_item 2 = .ok (.lconst 0, 1) := by decide +kernel
theorem dX4_item_3 : decode cX4_item 3 = .ok (.ldc2_w 97, 3) := by decide +kernel
theorem dX4_item_6 : decode cX4_item 6 = .ok (.invokestatic 99, 3) := by decide +kernel
theorem dX4_item_9 : decode cX4_item 9 = .ok (.ifCond .eq 52, 3) := by decide +kernel
theorem dX4_item_12 : decode cX4_item 12 = .ok (.lload_n 2, 1) := by decide +kernel
theorem dX4_item_13 : decode cX4_item 13 = .ok (.lconst 0, 1) := by decide +kernel
theorem dX4_item_14 : decode cX4_item 14 = .ok (.ldc2_w 103, 3) := by decide +kernel
theorem dX4_item_17 : decode cX4_item 17 = .ok (.invokestatic 99, 3) := by decide +kernel
theorem dX4_item_20 : decode cX4_item 20 = .ok (.ifCond .eq 41, 3) := by decide +kernel
theorem dX4_item_23 : decode cX4_item 23 = .ok (.lload 4, 2) := by decide +kernel
theorem dX4_item_25 : decode cX4_item 25 = .ok (.lconst 0, 1) := by decide +kernel
theorem dX4_item_26 : decode cX4_item 26 = .ok (.ldc2_w 103, 3) := by decide +kernel
theorem dX4_item_29 : decode cX4_item 29 = .ok (.invokestatic 99, 3) := by decide +kernel
theorem dX4_item_32 : decode cX4_item 32 = .ok (.ifCond .eq 29, 3) := by decide +kernel
theorem dX4_item_35 : decode cX4_item 35 = .ok (.iload 6, 2) := by decide +kernel
theorem dX4_item_37 : decode cX4_item 37 = .ok (.i2l, 1) := by decide +kernel
theorem dX4_item_38 : decode cX4_item 38 = .ok (.lconst 0, 1) := by decide +kernel
theorem dX4_item_39 : decode cX4_item 39 = .ok (.ldc2_w 105, 3) := by decide +kernel
theorem dX4_item_42 : decode cX4_item 42 = .ok (.invokestatic 99, 3) := by decide +kernel
theorem dX4_item_45 : decode cX4_item 45 = .ok (.ifCond .eq 16, 3) := by decide +kernel
theorem dX4_item_48 : decode cX4_item 48 = .ok (.iload 7, 2) := by decide +kernel
theorem dX4_item_50 : decode cX4_item 50 = .ok (.i2l, 1) := by decide +kernel
theorem dX4_item_51 : decode cX4_item 51 = .ok (.lconst 0, 1) := by decide +kernel
theorem dX4_item_52 : decode cX4_item 52 = .ok (.ldc2_w 107, 3) := by decide +kernel
theorem dX4_item_55 : decode cX4_item 55 = .ok (.invokestatic 99, 3) := by decide +kernel
theorem dX4_item_58 : decode cX4_item 58 = .ok (.ifCond .ne 6, 3) := by decide +kernel
theorem dX4_item_61 : decode cX4_item 61 = .ok (.bipush (-102), 2) := by decide +kernel
theorem dX4_item_63 : decode cX4_item 63 = .ok (.ireturn, 1) := by decide +kernel
theorem dX4_item_64 : decode cX4_item 64 = .ok (.aload_n 0, 1) := by decide +kernel
theorem dX4_item_65 : decode cX4_item 65 = .ok (.getfield 87, 3) := by decide +kernel
theorem dX4_item_68 : decode cX4_item 68 = .ok (.bipush 100, 2) := by decide +kernel
theorem dX4_item_70 : decode cX4_item 70 = .ok (.if_icmp .ne 6, 3) := by decide +kernel
theorem dX4_item_73 : decode cX4_item 73 = .ok (.bipush (-104), 2) := by decide +kernel
theorem dX4_item_75 : decode cX4_item 75 = .ok (.ireturn, 1) := by decide +kernel
theorem dX4_item_76 : decode cX4_item 76 = .ok (.aload_n 0, 1) := by decide +kernel
theorem dX4_item_77 : decode cX4_item 77 = .ok (.dup, 1) := by decide +kernel
theorem dX4_item_78 : decode cX4_item 78 = .ok (.getfield 87, 3) := by decide +kernel
theorem dX4_item_81 : decode cX4_item 81 = .ok (.iconst 1, 1) := by decide +kernel
theorem dX4_item_82 : decode cX4_item 82 = .ok (.iadd, 1) := by decide +kernel
theorem dX4_item_83 : decode cX4_item 83 = .ok (.putfield 87, 3) := by decide +kernel
theorem dX4_item_86 : decode cX4_item 86 = .ok (.aload_n 0, 1) := by decide +kernel
theorem dX4_item_87 : decode cX4_item 87 = .ok (.getfield 7, 3) := by decide +kernel
theorem dX4_item_90 : decode cX4_item 90 = .ok (.aload_n 0, 1) := by decide +kernel
theorem dX4_item_91 : decode cX4_item 91 = .ok (.getfield 87, 3) := by decide +kernel
theorem dX4_item_94 : decode cX4_item 94 = .ok (.iload_n 1, 1) := by decide +kernel
theorem dX4_item_95 : decode cX4_item 95 = .ok (.iastore, 1) := by decide +kernel
theorem dX4_item_96 : decode cX4_item 96 = .ok (.aload_n 0, 1) := by decide +kernel
theorem dX4_item_97 : decode cX4_item 97 = .ok (.getfield 13, 3) := by decide +kernel
theorem dX4_item_100 : decode cX4_item 100 = .ok (.aload_n 0, 1) := by decide +kernel
theorem dX4_item_101 : decode cX4_item 101 = .ok (.getfield 87, 3) := by decide +kernel
theorem dX4_item_104 : decode cX4_item 104 = .ok (.lload_n 2, 1) := by decide +kernel
theorem dX4_item_105 : decode cX4_item 105 = .ok (.lastore, 1) := by decide +kernel
theorem dX4_item_106 : decode cX4_item 106 = .ok (.aload_n 0, 1) := by decide +kernel
theorem dX4_item_107 : decode cX4_item 107 = .ok (.getfield 17, 3) := by decide +kernel
theorem dX4_item_110 : decode cX4_item 110 = .ok (.aload_n 0, 1) := by decide +kernel
theorem dX4_item_111 : decode cX4_item 111 = .ok (.getfield 87, 3) := by decide +kernel
theorem dX4_item_114 : decode cX4_item 114 = .ok (.lload 4, 2) := by decide +kernel
theorem dX4_item_116 : decode cX4_item 116 = .ok (.lastore, 1) := by decide +kernel
theorem dX4_item_117 : decode cX4_item 117 = .ok (.aload_n 0, 1) := by decide +kernel
theorem dX4_item_118 : decode cX4_item 118 = .ok (.getfield 20, 3) := by decide +kernel
theorem dX4_item_121 : decode cX4_item 121 = .ok (.aload_n 0, 1) := by decide +kernel
theorem dX4_item_122 : decode cX4_item 122 = .ok (.getfield 87, 3) := by decide +kernel
theorem dX4_item_125 : decode cX4_item 125 = .ok (.iload 6, 2) := by decide +kernel
theorem dX4_item_127 : decode cX4_item 127 = .ok (.iastore, 1) := by decide +kernel
theorem dX4_item_128 : decode cX4_item 128 = .ok (.aload_n 0, 1) := by decide +kernel
theorem dX4_item_129 : decode cX4_item 129 = .ok (.getfield 23, 3) := by decide +kernel
theorem dX4_item_132 : decode cX4_item 132 = .ok (.aload_n 0, 1) := by decide +kernel
theorem dX4_item_133 : decode cX4_item 133 = .ok (.getfield 87, 3) := by decide +kernel
theorem dX4_item_136 : decode cX4_item 136 = .ok (.iload 7, 2) := by decide +kernel
theorem dX4_item_138 : decode cX4_item 138 = .ok (.iastore, 1) := by decide +kernel
theorem dX4_item_139 : decode cX4_item 139 = .ok (.aload_n 0, 1) := by decide +kernel
theorem dX4_item_140 : decode cX4_item 140 = .ok (.getfield 87, 3) := by decide +kernel
theorem dX4_item_143 : decode cX4_item 143 = .ok (.ireturn, 1) := by decide +kernel
theorem dX4_isIn_0 : decode cX4_isIn 0 = .ok (.lload_n 0, 1) := by decide +kernel
theorem dX4_isIn_1 : decode cX4_isIn 1 = .ok (.lload_n 2, 1) := by decide +kernel
theorem dX4_isIn_2 : decode cX4_isIn 2 = .ok (.lcmp, 1) := by decide +kernel
theorem dX4_isIn_3 : decode cX4_isIn 3 = .ok (.ifCond .lt 14, 3) := by decide +kernel
theorem dX4_isIn_6 : decode cX4_isIn 6 = .ok (.lload_n 0, 1) := by decide +kernel
theorem dX4_isIn_7 : decode cX4_isIn 7 = .ok (.lload 4, 2) := by decide +kernel
theorem dX4_isIn_9 : decode cX4_isIn 9 = .ok (.lcmp, 1) := by decide +kernel
theorem dX4_isIn_10 : decode cX4_isIn 10 = .ok (.ifCond .gt 7, 3) := by decide +kernel
theorem dX4_isIn_13 : decode cX4_isIn 13 = .ok (.iconst 1, 1) := by decide +kernel
theorem dX4_isIn_14 : decode cX4_isIn 14 = .ok (.goto 4, 3) := by decide +kernel
theorem dX4_isIn_17 : decode cX4_isIn 17 = .ok (.iconst 0, 1) := by decide +kernel
theorem dX4_isIn_18 : decode cX4_isIn 18 = .ok (.ireturn, 1) := by decide +kernel
theorem dX4_pass_0 : decode cX4_pass 0 = .ok (.aload_n 0, 1) := by decide +kernel
theorem dX4_pass_1 : decode cX4_pass 1 = .ok (.iload_n 1, 1) := by decide +kernel
theorem dX4_pass_2 : decode cX4_pass 2 = .ok (.invokevirtual 109, 3) := by decide +kernel
theorem dX4_pass_5 : decode cX4_pass 5 = .ok (.ifCond .ne 6, 3) := by decide +kernel
theorem dX4_pass_8 : decode cX4_pass 8 = .ok (.bipush (-101), 2) := by decide +kernel
theorem dX4_pass_10 : decode cX4_pass 10 = .ok (.ireturn, 1) := by decide +kernel
theorem dX4_pass_11 : decode cX4_pass 11 = .ok (.iload_n 2, 1) := by decide +kernel
theorem dX4_pass_12 : decode cX4_pass 12 = .ok (.i2l, 1) := by decide +kernel
theorem dX4_pass_13 : decode cX4_pass 13 = .ok (.lconst 0, 1) := by decide +kernel
theorem dX4_pass_14 : decode cX4_pass 14 = .ok (.ldc2_w 113, 3) := by decide +kernel
theorem dX4_pass_17 : decode cX4_pass 17 = .ok (.invokestatic 99, 3) := by decide +kernel
theorem dX4_pass_20 : decode cX4_pass 20 = .ok (.ifCond .ne 6, 3) := by decide +kernel
theorem dX4_pass_23 : decode cX4_pass 23 = .ok (.bipush (-102), 2) := by decide +kernel
theorem dX4_pass_25 : decode cX4_pass 25 = .ok (.ireturn, 1) := by decide +kernel
theorem dX4_pass_26 : decode cX4_pass 26 = .ok (.aload_n 0, 1) := by decide +kernel
theorem dX4_pass_27 : decode cX4_pass 27 = .ok (.getfield 26, 3) := by decide +kernel
theorem dX4_pass_30 : decode cX4_pass 30 = .ok (.iload_n 1, 1) := by decide +kernel
theorem dX4_pass_31 : decode cX4_pass 31 = .ok (.iaload, 1) := by decide +kernel
theorem dX4_pass_32 : decode cX4_pass 32 = .ok (.bipush 8, 2) := by decide +kernel
theorem dX4_pass_34 : decode cX4_pass 34 = .ok (.if_icmp .ne 6, 3) := by decide +kernel
theorem dX4_pass_37 : decode cX4_pass 37 = .ok (.bipush (-104), 2) := by decide +kernel
theorem dX4_pass_39 : decode cX4_pass 39 = .ok (.ireturn, 1) := by decide +kernel
theorem dX4_pass_40 : decode cX4_pass 40 = .ok (.bipush 8, 2) := by decide +kernel
theorem dX4_pass_42 : decode cX4_pass 42 = .ok (.iload_n 1, 1) := by decide +kernel
theorem dX4_pass_43 : decode cX4_pass 43 = .ok (.imul, 1) := by decide +kernel
theorem dX4_pass_44 : decode cX4_pass 44 = .ok (.bipush 8, 2) := by decide +kernel
theorem dX4_pass_46 : decode cX4_pass 46 = .ok (.isub, 1) := by decide +kernel
theorem dX4_pass_47 : decode cX4_pass 47 = .ok (.aload_n 0, 1) := by decide +kernel
theorem dX4_pass_48 : decode cX4_pass 48 = .ok (.getfield 26, 3) := by decide +kernel
theorem dX4_pass_51 : decode cX4_pass 51 = .ok (.iload_n 1, 1) := by decide +kernel
theorem dX4_pass_52 : decode cX4_pass 52 = .ok (.iaload, 1) := by decide +kernel
theorem dX4_pass_53 : decode cX4_pass 53 = .ok (.iadd, 1) := by decide +kernel
theorem dX4_pass_54 : decode cX4_pass 54 = .ok (.istore 4, 2) := by decide +kernel
theorem dX4_pass_56 : decode cX4_pass 56 = .ok (.aload_n 0, 1) := by decide +kernel
theorem dX4_pass_57 : decode cX4_pass 57 = .ok (.getfield 29, 3) := by decide +kernel
theorem dX4_pass_60 : decode cX4_pass 60 = .ok (.iload 4, 2) := by decide +kernel
theorem dX4_pass_62 : decode cX4_pass 62 = .ok (.iload_n 2, 1) := by decide +kernel
theorem dX4_pass_63 : decode cX4_pass 63 = .ok (.iastore, 1) := by decide +kernel
theorem dX4_pass_64 : decode cX4_pass 64 = .ok (.aload_n 0, 1) := by decide +kernel
theorem dX4_pass_65 : decode cX4_pass 65 = .ok (.getfield 32, 3) := by decide +kernel
theorem dX4_pass_68 : decode cX4_pass 68 = .ok (.iload 4, 2) := by decide +kernel
theorem dX4_pass_70 : decode cX4_pass 70 = .ok (.iload_n 3, 1) := by decide +kernel
theorem dX4_pass_71 : decode cX4_pass 71 = .ok (.bastore, 1) := by decide +kernel
theorem dX4_pass_72 : decode cX4_pass 72 = .ok (.aload_n 0, 1) := by decide +kernel
theorem dX4_pass_73 : decode cX4_pass 73 = .ok (.getfield 26, 3) := by decide +kernel
theorem dX4_pass_76 : decode cX4_pass 76 = .ok (.iload_n 1, 1) := by decide +kernel
theorem dX4_pass_77 : decode cX4_pass 77 = .ok (.dup2, 1) := by decide +kernel
theorem dX4_pass_78 : decode cX4_pass 78 = .ok (.iaload, 1) := by decide +kernel
theorem dX4_pass_79 : decode cX4_pass 79 = .ok (.iconst 1, 1) := by decide +kernel
theorem dX4_pass_80 : decode cX4_pass 80 = .ok (.iadd, 1) := by decide +kernel
theorem dX4_pass_81 : decode cX4_pass 81 = .ok (.iastore, 1) := by decide +kernel
theorem dX4_pass_82 : decode cX4_pass 82 = .ok (.aload_n 0, 1) := by decide +kernel
theorem dX4_pass_83 : decode cX4_pass 83 = .ok (.getfield 26, 3) := by decide +kernel
theorem dX4_pass_86 : decode cX4_pass 86 = .ok (.iload_n 1, 1) := by decide +kernel
theorem dX4_pass_87 : decode cX4_pass 87 = .ok (.iaload, 1) := by decide +kernel
theorem dX4_pass_88 : decode cX4_pass 88 = .ok (.ireturn, 1) := by decide +kernel
theorem dX4_isItem_0 : decode cX4_isItem 0 = .ok (.iload_n 1, 1) := by decide +kernel
theorem dX4_isItem_1 : decode cX4_isItem 1 = .ok (.iconst 1, 1) := by decide +kernel
theorem dX4_isItem_2 : decode cX4_isItem 2 = .ok (.if_icmp .lt 15, 3) := by decide +kernel
theorem dX4_isItem_5 : decode cX4_isItem 5 = .ok (.iload_n 1, 1) := by decide +kernel
theorem dX4_isItem_6 : decode cX4_isItem 6 = .ok (.aload_n 0, 1) := by decide +kernel
theorem dX4_isItem_7 : decode cX4_isItem 7 = .ok (.getfield 87, 3) := by decide +kernel
theorem dX4_isItem_10 : decode cX4_isItem 10 = .ok (.if_icmp .gt 7, 3) := by decide +kernel
theorem dX4_isItem_13 : decode cX4_isItem 13 = .ok (.iconst 1, 1) := by decide +kernel
theorem dX4_isItem_14 : decode cX4_isItem 14 = .ok (.goto 4, 3) := by decide +kernel
theorem dX4_isItem_17 : decode cX4_isItem 17 = .ok (.iconst 0, 1) := by decide +kernel
theorem dX4_isItem_18 : decode cX4_isItem 18 = .ok (.ireturn, 1) := by decide +kernel
theorem dX4_table_0 : decode cX4_table 0 = .ok (.iload_n 1, 1) := by decide +kernel
theorem dX4_table_1 : decode cX4_table 1 = .ok (.i2l, 1) := by decide +kernel
theorem dX4_table_2 : decode cX4_table 2 = .ok (.lconst 0, 1) := by decide +kernel
theorem dX4_table_3 : decode cX4_table 3 = .ok (.ldc2_w 97, 3) := by decide +kernel
theorem dX4_table_6 : decode cX4_table 6 = .ok (.invokestatic 99, 3) := by decide +kernel
theorem dX4_table_9 : decode cX4_table 9 = .ok (.ifCond .eq 39, 3) := by decide +kernel
theorem dX4_table_12 : decode cX4_table 12 = .ok (.iload_n 2, 1) := by decide +kernel
theorem dX4_table_13 : decode cX4_table 13 = .ok (.i2l, 1) := by decide +kernel
theorem dX4_table_14 : decode cX4_table 14 = .ok (.lconst 0, 1) := by decide +kernel
theorem dX4_table_15 : decode cX4_table 15 = .ok (.ldc2_w 97, 3) := by decide +kernel
theorem dX4_table_18 : decode cX4_table 18 = .ok (.invokestatic 99, 3) := by decide +kernel
theorem dX4_table_21 : decode cX4_table 21 = .ok (.ifCond .eq 27, 3) := by decide +kernel
theorem dX4_table_24 : decode cX4_table 24 = .ok (.lload_n 3, 1) := by decide +kernel
theorem dX4_table_25 : decode cX4_table 25 = .ok (.lconst 0, 1) := by decide +kernel
theorem dX4_table_26 : decode cX4_table 26 = .ok (.ldc2_w 103, 3) := by decide +kernel
theorem dX4_table_29 : decode cX4_table 29 = .ok (.invokestatic 99, 3) := by decide +kernel
theorem dX4_table_32 : decode cX4_table 32 = .ok (.ifCond .eq 16, 3) := by decide +kernel
theorem dX4_table_35 : decode cX4_table 35 = .ok (.iload 5, 2) := by decide +kernel
theorem dX4_table_37 : decode cX4_table 37 = .ok (.i2l, 1) := by decide +kernel
theorem dX4_table_38 : decode cX4_table 38 = .ok (.lconst 0, 1) := by decide +kernel
theorem dX4_table_39 : decode cX4_table 39 = .ok (.ldc2_w 115, 3) := by decide +kernel
theorem dX4_table_42 : decode cX4_table 42 = .ok (.invokestatic 99, 3) := by decide +kernel
theorem dX4_table_45 : decode cX4_table 45 = .ok (.ifCond .ne 6, 3) := by decide +kernel
theorem dX4_table_48 : decode cX4_table 48 = .ok (.bipush (-102), 2) := by decide +kernel
theorem dX4_table_50 : decode cX4_table 50 = .ok (.ireturn, 1) := by decide +kernel
theorem dX4_table_51 : decode cX4_table 51 = .ok (.aload_n 0, 1) := by decide +kernel
theorem dX4_table_52 : decode cX4_table 52 = .ok (.getfield 39, 3) := by decide +kernel
theorem dX4_table_55 : decode cX4_table 55 = .ok (.iconst 4, 1) := by decide +kernel
theorem dX4_table_56 : decode cX4_table 56 = .ok (.iload_n 1, 1) := by decide +kernel
theorem dX4_table_57 : decode cX4_table 57 = .ok (.imul, 1) := by decide +kernel
theorem dX4_table_58 : decode cX4_table 58 = .ok (.iload_n 2, 1) := by decide +kernel
theorem dX4_table_59 : decode cX4_table 59 = .ok (.iadd, 1) := by decide +kernel
theorem dX4_table_60 : decode cX4_table 60 = .ok (.lload_n 3, 1) := by decide +kernel
theorem dX4_table_61 : decode cX4_table 61 = .ok (.lastore, 1) := by decide +kernel
theorem dX4_table_62 : decode cX4_table 62 = .ok (.aload_n 0, 1) := by decide +kernel
theorem dX4_table_63 : decode cX4_table 63 = .ok (.getfield 42, 3) := by decide +kernel
theorem dX4_table_66 : decode cX4_table 66 = .ok (.iconst 4, 1) := by decide +kernel
theorem dX4_table_67 : decode cX4_table 67 = .ok (.iload_n 1, 1) := by decide +kernel
theorem dX4_table_68 : decode cX4_table 68 = .ok (.imul, 1) := by decide +kernel
theorem dX4_table_69 : decode cX4_table 69 = .ok (.iload_n 2, 1) := by decide +kernel
theorem dX4_table_70 : decode cX4_table 70 = .ok (.iadd, 1) := by decide +kernel
theorem dX4_table_71 : decode cX4_table 71 = .ok (.iload 5, 2) := by decide +kernel
theorem dX4_table_73 : decode cX4_table 73 = .ok (.iastore, 1) := by decide +kernel
theorem dX4_table_74 : decode cX4_table 74 = .ok (.iconst 1, 1) := by decide +kernel
theorem dX4_table_75 : decode cX4_table 75 = .ok (.ireturn, 1) := by decide +kernel
theorem dX4_claim_0 : decode cX4_claim 0 = .ok (.aload_n 0, 1) := by decide +kernel
theorem dX4_claim_1 : decode cX4_claim 1 = .ok (.iload_n 1, 1) := by decide +kernel
theorem dX4_claim_2 : decode cX4_claim 2 = .ok (.invokevirtual 109, 3) := by decide +kernel
theorem dX4_claim_5 : decode cX4_claim 5 = .ok (.ifCond .ne 6, 3) := by decide +kernel
theorem dX4_claim_8 : decode cX4_claim 8 = .ok (.bipush (-101), 2) := by decide +kernel
theorem dX4_claim_10 : decode cX4_claim 10 = .ok (.ireturn, 1) := by decide +kernel
theorem dX4_claim_11 : decode cX4_claim 11 = .ok (.iload_n 2, 1) := by decide +kernel
theorem dX4_claim_12 : decode cX4_claim 12 = .ok (.i2l, 1) := by decide +kernel
theorem dX4_claim_13 : decode cX4_claim 13 = .ok (.lconst 0, 1) := by decide +kernel
theorem dX4_claim_14 : decode cX4_claim 14 = .ok (.ldc2_w 97, 3) := by decide +kernel
theorem dX4_claim_17 : decode cX4_claim 17 = .ok (.invokestatic 99, 3) := by decide +kernel
theorem dX4_claim_20 : decode cX4_claim 20 = .ok (.ifCond .eq 28, 3) := by decide +kernel
theorem dX4_claim_23 : decode cX4_claim 23 = .ok (.iload_n 3, 1) := by decide +kernel
theorem dX4_claim_24 : decode cX4_claim 24 = .ok (.i2l, 1) := by decide +kernel
theorem dX4_claim_25 : decode cX4_claim 25 = .ok (.lconst 0, 1) := by decide +kernel
theorem dX4_claim_26 : decode cX4_claim 26 = .ok (.ldc2_w 117, 3) := by decide +kernel
theorem dX4_claim_29 : decode cX4_claim 29 = .ok (.invokestatic 99, 3) := by decide +kernel
theorem dX4_claim_32 : decode cX4_claim 32 = .ok (.ifCond .eq 16, 3) := by decide +kernel
theorem dX4_claim_35 : decode cX4_claim 35 = .ok (.iload 4, 2) := by decide +kernel
theorem dX4_claim_37 : decode cX4_claim 37 = .ok (.i2l, 1) := by decide +kernel
theorem dX4_claim_38 : decode cX4_claim 38 = .ok (.lconst 0, 1) := by decide +kernel
theorem dX4_claim_39 : decode cX4_claim 39 = .ok (.ldc2_w 119, 3) := by decide +kernel
theorem dX4_claim_42 : decode cX4_claim 42 = .ok (.invokestatic 99, 3) := by decide +kernel
theorem dX4_claim_45 : decode cX4_claim 45 = .ok (.ifCond .ne 6, 3) := by decide +kernel
theorem dX4_claim_48 : decode cX4_claim 48 = .ok (.bipush (-102), 2) := by decide +kernel
theorem dX4_claim_50 : decode cX4_claim 50 = .ok (.ireturn, 1) := by decide +kernel
theorem dX4_claim_51 : decode cX4_claim 51 = .ok (.iload_n 2, 1) := by decide +kernel
theorem dX4_claim_52 : decode cX4_claim 52 = .ok (.iconst 1, 1) := by decide +kernel
theorem dX4_claim_53 : decode cX4_claim 53 = .ok (.if_icmp .eq 8, 3) := by decide +kernel
theorem dX4_claim_56 : decode cX4_claim 56 = .ok (.iload_n 2, 1) := by decide +kernel
theorem dX4_claim_57 : decode cX4_claim 57 = .ok (.iconst 2, 1) := by decide +kernel
theorem dX4_claim_58 : decode cX4_claim 58 = .ok (.if_icmp .ne 7, 3) := by decide +kernel
theorem dX4_claim_61 : decode cX4_claim 61 = .ok (.iconst 1, 1) := by decide +kernel
theorem dX4_claim_62 : decode cX4_claim 62 = .ok (.goto 4, 3) := by decide +kernel
theorem dX4_claim_65 : decode cX4_claim 65 = .ok (.iconst 0, 1) := by decide +kernel
theorem dX4_claim_66 : decode cX4_claim 66 = .ok (.istore 5, 2) := by decide +kernel
theorem dX4_claim_68 : decode cX4_claim 68 = .ok (.iload_n 3, 1) := by decide +kernel
theorem dX4_claim_69 : decode cX4_claim 69 = .ok (.iconst 2, 1) := by decide +kernel
theorem dX4_claim_70 : decode cX4_claim 70 = .ok (.if_icmp .eq 13, 3) := by decide +kernel
theorem dX4_claim_73 : decode cX4_claim 73 = .ok (.iload_n 3, 1) := by decide +kernel
theorem dX4_claim_74 : decode cX4_claim 74 = .ok (.iconst 1, 1) := by decide +kernel
theorem dX4_claim_75 : decode cX4_claim 75 = .ok (.if_icmp .ne 11, 3) := by decide +kernel
theorem dX4_claim_78 : decode cX4_claim 78 = .ok (.iload 5, 2) := by decide +kernel
theorem dX4_claim_80 : decode cX4_claim 80 = .ok (.ifCond .ne 6, 3) := by decide +kernel
theorem dX4_claim_83 : decode cX4_claim 83 = .ok (.bipush (-105), 2) := by decide +kernel
theorem dX4_claim_85 : decode cX4_claim 85 = .ok (.ireturn, 1) := by decide +kernel
theorem dX4_claim_86 : decode cX4_claim 86 = .ok (.iload 4, 2) := by decide +kernel
theorem dX4_claim_88 : decode cX4_claim 88 = .ok (.aload_n 0, 1) := by decide +kernel
theorem dX4_claim_89 : decode cX4_claim 89 = .ok (.getfield 20, 3) := by decide +kernel
theorem dX4_claim_92 : decode cX4_claim 92 = .ok (.iload_n 1, 1) := by decide +kernel
theorem dX4_claim_93 : decode cX4_claim 93 = .ok (.iaload, 1) := by decide +kernel
theorem dX4_claim_94 : decode cX4_claim 94 = .ok (.aload_n 0, 1) := by decide +kernel
theorem dX4_claim_95 : decode cX4_claim 95 = .ok (.getfield 42, 3) := by decide +kernel
theorem dX4_claim_98 : decode cX4_claim 98 = .ok (.iconst 4, 1) := by decide +kernel
theorem dX4_claim_99 : decode cX4_claim 99 = .ok (.aload_n 0, 1) := by decide +kernel
theorem dX4_claim_100 : decode cX4_claim 100 = .ok (.getfield 7, 3) := by decide +kernel
theorem dX4_claim_103 : decode cX4_claim 103 = .ok (.iload_n 1, 1) := by decide +kernel
theorem dX4_claim_104 : decode cX4_claim 104 = .ok (.iaload, 1) := by decide +kernel
theorem dX4_claim_105 : decode cX4_claim 105 = .ok (.imul, 1) := by decide +kernel
theorem dX4_claim_106 : decode cX4_claim 106 = .ok (.iload_n 2, 1) := by decide +kernel
theorem dX4_claim_107 : decode cX4_claim 107 = .ok (.iadd, 1) := by decide +kernel
theorem dX4_claim_108 : decode cX4_claim 108 = .ok (.iaload, 1) := by decide +kernel
theorem dX4_claim_109 : decode cX4_claim 109 = .ok (.iadd, 1) := by decide +kernel
theorem dX4_claim_110 : decode cX4_claim 110 = .ok (.if_icmp .le 6, 3) := by decide +kernel
theorem dX4_claim_113 : decode cX4_claim 113 = .ok (.bipush (-106), 2) := by decide +kernel
theorem dX4_claim_115 : decode cX4_claim 115 = .ok (.ireturn, 1) := by decide +kernel
theorem dX4_claim_116 : decode cX4_claim 116 = .ok (.aload_n 0, 1) := by decide +kernel
theorem dX4_claim_117 : decode cX4_claim 117 = .ok (.iload_n 1, 1) := by decide +kernel
theorem dX4_claim_118 : decode cX4_claim 118 = .ok (.iload_n 2, 1) := by decide +kernel
theorem dX4_claim_119 : decode cX4_claim 119 = .ok (.iconst 0, 1) := by decide +kernel
theorem dX4_claim_120 : decode cX4_claim 120 = .ok (.invokevirtual 121, 3) := by decide +kernel
theorem dX4_claim_123 : decode cX4_claim 123 = .ok (.ifCond .le 6, 3) := by decide +kernel
theorem dX4_claim_126 : decode cX4_claim 126 = .ok (.bipush (-103), 2) := by decide +kernel
theorem dX4_claim_128 : decode cX4_claim 128 = .ok (.ireturn, 1) := by decide +kernel
theorem dX4_claim_129 : decode cX4_claim 129 = .ok (.aload_n 0, 1) := by decide +kernel
theorem dX4_claim_130 : decode cX4_claim 130 = .ok (.getfield 91, 3) := by decide +kernel
theorem dX4_claim_133 : decode cX4_claim 133 = .ok (.bipush 60, 2) := by decide +kernel
theorem dX4_claim_135 : decode cX4_claim 135 = .ok (.if_icmp .ne 6, 3) := by decide +kernel
theorem dX4_claim_138 : decode cX4_claim 138 = .ok (.bipush (-104), 2) := by decide +kernel
theorem dX4_claim_140 : decode cX4_claim 140 = .ok (.ireturn, 1) := by decide +kernel
theorem dX4_claim_141 : decode cX4_claim 141 = .ok (.aload_n 0, 1) := by decide +kernel
theorem dX4_claim_142 : decode cX4_claim 142 = .ok (.dup, 1) := by decide +kernel
theorem dX4_claim_143 : decode cX4_claim 143 = .ok (.getfield 91, 3) := by decide +kernel
theorem dX4_claim_146 : decode cX4_claim 146 = .ok (.iconst 1, 1) := by decide +kernel
theorem dX4_claim_147 : decode cX4_claim 147 = .ok (.iadd, 1) := by decide +kernel
theorem dX4_claim_148 : decode cX4_claim 148 = .ok (.putfield 91, 3) := by decide +kernel
theorem dX4_claim_151 : decode cX4_claim 151 = .ok (.aload_n 0, 1) := by decide +kernel
theorem dX4_claim_152 : decode cX4_claim 152 = .ok (.getfield 45, 3) := by decide +kernel
theorem dX4_claim_155 : decode cX4_claim 155 = .ok (.aload_n 0, 1) := by decide +kernel
theorem dX4_claim_156 : decode cX4_claim 156 = .ok (.getfield 91, 3) := by decide +kernel
theorem dX4_claim_159 : decode cX4_claim 159 = .ok (.iload_n 1, 1) := by decide +kernel
theorem dX4_claim_160 : decode cX4_claim 160 = .ok (.iastore, 1) := by decide +kernel
theorem dX4_claim_161 : decode cX4_claim 161 = .ok (.aload_n 0, 1) := by decide +kernel
theorem dX4_claim_162 : decode cX4_claim 162 = .ok (.getfield 48, 3) := by decide +kernel
theorem dX4_claim_165 : decode cX4_claim 165 = .ok (.aload_n 0, 1) := by decide +kernel
theorem dX4_claim_166 : decode cX4_claim 166 = .ok (.getfield 91, 3) := by decide +kernel
theorem dX4_claim_169 : decode cX4_claim 169 = .ok (.iload_n 2, 1) := by decide +kernel
theorem dX4_claim_170 : decode cX4_claim 170 = .ok (.iastore, 1) := by decide +kernel
