theorem dX10_setDirections_35 : decode cX10_setDirections 35 = .ok (.getfield 7, 3) := by decide +kernel
theorem dX10_setDirections_38 : decode cX10_setDirections 38 = .ok (.istore_n 2, 1) := by decide +kernel
theorem dX10_setDirections_39 : decode cX10_setDirections 39 = .ok (.aload_n 0, 1) := by decide +kernel
theorem dX10_setDirections_40 : decode cX10_setDirections 40 = .ok (.iload_n 1, 1) := by decide +kernel
theorem dX10_setDirections_41 : decode cX10_setDirections 41 = .ok (.putfield 7, 3) := by decide +kernel
theorem dX10_setDirections_44 : decode cX10_setDirections 44 = .ok (.aload_n 0, 1) := by decide +kernel
theorem dX10_setDirections_45 : decode cX10_setDirections 45 = .ok (.invokevirtual 127, 3) := by decide +kernel
theorem dX10_setDirections_48 : decode cX10_setDirections 48 = .ok (.iload_n 2, 1) := by decide +kernel
theorem dX10_setDirections_49 : decode cX10_setDirections 49 = .ok (.ireturn, 1) := by decide +kernel
theorem dX10_feed_0 : decode cX10_feed 0 = .ok (.aload_n 0, 1) := by decide +kernel
theorem dX10_feed_1 : decode cX10_feed 1 = .ok (.iconst 0, 1) := by decide +kernel
theorem dX10_feed_2 : decode cX10_feed 2 = .ok (.putfield 99, 3) := by decide +kernel
theorem dX10_feed_5 : decode cX10_feed 5 = .ok (.aload_n 0, 1) := by decide +kernel
theorem dX10_feed_6 : decode cX10_feed 6 = .ok (.getfield 17, 3) := by decide +kernel
theorem dX10_feed_9 : decode cX10_feed 9 = .ok (.bipush 8, 2) := by decide +kernel
theorem dX10_feed_11 : decode cX10_feed 11 = .ok (.iaload, 1) := by decide +kernel
theorem dX10_feed_12 : decode cX10_feed 12 = .ok (.bipush 100, 2) := by decide +kernel
theorem dX10_feed_14 : decode cX10_feed 14 = .ok (.if_icmp .ne 9, 3) := by decide +kernel
theorem dX10_feed_17 : decode cX10_feed 17 = .ok (.aload_n 0, 1) := by decide +kernel
theorem dX10_feed_18 : decode cX10_feed 18 = .ok (.iconst 1, 1) := by decide +kernel
theorem dX10_feed_19 : decode cX10_feed 19 = .ok (.invokevirtual 124, 3) := by decide +kernel
theorem dX10_feed_22 : decode cX10_feed 22 = .ok (.ireturn, 1) := by decide +kernel
theorem dX10_feed_23 : decode cX10_feed 23 = .ok (.aload_n 0, 1) := by decide +kernel
theorem dX10_feed_24 : decode cX10_feed 24 = .ok (.getfield 13, 3) := by decide +kernel
theorem dX10_feed_27 : decode cX10_feed 27 = .ok (.sipush 800, 3) := by decide +kernel
theorem dX10_feed_30 : decode cX10_feed 30 = .ok (.aload_n 0, 1) := by decide +kernel
theorem dX10_feed_31 : decode cX10_feed 31 = .ok (.getfield 17, 3) := by decide +kernel
theorem dX10_feed_34 : decode cX10_feed 34 = .ok (.bipush 8, 2) := by decide +kernel
theorem dX10_feed_36 : decode cX10_feed 36 = .ok (.dup2, 1) := by decide +kernel
theorem dX10_feed_37 : decode cX10_feed 37 = .ok (.iaload, 1) := by decide +kernel
theorem dX10_feed_38 : decode cX10_feed 38 = .ok (.dup_x2, 1) := by decide +kernel
theorem dX10_feed_39 : decode cX10_feed 39 = .ok (.iconst 1, 1) := by decide +kernel
theorem dX10_feed_40 : decode cX10_feed 40 = .ok (.iadd, 1) := by decide +kernel
theorem dX10_feed_41 : decode cX10_feed 41 = .ok (.iastore, 1) := by decide +kernel
theorem dX10_feed_42 : decode cX10_feed 42 = .ok (.iadd, 1) := by decide +kernel
theorem dX10_feed_43 : decode cX10_feed 43 = .ok (.iload_n 1, 1) := by decide +kernel
theorem dX10_feed_44 : decode cX10_feed 44 = .ok (.iastore, 1) := by decide +kernel
theorem dX10_feed_45 : decode cX10_feed 45 = .ok (.aload_n 0, 1) := by decide +kernel
theorem dX10_feed_46 : decode cX10_feed 46 = .ok (.getfield 17, 3) := by decide +kernel
theorem dX10_feed_49 : decode cX10_feed 49 = .ok (.bipush 8, 2) := by decide +kernel
theorem dX10_feed_51 : decode cX10_feed 51 = .ok (.iaload, 1) := by decide +kernel
theorem dX10_feed_52 : decode cX10_feed 52 = .ok (.ireturn, 1) := by decide +kernel
theorem dX10_read_0 : decode cX10_read 0 = .ok (.aload_n 0, 1) := by decide +kernel
theorem dX10_read_1 : decode cX10_read 1 = .ok (.getfield 130, 3) := by decide +kernel
theorem dX10_read_4 : decode cX10_read 4 = .ok (.aload_n 0, 1) := by decide +kernel
theorem dX10_read_5 : decode cX10_read 5 = .ok (.getfield 17, 3) := by decide +kernel
theorem dX10_read_8 : decode cX10_read 8 = .ok (.bipush 8, 2) := by decide +kernel
theorem dX10_read_10 : decode cX10_read 10 = .ok (.iaload, 1) := by decide +kernel
theorem dX10_read_11 : decode cX10_read 11 = .ok (.if_icmp .ge 19, 3) := by decide +kernel
theorem dX10_read_14 : decode cX10_read 14 = .ok (.aload_n 0, 1) := by decide +kernel
theorem dX10_read_15 : decode cX10_read 15 = .ok (.getfield 13, 3) := by decide +kernel
theorem dX10_read_18 : decode cX10_read 18 = .ok (.sipush 800, 3) := by decide +kernel
theorem dX10_read_21 : decode cX10_read 21 = .ok (.aload_n 0, 1) := by decide +kernel
theorem dX10_read_22 : decode cX10_read 22 = .ok (.getfield 130, 3) := by decide +kernel
theorem dX10_read_25 : decode cX10_read 25 = .ok (.iadd, 1) := by decide +kernel
theorem dX10_read_26 : decode cX10_read 26 = .ok (.iaload, 1) := by decide +kernel
theorem dX10_read_27 : decode cX10_read 27 = .ok (.goto 4, 3) := by decide +kernel
theorem dX10_read_30 : decode cX10_read 30 = .ok (.iconst (-1), 1) := by decide +kernel
theorem dX10_read_31 : decode cX10_read 31 = .ok (.ireturn, 1) := by decide +kernel
theorem dX10_readsProgram_0 : decode cX10_readsProgram 0 = .ok (.aload_n 0, 1) := by decide +kernel
theorem dX10_readsProgram_1 : decode cX10_readsProgram 1 = .ok (.invokevirtual 141, 3) := by decide +kernel
theorem dX10_readsProgram_4 : decode cX10_readsProgram 4 = .ok (.istore_n 1, 1) := by decide +kernel
theorem dX10_readsProgram_5 : decode cX10_readsProgram 5 = .ok (.iload_n 1, 1) := by decide +kernel
theorem dX10_readsProgram_6 : decode cX10_readsProgram 6 = .ok (.iconst (-1), 1) := by decide +kernel
theorem dX10_readsProgram_7 : decode cX10_readsProgram 7 = .ok (.if_icmp .eq 16, 3) := by decide +kernel
theorem dX10_readsProgram_10 : decode cX10_readsProgram 10 = .ok (.iload_n 1, 1) := by decide +kernel
theorem dX10_readsProgram_11 : decode cX10_readsProgram 11 = .ok (.bipush 41, 2) := by decide +kernel
theorem dX10_readsProgram_13 : decode cX10_readsProgram 13 = .ok (.if_icmp .ne 12, 3) := by decide +kernel
theorem dX10_readsProgram_16 : decode cX10_readsProgram 16 = .ok (.aload_n 0, 1) := by decide +kernel
theorem dX10_readsProgram_17 : decode cX10_readsProgram 17 = .ok (.getfield 149, 3) := by decide +kernel
theorem dX10_readsProgram_20 : decode cX10_readsProgram 20 = .ok (.ifCond .le 5, 3) := by decide +kernel
theorem dX10_readsProgram_23 : decode cX10_readsProgram 23 = .ok (.iconst 1, 1) := by decide +kernel
theorem dX10_readsProgram_24 : decode cX10_readsProgram 24 = .ok (.ireturn, 1) := by decide +kernel
theorem dX10_readsProgram_25 : decode cX10_readsProgram 25 = .ok (.aload_n 0, 1) := by decide +kernel
theorem dX10_readsProgram_26 : decode cX10_readsProgram 26 = .ok (.dup, 1) := by decide +kernel
theorem dX10_readsProgram_27 : decode cX10_readsProgram 27 = .ok (.getfield 152, 3) := by decide +kernel
theorem dX10_readsProgram_30 : decode cX10_readsProgram 30 = .ok (.iconst 1, 1) := by decide +kernel
theorem dX10_readsProgram_31 : decode cX10_readsProgram 31 = .ok (.iadd, 1) := by decide +kernel
theorem dX10_readsProgram_32 : decode cX10_readsProgram 32 = .ok (.putfield 152, 3) := by decide +kernel
theorem dX10_readsProgram_35 : decode cX10_readsProgram 35 = .ok (.iload_n 1, 1) := by decide +kernel
theorem dX10_readsProgram_36 : decode cX10_readsProgram 36 = .ok (.bipush 117, 2) := by decide +kernel
theorem dX10_readsProgram_38 : decode cX10_readsProgram 38 = .ok (.if_icmp .eq 23, 3) := by decide +kernel
theorem dX10_readsProgram_41 : decode cX10_readsProgram 41 = .ok (.iload_n 1, 1) := by decide +kernel
theorem dX10_readsProgram_42 : decode cX10_readsProgram 42 = .ok (.bipush 100, 2) := by decide +kernel
theorem dX10_readsProgram_44 : decode cX10_readsProgram 44 = .ok (.if_icmp .eq 17, 3) := by decide +kernel
theorem dX10_readsProgram_47 : decode cX10_readsProgram 47 = .ok (.iload_n 1, 1) := by decide +kernel
theorem dX10_readsProgram_48 : decode cX10_readsProgram 48 = .ok (.i2l, 1) := by decide +kernel
theorem dX10_readsProgram_49 : decode cX10_readsProgram 49 = .ok (.ldc2_w 155, 3) := by decide +kernel
theorem dX10_readsProgram_52 : decode cX10_readsProgram 52 = .ok (.ldc2_w 157, 3) := by decide +kernel
theorem dX10_readsProgram_55 : decode cX10_readsProgram 55 = .ok (.invokestatic 137, 3) := by decide +kernel
theorem dX10_readsProgram_58 : decode cX10_readsProgram 58 = .ok (.ifCond .eq 16, 3) := by decide +kernel
theorem dX10_readsProgram_61 : decode cX10_readsProgram 61 = .ok (.aload_n 0, 1) := by decide +kernel
theorem dX10_readsProgram_62 : decode cX10_readsProgram 62 = .ok (.dup, 1) := by decide +kernel
theorem dX10_readsProgram_63 : decode cX10_readsProgram 63 = .ok (.getfield 130, 3) := by decide +kernel
theorem dX10_readsProgram_66 : decode cX10_readsProgram 66 = .ok (.iconst 1, 1) := by decide +kernel
theorem dX10_readsProgram_67 : decode cX10_readsProgram 67 = .ok (.iadd, 1) := by decide +kernel
theorem dX10_readsProgram_68 : decode cX10_readsProgram 68 = .ok (.putfield 130, 3) := by decide +kernel
theorem dX10_readsProgram_71 : decode cX10_readsProgram 71 = .ok (.goto 125, 3) := by decide +kernel
theorem dX10_readsProgram_74 : decode cX10_readsProgram 74 = .ok (.iload_n 1, 1) := by decide +kernel
theorem dX10_readsProgram_75 : decode cX10_readsProgram 75 = .ok (.bipush 102, 2) := by decide +kernel
theorem dX10_readsProgram_77 : decode cX10_readsProgram 77 = .ok (.if_icmp .eq 15, 3) := by decide +kernel
theorem dX10_readsProgram_80 : decode cX10_readsProgram 80 = .ok (.iload_n 1, 1) := by decide +kernel
theorem dX10_readsProgram_81 : decode cX10_readsProgram 81 = .ok (.bipush 108, 2) := by decide +kernel
theorem dX10_readsProgram_83 : decode cX10_readsProgram 83 = .ok (.if_icmp .eq 9, 3) := by decide +kernel
theorem dX10_readsProgram_86 : decode cX10_readsProgram 86 = .ok (.iload_n 1, 1) := by decide +kernel
theorem dX10_readsProgram_87 : decode cX10_readsProgram 87 = .ok (.bipush 114, 2) := by decide +kernel
theorem dX10_readsProgram_89 : decode cX10_readsProgram 89 = .ok (.if_icmp .ne 22, 3) := by decide +kernel
theorem dX10_readsProgram_92 : decode cX10_readsProgram 92 = .ok (.aload_n 0, 1) := by decide +kernel
theorem dX10_readsProgram_93 : decode cX10_readsProgram 93 = .ok (.dup, 1) := by decide +kernel
theorem dX10_readsProgram_94 : decode cX10_readsProgram 94 = .ok (.getfield 130, 3) := by decide +kernel
theorem dX10_readsProgram_97 : decode cX10_readsProgram 97 = .ok (.iconst 1, 1) := by decide +kernel
theorem dX10_readsProgram_98 : decode cX10_readsProgram 98 = .ok (.iadd, 1) := by decide +kernel
theorem dX10_readsProgram_99 : decode cX10_readsProgram 99 = .ok (.putfield 130, 3) := by decide +kernel
theorem dX10_readsProgram_102 : decode cX10_readsProgram 102 = .ok (.aload_n 0, 1) := by decide +kernel
theorem dX10_readsProgram_103 : decode cX10_readsProgram 103 = .ok (.invokevirtual 159, 3) := by decide +kernel
theorem dX10_readsProgram_106 : decode cX10_readsProgram 106 = .ok (.ifCond .ne 90, 3) := by decide +kernel
theorem dX10_readsProgram_109 : decode cX10_readsProgram 109 = .ok (.iconst 0, 1) := by decide +kernel
theorem dX10_readsProgram_110 : decode cX10_readsProgram 110 = .ok (.ireturn, 1) := by decide +kernel
theorem dX10_readsProgram_111 : decode cX10_readsProgram 111 = .ok (.aload_n 0, 1) := by decide +kernel
theorem dX10_readsProgram_112 : decode cX10_readsProgram 112 = .ok (.invokevirtual 159, 3) := by decide +kernel
theorem dX10_readsProgram_115 : decode cX10_readsProgram 115 = .ok (.ifCond .eq 21, 3) := by decide +kernel
theorem dX10_readsProgram_118 : decode cX10_readsProgram 118 = .ok (.aload_n 0, 1) := by decide +kernel
theorem dX10_readsProgram_119 : decode cX10_readsProgram 119 = .ok (.invokevirtual 141, 3) := by decide +kernel
theorem dX10_readsProgram_122 : decode cX10_readsProgram 122 = .ok (.bipush 40, 2) := by decide +kernel
theorem dX10_readsProgram_124 : decode cX10_readsProgram 124 = .ok (.if_icmp .ne 12, 3) := by decide +kernel
theorem dX10_readsProgram_127 : decode cX10_readsProgram 127 = .ok (.aload_n 0, 1) := by decide +kernel
theorem dX10_readsProgram_128 : decode cX10_readsProgram 128 = .ok (.getfield 149, 3) := by decide +kernel
theorem dX10_readsProgram_131 : decode cX10_readsProgram 131 = .ok (.bipush 6, 2) := by decide +kernel
theorem dX10_readsProgram_133 : decode cX10_readsProgram 133 = .ok (.if_icmp .ne 5, 3) := by decide +kernel
theorem dX10_readsProgram_136 : decode cX10_readsProgram 136 = .ok (.iconst 0, 1) := by decide +kernel
theorem dX10_readsProgram_137 : decode cX10_readsProgram 137 = .ok (.ireturn, 1) := by decide +kernel
theorem dX10_readsProgram_138 : decode cX10_readsProgram 138 = .ok (.aload_n 0, 1) := by decide +kernel
theorem dX10_readsProgram_139 : decode cX10_readsProgram 139 = .ok (.dup, 1) := by decide +kernel
theorem dX10_readsProgram_140 : decode cX10_readsProgram 140 = .ok (.getfield 130, 3) := by decide +kernel
theorem dX10_readsProgram_143 : decode cX10_readsProgram 143 = .ok (.iconst 1, 1) := by decide +kernel
theorem dX10_readsProgram_144 : decode cX10_readsProgram 144 = .ok (.iadd, 1) := by decide +kernel
theorem dX10_readsProgram_145 : decode cX10_readsProgram 145 = .ok (.putfield 130, 3) := by decide +kernel
theorem dX10_readsProgram_148 : decode cX10_readsProgram 148 = .ok (.aload_n 0, 1) := by decide +kernel
theorem dX10_readsProgram_149 : decode cX10_readsProgram 149 = .ok (.dup, 1) := by decide +kernel
theorem dX10_readsProgram_150 : decode cX10_readsProgram 150 = .ok (.getfield 149, 3) := by decide +kernel
theorem dX10_readsProgram_153 : decode cX10_readsProgram 153 = .ok (.iconst 1, 1) := by decide +kernel
theorem dX10_readsProgram_154 : decode cX10_readsProgram 154 = .ok (.iadd, 1) := by decide +kernel
theorem dX10_readsProgram_155 : decode cX10_readsProgram 155 = .ok (.putfield 149, 3) := by decide +kernel
theorem dX10_readsProgram_158 : decode cX10_readsProgram 158 = .ok (.aload_n 0, 1) := by decide +kernel
theorem dX10_readsProgram_159 : decode cX10_readsProgram 159 = .ok (.invokevirtual 163, 3) := by decide +kernel
theorem dX10_readsProgram_162 : decode cX10_readsProgram 162 = .ok (.ifCond .eq 12, 3) := by decide +kernel
theorem dX10_readsProgram_165 : decode cX10_readsProgram 165 = .ok (.aload_n 0, 1) := by decide +kernel
theorem dX10_readsProgram_166 : decode cX10_readsProgram 166 = .ok (.invokevirtual 141, 3) := by decide +kernel
theorem dX10_readsProgram_169 : decode cX10_readsProgram 169 = .ok (.bipush 41, 2) := by decide +kernel
theorem dX10_readsProgram_171 : decode cX10_readsProgram 171 = .ok (.if_icmp .eq 5, 3) := by decide +kernel
theorem dX10_readsProgram_174 : decode cX10_readsProgram 174 = .ok (.iconst 0, 1) := by decide +kernel
theorem dX10_readsProgram_175 : decode cX10_readsProgram 175 = .ok (.ireturn, 1) := by decide +kernel
theorem dX10_readsProgram_176 : decode cX10_readsProgram 176 = .ok (.aload_n 0, 1) := by decide +kernel
theorem dX10_readsProgram_177 : decode cX10_readsProgram 177 = .ok (.dup, 1) := by decide +kernel
theorem dX10_readsProgram_178 : decode cX10_readsProgram 178 = .ok (.getfield 130, 3) := by decide +kernel
theorem dX10_readsProgram_181 : decode cX10_readsProgram 181 = .ok (.iconst 1, 1) := by decide +kernel
theorem dX10_readsProgram_182 : decode cX10_readsProgram 182 = .ok (.iadd, 1) := by decide +kernel
theorem dX10_readsProgram_183 : decode cX10_readsProgram 183 = .ok (.putfield 130, 3) := by decide +kernel
theorem dX10_readsProgram_186 : decode cX10_readsProgram 186 = .ok (.aload_n 0, 1) := by decide +kernel
theorem dX10_readsProgram_187 : decode cX10_readsProgram 187 = .ok (.dup, 1) := by decide +kernel
theorem dX10_readsProgram_188 : decode cX10_readsProgram 188 = .ok (.getfield 149, 3) := by decide +kernel
theorem dX10_readsProgram_191 : decode cX10_readsProgram 191 = .ok (.iconst 1, 1) := by decide +kernel
theorem dX10_readsProgram_192 : decode cX10_readsProgram 192 = .ok (.isub, 1) := by decide +kernel
theorem dX10_readsProgram_193 : decode cX10_readsProgram 193 = .ok (.putfield 149, 3) := by decide +kernel
theorem dX10_readsProgram_196 : decode cX10_readsProgram 196 = .ok (.goto (-196), 3) := by decide +kernel
theorem dX10_isProgram_0 : decode cX10_isProgram 0 = .ok (.aload_n 0, 1) := by decide +kernel
theorem dX10_isProgram_1 : decode cX10_isProgram 1 = .ok (.iconst 0, 1) := by decide +kernel
theorem dX10_isProgram_2 : decode cX10_isProgram 2 = .ok (.putfield 130, 3) := by decide +kernel
theorem dX10_isProgram_5 : decode cX10_isProgram 5 = .ok (.aload_n 0, 1) := by decide +kernel
theorem dX10_isProgram_6 : decode cX10_isProgram 6 = .ok (.iconst 0, 1) := by decide +kernel
theorem dX10_isProgram_7 : decode cX10_isProgram 7 = .ok (.putfield 149, 3) := by decide +kernel
theorem dX10_isProgram_10 : decode cX10_isProgram 10 = .ok (.aload_n 0, 1) := by decide +kernel
theorem dX10_isProgram_11 : decode cX10_isProgram 11 = .ok (.iconst 0, 1) := by decide +kernel
theorem dX10_isProgram_12 : decode cX10_isProgram 12 = .ok (.putfield 152, 3) := by decide +kernel
theorem dX10_isProgram_15 : decode cX10_isProgram 15 = .ok (.aload_n 0, 1) := by decide +kernel
theorem dX10_isProgram_16 : decode cX10_isProgram 16 = .ok (.invokevirtual 163, 3) := by decide +kernel
theorem dX10_isProgram_19 : decode cX10_isProgram 19 = .ok (.ifCond .eq 21, 3) := by decide +kernel
theorem dX10_isProgram_22 : decode cX10_isProgram 22 = .ok (.aload_n 0, 1) := by decide +kernel
theorem dX10_isProgram_23 : decode cX10_isProgram 23 = .ok (.getfield 130, 3) := by decide +kernel
theorem dX10_isProgram_26 : decode cX10_isProgram 26 = .ok (.aload_n 0, 1) := by decide +kernel
theorem dX10_isProgram_27 : decode cX10_isProgram 27 = .ok (.getfield 17, 3) := by decide +kernel
theorem dX10_isProgram_30 : decode cX10_isProgram 30 = .ok (.bipush 8, 2) := by decide +kernel
theorem dX10_isProgram_32 : decode cX10_isProgram 32 = .ok (.iaload, 1) := by decide +kernel
theorem dX10_isProgram_33 : decode cX10_isProgram 33 = .ok (.if_icmp .ne 7, 3) := by decide +kernel
theorem dX10_isProgram_36 : decode cX10_isProgram 36 = .ok (.iconst 1, 1) := by decide +kernel
theorem dX10_isProgram_37 : decode cX10_isProgram 37 = .ok (.goto 4, 3) := by decide +kernel
theorem dX10_isProgram_40 : decode cX10_isProgram 40 = .ok (.iconst 0, 1) := by decide +kernel
theorem dX10_isProgram_41 : decode cX10_isProgram 41 = .ok (.ireturn, 1) := by decide +kernel
theorem dX10_define_0 : decode cX10_define 0 = .ok (.aload_n 0, 1) := by decide +kernel
theorem dX10_define_1 : decode cX10_define 1 = .ok (.iconst 0, 1) := by decide +kernel
theorem dX10_define_2 : decode cX10_define 2 = .ok (.putfield 99, 3) := by decide +kernel
theorem dX10_define_5 : decode cX10_define 5 = .ok (.iload_n 1, 1) := by decide +kernel
theorem dX10_define_6 : decode cX10_define 6 = .ok (.i2l, 1) := by decide +kernel
theorem dX10_define_7 : decode cX10_define 7 = .ok (.ldc2_w 155, 3) := by decide +kernel
theorem dX10_define_10 : decode cX10_define 10 = .ok (.ldc2_w 157, 3) := by decide +kernel
theorem dX10_define_13 : decode cX10_define 13 = .ok (.invokestatic 137, 3) := by decide +kernel
theorem dX10_define_16 : decode cX10_define 16 = .ok (.ifCond .ne 9, 3) := by decide +kernel
theorem dX10_define_19 : decode cX10_define 19 = .ok (.aload_n 0, 1) := by decide +kernel
theorem dX10_define_20 : decode cX10_define 20 = .ok (.iconst 1, 1) := by decide +kernel
theorem dX10_define_21 : decode cX10_define 21 = .ok (.invokevirtual 124, 3) := by decide +kernel
theorem dX10_define_24 : decode cX10_define 24 = .ok (.ireturn, 1) := by decide +kernel
theorem dX10_define_25 : decode cX10_define 25 = .ok (.aload_n 0, 1) := by decide +kernel
theorem dX10_define_26 : decode cX10_define 26 = .ok (.invokevirtual 166, 3) := by decide +kernel
theorem dX10_define_29 : decode cX10_define 29 = .ok (.istore_n 2, 1) := by decide +kernel
theorem dX10_define_30 : decode cX10_define 30 = .ok (.aload_n 0, 1) := by decide +kernel
theorem dX10_define_31 : decode cX10_define 31 = .ok (.getfield 17, 3) := by decide +kernel
theorem dX10_define_34 : decode cX10_define 34 = .ok (.bipush 8, 2) := by decide +kernel
theorem dX10_define_36 : decode cX10_define 36 = .ok (.iaload, 1) := by decide +kernel
theorem dX10_define_37 : decode cX10_define 37 = .ok (.istore_n 3, 1) := by decide +kernel
theorem dX10_define_38 : decode cX10_define 38 = .ok (.aload_n 0, 1) := by decide +kernel
theorem dX10_define_39 : decode cX10_define 39 = .ok (.getfield 17, 3) := by decide +kernel
theorem dX10_define_42 : decode cX10_define 42 = .ok (.bipush 8, 2) := by decide +kernel
theorem dX10_define_44 : decode cX10_define 44 = .ok (.iconst 0, 1) := by decide +kernel
theorem dX10_define_45 : decode cX10_define 45 = .ok (.iastore, 1) := by decide +kernel
theorem dX10_define_46 : decode cX10_define 46 = .ok (.iload_n 2, 1) := by decide +kernel
theorem dX10_define_47 : decode cX10_define 47 = .ok (.ifCond .ne 11, 3) := by decide +kernel
theorem dX10_define_50 : decode cX10_define 50 = .ok (.bipush (-100), 2) := by decide +kernel
theorem dX10_define_52 : decode cX10_define 52 = .ok (.aload_n 0, 1) := by decide +kernel
theorem dX10_define_53 : decode cX10_define 53 = .ok (.getfield 130, 3) := by decide +kernel
theorem dX10_define_56 : decode cX10_define 56 = .ok (.isub, 1) := by decide +kernel
theorem dX10_define_57 : decode cX10_define 57 = .ok (.ireturn, 1) := by decide +kernel
theorem dX10_define_58 : decode cX10_define 58 = .ok (.iload_n 1, 1) := by decide +kernel
theorem dX10_define_59 : decode cX10_define 59 = .ok (.bipush 65, 2) := by decide +kernel
theorem dX10_define_61 : decode cX10_define 61 = .ok (.isub, 1) := by decide +kernel
theorem dX10_define_62 : decode cX10_define 62 = .ok (.istore 4, 2) := by decide +kernel
theorem dX10_define_64 : decode cX10_define 64 = .ok (.aload_n 0, 1) := by decide +kernel
theorem dX10_define_65 : decode cX10_define 65 = .ok (.getfield 17, 3) := by decide +kernel
theorem dX10_define_68 : decode cX10_define 68 = .ok (.iload 4, 2) := by decide +kernel
theorem dX10_define_70 : decode cX10_define 70 = .ok (.iload_n 3, 1) := by decide +kernel
theorem dX10_define_71 : decode cX10_define 71 = .ok (.iastore, 1) := by decide +kernel
theorem dX10_define_72 : decode cX10_define 72 = .ok (.iconst 0, 1) := by decide +kernel
theorem dX10_define_73 : decode cX10_define 73 = .ok (.istore 5, 2) := by decide +kernel
theorem dX10_define_75 : decode cX10_define 75 = .ok (.iload 5, 2) := by decide +kernel
theorem dX10_define_77 : decode cX10_define 77 = .ok (.iload_n 3, 1) := by decide +kernel
theorem dX10_define_78 : decode cX10_define 78 = .ok (.if_icmp .ge 33, 3) := by decide +kernel
theorem dX10_define_81 : decode cX10_define 81 = .ok (.aload_n 0, 1) := by decide +kernel
theorem dX10_define_82 : decode cX10_define 82 = .ok (.getfield 13, 3) := by decide +kernel
theorem dX10_define_85 : decode cX10_define 85 = .ok (.iload 4, 2) := by decide +kernel
theorem dX10_define_87 : decode cX10_define 87 = .ok (.bipush 100, 2) := by decide +kernel
theorem dX10_define_89 : decode cX10_define 89 = .ok (.imul, 1) := by decide +kernel
theorem dX10_define_90 : decode cX10_define 90 = .ok (.iload 5, 2) := by decide +kernel
theorem dX10_define_92 : decode cX10_define 92 = .ok (.iadd, 1) := by decide +kernel
theorem dX10_define_93 : decode cX10_define 93 = .ok (.aload_n 0, 1) := by decide +kernel
theorem dX10_define_94 : decode cX10_define 94 = .ok (.getfield 13, 3) := by decide +kernel
theorem dX10_define_97 : decode cX10_define 97 = .ok (.sipush 800, 3) := by decide +kernel
theorem dX10_define_100 : decode cX10_define 100 = .ok (.iload 5, 2) := by decide +kernel
theorem dX10_define_102 : decode cX10_define 102 = .ok (.iadd, 1) := by decide +kernel
theorem dX10_define_103 : decode cX10_define 103 = .ok (.iaload, 1) := by decide +kernel
theorem dX10_define_104 : decode cX10_define 104 = .ok (.iastore, 1) := by decide +kernel
theorem dX10_define_105 : decode cX10_define 105 = .ok (.iinc 5 1, 3) := by decide +kernel
theorem dX10_define_108 : decode cX10_define 108 = .ok (.goto (-33), 3) := by decide +kernel
theorem dX10_define_111 : decode cX10_define 111 = .ok (.aload_n 0, 1) := by decide +kernel
theorem dX10_define_112 : decode cX10_define 112 = .ok (.getfield 152, 3) := by decide +kernel
theorem dX10_define_115 : decode cX10_define 115 = .ok (.ireturn, 1) := by decide +kernel
theorem dX10_undefine_0 : decode cX10_undefine 0 = .ok (.aload_n 0, 1) := by decide +kernel
theorem dX10_undefine_1 : decode cX10_undefine 1 = .ok (.iconst 0, 1) := by decide +kernel
theorem dX10_undefine_2 : decode cX10_undefine 2 = .ok (.putfield 99, 3) := by decide +kernel
theorem dX10_undefine_5 : decode cX10_undefine 5 = .ok (.iload_n 1, 1) := by decide +kernel
theorem dX10_undefine_6 : decode cX10_undefine 6 = .ok (.i2l, 1) := by decide +kernel
theorem dX10_undefine_7 : decode cX10_undefine 7 = .ok (.ldc2_w 155, 3) := by decide +kernel
theorem dX10_undefine_10 : decode cX10_undefine 10 = .ok (.ldc2_w 157, 3) := by decide +kernel
theorem dX10_undefine_13 : decode cX10_undefine 13 = .ok (.invokestatic 137, 3) := by decide +kernel
theorem dX10_undefine_16 : decode cX10_undefine 16 = .ok (.ifCond .ne 10, 3) := by decide +kernel
theorem dX10_undefine_19 : decode cX10_undefine 19 = .ok (.aload_n 0, 1) := by decide +kernel
theorem dX10_undefine_20 : decode cX10_undefine 20 = .ok (.iconst 1, 1) := by decide +kernel
theorem dX10_undefine_21 : decode cX10_undefine 21 = .ok (.putfield 99, 3) := by decide +kernel
theorem dX10_undefine_24 : decode cX10_undefine 24 = .ok (.iconst 0, 1) := by decide +kernel
theorem dX10_undefine_25 : decode cX10_undefine 25 = .ok (.ireturn, 1) := by decide +kernel
theorem dX10_undefine_26 : decode cX10_undefine 26 = .ok (.aload_n 0, 1) := by decide +kernel
theorem dX10_undefine_27 : decode cX10_undefine 27 = .ok (.getfield 17, 3) := by decide +kernel
theorem dX10_undefine_30 : decode cX10_undefine 30 = .ok (.iload_n 1, 1) := by decide +kernel
theorem dX10_undefine_31 : decode cX10_undefine 31 = .ok (.bipush 65, 2) := by decide +kernel
theorem dX10_undefine_33 : decode cX10_undefine 33 = .ok (.isub, 1) := by decide +kernel
theorem dX10_undefine_34 : decode cX10_undefine 34 = .ok (.iaload, 1) := by decide +kernel
theorem dX10_undefine_35 : decode cX10_undefine 35 = .ok (.iconst (-1), 1) := by decide +kernel
theorem dX10_undefine_36 : decode cX10_undefine 36 = .ok (.if_icmp .eq 7, 3) := by decide +kernel
theorem dX10_undefine_39 : decode cX10_undefine 39 = .ok (.iconst 1, 1) := by decide +kernel
theorem dX10_undefine_40 : decode cX10_undefine 40 = .ok (.goto 4, 3) := by decide +kernel
theorem dX10_undefine_43 : decode cX10_undefine 43 = .ok (.iconst 0, 1) := by decide +kernel
theorem dX10_undefine_44 : decode cX10_undefine 44 = .ok (.istore_n 2, 1) := by decide +kernel
theorem dX10_undefine_45 : decode cX10_undefine 45 = .ok (.aload_n 0, 1) := by decide +kernel
theorem dX10_undefine_46 : decode cX10_undefine 46 = .ok (.getfield 17, 3) := by decide +kernel
theorem dX10_undefine_49 : decode cX10_undefine 49 = .ok (.iload_n 1, 1) := by decide +kernel
theorem dX10_undefine_50 : decode cX10_undefine 50 = .ok (.bipush 65, 2) := by decide +kernel
theorem dX10_undefine_52 : decode cX10_undefine 52 = .ok (.isub, 1) := by decide +kernel
theorem dX10_undefine_53 : decode cX10_undefine 53 = .ok (.iconst (-1), 1) := by decide +kernel
theorem dX10_undefine_54 : decode cX10_undefine 54 = .ok (.iastore, 1) := by decide +kernel
theorem dX10_undefine_55 : decode cX10_undefine 55 = .ok (.iload_n 2, 1) := by decide +kernel
theorem dX10_undefine_56 : decode cX10_undefine 56 = .ok (.ireturn, 1) := by decide +kernel
theorem dX10_character_0 : decode cX10_character 0 = .ok (.iload_n 2, 1) := by decide +kernel
theorem dX10_character_1 : decode cX10_character 1 = .ok (.aload_n 0, 1) := by decide +kernel
theorem dX10_character_2 : decode cX10_character 2 = .ok (.getfield 17, 3) := by decide +kernel
theorem dX10_character_5 : decode cX10_character 5 = .ok (.iload_n 1, 1) := by decide +kernel
theorem dX10_character_6 : decode cX10_character 6 = .ok (.iaload, 1) := by decide +kernel
theorem dX10_character_7 : decode cX10_character 7 = .ok (.if_icmp .ge 17, 3) := by decide +kernel
theorem dX10_character_10 : decode cX10_character 10 = .ok (.aload_n 0, 1) := by decide +kernel
theorem dX10_character_11 : decode cX10_character 11 = .ok (.getfield 13, 3) := by decide +kernel
theorem dX10_character_14 : decode cX10_character 14 = .ok (.iload_n 1, 1) := by decide +kernel
theorem dX10_character_15 : decode cX10_character 15 = .ok (.bipush 100, 2) := by decide +kernel
theorem dX10_character_17 : decode cX10_character 17 = .ok (.imul, 1) := by decide +kernel
theorem dX10_character_18 : decode cX10_character 18 = .ok (.iload_n 2, 1) := by decide +kernel
theorem dX10_character_19 : decode cX10_character 19 = .ok (.iadd, 1) := by decide +kernel
theorem dX10_character_20 : decode cX10_character 20 = .ok (.iaload, 1) := by decide +kernel
theorem dX10_character_21 : decode cX10_character 21 = .ok (.goto 4, 3) := by decide +kernel
theorem dX10_character_24 : decode cX10_character 24 = .ok (.iconst (-1), 1) := by decide +kernel
theorem dX10_character_25 : decode cX10_character 25 = .ok (.ireturn, 1) := by decide +kernel
theorem dX10_executes_0 : decode cX10_executes 0 = .ok (.iload_n 2, 1) := by decide +kernel
theorem dX10_executes_1 : decode cX10_executes 1 = .ok (.istore_n 3, 1) := by decide +kernel
theorem dX10_executes_2 : decode cX10_executes 2 = .ok (.aload_n 0, 1) := by decide +kernel
theorem dX10_executes_3 : decode cX10_executes 3 = .ok (.getfield 172, 3) := by decide +kernel
theorem dX10_executes_6 : decode cX10_executes 6 = .ok (.ifCond .ne 230, 3) := by decide +kernel
theorem dX10_executes_9 : decode cX10_executes 9 = .ok (.aload_n 0, 1) := by decide +kernel
theorem dX10_executes_10 : decode cX10_executes 10 = .ok (.iload_n 1, 1) := by decide +kernel
theorem dX10_executes_11 : decode cX10_executes 11 = .ok (.iload_n 3, 1) := by decide +kernel
theorem dX10_executes_12 : decode cX10_executes 12 = .ok (.invokevirtual 205, 3) := by decide +kernel
theorem dX10_executes_15 : decode cX10_executes 15 = .ok (.istore 4, 2) := by decide +kernel
theorem dX10_executes_17 : decode cX10_executes 17 = .ok (.iload 4, 2) := by decide +kernel
theorem dX10_executes_19 : decode cX10_executes 19 = .ok (.iconst (-1), 1) := by decide +kernel
theorem dX10_executes_20 : decode cX10_executes 20 = .ok (.if_icmp .eq 10, 3) := by decide +kernel
theorem dX10_executes_23 : decode cX10_executes 23 = .ok (.iload 4, 2) := by decide +kernel
theorem dX10_executes_25 : decode cX10_executes 25 = .ok (.bipush 41, 2) := by decide +kernel
theorem dX10_executes_27 : decode cX10_executes 27 = .ok (.if_icmp .ne 5, 3) := by decide +kernel
theorem dX10_executes_30 : decode cX10_executes 30 = .ok (.iload_n 3, 1) := by decide +kernel
theorem dX10_executes_31 : decode cX10_executes 31 = .ok (.ireturn, 1) := by decide +kernel
theorem dX10_executes_32 : decode cX10_executes 32 = .ok (.iload 4, 2) := by decide +kernel
theorem dX10_executes_34 : decode cX10_executes 34 = .ok (.i2l, 1) := by decide +kernel
theorem dX10_executes_35 : decode cX10_executes 35 = .ok (.ldc2_w 155, 3) := by decide +kernel
theorem dX10_executes_38 : decode cX10_executes 38 = .ok (.ldc2_w 157, 3) := by decide +kernel
theorem dX10_executes_41 : decode cX10_executes 41 = .ok (.invokestatic 137, 3) := by decide +kernel
theorem dX10_executes_44 : decode cX10_executes 44 = .ok (.ifCond .eq 18, 3) := by decide +kernel
theorem dX10_executes_47 : decode cX10_executes 47 = .ok (.aload_n 0, 1) := by decide +kernel
theorem dX10_executes_48 : decode cX10_executes 48 = .ok (.iload 4, 2) := by decide +kernel
theorem dX10_executes_50 : decode cX10_executes 50 = .ok (.bipush 65, 2) := by decide +kernel
theorem dX10_executes_52 : decode cX10_executes 52 = .ok (.isub, 1) := by decide +kernel
theorem dX10_executes_53 : decode cX10_executes 53 = .ok (.invokevirtual 208, 3) := by decide +kernel
theorem dX10_executes_56 : decode cX10_executes 56 = .ok (.iinc 3 1, 3) := by decide +kernel
theorem dX10_executes_59 : decode cX10_executes 59 = .ok (.goto (-57), 3) := by decide +kernel
theorem dX10_executes_62 : decode cX10_executes 62 = .ok (.iload 4, 2) := by decide +kernel
theorem dX10_executes_64 : decode cX10_executes 64 = .ok (.invokestatic 145, 3) := by decide +kernel
theorem dX10_executes_67 : decode cX10_executes 67 = .ok (.ifCond .ne 7, 3) := by decide +kernel
theorem dX10_executes_70 : decode cX10_executes 70 = .ok (.iconst 1, 1) := by decide +kernel
theorem dX10_executes_71 : decode cX10_executes 71 = .ok (.goto 4, 3) := by decide +kernel
theorem dX10_executes_74 : decode cX10_executes 74 = .ok (.iconst 0, 1) := by decide +kernel
theorem dX10_executes_75 : decode cX10_executes 75 = .ok (.istore 5, 2) := by decide +kernel
theorem dX10_executes_77 : decode cX10_executes 77 = .ok (.iload 5, 2) := by decide +kernel
theorem dX10_executes_79 : decode cX10_executes 79 = .ok (.ifCond .eq 6, 3) := by decide +kernel
theorem dX10_executes_82 : decode cX10_executes 82 = .ok (.iinc 3 1, 3) := by decide +kernel
theorem dX10_executes_85 : decode cX10_executes 85 = .ok (.iconst 0, 1) := by decide +kernel
theorem dX10_executes_86 : decode cX10_executes 86 = .ok (.istore 6, 2) := by decide +kernel
theorem dX10_executes_88 : decode cX10_executes 88 = .ok (.iload_n 3, 1) := by decide +kernel
theorem dX10_executes_89 : decode cX10_executes 89 = .ok (.istore 7, 2) := by decide +kernel
theorem dX10_executes_91 : decode cX10_executes 91 = .ok (.iload 4, 2) := by decide +kernel
theorem dX10_executes_93 : decode cX10_executes 93 = .ok (.bipush 117, 2) := by decide +kernel
theorem dX10_executes_95 : decode cX10_executes 95 = .ok (.if_icmp .eq 53, 3) := by decide +kernel
theorem dX10_executes_98 : decode cX10_executes 98 = .ok (.iload 4, 2) := by decide +kernel
theorem dX10_executes_100 : decode cX10_executes 100 = .ok (.bipush 100, 2) := by decide +kernel
theorem dX10_executes_102 : decode cX10_executes 102 = .ok (.if_icmp .eq 46, 3) := by decide +kernel
theorem dX10_executes_105 : decode cX10_executes 105 = .ok (.iload_n 3, 1) := by decide +kernel
theorem dX10_executes_106 : decode cX10_executes 106 = .ok (.iload 7, 2) := by decide +kernel
theorem dX10_executes_108 : decode cX10_executes 108 = .ok (.isub, 1) := by decide +kernel
theorem dX10_executes_109 : decode cX10_executes 109 = .ok (.iconst 4, 1) := by decide +kernel
theorem dX10_executes_110 : decode cX10_executes 110 = .ok (.if_icmp .ge 38, 3) := by decide +kernel
theorem dX10_executes_113 : decode cX10_executes 113 = .ok (.aload_n 0, 1) := by decide +kernel
theorem dX10_executes_114 : decode cX10_executes 114 = .ok (.iload_n 1, 1) := by decide +kernel
theorem dX10_executes_115 : decode cX10_executes 115 = .ok (.iload_n 3, 1) := by decide +kernel
theorem dX10_executes_116 : decode cX10_executes 116 = .ok (.invokevirtual 205, 3) := by decide +kernel
theorem dX10_executes_119 : decode cX10_executes 119 = .ok (.invokestatic 145, 3) := by decide +kernel
theorem dX10_executes_122 : decode cX10_executes 122 = .ok (.ifCond .eq 26, 3) := by decide +kernel
theorem dX10_executes_125 : decode cX10_executes 125 = .ok (.bipush 10, 2) := by decide +kernel
theorem dX10_executes_127 : decode cX10_executes 127 = .ok (.iload 6, 2) := by decide +kernel
theorem dX10_executes_129 : decode cX10_executes 129 = .ok (.imul, 1) := by decide +kernel
theorem dX10_executes_130 : decode cX10_executes 130 = .ok (.aload_n 0, 1) := by decide +kernel
theorem dX10_executes_131 : decode cX10_executes 131 = .ok (.iload_n 1, 1) := by decide +kernel
theorem dX10_executes_132 : decode cX10_executes 132 = .ok (.iload_n 3, 1) := by decide +kernel
theorem dX10_executes_133 : decode cX10_executes 133 = .ok (.iinc 3 1, 3) := by decide +kernel
theorem dX10_executes_136 : decode cX10_executes 136 = .ok (.invokevirtual 205, 3) := by decide +kernel
theorem dX10_executes_139 : decode cX10_executes 139 = .ok (.iadd, 1) := by decide +kernel
theorem dX10_executes_140 : decode cX10_executes 140 = .ok (.bipush 48, 2) := by decide +kernel
theorem dX10_executes_142 : decode cX10_executes 142 = .ok (.isub, 1) := by decide +kernel
theorem dX10_executes_143 : decode cX10_executes 143 = .ok (.istore 6, 2) := by decide +kernel
theorem dX10_executes_145 : decode cX10_executes 145 = .ok (.goto (-54), 3) := by decide +kernel
theorem dX10_executes_148 : decode cX10_executes 148 = .ok (.iload 5, 2) := by decide +kernel
theorem dX10_executes_150 : decode cX10_executes 150 = .ok (.ifCond .eq 14, 3) := by decide +kernel
theorem dX10_executes_153 : decode cX10_executes 153 = .ok (.aload_n 0, 1) := by decide +kernel
theorem dX10_executes_154 : decode cX10_executes 154 = .ok (.iload 4, 2) := by decide +kernel
theorem dX10_executes_156 : decode cX10_executes 156 = .ok (.iload 6, 2) := by decide +kernel
theorem dX10_executes_158 : decode cX10_executes 158 = .ok (.invokevirtual 212, 3) := by decide +kernel
theorem dX10_executes_161 : decode cX10_executes 161 = .ok (.goto (-159), 3) := by decide +kernel
theorem dX10_executes_164 : decode cX10_executes 164 = .ok (.iinc 3 1, 3) := by decide +kernel
theorem dX10_executes_167 : decode cX10_executes 167 = .ok (.iconst 0, 1) := by decide +kernel
theorem dX10_executes_168 : decode cX10_executes 168 = .ok (.istore 8, 2) := by decide +kernel
theorem dX10_executes_170 : decode cX10_executes 170 = .ok (.iload 8, 2) := by decide +kernel
theorem dX10_executes_172 : decode cX10_executes 172 = .ok (.iload 6, 2) := by decide +kernel
theorem dX10_executes_174 : decode cX10_executes 174 = .ok (.if_icmp .ge 52, 3) := by decide +kernel
theorem dX10_executes_177 : decode cX10_executes 177 = .ok (.aload_n 0, 1) := by decide +kernel
theorem dX10_executes_178 : decode cX10_executes 178 = .ok (.getfield 172, 3) := by decide +kernel
theorem dX10_executes_181 : decode cX10_executes 181 = .ok (.ifCond .ne 45, 3) := by decide +kernel
theorem dX10_executes_184 : decode cX10_executes 184 = .ok (.aload_n 0, 1) := by decide +kernel
theorem dX10_executes_185 : decode cX10_executes 185 = .ok (.getfield 216, 3) := by decide +kernel
theorem dX10_executes_188 : decode cX10_executes 188 = .ok (.sipush 2000, 3) := by decide +kernel
theorem dX10_executes_191 : decode cX10_executes 191 = .ok (.if_icmp .ne 11, 3) := by decide +kernel
theorem dX10_executes_194 : decode cX10_executes 194 = .ok (.aload_n 0, 1) := by decide +kernel
theorem dX10_executes_195 : decode cX10_executes 195 = .ok (.iconst 2, 1) := by decide +kernel
theorem dX10_executes_196 : decode cX10_executes 196 = .ok (.putfield 172, 3) := by decide +kernel
theorem dX10_executes_199 : decode cX10_executes 199 = .ok (.goto 21, 3) := by decide +kernel
theorem dX10_executes_202 : decode cX10_executes 202 = .ok (.aload_n 0, 1) := by decide +kernel
theorem dX10_executes_203 : decode cX10_executes 203 = .ok (.dup, 1) := by decide +kernel
theorem dX10_executes_204 : decode cX10_executes 204 = .ok (.getfield 216, 3) := by decide +kernel
theorem dX10_executes_207 : decode cX10_executes 207 = .ok (.iconst 1, 1) := by decide +kernel
theorem dX10_executes_208 : decode cX10_executes 208 = .ok (.iadd, 1) := by decide +kernel
theorem dX10_executes_209 : decode cX10_executes 209 = .ok (.putfield 216, 3) := by decide +kernel
theorem dX10_executes_212 : decode cX10_executes 212 = .ok (.aload_n 0, 1) := by decide +kernel
theorem dX10_executes_213 : decode cX10_executes 213 = .ok (.iload_n 1, 1) := by decide +kernel
theorem dX10_executes_214 : decode cX10_executes 214 = .ok (.iload_n 3, 1) := by decide +kernel
theorem dX10_executes_215 : decode cX10_executes 215 = .ok (.invokevirtual 202, 3) := by decide +kernel
theorem dX10_executes_218 : decode cX10_executes 218 = .ok (.istore 9, 2) := by decide +kernel
theorem dX10_executes_220 : decode cX10_executes 220 = .ok (.iinc 8 1, 3) := by decide +kernel
theorem dX10_executes_223 : decode cX10_executes 223 = .ok (.goto (-53), 3) := by decide +kernel
theorem dX10_executes_226 : decode cX10_executes 226 = .ok (.aload_n 0, 1) := by decide +kernel
theorem dX10_executes_227 : decode cX10_executes 227 = .ok (.iload_n 1, 1) := by decide +kernel
theorem dX10_executes_228 : decode cX10_executes 228 = .ok (.iload_n 3, 1) := by decide +kernel
theorem dX10_executes_229 : decode cX10_executes 229 = .ok (.invokevirtual 219, 3) := by decide +kernel
theorem dX10_executes_232 : decode cX10_executes 232 = .ok (.istore_n 3, 1) := by decide +kernel
theorem dX10_executes_233 : decode cX10_executes 233 = .ok (.goto (-231), 3) := by decide +kernel
theorem dX10_executes_236 : decode cX10_executes 236 = .ok (.iload_n 3, 1) := by decide +kernel
theorem dX10_executes_237 : decode cX10_executes 237 = .ok (.ireturn, 1) := by decide +kernel
theorem dX10_copies_0 : decode cX10_copies 0 = .ok (.iconst 0, 1) := by decide +kernel
theorem dX10_copies_1 : decode cX10_copies 1 = .ok (.istore_n 3, 1) := by decide +kernel
theorem dX10_copies_2 : decode cX10_copies 2 = .ok (.iload_n 3, 1) := by decide +kernel
theorem dX10_copies_3 : decode cX10_copies 3 = .ok (.iload_n 2, 1) := by decide +kernel
theorem dX10_copies_4 : decode cX10_copies 4 = .ok (.if_icmp .ge 15, 3) := by decide +kernel
theorem dX10_copies_7 : decode cX10_copies 7 = .ok (.aload_n 1, 1) := by decide +kernel
theorem dX10_copies_8 : decode cX10_copies 8 = .ok (.iload_n 3, 1) := by decide +kernel
theorem dX10_copies_9 : decode cX10_copies 9 = .ok (.aload_n 0, 1) := by decide +kernel
theorem dX10_copies_10 : decode cX10_copies 10 = .ok (.iload_n 3, 1) := by decide +kernel
theorem dX10_copies_11 : decode cX10_copies 11 = .ok (.iaload, 1) := by decide +kernel
theorem dX10_copies_12 : decode cX10_copies 12 = .ok (.iastore, 1) := by decide +kernel
theorem dX10_copies_13 : decode cX10_copies 13 = .ok (.iinc 3 1, 3) := by decide +kernel
theorem dX10_copies_16 : decode cX10_copies 16 = .ok (.goto (-14), 3) := by decide +kernel
theorem dX10_copies_19 : decode cX10_copies 19 = .ok (.return_, 1) := by decide +kernel
theorem dX10_run_0 : decode cX10_run 0 = .ok (.aload_n 0, 1) := by decide +kernel
theorem dX10_run_1 : decode cX10_run 1 = .ok (.iconst 0, 1) := by decide +kernel
theorem dX10_run_2 : decode cX10_run 2 = .ok (.putfield 99, 3) := by decide +kernel
theorem dX10_run_5 : decode cX10_run 5 = .ok (.aload_n 0, 1) := by decide +kernel
theorem dX10_run_6 : decode cX10_run 6 = .ok (.invokevirtual 166, 3) := by decide +kernel
theorem dX10_run_9 : decode cX10_run 9 = .ok (.ifCond .ne 19, 3) := by decide +kernel
theorem dX10_run_12 : decode cX10_run 12 = .ok (.aload_n 0, 1) := by decide +kernel
theorem dX10_run_13 : decode cX10_run 13 = .ok (.getfield 17, 3) := by decide +kernel
theorem dX10_run_16 : decode cX10_run 16 = .ok (.bipush 8, 2) := by decide +kernel
theorem dX10_run_18 : decode cX10_run 18 = .ok (.iconst 0, 1) := by decide +kernel
theorem dX10_run_19 : decode cX10_run 19 = .ok (.iastore, 1) := by decide +kernel
theorem dX10_run_20 : decode cX10_run 20 = .ok (.bipush (-100), 2) := by decide +kernel
theorem dX10_run_22 : decode cX10_run 22 = .ok (.aload_n 0, 1) := by decide +kernel
theorem dX10_run_23 : decode cX10_run 23 = .ok (.getfield 130, 3) := by decide +kernel
theorem dX10_run_26 : decode cX10_run 26 = .ok (.isub, 1) := by decide +kernel
theorem dX10_run_27 : decode cX10_run 27 = .ok (.ireturn, 1) := by decide +kernel
theorem dX10_run_28 : decode cX10_run 28 = .ok (.aload_n 0, 1) := by decide +kernel
theorem dX10_run_29 : decode cX10_run 29 = .ok (.iconst 0, 1) := by decide +kernel
theorem dX10_run_30 : decode cX10_run 30 = .ok (.putfield 172, 3) := by decide +kernel
theorem dX10_run_33 : decode cX10_run 33 = .ok (.aload_n 0, 1) := by decide +kernel
theorem dX10_run_34 : decode cX10_run 34 = .ok (.iconst 0, 1) := by decide +kernel
theorem dX10_run_35 : decode cX10_run 35 = .ok (.putfield 169, 3) := by decide +kernel
theorem dX10_run_38 : decode cX10_run 38 = .ok (.aload_n 0, 1) := by decide +kernel
theorem dX10_run_39 : decode cX10_run 39 = .ok (.iconst 0, 1) := by decide +kernel
theorem dX10_run_40 : decode cX10_run 40 = .ok (.putfield 175, 3) := by decide +kernel
theorem dX10_run_43 : decode cX10_run 43 = .ok (.aload_n 0, 1) := by decide +kernel
theorem dX10_run_44 : decode cX10_run 44 = .ok (.iconst 0, 1) := by decide +kernel
theorem dX10_run_45 : decode cX10_run 45 = .ok (.putfield 178, 3) := by decide +kernel
theorem dX10_run_48 : decode cX10_run 48 = .ok (.aload_n 0, 1) := by decide +kernel
theorem dX10_run_49 : decode cX10_run 49 = .ok (.iconst 0, 1) := by decide +kernel
theorem dX10_run_50 : decode cX10_run 50 = .ok (.putfield 193, 3) := by decide +kernel
theorem dX10_run_53 : decode cX10_run 53 = .ok (.aload_n 0, 1) := by decide +kernel
theorem dX10_run_54 : decode cX10_run 54 = .ok (.iconst 1, 1) := by decide +kernel
theorem dX10_run_55 : decode cX10_run 55 = .ok (.putfield 189, 3) := by decide +kernel
theorem dX10_run_58 : decode cX10_run 58 = .ok (.aload_n 0, 1) := by decide +kernel
theorem dX10_run_59 : decode cX10_run 59 = .ok (.iconst 0, 1) := by decide +kernel
theorem dX10_run_60 : decode cX10_run 60 = .ok (.putfield 216, 3) := by decide +kernel
theorem dX10_run_63 : decode cX10_run 63 = .ok (.aload_n 0, 1) := by decide +kernel
theorem dX10_run_64 : decode cX10_run 64 = .ok (.iconst 0, 1) := by decide +kernel
theorem dX10_run_65 : decode cX10_run 65 = .ok (.putfield 196, 3) := by decide +kernel
theorem dX10_run_68 : decode cX10_run 68 = .ok (.aload_n 0, 1) := by decide +kernel
theorem dX10_run_69 : decode cX10_run 69 = .ok (.iconst 0, 1) := by decide +kernel
theorem dX10_run_70 : decode cX10_run 70 = .ok (.putfield 199, 3) := by decide +kernel
theorem dX10_run_73 : decode cX10_run 73 = .ok (.iconst 0, 1) := by decide +kernel
theorem dX10_run_74 : decode cX10_run 74 = .ok (.istore_n 1, 1) := by decide +kernel
theorem dX10_run_75 : decode cX10_run 75 = .ok (.iload_n 1, 1) := by decide +kernel
theorem dX10_run_76 : decode cX10_run 76 = .ok (.bipush 8, 2) := by decide +kernel
theorem dX10_run_78 : decode cX10_run 78 = .ok (.if_icmp .ge 16, 3) := by decide +kernel
theorem dX10_run_81 : decode cX10_run 81 = .ok (.aload_n 0, 1) := by decide +kernel
theorem dX10_run_82 : decode cX10_run 82 = .ok (.getfield 75, 3) := by decide +kernel
theorem dX10_run_85 : decode cX10_run 85 = .ok (.iload_n 1, 1) := by decide +kernel
theorem dX10_run_86 : decode cX10_run 86 = .ok (.iconst 0, 1) := by decide +kernel
theorem dX10_run_87 : decode cX10_run 87 = .ok (.iastore, 1) := by decide +kernel
theorem dX10_run_88 : decode cX10_run 88 = .ok (.iinc 1 1, 3) := by decide +kernel
theorem dX10_run_91 : decode cX10_run 91 = .ok (.goto (-16), 3) := by decide +kernel
theorem dX10_run_94 : decode cX10_run 94 = .ok (.iconst 0, 1) := by decide +kernel
theorem dX10_run_95 : decode cX10_run 95 = .ok (.istore_n 1, 1) := by decide +kernel
theorem dX10_run_96 : decode cX10_run 96 = .ok (.iload_n 1, 1) := by decide +kernel
theorem dX10_run_97 : decode cX10_run 97 = .ok (.iconst 4, 1) := by decide +kernel
theorem dX10_run_98 : decode cX10_run 98 = .ok (.if_icmp .ge 16, 3) := by decide +kernel
theorem dX10_run_101 : decode cX10_run 101 = .ok (.aload_n 0, 1) := by decide +kernel
theorem dX10_run_102 : decode cX10_run 102 = .ok (.getfield 60, 3) := by decide +kernel
theorem dX10_run_105 : decode cX10_run 105 = .ok (.iload_n 1, 1) := by decide +kernel
theorem dX10_run_106 : decode cX10_run 106 = .ok (.iconst 0, 1) := by decide +kernel
theorem dX10_run_107 : decode cX10_run 107 = .ok (.iastore, 1) := by decide +kernel
theorem dX10_run_108 : decode cX10_run 108 = .ok (.iinc 1 1, 3) := by decide +kernel
theorem dX10_run_111 : decode cX10_run 111 = .ok (.goto (-15), 3) := by decide +kernel
theorem dX10_run_114 : decode cX10_run 114 = .ok (.aload_n 0, 1) := by decide +kernel
theorem dX10_run_115 : decode cX10_run 115 = .ok (.bipush 8, 2) := by decide +kernel
theorem dX10_run_117 : decode cX10_run 117 = .ok (.iconst 0, 1) := by decide +kernel
theorem dX10_run_118 : decode cX10_run 118 = .ok (.invokevirtual 202, 3) := by decide +kernel
theorem dX10_run_121 : decode cX10_run 121 = .ok (.istore_n 1, 1) := by decide +kernel
theorem dX10_run_122 : decode cX10_run 122 = .ok (.aload_n 0, 1) := by decide +kernel
theorem dX10_run_123 : decode cX10_run 123 = .ok (.getfield 17, 3) := by decide +kernel
theorem dX10_run_126 : decode cX10_run 126 = .ok (.bipush 8, 2) := by decide +kernel
theorem dX10_run_128 : decode cX10_run 128 = .ok (.iconst 0, 1) := by decide +kernel
theorem dX10_run_129 : decode cX10_run 129 = .ok (.iastore, 1) := by decide +kernel
theorem dX10_run_130 : decode cX10_run 130 = .ok (.aload_n 0, 1) := by decide +kernel
theorem dX10_run_131 : decode cX10_run 131 = .ok (.getfield 172, 3) := by decide +kernel
theorem dX10_run_134 : decode cX10_run 134 = .ok (.ifCond .eq 12, 3) := by decide +kernel
theorem dX10_run_137 : decode cX10_run 137 = .ok (.aload_n 0, 1) := by decide +kernel
theorem dX10_run_138 : decode cX10_run 138 = .ok (.aload_n 0, 1) := by decide +kernel
theorem dX10_run_139 : decode cX10_run 139 = .ok (.getfield 172, 3) := by decide +kernel
theorem dX10_run_142 : decode cX10_run 142 = .ok (.invokevirtual 124, 3) := by decide +kernel
theorem dX10_run_145 : decode cX10_run 145 = .ok (.ireturn, 1) := by decide +kernel
theorem dX10_run_146 : decode cX10_run 146 = .ok (.aload_n 0, 1) := by decide +kernel
theorem dX10_run_147 : decode cX10_run 147 = .ok (.aload_n 0, 1) := by decide +kernel
theorem dX10_run_148 : decode cX10_run 148 = .ok (.getfield 169, 3) := by decide +kernel
theorem dX10_run_151 : decode cX10_run 151 = .ok (.putfield 109, 3) := by decide +kernel
theorem dX10_run_154 : decode cX10_run 154 = .ok (.aload_n 0, 1) := by decide +kernel
theorem dX10_run_155 : decode cX10_run 155 = .ok (.aload_n 0, 1) := by decide +kernel
theorem dX10_run_156 : decode cX10_run 156 = .ok (.getfield 175, 3) := by decide +kernel
theorem dX10_run_159 : decode cX10_run 159 = .ok (.putfield 112, 3) := by decide +kernel
theorem dX10_run_162 : decode cX10_run 162 = .ok (.aload_n 0, 1) := by decide +kernel
theorem dX10_run_163 : decode cX10_run 163 = .ok (.aload_n 0, 1) := by decide +kernel
theorem dX10_run_164 : decode cX10_run 164 = .ok (.getfield 178, 3) := by decide +kernel
theorem dX10_run_167 : decode cX10_run 167 = .ok (.putfield 115, 3) := by decide +kernel
theorem dX10_run_170 : decode cX10_run 170 = .ok (.aload_n 0, 1) := by decide +kernel
theorem dX10_run_171 : decode cX10_run 171 = .ok (.aload_n 0, 1) := by decide +kernel
theorem dX10_run_172 : decode cX10_run 172 = .ok (.getfield 193, 3) := by decide +kernel
theorem dX10_run_175 : decode cX10_run 175 = .ok (.putfield 118, 3) := by decide +kernel
theorem dX10_run_178 : decode cX10_run 178 = .ok (.aload_n 0, 1) := by decide +kernel
theorem dX10_run_179 : decode cX10_run 179 = .ok (.aload_n 0, 1) := by decide +kernel
theorem dX10_run_180 : decode cX10_run 180 = .ok (.getfield 199, 3) := by decide +kernel
theorem dX10_run_183 : decode cX10_run 183 = .ok (.putfield 121, 3) := by decide +kernel
theorem dX10_run_186 : decode cX10_run 186 = .ok (.aload_n 0, 1) := by decide +kernel
theorem dX10_run_187 : decode cX10_run 187 = .ok (.getfield 51, 3) := by decide +kernel
theorem dX10_run_190 : decode cX10_run 190 = .ok (.aload_n 0, 1) := by decide +kernel
theorem dX10_run_191 : decode cX10_run 191 = .ok (.getfield 26, 3) := by decide +kernel
theorem dX10_run_194 : decode cX10_run 194 = .ok (.aload_n 0, 1) := by decide +kernel
theorem dX10_run_195 : decode cX10_run 195 = .ok (.getfield 109, 3) := by decide +kernel
theorem dX10_run_198 : decode cX10_run 198 = .ok (.invokestatic 222, 3) := by decide +kernel
theorem dX10_run_201 : decode cX10_run 201 = .ok (.aload_n 0, 1) := by decide +kernel
theorem dX10_run_202 : decode cX10_run 202 = .ok (.getfield 54, 3) := by decide +kernel
theorem dX10_run_205 : decode cX10_run 205 = .ok (.aload_n 0, 1) := by decide +kernel
theorem dX10_run_206 : decode cX10_run 206 = .ok (.getfield 29, 3) := by decide +kernel
theorem dX10_run_209 : decode cX10_run 209 = .ok (.aload_n 0, 1) := by decide +kernel
theorem dX10_run_210 : decode cX10_run 210 = .ok (.getfield 109, 3) := by decide +kernel
theorem dX10_run_213 : decode cX10_run 213 = .ok (.invokestatic 222, 3) := by decide +kernel
theorem dX10_run_216 : decode cX10_run 216 = .ok (.aload_n 0, 1) := by decide +kernel
theorem dX10_run_217 : decode cX10_run 217 = .ok (.getfield 60, 3) := by decide +kernel
theorem dX10_run_220 : decode cX10_run 220 = .ok (.aload_n 0, 1) := by decide +kernel
theorem dX10_run_221 : decode cX10_run 221 = .ok (.getfield 32, 3) := by decide +kernel
theorem dX10_run_224 : decode cX10_run 224 = .ok (.iconst 4, 1) := by decide +kernel
theorem dX10_run_225 : decode cX10_run 225 = .ok (.aload_n 0, 1) := by decide +kernel
theorem dX10_run_226 : decode cX10_run 226 = .ok (.getfield 112, 3) := by decide +kernel
theorem dX10_run_229 : decode cX10_run 229 = .ok (.imul, 1) := by decide +kernel
theorem dX10_run_230 : decode cX10_run 230 = .ok (.iconst 4, 1) := by decide +kernel
theorem dX10_run_231 : decode cX10_run 231 = .ok (.iadd, 1) := by decide +kernel
theorem dX10_run_232 : decode cX10_run 232 = .ok (.invokestatic 222, 3) := by decide +kernel
theorem dX10_run_235 : decode cX10_run 235 = .ok (.aload_n 0, 1) := by decide +kernel
theorem dX10_run_236 : decode cX10_run 236 = .ok (.getfield 66, 3) := by decide +kernel
theorem dX10_run_239 : decode cX10_run 239 = .ok (.aload_n 0, 1) := by decide +kernel
theorem dX10_run_240 : decode cX10_run 240 = .ok (.getfield 39, 3) := by decide +kernel
theorem dX10_run_243 : decode cX10_run 243 = .ok (.aload_n 0, 1) := by decide +kernel
theorem dX10_run_244 : decode cX10_run 244 = .ok (.getfield 112, 3) := by decide +kernel
theorem dX10_run_247 : decode cX10_run 247 = .ok (.invokestatic 222, 3) := by decide +kernel
theorem dX10_run_250 : decode cX10_run 250 = .ok (.aload_n 0, 1) := by decide +kernel
theorem dX10_run_251 : decode cX10_run 251 = .ok (.getfield 69, 3) := by decide +kernel
theorem dX10_run_254 : decode cX10_run 254 = .ok (.aload_n 0, 1) := by decide +kernel
theorem dX10_run_255 : decode cX10_run 255 = .ok (.getfield 42, 3) := by decide +kernel
theorem dX10_run_258 : decode cX10_run 258 = .ok (.aload_n 0, 1) := by decide +kernel
theorem dX10_run_259 : decode cX10_run 259 = .ok (.getfield 112, 3) := by decide +kernel
theorem dX10_run_262 : decode cX10_run 262 = .ok (.invokestatic 222, 3) := by decide +kernel
theorem dX10_run_265 : decode cX10_run 265 = .ok (.aload_n 0, 1) := by decide +kernel
theorem dX10_run_266 : decode cX10_run 266 = .ok (.getfield 72, 3) := by decide +kernel
theorem dX10_run_269 : decode cX10_run 269 = .ok (.aload_n 0, 1) := by decide +kernel
theorem dX10_run_270 : decode cX10_run 270 = .ok (.getfield 45, 3) := by decide +kernel
theorem dX10_run_273 : decode cX10_run 273 = .ok (.bipush 8, 2) := by decide +kernel
theorem dX10_run_275 : decode cX10_run 275 = .ok (.invokestatic 222, 3) := by decide +kernel
theorem dX10_run_278 : decode cX10_run 278 = .ok (.aload_n 0, 1) := by decide +kernel
theorem dX10_run_279 : decode cX10_run 279 = .ok (.getfield 75, 3) := by decide +kernel
theorem dX10_run_282 : decode cX10_run 282 = .ok (.aload_n 0, 1) := by decide +kernel
theorem dX10_run_283 : decode cX10_run 283 = .ok (.getfield 48, 3) := by decide +kernel
theorem dX10_run_286 : decode cX10_run 286 = .ok (.bipush 8, 2) := by decide +kernel
theorem dX10_run_288 : decode cX10_run 288 = .ok (.invokestatic 222, 3) := by decide +kernel
theorem dX10_run_291 : decode cX10_run 291 = .ok (.iconst 0, 1) := by decide +kernel
theorem dX10_run_292 : decode cX10_run 292 = .ok (.istore_n 2, 1) := by decide +kernel
theorem dX10_run_293 : decode cX10_run 293 = .ok (.iload_n 2, 1) := by decide +kernel
theorem dX10_run_294 : decode cX10_run 294 = .ok (.aload_n 0, 1) := by decide +kernel
theorem dX10_run_295 : decode cX10_run 295 = .ok (.getfield 112, 3) := by decide +kernel
theorem dX10_run_298 : decode cX10_run 298 = .ok (.if_icmp .ge 21, 3) := by decide +kernel
theorem dX10_run_301 : decode cX10_run 301 = .ok (.aload_n 0, 1) := by decide +kernel
theorem dX10_run_302 : decode cX10_run 302 = .ok (.getfield 35, 3) := by decide +kernel
theorem dX10_run_305 : decode cX10_run 305 = .ok (.iload_n 2, 1) := by decide +kernel
theorem dX10_run_306 : decode cX10_run 306 = .ok (.aload_n 0, 1) := by decide +kernel
theorem dX10_run_307 : decode cX10_run 307 = .ok (.getfield 63, 3) := by decide +kernel
theorem dX10_run_310 : decode cX10_run 310 = .ok (.iload_n 2, 1) := by decide +kernel
theorem dX10_run_311 : decode cX10_run 311 = .ok (.baload, 1) := by decide +kernel
theorem dX10_run_312 : decode cX10_run 312 = .ok (.bastore, 1) := by decide +kernel
theorem dX10_run_313 : decode cX10_run 313 = .ok (.iinc 2 1, 3) := by decide +kernel
theorem dX10_run_316 : decode cX10_run 316 = .ok (.goto (-23), 3) := by decide +kernel
theorem dX10_run_319 : decode cX10_run 319 = .ok (.iconst 0, 1) := by decide +kernel
theorem dX10_run_320 : decode cX10_run 320 = .ok (.istore_n 2, 1) := by decide +kernel
theorem dX10_run_321 : decode cX10_run 321 = .ok (.iload_n 2, 1) := by decide +kernel
theorem dX10_run_322 : decode cX10_run 322 = .ok (.aload_n 0, 1) := by decide +kernel
theorem dX10_run_323 : decode cX10_run 323 = .ok (.getfield 109, 3) := by decide +kernel
theorem dX10_run_326 : decode cX10_run 326 = .ok (.if_icmp .ge 29, 3) := by decide +kernel
theorem dX10_run_329 : decode cX10_run 329 = .ok (.iload_n 2, 1) := by decide +kernel
theorem dX10_run_330 : decode cX10_run 330 = .ok (.aload_n 0, 1) := by decide +kernel
theorem dX10_run_331 : decode cX10_run 331 = .ok (.getfield 84, 3) := by decide +kernel
theorem dX10_run_334 : decode cX10_run 334 = .ok (.if_icmp .ge 21, 3) := by decide +kernel
theorem dX10_run_337 : decode cX10_run 337 = .ok (.aload_n 0, 1) := by decide +kernel
theorem dX10_run_338 : decode cX10_run 338 = .ok (.getfield 87, 3) := by decide +kernel
theorem dX10_run_341 : decode cX10_run 341 = .ok (.iload_n 2, 1) := by decide +kernel
theorem dX10_run_342 : decode cX10_run 342 = .ok (.aload_n 0, 1) := by decide +kernel
theorem dX10_run_343 : decode cX10_run 343 = .ok (.getfield 57, 3) := by decide +kernel
theorem dX10_run_346 : decode cX10_run 346 = .ok (.iload_n 2, 1) := by decide +kernel
theorem dX10_run_347 : decode cX10_run 347 = .ok (.iaload, 1) := by decide +kernel
theorem dX10_run_348 : decode cX10_run 348 = .ok (.iastore, 1) := by decide +kernel
theorem dX10_run_349 : decode cX10_run 349 = .ok (.iinc 2 1, 3) := by decide +kernel
theorem dX10_run_352 : decode cX10_run 352 = .ok (.goto (-31), 3) := by decide +kernel
theorem dX10_run_355 : decode cX10_run 355 = .ok (.aload_n 0, 1) := by decide +kernel
theorem dX10_run_356 : decode cX10_run 356 = .ok (.getfield 109, 3) := by decide +kernel
theorem dX10_run_359 : decode cX10_run 359 = .ok (.ireturn, 1) := by decide +kernel
theorem dX10_point_0 : decode cX10_point 0 = .ok (.aload_n 0, 1) := by decide +kernel
theorem dX10_point_1 : decode cX10_point 1 = .ok (.iconst 0, 1) := by decide +kernel
theorem dX10_point_2 : decode cX10_point 2 = .ok (.putfield 99, 3) := by decide +kernel
theorem dX10_point_5 : decode cX10_point 5 = .ok (.iload_n 1, 1) := by decide +kernel
theorem dX10_point_6 : decode cX10_point 6 = .ok (.i2l, 1) := by decide +kernel
theorem dX10_point_7 : decode cX10_point 7 = .ok (.lconst 0, 1) := by decide +kernel
theorem dX10_point_8 : decode cX10_point 8 = .ok (.aload_n 0, 1) := by decide +kernel
theorem dX10_point_9 : decode cX10_point 9 = .ok (.getfield 112, 3) := by decide +kernel
theorem dX10_point_12 : decode cX10_point 12 = .ok (.i2l, 1) := by decide +kernel
theorem dX10_point_13 : decode cX10_point 13 = .ok (.invokestatic 137, 3) := by decide +kernel
theorem dX10_point_16 : decode cX10_point 16 = .ok (.ifCond .eq 28, 3) := by decide +kernel
theorem dX10_point_19 : decode cX10_point 19 = .ok (.iload_n 2, 1) := by decide +kernel
theorem dX10_point_20 : decode cX10_point 20 = .ok (.i2l, 1) := by decide +kernel
theorem dX10_point_21 : decode cX10_point 21 = .ok (.lconst 0, 1) := by decide +kernel
theorem dX10_point_22 : decode cX10_point 22 = .ok (.ldc2_w 226, 3) := by decide +kernel
theorem dX10_point_25 : decode cX10_point 25 = .ok (.invokestatic 137, 3) := by decide +kernel
theorem dX10_point_28 : decode cX10_point 28 = .ok (.ifCond .eq 16, 3) := by decide +kernel
theorem dX10_point_31 : decode cX10_point 31 = .ok (.aload_n 0, 1) := by decide +kernel
theorem dX10_point_32 : decode cX10_point 32 = .ok (.getfield 32, 3) := by decide +kernel
theorem dX10_point_35 : decode cX10_point 35 = .ok (.iconst 4, 1) := by decide +kernel
theorem dX10_point_36 : decode cX10_point 36 = .ok (.iload_n 1, 1) := by decide +kernel
theorem dX10_point_37 : decode cX10_point 37 = .ok (.imul, 1) := by decide +kernel
theorem dX10_point_38 : decode cX10_point 38 = .ok (.iload_n 2, 1) := by decide +kernel
theorem dX10_point_39 : decode cX10_point 39 = .ok (.iadd, 1) := by decide +kernel
theorem dX10_point_40 : decode cX10_point 40 = .ok (.iaload, 1) := by decide +kernel
theorem dX10_point_41 : decode cX10_point 41 = .ok (.goto 8, 3) := by decide +kernel
theorem dX10_point_44 : decode cX10_point 44 = .ok (.aload_n 0, 1) := by decide +kernel
theorem dX10_point_45 : decode cX10_point 45 = .ok (.iconst 1, 1) := by decide +kernel
theorem dX10_point_46 : decode cX10_point 46 = .ok (.invokevirtual 124, 3) := by decide +kernel
theorem dX10_point_49 : decode cX10_point 49 = .ok (.ireturn, 1) := by decide +kernel
theorem dX10_points_0 : decode cX10_points 0 = .ok (.aload_n 0, 1) := by decide +kernel
theorem dX10_points_1 : decode cX10_points 1 = .ok (.iconst 0, 1) := by decide +kernel
theorem dX10_points_2 : decode cX10_points 2 = .ok (.putfield 99, 3) := by decide +kernel
theorem dX10_points_5 : decode cX10_points 5 = .ok (.aload_n 0, 1) := by decide +kernel
theorem dX10_points_6 : decode cX10_points 6 = .ok (.getfield 112, 3) := by decide +kernel
theorem dX10_points_9 : decode cX10_points 9 = .ok (.iconst 1, 1) := by decide +kernel
theorem dX10_points_10 : decode cX10_points 10 = .ok (.iadd, 1) := by decide +kernel
theorem dX10_points_11 : decode cX10_points 11 = .ok (.ireturn, 1) := by decide +kernel
theorem dX10_isDrawn_0 : decode cX10_isDrawn 0 = .ok (.aload_n 0, 1) := by decide +kernel
theorem dX10_isDrawn_1 : decode cX10_isDrawn 1 = .ok (.iconst 0, 1) := by decide +kernel
theorem dX10_isDrawn_2 : decode cX10_isDrawn 2 = .ok (.putfield 99, 3) := by decide +kernel
theorem dX10_isDrawn_5 : decode cX10_isDrawn 5 = .ok (.iload_n 1, 1) := by decide +kernel
theorem dX10_isDrawn_6 : decode cX10_isDrawn 6 = .ok (.i2l, 1) := by decide +kernel
theorem dX10_isDrawn_7 : decode cX10_isDrawn 7 = .ok (.lconst 0, 1) := by decide +kernel
theorem dX10_isDrawn_8 : decode cX10_isDrawn 8 = .ok (.aload_n 0, 1) := by decide +kernel
theorem dX10_isDrawn_9 : decode cX10_isDrawn 9 = .ok (.getfield 112, 3) := by decide +kernel
theorem dX10_isDrawn_12 : decode cX10_isDrawn 12 = .ok (.iconst 1, 1) := by decide +kernel
theorem dX10_isDrawn_13 : decode cX10_isDrawn 13 = .ok (.isub, 1) := by decide +kernel
theorem dX10_isDrawn_14 : decode cX10_isDrawn 14 = .ok (.i2l, 1) := by decide +kernel
theorem dX10_isDrawn_15 : decode cX10_isDrawn 15 = .ok (.invokestatic 137, 3) := by decide +kernel
theorem dX10_isDrawn_18 : decode cX10_isDrawn 18 = .ok (.ifCond .eq 10, 3) := by decide +kernel
theorem dX10_isDrawn_21 : decode cX10_isDrawn 21 = .ok (.aload_n 0, 1) := by decide +kernel
theorem dX10_isDrawn_22 : decode cX10_isDrawn 22 = .ok (.getfield 35, 3) := by decide +kernel
theorem dX10_isDrawn_25 : decode cX10_isDrawn 25 = .ok (.iload_n 1, 1) := by decide +kernel
theorem dX10_isDrawn_26 : decode cX10_isDrawn 26 = .ok (.baload, 1) := by decide +kernel
theorem dX10_isDrawn_27 : decode cX10_isDrawn 27 = .ok (.ireturn, 1) := by decide +kernel
theorem dX10_isDrawn_28 : decode cX10_isDrawn 28 = .ok (.aload_n 0, 1) := by decide +kernel
theorem dX10_isDrawn_29 : decode cX10_isDrawn 29 = .ok (.iconst 1, 1) := by decide +kernel
theorem dX10_isDrawn_30 : decode cX10_isDrawn 30 = .ok (.putfield 99, 3) := by decide +kernel
theorem dX10_isDrawn_33 : decode cX10_isDrawn 33 = .ok (.iconst 0, 1) := by decide +kernel
theorem dX10_isDrawn_34 : decode cX10_isDrawn 34 = .ok (.ireturn, 1) := by decide +kernel
theorem dX10_direction_0 : decode cX10_direction 0 = .ok (.aload_n 0, 1) := by decide +kernel
theorem dX10_direction_1 : decode cX10_direction 1 = .ok (.iconst 0, 1) := by decide +kernel
theorem dX10_direction_2 : decode cX10_direction 2 = .ok (.putfield 99, 3) := by decide +kernel
theorem dX10_direction_5 : decode cX10_direction 5 = .ok (.aload_n 0, 1) := by decide +kernel
theorem dX10_direction_6 : decode cX10_direction 6 = .ok (.getfield 115, 3) := by decide +kernel
theorem dX10_direction_9 : decode cX10_direction 9 = .ok (.ireturn, 1) := by decide +kernel
theorem dX10_turning_0 : decode cX10_turning 0 = .ok (.aload_n 0, 1) := by decide +kernel
theorem dX10_turning_1 : decode cX10_turning 1 = .ok (.iconst 0, 1) := by decide +kernel
theorem dX10_turning_2 : decode cX10_turning 2 = .ok (.putfield 99, 3) := by decide +kernel
theorem dX10_turning_5 : decode cX10_turning 5 = .ok (.aload_n 0, 1) := by decide +kernel
theorem dX10_turning_6 : decode cX10_turning 6 = .ok (.getfield 118, 3) := by decide +kernel
theorem dX10_turning_9 : decode cX10_turning 9 = .ok (.ireturn, 1) := by decide +kernel
theorem dX10_closed_0 : decode cX10_closed 0 = .ok (.iconst 0, 1) := by decide +kernel
theorem dX10_closed_1 : decode cX10_closed 1 = .ok (.istore_n 1, 1) := by decide +kernel
theorem dX10_closed_2 : decode cX10_closed 2 = .ok (.iload_n 1, 1) := by decide +kernel
theorem dX10_closed_3 : decode cX10_closed 3 = .ok (.iconst 4, 1) := by decide +kernel
theorem dX10_closed_4 : decode cX10_closed 4 = .ok (.if_icmp .ge 27, 3) := by decide +kernel
theorem dX10_closed_7 : decode cX10_closed 7 = .ok (.aload_n 0, 1) := by decide +kernel
theorem dX10_closed_8 : decode cX10_closed 8 = .ok (.getfield 32, 3) := by decide +kernel
theorem dX10_closed_11 : decode cX10_closed 11 = .ok (.iconst 4, 1) := by decide +kernel
theorem dX10_closed_12 : decode cX10_closed 12 = .ok (.aload_n 0, 1) := by decide +kernel
theorem dX10_closed_13 : decode cX10_closed 13 = .ok (.getfield 112, 3) := by decide +kernel
theorem dX10_closed_16 : decode cX10_closed 16 = .ok (.imul, 1) := by decide +kernel
theorem dX10_closed_17 : decode cX10_closed 17 = .ok (.iload_n 1, 1) := by decide +kernel
theorem dX10_closed_18 : decode cX10_closed 18 = .ok (.iadd, 1) := by decide +kernel
theorem dX10_closed_19 : decode cX10_closed 19 = .ok (.iaload, 1) := by decide +kernel
theorem dX10_closed_20 : decode cX10_closed 20 = .ok (.ifCond .eq 5, 3) := by decide +kernel
theorem dX10_closed_23 : decode cX10_closed 23 = .ok (.iconst 0, 1) := by decide +kernel
theorem dX10_closed_24 : decode cX10_closed 24 = .ok (.ireturn, 1) := by decide +kernel
theorem dX10_closed_25 : decode cX10_closed 25 = .ok (.iinc 1 1, 3) := by decide +kernel
theorem dX10_closed_28 : decode cX10_closed 28 = .ok (.goto (-26), 3) := by decide +kernel
theorem dX10_closed_31 : decode cX10_closed 31 = .ok (.iconst 1, 1) := by decide +kernel
theorem dX10_closed_32 : decode cX10_closed 32 = .ok (.ireturn, 1) := by decide +kernel
theorem dX10_isClosed_0 : decode cX10_isClosed 0 = .ok (.aload_n 0, 1) := by decide +kernel
theorem dX10_isClosed_1 : decode cX10_isClosed 1 = .ok (.iconst 0, 1) := by decide +kernel
theorem dX10_isClosed_2 : decode cX10_isClosed 2 = .ok (.putfield 99, 3) := by decide +kernel
theorem dX10_isClosed_5 : decode cX10_isClosed 5 = .ok (.aload_n 0, 1) := by decide +kernel
theorem dX10_isClosed_6 : decode cX10_isClosed 6 = .ok (.invokevirtual 228, 3) := by decide +kernel
theorem dX10_isClosed_9 : decode cX10_isClosed 9 = .ok (.ireturn, 1) := by decide +kernel
theorem dX10_closingRepeats_0 : decode cX10_closingRepeats 0 = .ok (.aload_n 0, 1) := by decide +kernel
theorem dX10_closingRepeats_1 : decode cX10_closingRepeats 1 = .ok (.iconst 0, 1) := by decide +kernel
theorem dX10_closingRepeats_2 : decode cX10_closingRepeats 2 = .ok (.putfield 99, 3) := by decide +kernel
theorem dX10_closingRepeats_5 : decode cX10_closingRepeats 5 = .ok (.aload_n 0, 1) := by decide +kernel
theorem dX10_closingRepeats_6 : decode cX10_closingRepeats 6 = .ok (.getfield 115, 3) := by decide +kernel
theorem dX10_closingRepeats_9 : decode cX10_closingRepeats 9 = .ok (.ifCond .ne 16, 3) := by decide +kernel
theorem dX10_closingRepeats_12 : decode cX10_closingRepeats 12 = .ok (.aload_n 0, 1) := by decide +kernel
theorem dX10_closingRepeats_13 : decode cX10_closingRepeats 13 = .ok (.invokevirtual 228, 3) := by decide +kernel
theorem dX10_closingRepeats_16 : decode cX10_closingRepeats 16 = .ok (.ifCond .ne 9, 3) := by decide +kernel
theorem dX10_closingRepeats_19 : decode cX10_closingRepeats 19 = .ok (.aload_n 0, 1) := by decide +kernel
theorem dX10_closingRepeats_20 : decode cX10_closingRepeats 20 = .ok (.iconst 1, 1) := by decide +kernel
theorem dX10_closingRepeats_21 : decode cX10_closingRepeats 21 = .ok (.invokevirtual 124, 3) := by decide +kernel
theorem dX10_closingRepeats_24 : decode cX10_closingRepeats 24 = .ok (.ireturn, 1) := by decide +kernel
theorem dX10_closingRepeats_25 : decode cX10_closingRepeats 25 = .ok (.iconst 1, 1) := by decide +kernel
theorem dX10_closingRepeats_26 : decode cX10_closingRepeats 26 = .ok (.istore_n 1, 1) := by decide +kernel
theorem dX10_closingRepeats_27 : decode cX10_closingRepeats 27 = .ok (.iload_n 1, 1) := by decide +kernel
theorem dX10_closingRepeats_28 : decode cX10_closingRepeats 28 = .ok (.aload_n 0, 1) := by decide +kernel
theorem dX10_closingRepeats_29 : decode cX10_closingRepeats 29 = .ok (.getfield 115, 3) := by decide +kernel
theorem dX10_closingRepeats_32 : decode cX10_closingRepeats 32 = .ok (.imul, 1) := by decide +kernel
theorem dX10_closingRepeats_33 : decode cX10_closingRepeats 33 = .ok (.aload_n 0, 1) := by decide +kernel
theorem dX10_closingRepeats_34 : decode cX10_closingRepeats 34 = .ok (.getfield 7, 3) := by decide +kernel
theorem dX10_closingRepeats_37 : decode cX10_closingRepeats 37 = .ok (.irem, 1) := by decide +kernel
theorem dX10_closingRepeats_38 : decode cX10_closingRepeats 38 = .ok (.ifCond .eq 9, 3) := by decide +kernel
theorem dX10_closingRepeats_41 : decode cX10_closingRepeats 41 = .ok (.iinc 1 1, 3) := by decide +kernel
theorem dX10_closingRepeats_44 : decode cX10_closingRepeats 44 = .ok (.goto (-17), 3) := by decide +kernel
theorem dX10_closingRepeats_47 : decode cX10_closingRepeats 47 = .ok (.iload_n 1, 1) := by decide +kernel
theorem dX10_closingRepeats_48 : decode cX10_closingRepeats 48 = .ok (.ireturn, 1) := by decide +kernel
theorem dX10_area_0 : decode cX10_area 0 = .ok (.aload_n 0, 1) := by decide +kernel
theorem dX10_area_1 : decode cX10_area 1 = .ok (.iconst 0, 1) := by decide +kernel
theorem dX10_area_2 : decode cX10_area 2 = .ok (.putfield 99, 3) := by decide +kernel
theorem dX10_area_5 : decode cX10_area 5 = .ok (.iload_n 1, 1) := by decide +kernel
theorem dX10_area_6 : decode cX10_area 6 = .ok (.i2l, 1) := by decide +kernel
theorem dX10_area_7 : decode cX10_area 7 = .ok (.lconst 0, 1) := by decide +kernel
theorem dX10_area_8 : decode cX10_area 8 = .ok (.lconst 1, 1) := by decide +kernel
theorem dX10_area_9 : decode cX10_area 9 = .ok (.invokestatic 137, 3) := by decide +kernel
theorem dX10_area_12 : decode cX10_area 12 = .ok (.ifCond .ne 10, 3) := by decide +kernel
theorem dX10_area_15 : decode cX10_area 15 = .ok (.aload_n 0, 1) := by decide +kernel
theorem dX10_area_16 : decode cX10_area 16 = .ok (.iconst 1, 1) := by decide +kernel
theorem dX10_area_17 : decode cX10_area 17 = .ok (.invokevirtual 124, 3) := by decide +kernel
theorem dX10_area_20 : decode cX10_area 20 = .ok (.i2l, 1) := by decide +kernel
theorem dX10_area_21 : decode cX10_area 21 = .ok (.lreturn, 1) := by decide +kernel
theorem dX10_area_22 : decode cX10_area 22 = .ok (.aload_n 0, 1) := by decide +kernel
theorem dX10_area_23 : decode cX10_area 23 = .ok (.invokevirtual 228, 3) := by decide +kernel
theorem dX10_area_26 : decode cX10_area 26 = .ok (.ifCond .ne 10, 3) := by decide +kernel
theorem dX10_area_29 : decode cX10_area 29 = .ok (.aload_n 0, 1) := by decide +kernel
theorem dX10_area_30 : decode cX10_area 30 = .ok (.iconst 2, 1) := by decide +kernel
theorem dX10_area_31 : decode cX10_area 31 = .ok (.invokevirtual 124, 3) := by decide +kernel
theorem dX10_area_34 : decode cX10_area 34 = .ok (.i2l, 1) := by decide +kernel
theorem dX10_area_35 : decode cX10_area 35 = .ok (.lreturn, 1) := by decide +kernel
theorem dX10_area_36 : decode cX10_area 36 = .ok (.lconst 0, 1) := by decide +kernel
theorem dX10_area_37 : decode cX10_area 37 = .ok (.lstore_n 2, 1) := by decide +kernel
theorem dX10_area_38 : decode cX10_area 38 = .ok (.iconst 0, 1) := by decide +kernel
theorem dX10_area_39 : decode cX10_area 39 = .ok (.istore 4, 2) := by decide +kernel
theorem dX10_area_41 : decode cX10_area 41 = .ok (.iload 4, 2) := by decide +kernel
theorem dX10_area_43 : decode cX10_area 43 = .ok (.aload_n 0, 1) := by decide +kernel
theorem dX10_area_44 : decode cX10_area 44 = .ok (.getfield 112, 3) := by decide +kernel
theorem dX10_area_47 : decode cX10_area 47 = .ok (.if_icmp .ge 166, 3) := by decide +kernel
theorem dX10_area_50 : decode cX10_area 50 = .ok (.iload 4, 2) := by decide +kernel
theorem dX10_area_52 : decode cX10_area 52 = .ok (.iconst 1, 1) := by decide +kernel
theorem dX10_area_53 : decode cX10_area 53 = .ok (.iadd, 1) := by decide +kernel
theorem dX10_area_54 : decode cX10_area 54 = .ok (.istore 5, 2) := by decide +kernel
theorem dX10_area_56 : decode cX10_area 56 = .ok (.iload_n 1, 1) := by decide +kernel
theorem dX10_area_57 : decode cX10_area 57 = .ok (.ifCond .ne 84, 3) := by decide +kernel
theorem dX10_area_60 : decode cX10_area 60 = .ok (.lload_n 2, 1) := by decide +kernel
theorem dX10_area_61 : decode cX10_area 61 = .ok (.aload_n 0, 1) := by decide +kernel
theorem dX10_area_62 : decode cX10_area 62 = .ok (.iload 4, 2) := by decide +kernel
theorem dX10_area_64 : decode cX10_area 64 = .ok (.iconst 0, 1) := by decide +kernel
theorem dX10_area_65 : decode cX10_area 65 = .ok (.invokevirtual 231, 3) := by decide +kernel
theorem dX10_area_68 : decode cX10_area 68 = .ok (.aload_n 0, 1) := by decide +kernel
theorem dX10_area_69 : decode cX10_area 69 = .ok (.iload 5, 2) := by decide +kernel
theorem dX10_area_71 : decode cX10_area 71 = .ok (.iconst 2, 1) := by decide +kernel
theorem dX10_area_72 : decode cX10_area 72 = .ok (.invokevirtual 231, 3) := by decide +kernel
theorem dX10_area_75 : decode cX10_area 75 = .ok (.lmul, 1) := by decide +kernel
theorem dX10_area_76 : decode cX10_area 76 = .ok (.aload_n 0, 1) := by decide +kernel
theorem dX10_area_77 : decode cX10_area 77 = .ok (.invokevirtual 235, 3) := by decide +kernel
theorem dX10_area_80 : decode cX10_area 80 = .ok (.i2l, 1) := by decide +kernel
theorem dX10_area_81 : decode cX10_area 81 = .ok (.aload_n 0, 1) := by decide +kernel
theorem dX10_area_82 : decode cX10_area 82 = .ok (.iload 4, 2) := by decide +kernel
theorem dX10_area_84 : decode cX10_area 84 = .ok (.iconst 1, 1) := by decide +kernel
theorem dX10_area_85 : decode cX10_area 85 = .ok (.invokevirtual 231, 3) := by decide +kernel
theorem dX10_area_88 : decode cX10_area 88 = .ok (.lmul, 1) := by decide +kernel
theorem dX10_area_89 : decode cX10_area 89 = .ok (.aload_n 0, 1) := by decide +kernel
theorem dX10_area_90 : decode cX10_area 90 = .ok (.iload 5, 2) := by decide +kernel
theorem dX10_area_92 : decode cX10_area 92 = .ok (.iconst 3, 1) := by decide +kernel
theorem dX10_area_93 : decode cX10_area 93 = .ok (.invokevirtual 231, 3) := by decide +kernel
theorem dX10_area_96 : decode cX10_area 96 = .ok (.lmul, 1) := by decide +kernel
theorem dX10_area_97 : decode cX10_area 97 = .ok (.ladd, 1) := by decide +kernel
theorem dX10_area_98 : decode cX10_area 98 = .ok (.aload_n 0, 1) := by decide +kernel
theorem dX10_area_99 : decode cX10_area 99 = .ok (.iload 5, 2) := by decide +kernel
theorem dX10_area_101 : decode cX10_area 101 = .ok (.iconst 0, 1) := by decide +kernel
theorem dX10_area_102 : decode cX10_area 102 = .ok (.invokevirtual 231, 3) := by decide +kernel
theorem dX10_area_105 : decode cX10_area 105 = .ok (.aload_n 0, 1) := by decide +kernel
theorem dX10_area_106 : decode cX10_area 106 = .ok (.iload 4, 2) := by decide +kernel
theorem dX10_area_108 : decode cX10_area 108 = .ok (.iconst 2, 1) := by decide +kernel
theorem dX10_area_109 : decode cX10_area 109 = .ok (.invokevirtual 231, 3) := by decide +kernel
theorem dX10_area_112 : decode cX10_area 112 = .ok (.lmul, 1) := by decide +kernel
theorem dX10_area_113 : decode cX10_area 113 = .ok (.lsub, 1) := by decide +kernel
theorem dX10_area_114 : decode cX10_area 114 = .ok (.aload_n 0, 1) := by decide +kernel
theorem dX10_area_115 : decode cX10_area 115 = .ok (.invokevirtual 235, 3) := by decide +kernel
theorem dX10_area_118 : decode cX10_area 118 = .ok (.i2l, 1) := by decide +kernel
theorem dX10_area_119 : decode cX10_area 119 = .ok (.aload_n 0, 1) := by decide +kernel
theorem dX10_area_120 : decode cX10_area 120 = .ok (.iload 5, 2) := by decide +kernel
theorem dX10_area_122 : decode cX10_area 122 = .ok (.iconst 1, 1) := by decide +kernel
theorem dX10_area_123 : decode cX10_area 123 = .ok (.invokevirtual 231, 3) := by decide +kernel
theorem dX10_area_126 : decode cX10_area 126 = .ok (.lmul, 1) := by decide +kernel
theorem dX10_area_127 : decode cX10_area 127 = .ok (.aload_n 0, 1) := by decide +kernel
theorem dX10_area_128 : decode cX10_area 128 = .ok (.iload 4, 2) := by decide +kernel
theorem dX10_area_130 : decode cX10_area 130 = .ok (.iconst 3, 1) := by decide +kernel
theorem dX10_area_131 : decode cX10_area 131 = .ok (.invokevirtual 231, 3) := by decide +kernel
theorem dX10_area_134 : decode cX10_area 134 = .ok (.lmul, 1) := by decide +kernel
theorem dX10_area_135 : decode cX10_area 135 = .ok (.lsub, 1) := by decide +kernel
theorem dX10_area_136 : decode cX10_area 136 = .ok (.ladd, 1) := by decide +kernel
theorem dX10_area_137 : decode cX10_area 137 = .ok (.lstore_n 2, 1) := by decide +kernel
theorem dX10_area_138 : decode cX10_area 138 = .ok (.goto 69, 3) := by decide +kernel
theorem dX10_area_141 : decode cX10_area 141 = .ok (.lload_n 2, 1) := by decide +kernel
theorem dX10_area_142 : decode cX10_area 142 = .ok (.aload_n 0, 1) := by decide +kernel
theorem dX10_area_143 : decode cX10_area 143 = .ok (.iload 4, 2) := by decide +kernel
theorem dX10_area_145 : decode cX10_area 145 = .ok (.iconst 0, 1) := by decide +kernel
theorem dX10_area_146 : decode cX10_area 146 = .ok (.invokevirtual 231, 3) := by decide +kernel
theorem dX10_area_149 : decode cX10_area 149 = .ok (.aload_n 0, 1) := by decide +kernel
theorem dX10_area_150 : decode cX10_area 150 = .ok (.iload 5, 2) := by decide +kernel
theorem dX10_area_152 : decode cX10_area 152 = .ok (.iconst 3, 1) := by decide +kernel
theorem dX10_area_153 : decode cX10_area 153 = .ok (.invokevirtual 231, 3) := by decide +kernel
theorem dX10_area_156 : decode cX10_area 156 = .ok (.lmul, 1) := by decide +kernel
theorem dX10_area_157 : decode cX10_area 157 = .ok (.aload_n 0, 1) := by decide +kernel
theorem dX10_area_158 : decode cX10_area 158 = .ok (.iload 4, 2) := by decide +kernel
theorem dX10_area_160 : decode cX10_area 160 = .ok (.iconst 1, 1) := by decide +kernel
theorem dX10_area_161 : decode cX10_area 161 = .ok (.invokevirtual 231, 3) := by decide +kernel
theorem dX10_area_164 : decode cX10_area 164 = .ok (.aload_n 0, 1) := by decide +kernel
theorem dX10_area_165 : decode cX10_area 165 = .ok (.iload 5, 2) := by decide +kernel
theorem dX10_area_167 : decode cX10_area 167 = .ok (.iconst 2, 1) := by decide +kernel
theorem dX10_area_168 : decode cX10_area 168 = .ok (.invokevirtual 231, 3) := by decide +kernel
theorem dX10_area_171 : decode cX10_area 171 = .ok (.lmul, 1) := by decide +kernel
theorem dX10_area_172 : decode cX10_area 172 = .ok (.ladd, 1) := by decide +kernel
theorem dX10_area_173 : decode cX10_area 173 = .ok (.aload_n 0, 1) := by decide +kernel
theorem dX10_area_174 : decode cX10_area 174 = .ok (.iload 5, 2) := by decide +kernel
theorem dX10_area_176 : decode cX10_area 176 = .ok (.iconst 0, 1) := by decide +kernel
theorem dX10_area_177 : decode cX10_area 177 = .ok (.invokevirtual 231, 3) := by decide +kernel
theorem dX10_area_180 : decode cX10_area 180 = .ok (.aload_n 0, 1) := by decide +kernel
theorem dX10_area_181 : decode cX10_area 181 = .ok (.iload 4, 2) := by decide +kernel
theorem dX10_area_183 : decode cX10_area 183 = .ok (.iconst 3, 1) := by decide +kernel
theorem dX10_area_184 : decode cX10_area 184 = .ok (.invokevirtual 231, 3) := by decide +kernel
theorem dX10_area_187 : decode cX10_area 187 = .ok (.lmul, 1) := by decide +kernel
theorem dX10_area_188 : decode cX10_area 188 = .ok (.lsub, 1) := by decide +kernel
theorem dX10_area_189 : decode cX10_area 189 = .ok (.aload_n 0, 1) := by decide +kernel
theorem dX10_area_190 : decode cX10_area 190 = .ok (.iload 5, 2) := by decide +kernel
theorem dX10_area_192 : decode cX10_area 192 = .ok (.iconst 1, 1) := by decide +kernel
theorem dX10_area_193 : decode cX10_area 193 = .ok (.invokevirtual 231, 3) := by decide +kernel
theorem dX10_area_196 : decode cX10_area 196 = .ok (.aload_n 0, 1) := by decide +kernel
theorem dX10_area_197 : decode cX10_area 197 = .ok (.iload 4, 2) := by decide +kernel
theorem dX10_area_199 : decode cX10_area 199 = .ok (.iconst 2, 1) := by decide +kernel
theorem dX10_area_200 : decode cX10_area 200 = .ok (.invokevirtual 231, 3) := by decide +kernel
theorem dX10_area_203 : decode cX10_area 203 = .ok (.lmul, 1) := by decide +kernel
theorem dX10_area_204 : decode cX10_area 204 = .ok (.lsub, 1) := by decide +kernel
theorem dX10_area_205 : decode cX10_area 205 = .ok (.ladd, 1) := by decide +kernel
theorem dX10_area_206 : decode cX10_area 206 = .ok (.lstore_n 2, 1) := by decide +kernel
theorem dX10_area_207 : decode cX10_area 207 = .ok (.iinc 4 1, 3) := by decide +kernel
theorem dX10_area_210 : decode cX10_area 210 = .ok (.goto (-169), 3) := by decide +kernel
theorem dX10_area_213 : decode cX10_area 213 = .ok (.lload_n 2, 1) := by decide +kernel
theorem dX10_area_214 : decode cX10_area 214 = .ok (.lreturn, 1) := by decide +kernel
theorem dX10_meetings_0 : decode cX10_meetings 0 = .ok (.aload_n 0, 1) := by decide +kernel
theorem dX10_meetings_1 : decode cX10_meetings 1 = .ok (.iconst 0, 1) := by decide +kernel
theorem dX10_meetings_2 : decode cX10_meetings 2 = .ok (.putfield 99, 3) := by decide +kernel
theorem dX10_meetings_5 : decode cX10_meetings 5 = .ok (.iconst 0, 1) := by decide +kernel
theorem dX10_meetings_6 : decode cX10_meetings 6 = .ok (.istore_n 1, 1) := by decide +kernel
theorem dX10_meetings_7 : decode cX10_meetings 7 = .ok (.iconst 0, 1) := by decide +kernel
theorem dX10_meetings_8 : decode cX10_meetings 8 = .ok (.istore_n 2, 1) := by decide +kernel
theorem dX10_meetings_9 : decode cX10_meetings 9 = .ok (.iload_n 2, 1) := by decide +kernel
theorem dX10_meetings_10 : decode cX10_meetings 10 = .ok (.aload_n 0, 1) := by decide +kernel
theorem dX10_meetings_11 : decode cX10_meetings 11 = .ok (.getfield 112, 3) := by decide +kernel
theorem dX10_meetings_14 : decode cX10_meetings 14 = .ok (.if_icmp .ge 48, 3) := by decide +kernel
theorem dX10_meetings_17 : decode cX10_meetings 17 = .ok (.iload_n 2, 1) := by decide +kernel
theorem dX10_meetings_18 : decode cX10_meetings 18 = .ok (.iconst 2, 1) := by decide +kernel
theorem dX10_meetings_19 : decode cX10_meetings 19 = .ok (.iadd, 1) := by decide +kernel
theorem dX10_meetings_20 : decode cX10_meetings 20 = .ok (.istore_n 3, 1) := by decide +kernel
theorem dX10_meetings_21 : decode cX10_meetings 21 = .ok (.iload_n 3, 1) := by decide +kernel
theorem dX10_meetings_22 : decode cX10_meetings 22 = .ok (.aload_n 0, 1) := by decide +kernel
theorem dX10_meetings_23 : decode cX10_meetings 23 = .ok (.getfield 112, 3) := by decide +kernel
theorem dX10_meetings_26 : decode cX10_meetings 26 = .ok (.if_icmp .ge 30, 3) := by decide +kernel
theorem dX10_meetings_29 : decode cX10_meetings 29 = .ok (.aload_n 0, 1) := by decide +kernel
theorem dX10_meetings_30 : decode cX10_meetings 30 = .ok (.iload_n 2, 1) := by decide +kernel
theorem dX10_meetings_31 : decode cX10_meetings 31 = .ok (.iload_n 3, 1) := by decide +kernel
theorem dX10_meetings_32 : decode cX10_meetings 32 = .ok (.invokevirtual 257, 3) := by decide +kernel
theorem dX10_meetings_35 : decode cX10_meetings 35 = .ok (.ifCond .eq 15, 3) := by decide +kernel
theorem dX10_meetings_38 : decode cX10_meetings 38 = .ok (.aload_n 0, 1) := by decide +kernel
theorem dX10_meetings_39 : decode cX10_meetings 39 = .ok (.iload_n 2, 1) := by decide +kernel
theorem dX10_meetings_40 : decode cX10_meetings 40 = .ok (.iload_n 3, 1) := by decide +kernel
theorem dX10_meetings_41 : decode cX10_meetings 41 = .ok (.invokevirtual 260, 3) := by decide +kernel
theorem dX10_meetings_44 : decode cX10_meetings 44 = .ok (.ifCond .eq 6, 3) := by decide +kernel
theorem dX10_meetings_47 : decode cX10_meetings 47 = .ok (.iinc 1 1, 3) := by decide +kernel
theorem dX10_meetings_50 : decode cX10_meetings 50 = .ok (.iinc 3 1, 3) := by decide +kernel
theorem dX10_meetings_53 : decode cX10_meetings 53 = .ok (.goto (-32), 3) := by decide +kernel
theorem dX10_meetings_56 : decode cX10_meetings 56 = .ok (.iinc 2 1, 3) := by decide +kernel
theorem dX10_meetings_59 : decode cX10_meetings 59 = .ok (.goto (-50), 3) := by decide +kernel
theorem dX10_meetings_62 : decode cX10_meetings 62 = .ok (.iload_n 1, 1) := by decide +kernel
theorem dX10_meetings_63 : decode cX10_meetings 63 = .ok (.ireturn, 1) := by decide +kernel
theorem dX10_crossings_0 : decode cX10_crossings 0 = .ok (.aload_n 0, 1) := by decide +kernel
theorem dX10_crossings_1 : decode cX10_crossings 1 = .ok (.iconst 0, 1) := by decide +kernel
theorem dX10_crossings_2 : decode cX10_crossings 2 = .ok (.putfield 99, 3) := by decide +kernel
theorem dX10_crossings_5 : decode cX10_crossings 5 = .ok (.iconst 0, 1) := by decide +kernel
theorem dX10_crossings_6 : decode cX10_crossings 6 = .ok (.istore_n 1, 1) := by decide +kernel
theorem dX10_crossings_7 : decode cX10_crossings 7 = .ok (.iconst 0, 1) := by decide +kernel
theorem dX10_crossings_8 : decode cX10_crossings 8 = .ok (.istore_n 2, 1) := by decide +kernel
theorem dX10_crossings_9 : decode cX10_crossings 9 = .ok (.iload_n 2, 1) := by decide +kernel
theorem dX10_crossings_10 : decode cX10_crossings 10 = .ok (.aload_n 0, 1) := by decide +kernel
theorem dX10_crossings_11 : decode cX10_crossings 11 = .ok (.getfield 112, 3) := by decide +kernel
theorem dX10_crossings_14 : decode cX10_crossings 14 = .ok (.if_icmp .ge 48, 3) := by decide +kernel
theorem dX10_crossings_17 : decode cX10_crossings 17 = .ok (.iload_n 2, 1) := by decide +kernel
theorem dX10_crossings_18 : decode cX10_crossings 18 = .ok (.iconst 2, 1) := by decide +kernel
theorem dX10_crossings_19 : decode cX10_crossings 19 = .ok (.iadd, 1) := by decide +kernel
theorem dX10_crossings_20 : decode cX10_crossings 20 = .ok (.istore_n 3, 1) := by decide +kernel
theorem dX10_crossings_21 : decode cX10_crossings 21 = .ok (.iload_n 3, 1) := by decide +kernel
theorem dX10_crossings_22 : decode cX10_crossings 22 = .ok (.aload_n 0, 1) := by decide +kernel
theorem dX10_crossings_23 : decode cX10_crossings 23 = .ok (.getfield 112, 3) := by decide +kernel
theorem dX10_crossings_26 : decode cX10_crossings 26 = .ok (.if_icmp .ge 30, 3) := by decide +kernel
theorem dX10_crossings_29 : decode cX10_crossings 29 = .ok (.aload_n 0, 1) := by decide +kernel
theorem dX10_crossings_30 : decode cX10_crossings 30 = .ok (.iload_n 2, 1) := by decide +kernel
theorem dX10_crossings_31 : decode cX10_crossings 31 = .ok (.iload_n 3, 1) := by decide +kernel
theorem dX10_crossings_32 : decode cX10_crossings 32 = .ok (.invokevirtual 257, 3) := by decide +kernel
theorem dX10_crossings_35 : decode cX10_crossings 35 = .ok (.ifCond .eq 15, 3) := by decide +kernel
theorem dX10_crossings_38 : decode cX10_crossings 38 = .ok (.aload_n 0, 1) := by decide +kernel
theorem dX10_crossings_39 : decode cX10_crossings 39 = .ok (.iload_n 2, 1) := by decide +kernel
theorem dX10_crossings_40 : decode cX10_crossings 40 = .ok (.iload_n 3, 1) := by decide +kernel
theorem dX10_crossings_41 : decode cX10_crossings 41 = .ok (.invokevirtual 250, 3) := by decide +kernel
theorem dX10_crossings_44 : decode cX10_crossings 44 = .ok (.ifCond .eq 6, 3) := by decide +kernel
theorem dX10_crossings_47 : decode cX10_crossings 47 = .ok (.iinc 1 1, 3) := by decide +kernel
theorem dX10_crossings_50 : decode cX10_crossings 50 = .ok (.iinc 3 1, 3) := by decide +kernel
theorem dX10_crossings_53 : decode cX10_crossings 53 = .ok (.goto (-32), 3) := by decide +kernel
theorem dX10_crossings_56 : decode cX10_crossings 56 = .ok (.iinc 2 1, 3) := by decide +kernel
theorem dX10_crossings_59 : decode cX10_crossings 59 = .ok (.goto (-50), 3) := by decide +kernel
theorem dX10_crossings_62 : decode cX10_crossings 62 = .ok (.iload_n 1, 1) := by decide +kernel
theorem dX10_crossings_63 : decode cX10_crossings 63 = .ok (.ireturn, 1) := by decide +kernel
theorem dX10_firstMeeting_0 : decode cX10_firstMeeting 0 = .ok (.aload_n 0, 1) := by decide +kernel
theorem dX10_firstMeeting_1 : decode cX10_firstMeeting 1 = .ok (.iconst 0, 1) := by decide +kernel
theorem dX10_firstMeeting_2 : decode cX10_firstMeeting 2 = .ok (.putfield 99, 3) := by decide +kernel
theorem dX10_firstMeeting_5 : decode cX10_firstMeeting 5 = .ok (.iconst 0, 1) := by decide +kernel
theorem dX10_firstMeeting_6 : decode cX10_firstMeeting 6 = .ok (.istore_n 1, 1) := by decide +kernel
theorem dX10_firstMeeting_7 : decode cX10_firstMeeting 7 = .ok (.iload_n 1, 1) := by decide +kernel
theorem dX10_firstMeeting_8 : decode cX10_firstMeeting 8 = .ok (.aload_n 0, 1) := by decide +kernel
theorem dX10_firstMeeting_9 : decode cX10_firstMeeting 9 = .ok (.getfield 112, 3) := by decide +kernel
theorem dX10_firstMeeting_12 : decode cX10_firstMeeting 12 = .ok (.if_icmp .ge 53, 3) := by decide +kernel
theorem dX10_firstMeeting_15 : decode cX10_firstMeeting 15 = .ok (.iload_n 1, 1) := by decide +kernel
theorem dX10_firstMeeting_16 : decode cX10_firstMeeting 16 = .ok (.iconst 2, 1) := by decide +kernel
theorem dX10_firstMeeting_17 : decode cX10_firstMeeting 17 = .ok (.iadd, 1) := by decide +kernel
theorem dX10_firstMeeting_18 : decode cX10_firstMeeting 18 = .ok (.istore_n 2, 1) := by decide +kernel
theorem dX10_firstMeeting_19 : decode cX10_firstMeeting 19 = .ok (.iload_n 2, 1) := by decide +kernel
theorem dX10_firstMeeting_20 : decode cX10_firstMeeting 20 = .ok (.aload_n 0, 1) := by decide +kernel
theorem dX10_firstMeeting_21 : decode cX10_firstMeeting 21 = .ok (.getfield 112, 3) := by decide +kernel
theorem dX10_firstMeeting_24 : decode cX10_firstMeeting 24 = .ok (.if_icmp .ge 35, 3) := by decide +kernel
theorem dX10_firstMeeting_27 : decode cX10_firstMeeting 27 = .ok (.aload_n 0, 1) := by decide +kernel
theorem dX10_firstMeeting_28 : decode cX10_firstMeeting 28 = .ok (.iload_n 1, 1) := by decide +kernel
theorem dX10_firstMeeting_29 : decode cX10_firstMeeting 29 = .ok (.iload_n 2, 1) := by decide +kernel
theorem dX10_firstMeeting_30 : decode cX10_firstMeeting 30 = .ok (.invokevirtual 257, 3) := by decide +kernel
theorem dX10_firstMeeting_33 : decode cX10_firstMeeting 33 = .ok (.ifCond .eq 20, 3) := by decide +kernel
theorem dX10_firstMeeting_36 : decode cX10_firstMeeting 36 = .ok (.aload_n 0, 1) := by decide +kernel
theorem dX10_firstMeeting_37 : decode cX10_firstMeeting 37 = .ok (.iload_n 1, 1) := by decide +kernel
theorem dX10_firstMeeting_38 : decode cX10_firstMeeting 38 = .ok (.iload_n 2, 1) := by decide +kernel
theorem dX10_firstMeeting_39 : decode cX10_firstMeeting 39 = .ok (.invokevirtual 260, 3) := by decide +kernel
theorem dX10_firstMeeting_42 : decode cX10_firstMeeting 42 = .ok (.ifCond .eq 11, 3) := by decide +kernel
theorem dX10_firstMeeting_45 : decode cX10_firstMeeting 45 = .ok (.sipush 1000, 3) := by decide +kernel
theorem dX10_firstMeeting_48 : decode cX10_firstMeeting 48 = .ok (.iload_n 1, 1) := by decide +kernel
theorem dX10_firstMeeting_49 : decode cX10_firstMeeting 49 = .ok (.imul, 1) := by decide +kernel
theorem dX10_firstMeeting_50 : decode cX10_firstMeeting 50 = .ok (.iload_n 2, 1) := by decide +kernel
theorem dX10_firstMeeting_51 : decode cX10_firstMeeting 51 = .ok (.iadd, 1) := by decide +kernel
theorem dX10_firstMeeting_52 : decode cX10_firstMeeting 52 = .ok (.ireturn, 1) := by decide +kernel
theorem dX10_firstMeeting_53 : decode cX10_firstMeeting 53 = .ok (.iinc 2 1, 3) := by decide +kernel
theorem dX10_firstMeeting_56 : decode cX10_firstMeeting 56 = .ok (.goto (-37), 3) := by decide +kernel
theorem dX10_firstMeeting_59 : decode cX10_firstMeeting 59 = .ok (.iinc 1 1, 3) := by decide +kernel
theorem dX10_firstMeeting_62 : decode cX10_firstMeeting 62 = .ok (.goto (-55), 3) := by decide +kernel
theorem dX10_firstMeeting_65 : decode cX10_firstMeeting 65 = .ok (.aload_n 0, 1) := by decide +kernel
theorem dX10_firstMeeting_66 : decode cX10_firstMeeting 66 = .ok (.iconst 1, 1) := by decide +kernel
theorem dX10_firstMeeting_67 : decode cX10_firstMeeting 67 = .ok (.invokevirtual 124, 3) := by decide +kernel
theorem dX10_firstMeeting_70 : decode cX10_firstMeeting 70 = .ok (.ireturn, 1) := by decide +kernel
theorem dX10_extreme_0 : decode cX10_extreme 0 = .ok (.aload_n 0, 1) := by decide +kernel
theorem dX10_extreme_1 : decode cX10_extreme 1 = .ok (.iconst 0, 1) := by decide +kernel
theorem dX10_extreme_2 : decode cX10_extreme 2 = .ok (.putfield 99, 3) := by decide +kernel
theorem dX10_extreme_5 : decode cX10_extreme 5 = .ok (.iload_n 1, 1) := by decide +kernel
theorem dX10_extreme_6 : decode cX10_extreme 6 = .ok (.i2l, 1) := by decide +kernel
theorem dX10_extreme_7 : decode cX10_extreme 7 = .ok (.lconst 0, 1) := by decide +kernel
theorem dX10_extreme_8 : decode cX10_extreme 8 = .ok (.ldc2_w 226, 3) := by decide +kernel
theorem dX10_extreme_11 : decode cX10_extreme 11 = .ok (.invokestatic 137, 3) := by decide +kernel
theorem dX10_extreme_14 : decode cX10_extreme 14 = .ok (.ifCond .eq 13, 3) := by decide +kernel
theorem dX10_extreme_17 : decode cX10_extreme 17 = .ok (.iload_n 2, 1) := by decide +kernel
theorem dX10_extreme_18 : decode cX10_extreme 18 = .ok (.i2l, 1) := by decide +kernel
theorem dX10_extreme_19 : decode cX10_extreme 19 = .ok (.lconst 0, 1) := by decide +kernel
theorem dX10_extreme_20 : decode cX10_extreme 20 = .ok (.lconst 1, 1) := by decide +kernel
theorem dX10_extreme_21 : decode cX10_extreme 21 = .ok (.invokestatic 137, 3) := by decide +kernel
theorem dX10_extreme_24 : decode cX10_extreme 24 = .ok (.ifCond .ne 9, 3) := by decide +kernel
theorem dX10_extreme_27 : decode cX10_extreme 27 = .ok (.aload_n 0, 1) := by decide +kernel
theorem dX10_extreme_28 : decode cX10_extreme 28 = .ok (.iconst 1, 1) := by decide +kernel
theorem dX10_extreme_29 : decode cX10_extreme 29 = .ok (.invokevirtual 124, 3) := by decide +kernel
theorem dX10_extreme_32 : decode cX10_extreme 32 = .ok (.ireturn, 1) := by decide +kernel
theorem dX10_extreme_33 : decode cX10_extreme 33 = .ok (.iload_n 1, 1) := by decide +kernel
theorem dX10_extreme_34 : decode cX10_extreme 34 = .ok (.iconst 2, 1) := by decide +kernel
theorem dX10_extreme_35 : decode cX10_extreme 35 = .ok (.if_icmp .ge 7, 3) := by decide +kernel
theorem dX10_extreme_38 : decode cX10_extreme 38 = .ok (.iconst 0, 1) := by decide +kernel
theorem dX10_extreme_39 : decode cX10_extreme 39 = .ok (.goto 4, 3) := by decide +kernel
theorem dX10_extreme_42 : decode cX10_extreme 42 = .ok (.iconst 2, 1) := by decide +kernel
theorem dX10_extreme_43 : decode cX10_extreme 43 = .ok (.istore_n 3, 1) := by decide +kernel
theorem dX10_extreme_44 : decode cX10_extreme 44 = .ok (.iconst 0, 1) := by decide +kernel
theorem dX10_extreme_45 : decode cX10_extreme 45 = .ok (.istore 4, 2) := by decide +kernel
theorem dX10_extreme_47 : decode cX10_extreme 47 = .ok (.iconst 1, 1) := by decide +kernel
theorem dX10_extreme_48 : decode cX10_extreme 48 = .ok (.istore 5, 2) := by decide +kernel
theorem dX10_extreme_50 : decode cX10_extreme 50 = .ok (.iload 5, 2) := by decide +kernel
theorem dX10_extreme_52 : decode cX10_extreme 52 = .ok (.aload_n 0, 1) := by decide +kernel
theorem dX10_extreme_53 : decode cX10_extreme 53 = .ok (.getfield 112, 3) := by decide +kernel
theorem dX10_extreme_56 : decode cX10_extreme 56 = .ok (.if_icmp .gt 72, 3) := by decide +kernel
theorem dX10_extreme_59 : decode cX10_extreme 59 = .ok (.aload_n 0, 1) := by decide +kernel
theorem dX10_extreme_60 : decode cX10_extreme 60 = .ok (.aload_n 0, 1) := by decide +kernel
theorem dX10_extreme_61 : decode cX10_extreme 61 = .ok (.iload 5, 2) := by decide +kernel
theorem dX10_extreme_63 : decode cX10_extreme 63 = .ok (.iload_n 3, 1) := by decide +kernel
theorem dX10_extreme_64 : decode cX10_extreme 64 = .ok (.invokevirtual 231, 3) := by decide +kernel
theorem dX10_extreme_67 : decode cX10_extreme 67 = .ok (.aload_n 0, 1) := by decide +kernel
theorem dX10_extreme_68 : decode cX10_extreme 68 = .ok (.iload 4, 2) := by decide +kernel
theorem dX10_extreme_70 : decode cX10_extreme 70 = .ok (.iload_n 3, 1) := by decide +kernel
theorem dX10_extreme_71 : decode cX10_extreme 71 = .ok (.invokevirtual 231, 3) := by decide +kernel
theorem dX10_extreme_74 : decode cX10_extreme 74 = .ok (.lsub, 1) := by decide +kernel
theorem dX10_extreme_75 : decode cX10_extreme 75 = .ok (.aload_n 0, 1) := by decide +kernel
theorem dX10_extreme_76 : decode cX10_extreme 76 = .ok (.iload 5, 2) := by decide +kernel
theorem dX10_extreme_78 : decode cX10_extreme 78 = .ok (.iload_n 3, 1) := by decide +kernel
theorem dX10_extreme_79 : decode cX10_extreme 79 = .ok (.iconst 1, 1) := by decide +kernel
theorem dX10_extreme_80 : decode cX10_extreme 80 = .ok (.iadd, 1) := by decide +kernel
theorem dX10_extreme_81 : decode cX10_extreme 81 = .ok (.invokevirtual 231, 3) := by decide +kernel
theorem dX10_extreme_84 : decode cX10_extreme 84 = .ok (.aload_n 0, 1) := by decide +kernel
theorem dX10_extreme_85 : decode cX10_extreme 85 = .ok (.iload 4, 2) := by decide +kernel
theorem dX10_extreme_87 : decode cX10_extreme 87 = .ok (.iload_n 3, 1) := by decide +kernel
theorem dX10_extreme_88 : decode cX10_extreme 88 = .ok (.iconst 1, 1) := by decide +kernel
theorem dX10_extreme_89 : decode cX10_extreme 89 = .ok (.iadd, 1) := by decide +kernel
theorem dX10_extreme_90 : decode cX10_extreme 90 = .ok (.invokevirtual 231, 3) := by decide +kernel
theorem dX10_extreme_93 : decode cX10_extreme 93 = .ok (.lsub, 1) := by decide +kernel
theorem dX10_extreme_94 : decode cX10_extreme 94 = .ok (.invokevirtual 238, 3) := by decide +kernel
theorem dX10_extreme_97 : decode cX10_extreme 97 = .ok (.istore 6, 2) := by decide +kernel
theorem dX10_extreme_99 : decode cX10_extreme 99 = .ok (.iload_n 1, 1) := by decide +kernel
theorem dX10_extreme_100 : decode cX10_extreme 100 = .ok (.iconst 2, 1) := by decide +kernel
theorem dX10_extreme_101 : decode cX10_extreme 101 = .ok (.irem, 1) := by decide +kernel
theorem dX10_extreme_102 : decode cX10_extreme 102 = .ok (.ifCond .ne 11, 3) := by decide +kernel
theorem dX10_extreme_105 : decode cX10_extreme 105 = .ok (.iload 6, 2) := by decide +kernel
theorem dX10_extreme_107 : decode cX10_extreme 107 = .ok (.ifCond .ge 15, 3) := by decide +kernel
theorem dX10_extreme_110 : decode cX10_extreme 110 = .ok (.goto 8, 3) := by decide +kernel
theorem dX10_extreme_113 : decode cX10_extreme 113 = .ok (.iload 6, 2) := by decide +kernel
theorem dX10_extreme_115 : decode cX10_extreme 115 = .ok (.ifCond .le 7, 3) := by decide +kernel
theorem dX10_extreme_118 : decode cX10_extreme 118 = .ok (.iload 5, 2) := by decide +kernel
theorem dX10_extreme_120 : decode cX10_extreme 120 = .ok (.istore 4, 2) := by decide +kernel
theorem dX10_extreme_122 : decode cX10_extreme 122 = .ok (.iinc 5 1, 3) := by decide +kernel
theorem dX10_extreme_125 : decode cX10_extreme 125 = .ok (.goto (-75), 3) := by decide +kernel
theorem dX10_extreme_128 : decode cX10_extreme 128 = .ok (.aload_n 0, 1) := by decide +kernel
theorem dX10_extreme_129 : decode cX10_extreme 129 = .ok (.getfield 32, 3) := by decide +kernel
theorem dX10_extreme_132 : decode cX10_extreme 132 = .ok (.iconst 4, 1) := by decide +kernel
theorem dX10_extreme_133 : decode cX10_extreme 133 = .ok (.iload 4, 2) := by decide +kernel
theorem dX10_extreme_135 : decode cX10_extreme 135 = .ok (.imul, 1) := by decide +kernel
theorem dX10_extreme_136 : decode cX10_extreme 136 = .ok (.iload_n 3, 1) := by decide +kernel
theorem dX10_extreme_137 : decode cX10_extreme 137 = .ok (.iadd, 1) := by decide +kernel
theorem dX10_extreme_138 : decode cX10_extreme 138 = .ok (.iload_n 2, 1) := by decide +kernel
theorem dX10_extreme_139 : decode cX10_extreme 139 = .ok (.iadd, 1) := by decide +kernel
theorem dX10_extreme_140 : decode cX10_extreme 140 = .ok (.iaload, 1) := by decide +kernel
theorem dX10_extreme_141 : decode cX10_extreme 141 = .ok (.ireturn, 1) := by decide +kernel
theorem dX10_isSmooth_0 : decode cX10_isSmooth 0 = .ok (.aload_n 0, 1) := by decide +kernel
theorem dX10_isSmooth_1 : decode cX10_isSmooth 1 = .ok (.getfield 115, 3) := by decide +kernel
theorem dX10_isSmooth_4 : decode cX10_isSmooth 4 = .ok (.ifCond .ne 14, 3) := by decide +kernel
theorem dX10_isSmooth_7 : decode cX10_isSmooth 7 = .ok (.aload_n 0, 1) := by decide +kernel
theorem dX10_isSmooth_8 : decode cX10_isSmooth 8 = .ok (.invokevirtual 228, 3) := by decide +kernel
theorem dX10_isSmooth_11 : decode cX10_isSmooth 11 = .ok (.ifCond .eq 7, 3) := by decide +kernel
theorem dX10_isSmooth_14 : decode cX10_isSmooth 14 = .ok (.iconst 1, 1) := by decide +kernel
theorem dX10_isSmooth_15 : decode cX10_isSmooth 15 = .ok (.goto 4, 3) := by decide +kernel
theorem dX10_isSmooth_18 : decode cX10_isSmooth 18 = .ok (.iconst 0, 1) := by decide +kernel
theorem dX10_isSmooth_19 : decode cX10_isSmooth 19 = .ok (.ireturn, 1) := by decide +kernel
theorem dX10_findsCorners_0 : decode cX10_findsCorners 0 = .ok (.aload_n 0, 1) := by decide +kernel
theorem dX10_findsCorners_1 : decode cX10_findsCorners 1 = .ok (.iconst 0, 1) := by decide +kernel
theorem dX10_findsCorners_2 : decode cX10_findsCorners 2 = .ok (.putfield 263, 3) := by decide +kernel
theorem dX10_findsCorners_5 : decode cX10_findsCorners 5 = .ok (.iconst (-1), 1) := by decide +kernel
theorem dX10_findsCorners_6 : decode cX10_findsCorners 6 = .ok (.istore_n 1, 1) := by decide +kernel
theorem dX10_findsCorners_7 : decode cX10_findsCorners 7 = .ok (.iconst 0, 1) := by decide +kernel
theorem dX10_findsCorners_8 : decode cX10_findsCorners 8 = .ok (.istore_n 2, 1) := by decide +kernel
theorem dX10_findsCorners_9 : decode cX10_findsCorners 9 = .ok (.iload_n 2, 1) := by decide +kernel
theorem dX10_findsCorners_10 : decode cX10_findsCorners 10 = .ok (.aload_n 0, 1) := by decide +kernel
theorem dX10_findsCorners_11 : decode cX10_findsCorners 11 = .ok (.getfield 112, 3) := by decide +kernel
theorem dX10_findsCorners_14 : decode cX10_findsCorners 14 = .ok (.if_icmp .ge 42, 3) := by decide +kernel
theorem dX10_findsCorners_17 : decode cX10_findsCorners 17 = .ok (.iload_n 1, 1) := by decide +kernel
theorem dX10_findsCorners_18 : decode cX10_findsCorners 18 = .ok (.ifCond .ge 38, 3) := by decide +kernel
theorem dX10_findsCorners_21 : decode cX10_findsCorners 21 = .ok (.aload_n 0, 1) := by decide +kernel
theorem dX10_findsCorners_22 : decode cX10_findsCorners 22 = .ok (.getfield 39, 3) := by decide +kernel
theorem dX10_findsCorners_25 : decode cX10_findsCorners 25 = .ok (.iload_n 2, 1) := by decide +kernel
theorem dX10_findsCorners_26 : decode cX10_findsCorners 26 = .ok (.iaload, 1) := by decide +kernel
theorem dX10_findsCorners_27 : decode cX10_findsCorners 27 = .ok (.aload_n 0, 1) := by decide +kernel
theorem dX10_findsCorners_28 : decode cX10_findsCorners 28 = .ok (.getfield 39, 3) := by decide +kernel
theorem dX10_findsCorners_31 : decode cX10_findsCorners 31 = .ok (.iload_n 2, 1) := by decide +kernel
theorem dX10_findsCorners_32 : decode cX10_findsCorners 32 = .ok (.aload_n 0, 1) := by decide +kernel
theorem dX10_findsCorners_33 : decode cX10_findsCorners 33 = .ok (.getfield 112, 3) := by decide +kernel
theorem dX10_findsCorners_36 : decode cX10_findsCorners 36 = .ok (.iadd, 1) := by decide +kernel
theorem dX10_findsCorners_37 : decode cX10_findsCorners 37 = .ok (.iconst 1, 1) := by decide +kernel
theorem dX10_findsCorners_38 : decode cX10_findsCorners 38 = .ok (.isub, 1) := by decide +kernel
theorem dX10_findsCorners_39 : decode cX10_findsCorners 39 = .ok (.aload_n 0, 1) := by decide +kernel
theorem dX10_findsCorners_40 : decode cX10_findsCorners 40 = .ok (.getfield 112, 3) := by decide +kernel
theorem dX10_findsCorners_43 : decode cX10_findsCorners 43 = .ok (.irem, 1) := by decide +kernel
theorem dX10_findsCorners_44 : decode cX10_findsCorners 44 = .ok (.iaload, 1) := by decide +kernel
theorem dX10_findsCorners_45 : decode cX10_findsCorners 45 = .ok (.if_icmp .eq 5, 3) := by decide +kernel
theorem dX10_findsCorners_48 : decode cX10_findsCorners 48 = .ok (.iload_n 2, 1) := by decide +kernel
theorem dX10_findsCorners_49 : decode cX10_findsCorners 49 = .ok (.istore_n 1, 1) := by decide +kernel
theorem dX10_findsCorners_50 : decode cX10_findsCorners 50 = .ok (.iinc 2 1, 3) := by decide +kernel
theorem dX10_findsCorners_53 : decode cX10_findsCorners 53 = .ok (.goto (-44), 3) := by decide +kernel
theorem dX10_findsCorners_56 : decode cX10_findsCorners 56 = .ok (.iload_n 1, 1) := by decide +kernel
theorem dX10_findsCorners_57 : decode cX10_findsCorners 57 = .ok (.ifCond .ge 4, 3) := by decide +kernel
theorem dX10_findsCorners_60 : decode cX10_findsCorners 60 = .ok (.return_, 1) := by decide +kernel
theorem dX10_findsCorners_61 : decode cX10_findsCorners 61 = .ok (.iconst 0, 1) := by decide +kernel
theorem dX10_findsCorners_62 : decode cX10_findsCorners 62 = .ok (.istore_n 2, 1) := by decide +kernel
theorem dX10_findsCorners_63 : decode cX10_findsCorners 63 = .ok (.iconst 0, 1) := by decide +kernel
theorem dX10_findsCorners_64 : decode cX10_findsCorners 64 = .ok (.istore_n 3, 1) := by decide +kernel
theorem dX10_findsCorners_65 : decode cX10_findsCorners 65 = .ok (.iload_n 3, 1) := by decide +kernel
theorem dX10_findsCorners_66 : decode cX10_findsCorners 66 = .ok (.aload_n 0, 1) := by decide +kernel
theorem dX10_findsCorners_67 : decode cX10_findsCorners 67 = .ok (.getfield 112, 3) := by decide +kernel
theorem dX10_findsCorners_70 : decode cX10_findsCorners 70 = .ok (.if_icmp .ge 104, 3) := by decide +kernel
theorem dX10_findsCorners_73 : decode cX10_findsCorners 73 = .ok (.iload_n 1, 1) := by decide +kernel
theorem dX10_findsCorners_74 : decode cX10_findsCorners 74 = .ok (.iload_n 3, 1) := by decide +kernel
theorem dX10_findsCorners_75 : decode cX10_findsCorners 75 = .ok (.iadd, 1) := by decide +kernel
theorem dX10_findsCorners_76 : decode cX10_findsCorners 76 = .ok (.aload_n 0, 1) := by decide +kernel
theorem dX10_findsCorners_77 : decode cX10_findsCorners 77 = .ok (.getfield 112, 3) := by decide +kernel
theorem dX10_findsCorners_80 : decode cX10_findsCorners 80 = .ok (.irem, 1) := by decide +kernel
theorem dX10_findsCorners_81 : decode cX10_findsCorners 81 = .ok (.istore 4, 2) := by decide +kernel
theorem dX10_findsCorners_83 : decode cX10_findsCorners 83 = .ok (.aload_n 0, 1) := by decide +kernel
theorem dX10_findsCorners_84 : decode cX10_findsCorners 84 = .ok (.getfield 39, 3) := by decide +kernel
theorem dX10_findsCorners_87 : decode cX10_findsCorners 87 = .ok (.iload 4, 2) := by decide +kernel
theorem dX10_findsCorners_89 : decode cX10_findsCorners 89 = .ok (.iconst 1, 1) := by decide +kernel
theorem dX10_findsCorners_90 : decode cX10_findsCorners 90 = .ok (.iadd, 1) := by decide +kernel
theorem dX10_findsCorners_91 : decode cX10_findsCorners 91 = .ok (.aload_n 0, 1) := by decide +kernel
theorem dX10_findsCorners_92 : decode cX10_findsCorners 92 = .ok (.getfield 112, 3) := by decide +kernel
theorem dX10_findsCorners_95 : decode cX10_findsCorners 95 = .ok (.irem, 1) := by decide +kernel
theorem dX10_findsCorners_96 : decode cX10_findsCorners 96 = .ok (.iaload, 1) := by decide +kernel
theorem dX10_findsCorners_97 : decode cX10_findsCorners 97 = .ok (.aload_n 0, 1) := by decide +kernel
theorem dX10_findsCorners_98 : decode cX10_findsCorners 98 = .ok (.getfield 39, 3) := by decide +kernel
theorem dX10_findsCorners_101 : decode cX10_findsCorners 101 = .ok (.iload 4, 2) := by decide +kernel
theorem dX10_findsCorners_103 : decode cX10_findsCorners 103 = .ok (.iaload, 1) := by decide +kernel
theorem dX10_findsCorners_104 : decode cX10_findsCorners 104 = .ok (.isub, 1) := by decide +kernel
theorem dX10_findsCorners_105 : decode cX10_findsCorners 105 = .ok (.aload_n 0, 1) := by decide +kernel
theorem dX10_findsCorners_106 : decode cX10_findsCorners 106 = .ok (.getfield 7, 3) := by decide +kernel
theorem dX10_findsCorners_109 : decode cX10_findsCorners 109 = .ok (.iadd, 1) := by decide +kernel
theorem dX10_findsCorners_110 : decode cX10_findsCorners 110 = .ok (.aload_n 0, 1) := by decide +kernel
theorem dX10_findsCorners_111 : decode cX10_findsCorners 111 = .ok (.getfield 7, 3) := by decide +kernel
theorem dX10_findsCorners_114 : decode cX10_findsCorners 114 = .ok (.irem, 1) := by decide +kernel
theorem dX10_findsCorners_115 : decode cX10_findsCorners 115 = .ok (.istore 5, 2) := by decide +kernel
theorem dX10_findsCorners_117 : decode cX10_findsCorners 117 = .ok (.iload_n 2, 1) := by decide +kernel
theorem dX10_findsCorners_118 : decode cX10_findsCorners 118 = .ok (.aload_n 0, 1) := by decide +kernel
theorem dX10_findsCorners_119 : decode cX10_findsCorners 119 = .ok (.getfield 42, 3) := by decide +kernel
theorem dX10_findsCorners_122 : decode cX10_findsCorners 122 = .ok (.iload 4, 2) := by decide +kernel
theorem dX10_findsCorners_124 : decode cX10_findsCorners 124 = .ok (.iaload, 1) := by decide +kernel
theorem dX10_findsCorners_125 : decode cX10_findsCorners 125 = .ok (.iadd, 1) := by decide +kernel
theorem dX10_findsCorners_126 : decode cX10_findsCorners 126 = .ok (.istore_n 2, 1) := by decide +kernel
theorem dX10_findsCorners_127 : decode cX10_findsCorners 127 = .ok (.iload 5, 2) := by decide +kernel
theorem dX10_findsCorners_129 : decode cX10_findsCorners 129 = .ok (.ifCond .ne 6, 3) := by decide +kernel
theorem dX10_findsCorners_132 : decode cX10_findsCorners 132 = .ok (.goto 36, 3) := by decide +kernel
theorem dX10_findsCorners_135 : decode cX10_findsCorners 135 = .ok (.aload_n 0, 1) := by decide +kernel
theorem dX10_findsCorners_136 : decode cX10_findsCorners 136 = .ok (.getfield 90, 3) := by decide +kernel
theorem dX10_findsCorners_139 : decode cX10_findsCorners 139 = .ok (.aload_n 0, 1) := by decide +kernel
theorem dX10_findsCorners_140 : decode cX10_findsCorners 140 = .ok (.getfield 263, 3) := by decide +kernel
theorem dX10_findsCorners_143 : decode cX10_findsCorners 143 = .ok (.iload_n 2, 1) := by decide +kernel
theorem dX10_findsCorners_144 : decode cX10_findsCorners 144 = .ok (.iastore, 1) := by decide +kernel
theorem dX10_findsCorners_145 : decode cX10_findsCorners 145 = .ok (.aload_n 0, 1) := by decide +kernel
theorem dX10_findsCorners_146 : decode cX10_findsCorners 146 = .ok (.getfield 93, 3) := by decide +kernel
theorem dX10_findsCorners_149 : decode cX10_findsCorners 149 = .ok (.aload_n 0, 1) := by decide +kernel
theorem dX10_findsCorners_150 : decode cX10_findsCorners 150 = .ok (.getfield 263, 3) := by decide +kernel
theorem dX10_findsCorners_153 : decode cX10_findsCorners 153 = .ok (.iload 5, 2) := by decide +kernel
theorem dX10_findsCorners_155 : decode cX10_findsCorners 155 = .ok (.iastore, 1) := by decide +kernel
theorem dX10_findsCorners_156 : decode cX10_findsCorners 156 = .ok (.aload_n 0, 1) := by decide +kernel
theorem dX10_findsCorners_157 : decode cX10_findsCorners 157 = .ok (.dup, 1) := by decide +kernel
theorem dX10_findsCorners_158 : decode cX10_findsCorners 158 = .ok (.getfield 263, 3) := by decide +kernel
theorem dX10_findsCorners_161 : decode cX10_findsCorners 161 = .ok (.iconst 1, 1) := by decide +kernel
