theorem dX10_findsCorners_162 : decode cX10_findsCorners 162 = .ok (.iadd, 1) := by decide +kernel
theorem dX10_findsCorners_163 : decode cX10_findsCorners 163 = .ok (.putfield 263, 3) := by decide +kernel
theorem dX10_findsCorners_166 : decode cX10_findsCorners 166 = .ok (.iconst 0, 1) := by decide +kernel
theorem dX10_findsCorners_167 : decode cX10_findsCorners 167 = .ok (.istore_n 2, 1) := by decide +kernel
theorem dX10_findsCorners_168 : decode cX10_findsCorners 168 = .ok (.iinc 3 1, 3) := by decide +kernel
theorem dX10_findsCorners_171 : decode cX10_findsCorners 171 = .ok (.goto (-106), 3) := by decide +kernel
theorem dX10_findsCorners_174 : decode cX10_findsCorners 174 = .ok (.return_, 1) := by decide +kernel
theorem dX10_corners_0 : decode cX10_corners 0 = .ok (.aload_n 0, 1) := by decide +kernel
theorem dX10_corners_1 : decode cX10_corners 1 = .ok (.iconst 0, 1) := by decide +kernel
theorem dX10_corners_2 : decode cX10_corners 2 = .ok (.putfield 99, 3) := by decide +kernel
theorem dX10_corners_5 : decode cX10_corners 5 = .ok (.aload_n 0, 1) := by decide +kernel
theorem dX10_corners_6 : decode cX10_corners 6 = .ok (.invokevirtual 266, 3) := by decide +kernel
theorem dX10_corners_9 : decode cX10_corners 9 = .ok (.ifCond .ne 9, 3) := by decide +kernel
theorem dX10_corners_12 : decode cX10_corners 12 = .ok (.aload_n 0, 1) := by decide +kernel
theorem dX10_corners_13 : decode cX10_corners 13 = .ok (.iconst 1, 1) := by decide +kernel
theorem dX10_corners_14 : decode cX10_corners 14 = .ok (.invokevirtual 124, 3) := by decide +kernel
theorem dX10_corners_17 : decode cX10_corners 17 = .ok (.ireturn, 1) := by decide +kernel
theorem dX10_corners_18 : decode cX10_corners 18 = .ok (.aload_n 0, 1) := by decide +kernel
theorem dX10_corners_19 : decode cX10_corners 19 = .ok (.invokevirtual 269, 3) := by decide +kernel
theorem dX10_corners_22 : decode cX10_corners 22 = .ok (.aload_n 0, 1) := by decide +kernel
theorem dX10_corners_23 : decode cX10_corners 23 = .ok (.getfield 263, 3) := by decide +kernel
theorem dX10_corners_26 : decode cX10_corners 26 = .ok (.ireturn, 1) := by decide +kernel
theorem dX10_symmetry_0 : decode cX10_symmetry 0 = .ok (.aload_n 0, 1) := by decide +kernel
theorem dX10_symmetry_1 : decode cX10_symmetry 1 = .ok (.iconst 0, 1) := by decide +kernel
theorem dX10_symmetry_2 : decode cX10_symmetry 2 = .ok (.putfield 99, 3) := by decide +kernel
theorem dX10_symmetry_5 : decode cX10_symmetry 5 = .ok (.aload_n 0, 1) := by decide +kernel
theorem dX10_symmetry_6 : decode cX10_symmetry 6 = .ok (.invokevirtual 266, 3) := by decide +kernel
theorem dX10_symmetry_9 : decode cX10_symmetry 9 = .ok (.ifCond .ne 9, 3) := by decide +kernel
theorem dX10_symmetry_12 : decode cX10_symmetry 12 = .ok (.aload_n 0, 1) := by decide +kernel
theorem dX10_symmetry_13 : decode cX10_symmetry 13 = .ok (.iconst 1, 1) := by decide +kernel
theorem dX10_symmetry_14 : decode cX10_symmetry 14 = .ok (.invokevirtual 124, 3) := by decide +kernel
theorem dX10_symmetry_17 : decode cX10_symmetry 17 = .ok (.ireturn, 1) := by decide +kernel
theorem dX10_symmetry_18 : decode cX10_symmetry 18 = .ok (.aload_n 0, 1) := by decide +kernel
theorem dX10_symmetry_19 : decode cX10_symmetry 19 = .ok (.invokevirtual 269, 3) := by decide +kernel
theorem dX10_symmetry_22 : decode cX10_symmetry 22 = .ok (.aload_n 0, 1) := by decide +kernel
theorem dX10_symmetry_23 : decode cX10_symmetry 23 = .ok (.getfield 263, 3) := by decide +kernel
theorem dX10_symmetry_26 : decode cX10_symmetry 26 = .ok (.ifCond .ne 9, 3) := by decide +kernel
theorem dX10_symmetry_29 : decode cX10_symmetry 29 = .ok (.aload_n 0, 1) := by decide +kernel
theorem dX10_symmetry_30 : decode cX10_symmetry 30 = .ok (.iconst 1, 1) := by decide +kernel
theorem dX10_symmetry_31 : decode cX10_symmetry 31 = .ok (.invokevirtual 124, 3) := by decide +kernel
theorem dX10_symmetry_34 : decode cX10_symmetry 34 = .ok (.ireturn, 1) := by decide +kernel
theorem dX10_symmetry_35 : decode cX10_symmetry 35 = .ok (.iconst 0, 1) := by decide +kernel
theorem dX10_symmetry_36 : decode cX10_symmetry 36 = .ok (.istore_n 1, 1) := by decide +kernel
theorem dX10_symmetry_37 : decode cX10_symmetry 37 = .ok (.iconst 0, 1) := by decide +kernel
theorem dX10_symmetry_38 : decode cX10_symmetry 38 = .ok (.istore_n 2, 1) := by decide +kernel
theorem dX10_symmetry_39 : decode cX10_symmetry 39 = .ok (.iload_n 2, 1) := by decide +kernel
theorem dX10_symmetry_40 : decode cX10_symmetry 40 = .ok (.aload_n 0, 1) := by decide +kernel
theorem dX10_symmetry_41 : decode cX10_symmetry 41 = .ok (.getfield 263, 3) := by decide +kernel
theorem dX10_symmetry_44 : decode cX10_symmetry 44 = .ok (.if_icmp .ge 91, 3) := by decide +kernel
theorem dX10_symmetry_47 : decode cX10_symmetry 47 = .ok (.iconst 1, 1) := by decide +kernel
theorem dX10_symmetry_48 : decode cX10_symmetry 48 = .ok (.istore_n 3, 1) := by decide +kernel
theorem dX10_symmetry_49 : decode cX10_symmetry 49 = .ok (.iconst 0, 1) := by decide +kernel
theorem dX10_symmetry_50 : decode cX10_symmetry 50 = .ok (.istore 4, 2) := by decide +kernel
theorem dX10_symmetry_52 : decode cX10_symmetry 52 = .ok (.iload 4, 2) := by decide +kernel
theorem dX10_symmetry_54 : decode cX10_symmetry 54 = .ok (.aload_n 0, 1) := by decide +kernel
theorem dX10_symmetry_55 : decode cX10_symmetry 55 = .ok (.getfield 263, 3) := by decide +kernel
theorem dX10_symmetry_58 : decode cX10_symmetry 58 = .ok (.if_icmp .ge 64, 3) := by decide +kernel
theorem dX10_symmetry_61 : decode cX10_symmetry 61 = .ok (.iload 4, 2) := by decide +kernel
theorem dX10_symmetry_63 : decode cX10_symmetry 63 = .ok (.iload_n 2, 1) := by decide +kernel
theorem dX10_symmetry_64 : decode cX10_symmetry 64 = .ok (.iadd, 1) := by decide +kernel
theorem dX10_symmetry_65 : decode cX10_symmetry 65 = .ok (.aload_n 0, 1) := by decide +kernel
theorem dX10_symmetry_66 : decode cX10_symmetry 66 = .ok (.getfield 263, 3) := by decide +kernel
theorem dX10_symmetry_69 : decode cX10_symmetry 69 = .ok (.irem, 1) := by decide +kernel
theorem dX10_symmetry_70 : decode cX10_symmetry 70 = .ok (.istore 5, 2) := by decide +kernel
theorem dX10_symmetry_72 : decode cX10_symmetry 72 = .ok (.iload_n 3, 1) := by decide +kernel
theorem dX10_symmetry_73 : decode cX10_symmetry 73 = .ok (.ifCond .eq 41, 3) := by decide +kernel
theorem dX10_symmetry_76 : decode cX10_symmetry 76 = .ok (.aload_n 0, 1) := by decide +kernel
theorem dX10_symmetry_77 : decode cX10_symmetry 77 = .ok (.getfield 90, 3) := by decide +kernel
theorem dX10_symmetry_80 : decode cX10_symmetry 80 = .ok (.iload 4, 2) := by decide +kernel
theorem dX10_symmetry_82 : decode cX10_symmetry 82 = .ok (.iaload, 1) := by decide +kernel
theorem dX10_symmetry_83 : decode cX10_symmetry 83 = .ok (.aload_n 0, 1) := by decide +kernel
theorem dX10_symmetry_84 : decode cX10_symmetry 84 = .ok (.getfield 90, 3) := by decide +kernel
theorem dX10_symmetry_87 : decode cX10_symmetry 87 = .ok (.iload 5, 2) := by decide +kernel
theorem dX10_symmetry_89 : decode cX10_symmetry 89 = .ok (.iaload, 1) := by decide +kernel
theorem dX10_symmetry_90 : decode cX10_symmetry 90 = .ok (.if_icmp .ne 24, 3) := by decide +kernel
theorem dX10_symmetry_93 : decode cX10_symmetry 93 = .ok (.aload_n 0, 1) := by decide +kernel
theorem dX10_symmetry_94 : decode cX10_symmetry 94 = .ok (.getfield 93, 3) := by decide +kernel
theorem dX10_symmetry_97 : decode cX10_symmetry 97 = .ok (.iload 4, 2) := by decide +kernel
theorem dX10_symmetry_99 : decode cX10_symmetry 99 = .ok (.iaload, 1) := by decide +kernel
theorem dX10_symmetry_100 : decode cX10_symmetry 100 = .ok (.aload_n 0, 1) := by decide +kernel
theorem dX10_symmetry_101 : decode cX10_symmetry 101 = .ok (.getfield 93, 3) := by decide +kernel
theorem dX10_symmetry_104 : decode cX10_symmetry 104 = .ok (.iload 5, 2) := by decide +kernel
theorem dX10_symmetry_106 : decode cX10_symmetry 106 = .ok (.iaload, 1) := by decide +kernel
theorem dX10_symmetry_107 : decode cX10_symmetry 107 = .ok (.if_icmp .ne 7, 3) := by decide +kernel
theorem dX10_symmetry_110 : decode cX10_symmetry 110 = .ok (.iconst 1, 1) := by decide +kernel
theorem dX10_symmetry_111 : decode cX10_symmetry 111 = .ok (.goto 4, 3) := by decide +kernel
theorem dX10_symmetry_114 : decode cX10_symmetry 114 = .ok (.iconst 0, 1) := by decide +kernel
theorem dX10_symmetry_115 : decode cX10_symmetry 115 = .ok (.istore_n 3, 1) := by decide +kernel
theorem dX10_symmetry_116 : decode cX10_symmetry 116 = .ok (.iinc 4 1, 3) := by decide +kernel
theorem dX10_symmetry_119 : decode cX10_symmetry 119 = .ok (.goto (-67), 3) := by decide +kernel
theorem dX10_symmetry_122 : decode cX10_symmetry 122 = .ok (.iload_n 3, 1) := by decide +kernel
theorem dX10_symmetry_123 : decode cX10_symmetry 123 = .ok (.ifCond .eq 6, 3) := by decide +kernel
theorem dX10_symmetry_126 : decode cX10_symmetry 126 = .ok (.iinc 1 1, 3) := by decide +kernel
theorem dX10_symmetry_129 : decode cX10_symmetry 129 = .ok (.iinc 2 1, 3) := by decide +kernel
theorem dX10_symmetry_132 : decode cX10_symmetry 132 = .ok (.goto (-93), 3) := by decide +kernel
theorem dX10_symmetry_135 : decode cX10_symmetry 135 = .ok (.iload_n 1, 1) := by decide +kernel
theorem dX10_symmetry_136 : decode cX10_symmetry 136 = .ok (.ireturn, 1) := by decide +kernel
theorem dX10_isMirrored_0 : decode cX10_isMirrored 0 = .ok (.aload_n 0, 1) := by decide +kernel
theorem dX10_isMirrored_1 : decode cX10_isMirrored 1 = .ok (.iconst 0, 1) := by decide +kernel
theorem dX10_isMirrored_2 : decode cX10_isMirrored 2 = .ok (.putfield 99, 3) := by decide +kernel
theorem dX10_isMirrored_5 : decode cX10_isMirrored 5 = .ok (.aload_n 0, 1) := by decide +kernel
theorem dX10_isMirrored_6 : decode cX10_isMirrored 6 = .ok (.invokevirtual 266, 3) := by decide +kernel
theorem dX10_isMirrored_9 : decode cX10_isMirrored 9 = .ok (.ifCond .eq 10, 3) := by decide +kernel
theorem dX10_isMirrored_12 : decode cX10_isMirrored 12 = .ok (.aload_n 0, 1) := by decide +kernel
theorem dX10_isMirrored_13 : decode cX10_isMirrored 13 = .ok (.invokevirtual 269, 3) := by decide +kernel
theorem dX10_isMirrored_16 : decode cX10_isMirrored 16 = .ok (.goto 8, 3) := by decide +kernel
theorem dX10_isMirrored_19 : decode cX10_isMirrored 19 = .ok (.aload_n 0, 1) := by decide +kernel
theorem dX10_isMirrored_20 : decode cX10_isMirrored 20 = .ok (.iconst 0, 1) := by decide +kernel
theorem dX10_isMirrored_21 : decode cX10_isMirrored 21 = .ok (.putfield 263, 3) := by decide +kernel
theorem dX10_isMirrored_24 : decode cX10_isMirrored 24 = .ok (.aload_n 0, 1) := by decide +kernel
theorem dX10_isMirrored_25 : decode cX10_isMirrored 25 = .ok (.getfield 263, 3) := by decide +kernel
theorem dX10_isMirrored_28 : decode cX10_isMirrored 28 = .ok (.ifCond .ne 10, 3) := by decide +kernel
theorem dX10_isMirrored_31 : decode cX10_isMirrored 31 = .ok (.aload_n 0, 1) := by decide +kernel
theorem dX10_isMirrored_32 : decode cX10_isMirrored 32 = .ok (.iconst 1, 1) := by decide +kernel
theorem dX10_isMirrored_33 : decode cX10_isMirrored 33 = .ok (.putfield 99, 3) := by decide +kernel
theorem dX10_isMirrored_36 : decode cX10_isMirrored 36 = .ok (.iconst 0, 1) := by decide +kernel
theorem dX10_isMirrored_37 : decode cX10_isMirrored 37 = .ok (.ireturn, 1) := by decide +kernel
theorem dX10_isMirrored_38 : decode cX10_isMirrored 38 = .ok (.iconst 0, 1) := by decide +kernel
theorem dX10_isMirrored_39 : decode cX10_isMirrored 39 = .ok (.istore_n 1, 1) := by decide +kernel
theorem dX10_isMirrored_40 : decode cX10_isMirrored 40 = .ok (.iload_n 1, 1) := by decide +kernel
theorem dX10_isMirrored_41 : decode cX10_isMirrored 41 = .ok (.aload_n 0, 1) := by decide +kernel
theorem dX10_isMirrored_42 : decode cX10_isMirrored 42 = .ok (.getfield 263, 3) := by decide +kernel
theorem dX10_isMirrored_45 : decode cX10_isMirrored 45 = .ok (.if_icmp .ge 102, 3) := by decide +kernel
theorem dX10_isMirrored_48 : decode cX10_isMirrored 48 = .ok (.iconst 1, 1) := by decide +kernel
theorem dX10_isMirrored_49 : decode cX10_isMirrored 49 = .ok (.istore_n 2, 1) := by decide +kernel
theorem dX10_isMirrored_50 : decode cX10_isMirrored 50 = .ok (.iconst 0, 1) := by decide +kernel
theorem dX10_isMirrored_51 : decode cX10_isMirrored 51 = .ok (.istore_n 3, 1) := by decide +kernel
theorem dX10_isMirrored_52 : decode cX10_isMirrored 52 = .ok (.iload_n 3, 1) := by decide +kernel
theorem dX10_isMirrored_53 : decode cX10_isMirrored 53 = .ok (.aload_n 0, 1) := by decide +kernel
theorem dX10_isMirrored_54 : decode cX10_isMirrored 54 = .ok (.getfield 263, 3) := by decide +kernel
theorem dX10_isMirrored_57 : decode cX10_isMirrored 57 = .ok (.if_icmp .ge 78, 3) := by decide +kernel
theorem dX10_isMirrored_60 : decode cX10_isMirrored 60 = .ok (.iload_n 1, 1) := by decide +kernel
theorem dX10_isMirrored_61 : decode cX10_isMirrored 61 = .ok (.iload_n 3, 1) := by decide +kernel
theorem dX10_isMirrored_62 : decode cX10_isMirrored 62 = .ok (.isub, 1) := by decide +kernel
theorem dX10_isMirrored_63 : decode cX10_isMirrored 63 = .ok (.aload_n 0, 1) := by decide +kernel
theorem dX10_isMirrored_64 : decode cX10_isMirrored 64 = .ok (.getfield 263, 3) := by decide +kernel
theorem dX10_isMirrored_67 : decode cX10_isMirrored 67 = .ok (.iadd, 1) := by decide +kernel
theorem dX10_isMirrored_68 : decode cX10_isMirrored 68 = .ok (.aload_n 0, 1) := by decide +kernel
theorem dX10_isMirrored_69 : decode cX10_isMirrored 69 = .ok (.getfield 263, 3) := by decide +kernel
theorem dX10_isMirrored_72 : decode cX10_isMirrored 72 = .ok (.irem, 1) := by decide +kernel
theorem dX10_isMirrored_73 : decode cX10_isMirrored 73 = .ok (.istore 4, 2) := by decide +kernel
theorem dX10_isMirrored_75 : decode cX10_isMirrored 75 = .ok (.iload_n 2, 1) := by decide +kernel
theorem dX10_isMirrored_76 : decode cX10_isMirrored 76 = .ok (.ifCond .eq 51, 3) := by decide +kernel
theorem dX10_isMirrored_79 : decode cX10_isMirrored 79 = .ok (.aload_n 0, 1) := by decide +kernel
theorem dX10_isMirrored_80 : decode cX10_isMirrored 80 = .ok (.getfield 90, 3) := by decide +kernel
theorem dX10_isMirrored_83 : decode cX10_isMirrored 83 = .ok (.iload_n 3, 1) := by decide +kernel
theorem dX10_isMirrored_84 : decode cX10_isMirrored 84 = .ok (.iaload, 1) := by decide +kernel
theorem dX10_isMirrored_85 : decode cX10_isMirrored 85 = .ok (.aload_n 0, 1) := by decide +kernel
theorem dX10_isMirrored_86 : decode cX10_isMirrored 86 = .ok (.getfield 90, 3) := by decide +kernel
theorem dX10_isMirrored_89 : decode cX10_isMirrored 89 = .ok (.iload 4, 2) := by decide +kernel
theorem dX10_isMirrored_91 : decode cX10_isMirrored 91 = .ok (.iaload, 1) := by decide +kernel
theorem dX10_isMirrored_92 : decode cX10_isMirrored 92 = .ok (.if_icmp .ne 35, 3) := by decide +kernel
theorem dX10_isMirrored_95 : decode cX10_isMirrored 95 = .ok (.aload_n 0, 1) := by decide +kernel
theorem dX10_isMirrored_96 : decode cX10_isMirrored 96 = .ok (.getfield 93, 3) := by decide +kernel
theorem dX10_isMirrored_99 : decode cX10_isMirrored 99 = .ok (.iload_n 3, 1) := by decide +kernel
theorem dX10_isMirrored_100 : decode cX10_isMirrored 100 = .ok (.iaload, 1) := by decide +kernel
theorem dX10_isMirrored_101 : decode cX10_isMirrored 101 = .ok (.aload_n 0, 1) := by decide +kernel
theorem dX10_isMirrored_102 : decode cX10_isMirrored 102 = .ok (.getfield 93, 3) := by decide +kernel
theorem dX10_isMirrored_105 : decode cX10_isMirrored 105 = .ok (.iload 4, 2) := by decide +kernel
theorem dX10_isMirrored_107 : decode cX10_isMirrored 107 = .ok (.aload_n 0, 1) := by decide +kernel
theorem dX10_isMirrored_108 : decode cX10_isMirrored 108 = .ok (.getfield 263, 3) := by decide +kernel
theorem dX10_isMirrored_111 : decode cX10_isMirrored 111 = .ok (.iadd, 1) := by decide +kernel
theorem dX10_isMirrored_112 : decode cX10_isMirrored 112 = .ok (.iconst 1, 1) := by decide +kernel
theorem dX10_isMirrored_113 : decode cX10_isMirrored 113 = .ok (.isub, 1) := by decide +kernel
theorem dX10_isMirrored_114 : decode cX10_isMirrored 114 = .ok (.aload_n 0, 1) := by decide +kernel
theorem dX10_isMirrored_115 : decode cX10_isMirrored 115 = .ok (.getfield 263, 3) := by decide +kernel
theorem dX10_isMirrored_118 : decode cX10_isMirrored 118 = .ok (.irem, 1) := by decide +kernel
theorem dX10_isMirrored_119 : decode cX10_isMirrored 119 = .ok (.iaload, 1) := by decide +kernel
theorem dX10_isMirrored_120 : decode cX10_isMirrored 120 = .ok (.if_icmp .ne 7, 3) := by decide +kernel
theorem dX10_isMirrored_123 : decode cX10_isMirrored 123 = .ok (.iconst 1, 1) := by decide +kernel
theorem dX10_isMirrored_124 : decode cX10_isMirrored 124 = .ok (.goto 4, 3) := by decide +kernel
theorem dX10_isMirrored_127 : decode cX10_isMirrored 127 = .ok (.iconst 0, 1) := by decide +kernel
theorem dX10_isMirrored_128 : decode cX10_isMirrored 128 = .ok (.istore_n 2, 1) := by decide +kernel
theorem dX10_isMirrored_129 : decode cX10_isMirrored 129 = .ok (.iinc 3 1, 3) := by decide +kernel
theorem dX10_isMirrored_132 : decode cX10_isMirrored 132 = .ok (.goto (-80), 3) := by decide +kernel
theorem dX10_isMirrored_135 : decode cX10_isMirrored 135 = .ok (.iload_n 2, 1) := by decide +kernel
theorem dX10_isMirrored_136 : decode cX10_isMirrored 136 = .ok (.ifCond .eq 5, 3) := by decide +kernel
theorem dX10_isMirrored_139 : decode cX10_isMirrored 139 = .ok (.iconst 1, 1) := by decide +kernel
theorem dX10_isMirrored_140 : decode cX10_isMirrored 140 = .ok (.ireturn, 1) := by decide +kernel
theorem dX10_isMirrored_141 : decode cX10_isMirrored 141 = .ok (.iinc 1 1, 3) := by decide +kernel
theorem dX10_isMirrored_144 : decode cX10_isMirrored 144 = .ok (.goto (-104), 3) := by decide +kernel
theorem dX10_isMirrored_147 : decode cX10_isMirrored 147 = .ok (.iconst 0, 1) := by decide +kernel
theorem dX10_isMirrored_148 : decode cX10_isMirrored 148 = .ok (.ireturn, 1) := by decide +kernel
theorem dX10_walks_0 : decode cX10_walks 0 = .ok (.iload_n 2, 1) := by decide +kernel
theorem dX10_walks_1 : decode cX10_walks 1 = .ok (.ifCond .ne 79, 3) := by decide +kernel
theorem dX10_walks_4 : decode cX10_walks 4 = .ok (.iconst 4, 1) := by decide +kernel
theorem dX10_walks_5 : decode cX10_walks 5 = .ok (.aload_n 0, 1) := by decide +kernel
theorem dX10_walks_6 : decode cX10_walks 6 = .ok (.getfield 112, 3) := by decide +kernel
theorem dX10_walks_9 : decode cX10_walks 9 = .ok (.imul, 1) := by decide +kernel
theorem dX10_walks_10 : decode cX10_walks 10 = .ok (.istore 8, 2) := by decide +kernel
theorem dX10_walks_12 : decode cX10_walks 12 = .ok (.iload 7, 2) := by decide +kernel
theorem dX10_walks_14 : decode cX10_walks 14 = .ok (.aload_n 0, 1) := by decide +kernel
theorem dX10_walks_15 : decode cX10_walks 15 = .ok (.getfield 115, 3) := by decide +kernel
theorem dX10_walks_18 : decode cX10_walks 18 = .ok (.if_icmp .ne 60, 3) := by decide +kernel
theorem dX10_walks_21 : decode cX10_walks 21 = .ok (.iload_n 3, 1) := by decide +kernel
theorem dX10_walks_22 : decode cX10_walks 22 = .ok (.aload_n 0, 1) := by decide +kernel
theorem dX10_walks_23 : decode cX10_walks 23 = .ok (.getfield 32, 3) := by decide +kernel
theorem dX10_walks_26 : decode cX10_walks 26 = .ok (.iload 8, 2) := by decide +kernel
theorem dX10_walks_28 : decode cX10_walks 28 = .ok (.iaload, 1) := by decide +kernel
theorem dX10_walks_29 : decode cX10_walks 29 = .ok (.if_icmp .ne 49, 3) := by decide +kernel
theorem dX10_walks_32 : decode cX10_walks 32 = .ok (.iload 4, 2) := by decide +kernel
theorem dX10_walks_34 : decode cX10_walks 34 = .ok (.aload_n 0, 1) := by decide +kernel
theorem dX10_walks_35 : decode cX10_walks 35 = .ok (.getfield 32, 3) := by decide +kernel
theorem dX10_walks_38 : decode cX10_walks 38 = .ok (.iload 8, 2) := by decide +kernel
theorem dX10_walks_40 : decode cX10_walks 40 = .ok (.iconst 1, 1) := by decide +kernel
theorem dX10_walks_41 : decode cX10_walks 41 = .ok (.iadd, 1) := by decide +kernel
theorem dX10_walks_42 : decode cX10_walks 42 = .ok (.iaload, 1) := by decide +kernel
theorem dX10_walks_43 : decode cX10_walks 43 = .ok (.if_icmp .ne 35, 3) := by decide +kernel
theorem dX10_walks_46 : decode cX10_walks 46 = .ok (.iload 5, 2) := by decide +kernel
theorem dX10_walks_48 : decode cX10_walks 48 = .ok (.aload_n 0, 1) := by decide +kernel
theorem dX10_walks_49 : decode cX10_walks 49 = .ok (.getfield 32, 3) := by decide +kernel
theorem dX10_walks_52 : decode cX10_walks 52 = .ok (.iload 8, 2) := by decide +kernel
theorem dX10_walks_54 : decode cX10_walks 54 = .ok (.iconst 2, 1) := by decide +kernel
theorem dX10_walks_55 : decode cX10_walks 55 = .ok (.iadd, 1) := by decide +kernel
theorem dX10_walks_56 : decode cX10_walks 56 = .ok (.iaload, 1) := by decide +kernel
theorem dX10_walks_57 : decode cX10_walks 57 = .ok (.if_icmp .ne 21, 3) := by decide +kernel
theorem dX10_walks_60 : decode cX10_walks 60 = .ok (.iload 6, 2) := by decide +kernel
theorem dX10_walks_62 : decode cX10_walks 62 = .ok (.aload_n 0, 1) := by decide +kernel
theorem dX10_walks_63 : decode cX10_walks 63 = .ok (.getfield 32, 3) := by decide +kernel
theorem dX10_walks_66 : decode cX10_walks 66 = .ok (.iload 8, 2) := by decide +kernel
theorem dX10_walks_68 : decode cX10_walks 68 = .ok (.iconst 3, 1) := by decide +kernel
theorem dX10_walks_69 : decode cX10_walks 69 = .ok (.iadd, 1) := by decide +kernel
theorem dX10_walks_70 : decode cX10_walks 70 = .ok (.iaload, 1) := by decide +kernel
theorem dX10_walks_71 : decode cX10_walks 71 = .ok (.if_icmp .ne 7, 3) := by decide +kernel
theorem dX10_walks_74 : decode cX10_walks 74 = .ok (.iconst 1, 1) := by decide +kernel
theorem dX10_walks_75 : decode cX10_walks 75 = .ok (.goto 4, 3) := by decide +kernel
theorem dX10_walks_78 : decode cX10_walks 78 = .ok (.iconst 0, 1) := by decide +kernel
theorem dX10_walks_79 : decode cX10_walks 79 = .ok (.ireturn, 1) := by decide +kernel
theorem dX10_walks_80 : decode cX10_walks 80 = .ok (.aload_n 0, 1) := by decide +kernel
theorem dX10_walks_81 : decode cX10_walks 81 = .ok (.getfield 81, 3) := by decide +kernel
theorem dX10_walks_84 : decode cX10_walks 84 = .ok (.iload_n 1, 1) := by decide +kernel
theorem dX10_walks_85 : decode cX10_walks 85 = .ok (.bipush 102, 2) := by decide +kernel
theorem dX10_walks_87 : decode cX10_walks 87 = .ok (.iastore, 1) := by decide +kernel
theorem dX10_walks_88 : decode cX10_walks 88 = .ok (.aload_n 0, 1) := by decide +kernel
theorem dX10_walks_89 : decode cX10_walks 89 = .ok (.iload_n 1, 1) := by decide +kernel
theorem dX10_walks_90 : decode cX10_walks 90 = .ok (.iconst 1, 1) := by decide +kernel
theorem dX10_walks_91 : decode cX10_walks 91 = .ok (.iadd, 1) := by decide +kernel
theorem dX10_walks_92 : decode cX10_walks 92 = .ok (.iload_n 2, 1) := by decide +kernel
theorem dX10_walks_93 : decode cX10_walks 93 = .ok (.iconst 1, 1) := by decide +kernel
theorem dX10_walks_94 : decode cX10_walks 94 = .ok (.isub, 1) := by decide +kernel
theorem dX10_walks_95 : decode cX10_walks 95 = .ok (.iload_n 3, 1) := by decide +kernel
theorem dX10_walks_96 : decode cX10_walks 96 = .ok (.aload_n 0, 1) := by decide +kernel
theorem dX10_walks_97 : decode cX10_walks 97 = .ok (.iload 7, 2) := by decide +kernel
theorem dX10_walks_99 : decode cX10_walks 99 = .ok (.iconst 0, 1) := by decide +kernel
theorem dX10_walks_100 : decode cX10_walks 100 = .ok (.invokevirtual 181, 3) := by decide +kernel
theorem dX10_walks_103 : decode cX10_walks 103 = .ok (.iadd, 1) := by decide +kernel
theorem dX10_walks_104 : decode cX10_walks 104 = .ok (.iload 4, 2) := by decide +kernel
theorem dX10_walks_106 : decode cX10_walks 106 = .ok (.aload_n 0, 1) := by decide +kernel
theorem dX10_walks_107 : decode cX10_walks 107 = .ok (.iload 7, 2) := by decide +kernel
theorem dX10_walks_109 : decode cX10_walks 109 = .ok (.iconst 1, 1) := by decide +kernel
theorem dX10_walks_110 : decode cX10_walks 110 = .ok (.invokevirtual 181, 3) := by decide +kernel
theorem dX10_walks_113 : decode cX10_walks 113 = .ok (.iadd, 1) := by decide +kernel
theorem dX10_walks_114 : decode cX10_walks 114 = .ok (.iload 5, 2) := by decide +kernel
theorem dX10_walks_116 : decode cX10_walks 116 = .ok (.aload_n 0, 1) := by decide +kernel
theorem dX10_walks_117 : decode cX10_walks 117 = .ok (.iload 7, 2) := by decide +kernel
theorem dX10_walks_119 : decode cX10_walks 119 = .ok (.iconst 2, 1) := by decide +kernel
theorem dX10_walks_120 : decode cX10_walks 120 = .ok (.invokevirtual 181, 3) := by decide +kernel
theorem dX10_walks_123 : decode cX10_walks 123 = .ok (.iadd, 1) := by decide +kernel
theorem dX10_walks_124 : decode cX10_walks 124 = .ok (.iload 6, 2) := by decide +kernel
theorem dX10_walks_126 : decode cX10_walks 126 = .ok (.aload_n 0, 1) := by decide +kernel
theorem dX10_walks_127 : decode cX10_walks 127 = .ok (.iload 7, 2) := by decide +kernel
theorem dX10_walks_129 : decode cX10_walks 129 = .ok (.iconst 3, 1) := by decide +kernel
theorem dX10_walks_130 : decode cX10_walks 130 = .ok (.invokevirtual 181, 3) := by decide +kernel
theorem dX10_walks_133 : decode cX10_walks 133 = .ok (.iadd, 1) := by decide +kernel
theorem dX10_walks_134 : decode cX10_walks 134 = .ok (.iload 7, 2) := by decide +kernel
theorem dX10_walks_136 : decode cX10_walks 136 = .ok (.invokevirtual 272, 3) := by decide +kernel
theorem dX10_walks_139 : decode cX10_walks 139 = .ok (.ifCond .eq 5, 3) := by decide +kernel
theorem dX10_walks_142 : decode cX10_walks 142 = .ok (.iconst 1, 1) := by decide +kernel
theorem dX10_walks_143 : decode cX10_walks 143 = .ok (.ireturn, 1) := by decide +kernel
theorem dX10_walks_144 : decode cX10_walks 144 = .ok (.aload_n 0, 1) := by decide +kernel
theorem dX10_walks_145 : decode cX10_walks 145 = .ok (.getfield 81, 3) := by decide +kernel
theorem dX10_walks_148 : decode cX10_walks 148 = .ok (.iload_n 1, 1) := by decide +kernel
theorem dX10_walks_149 : decode cX10_walks 149 = .ok (.bipush 108, 2) := by decide +kernel
theorem dX10_walks_151 : decode cX10_walks 151 = .ok (.iastore, 1) := by decide +kernel
theorem dX10_walks_152 : decode cX10_walks 152 = .ok (.aload_n 0, 1) := by decide +kernel
theorem dX10_walks_153 : decode cX10_walks 153 = .ok (.iload_n 1, 1) := by decide +kernel
theorem dX10_walks_154 : decode cX10_walks 154 = .ok (.iconst 1, 1) := by decide +kernel
theorem dX10_walks_155 : decode cX10_walks 155 = .ok (.iadd, 1) := by decide +kernel
theorem dX10_walks_156 : decode cX10_walks 156 = .ok (.iload_n 2, 1) := by decide +kernel
theorem dX10_walks_157 : decode cX10_walks 157 = .ok (.iconst 1, 1) := by decide +kernel
theorem dX10_walks_158 : decode cX10_walks 158 = .ok (.isub, 1) := by decide +kernel
theorem dX10_walks_159 : decode cX10_walks 159 = .ok (.iload_n 3, 1) := by decide +kernel
theorem dX10_walks_160 : decode cX10_walks 160 = .ok (.iload 4, 2) := by decide +kernel
theorem dX10_walks_162 : decode cX10_walks 162 = .ok (.iload 5, 2) := by decide +kernel
theorem dX10_walks_164 : decode cX10_walks 164 = .ok (.iload 6, 2) := by decide +kernel
theorem dX10_walks_166 : decode cX10_walks 166 = .ok (.iload 7, 2) := by decide +kernel
theorem dX10_walks_168 : decode cX10_walks 168 = .ok (.iconst 1, 1) := by decide +kernel
theorem dX10_walks_169 : decode cX10_walks 169 = .ok (.iadd, 1) := by decide +kernel
theorem dX10_walks_170 : decode cX10_walks 170 = .ok (.aload_n 0, 1) := by decide +kernel
theorem dX10_walks_171 : decode cX10_walks 171 = .ok (.getfield 7, 3) := by decide +kernel
theorem dX10_walks_174 : decode cX10_walks 174 = .ok (.irem, 1) := by decide +kernel
theorem dX10_walks_175 : decode cX10_walks 175 = .ok (.invokevirtual 272, 3) := by decide +kernel
theorem dX10_walks_178 : decode cX10_walks 178 = .ok (.ifCond .eq 5, 3) := by decide +kernel
theorem dX10_walks_181 : decode cX10_walks 181 = .ok (.iconst 1, 1) := by decide +kernel
theorem dX10_walks_182 : decode cX10_walks 182 = .ok (.ireturn, 1) := by decide +kernel
theorem dX10_walks_183 : decode cX10_walks 183 = .ok (.aload_n 0, 1) := by decide +kernel
theorem dX10_walks_184 : decode cX10_walks 184 = .ok (.getfield 81, 3) := by decide +kernel
theorem dX10_walks_187 : decode cX10_walks 187 = .ok (.iload_n 1, 1) := by decide +kernel
theorem dX10_walks_188 : decode cX10_walks 188 = .ok (.bipush 114, 2) := by decide +kernel
theorem dX10_walks_190 : decode cX10_walks 190 = .ok (.iastore, 1) := by decide +kernel
theorem dX10_walks_191 : decode cX10_walks 191 = .ok (.aload_n 0, 1) := by decide +kernel
theorem dX10_walks_192 : decode cX10_walks 192 = .ok (.iload_n 1, 1) := by decide +kernel
theorem dX10_walks_193 : decode cX10_walks 193 = .ok (.iconst 1, 1) := by decide +kernel
theorem dX10_walks_194 : decode cX10_walks 194 = .ok (.iadd, 1) := by decide +kernel
theorem dX10_walks_195 : decode cX10_walks 195 = .ok (.iload_n 2, 1) := by decide +kernel
theorem dX10_walks_196 : decode cX10_walks 196 = .ok (.iconst 1, 1) := by decide +kernel
theorem dX10_walks_197 : decode cX10_walks 197 = .ok (.isub, 1) := by decide +kernel
theorem dX10_walks_198 : decode cX10_walks 198 = .ok (.iload_n 3, 1) := by decide +kernel
theorem dX10_walks_199 : decode cX10_walks 199 = .ok (.iload 4, 2) := by decide +kernel
theorem dX10_walks_201 : decode cX10_walks 201 = .ok (.iload 5, 2) := by decide +kernel
theorem dX10_walks_203 : decode cX10_walks 203 = .ok (.iload 6, 2) := by decide +kernel
theorem dX10_walks_205 : decode cX10_walks 205 = .ok (.iload 7, 2) := by decide +kernel
theorem dX10_walks_207 : decode cX10_walks 207 = .ok (.aload_n 0, 1) := by decide +kernel
theorem dX10_walks_208 : decode cX10_walks 208 = .ok (.getfield 7, 3) := by decide +kernel
theorem dX10_walks_211 : decode cX10_walks 211 = .ok (.iadd, 1) := by decide +kernel
theorem dX10_walks_212 : decode cX10_walks 212 = .ok (.iconst 1, 1) := by decide +kernel
theorem dX10_walks_213 : decode cX10_walks 213 = .ok (.isub, 1) := by decide +kernel
theorem dX10_walks_214 : decode cX10_walks 214 = .ok (.aload_n 0, 1) := by decide +kernel
theorem dX10_walks_215 : decode cX10_walks 215 = .ok (.getfield 7, 3) := by decide +kernel
theorem dX10_walks_218 : decode cX10_walks 218 = .ok (.irem, 1) := by decide +kernel
theorem dX10_walks_219 : decode cX10_walks 219 = .ok (.invokevirtual 272, 3) := by decide +kernel
theorem dX10_walks_222 : decode cX10_walks 222 = .ok (.ireturn, 1) := by decide +kernel
theorem dX10_shortestWalk_0 : decode cX10_shortestWalk 0 = .ok (.aload_n 0, 1) := by decide +kernel
theorem dX10_shortestWalk_1 : decode cX10_shortestWalk 1 = .ok (.iconst 0, 1) := by decide +kernel
theorem dX10_shortestWalk_2 : decode cX10_shortestWalk 2 = .ok (.putfield 99, 3) := by decide +kernel
theorem dX10_shortestWalk_5 : decode cX10_shortestWalk 5 = .ok (.iload_n 1, 1) := by decide +kernel
theorem dX10_shortestWalk_6 : decode cX10_shortestWalk 6 = .ok (.i2l, 1) := by decide +kernel
theorem dX10_shortestWalk_7 : decode cX10_shortestWalk 7 = .ok (.lconst 0, 1) := by decide +kernel
theorem dX10_shortestWalk_8 : decode cX10_shortestWalk 8 = .ok (.ldc2_w 276, 3) := by decide +kernel
theorem dX10_shortestWalk_11 : decode cX10_shortestWalk 11 = .ok (.invokestatic 137, 3) := by decide +kernel
theorem dX10_shortestWalk_14 : decode cX10_shortestWalk 14 = .ok (.ifCond .ne 9, 3) := by decide +kernel
theorem dX10_shortestWalk_17 : decode cX10_shortestWalk 17 = .ok (.aload_n 0, 1) := by decide +kernel
theorem dX10_shortestWalk_18 : decode cX10_shortestWalk 18 = .ok (.iconst 1, 1) := by decide +kernel
theorem dX10_shortestWalk_19 : decode cX10_shortestWalk 19 = .ok (.invokevirtual 124, 3) := by decide +kernel
theorem dX10_shortestWalk_22 : decode cX10_shortestWalk 22 = .ok (.ireturn, 1) := by decide +kernel
theorem dX10_shortestWalk_23 : decode cX10_shortestWalk 23 = .ok (.iconst 0, 1) := by decide +kernel
theorem dX10_shortestWalk_24 : decode cX10_shortestWalk 24 = .ok (.istore_n 2, 1) := by decide +kernel
theorem dX10_shortestWalk_25 : decode cX10_shortestWalk 25 = .ok (.iload_n 2, 1) := by decide +kernel
theorem dX10_shortestWalk_26 : decode cX10_shortestWalk 26 = .ok (.iload_n 1, 1) := by decide +kernel
theorem dX10_shortestWalk_27 : decode cX10_shortestWalk 27 = .ok (.if_icmp .gt 45, 3) := by decide +kernel
theorem dX10_shortestWalk_30 : decode cX10_shortestWalk 30 = .ok (.aload_n 0, 1) := by decide +kernel
theorem dX10_shortestWalk_31 : decode cX10_shortestWalk 31 = .ok (.iconst 0, 1) := by decide +kernel
theorem dX10_shortestWalk_32 : decode cX10_shortestWalk 32 = .ok (.iload_n 2, 1) := by decide +kernel
theorem dX10_shortestWalk_33 : decode cX10_shortestWalk 33 = .ok (.iconst 0, 1) := by decide +kernel
theorem dX10_shortestWalk_34 : decode cX10_shortestWalk 34 = .ok (.iconst 0, 1) := by decide +kernel
theorem dX10_shortestWalk_35 : decode cX10_shortestWalk 35 = .ok (.iconst 0, 1) := by decide +kernel
theorem dX10_shortestWalk_36 : decode cX10_shortestWalk 36 = .ok (.iconst 0, 1) := by decide +kernel
theorem dX10_shortestWalk_37 : decode cX10_shortestWalk 37 = .ok (.iconst 0, 1) := by decide +kernel
theorem dX10_shortestWalk_38 : decode cX10_shortestWalk 38 = .ok (.invokevirtual 272, 3) := by decide +kernel
theorem dX10_shortestWalk_41 : decode cX10_shortestWalk 41 = .ok (.ifCond .ne 6, 3) := by decide +kernel
theorem dX10_shortestWalk_44 : decode cX10_shortestWalk 44 = .ok (.goto 22, 3) := by decide +kernel
theorem dX10_shortestWalk_47 : decode cX10_shortestWalk 47 = .ok (.aload_n 0, 1) := by decide +kernel
theorem dX10_shortestWalk_48 : decode cX10_shortestWalk 48 = .ok (.getfield 81, 3) := by decide +kernel
theorem dX10_shortestWalk_51 : decode cX10_shortestWalk 51 = .ok (.aload_n 0, 1) := by decide +kernel
theorem dX10_shortestWalk_52 : decode cX10_shortestWalk 52 = .ok (.getfield 78, 3) := by decide +kernel
theorem dX10_shortestWalk_55 : decode cX10_shortestWalk 55 = .ok (.iload_n 2, 1) := by decide +kernel
theorem dX10_shortestWalk_56 : decode cX10_shortestWalk 56 = .ok (.invokestatic 222, 3) := by decide +kernel
theorem dX10_shortestWalk_59 : decode cX10_shortestWalk 59 = .ok (.aload_n 0, 1) := by decide +kernel
theorem dX10_shortestWalk_60 : decode cX10_shortestWalk 60 = .ok (.iload_n 2, 1) := by decide +kernel
theorem dX10_shortestWalk_61 : decode cX10_shortestWalk 61 = .ok (.putfield 278, 3) := by decide +kernel
theorem dX10_shortestWalk_64 : decode cX10_shortestWalk 64 = .ok (.iload_n 2, 1) := by decide +kernel
theorem dX10_shortestWalk_65 : decode cX10_shortestWalk 65 = .ok (.ireturn, 1) := by decide +kernel
theorem dX10_shortestWalk_66 : decode cX10_shortestWalk 66 = .ok (.iinc 2 1, 3) := by decide +kernel
theorem dX10_shortestWalk_69 : decode cX10_shortestWalk 69 = .ok (.goto (-44), 3) := by decide +kernel
theorem dX10_shortestWalk_72 : decode cX10_shortestWalk 72 = .ok (.aload_n 0, 1) := by decide +kernel
theorem dX10_shortestWalk_73 : decode cX10_shortestWalk 73 = .ok (.iconst 2, 1) := by decide +kernel
theorem dX10_shortestWalk_74 : decode cX10_shortestWalk 74 = .ok (.invokevirtual 124, 3) := by decide +kernel
theorem dX10_shortestWalk_77 : decode cX10_shortestWalk 77 = .ok (.ireturn, 1) := by decide +kernel
theorem dX10_outputAt_0 : decode cX10_outputAt 0 = .ok (.aload_n 0, 1) := by decide +kernel
theorem dX10_outputAt_1 : decode cX10_outputAt 1 = .ok (.iconst 0, 1) := by decide +kernel
theorem dX10_outputAt_2 : decode cX10_outputAt 2 = .ok (.putfield 99, 3) := by decide +kernel
theorem dX10_outputAt_5 : decode cX10_outputAt 5 = .ok (.iload_n 1, 1) := by decide +kernel
theorem dX10_outputAt_6 : decode cX10_outputAt 6 = .ok (.i2l, 1) := by decide +kernel
theorem dX10_outputAt_7 : decode cX10_outputAt 7 = .ok (.lconst 0, 1) := by decide +kernel
theorem dX10_outputAt_8 : decode cX10_outputAt 8 = .ok (.aload_n 0, 1) := by decide +kernel
theorem dX10_outputAt_9 : decode cX10_outputAt 9 = .ok (.getfield 278, 3) := by decide +kernel
theorem dX10_outputAt_12 : decode cX10_outputAt 12 = .ok (.iconst 1, 1) := by decide +kernel
theorem dX10_outputAt_13 : decode cX10_outputAt 13 = .ok (.isub, 1) := by decide +kernel
theorem dX10_outputAt_14 : decode cX10_outputAt 14 = .ok (.i2l, 1) := by decide +kernel
theorem dX10_outputAt_15 : decode cX10_outputAt 15 = .ok (.invokestatic 137, 3) := by decide +kernel
theorem dX10_outputAt_18 : decode cX10_outputAt 18 = .ok (.ifCond .eq 11, 3) := by decide +kernel
theorem dX10_outputAt_21 : decode cX10_outputAt 21 = .ok (.aload_n 0, 1) := by decide +kernel
theorem dX10_outputAt_22 : decode cX10_outputAt 22 = .ok (.getfield 78, 3) := by decide +kernel
theorem dX10_outputAt_25 : decode cX10_outputAt 25 = .ok (.iload_n 1, 1) := by decide +kernel
theorem dX10_outputAt_26 : decode cX10_outputAt 26 = .ok (.iaload, 1) := by decide +kernel
theorem dX10_outputAt_27 : decode cX10_outputAt 27 = .ok (.i2c, 1) := by decide +kernel
theorem dX10_outputAt_28 : decode cX10_outputAt 28 = .ok (.ireturn, 1) := by decide +kernel
theorem dX10_outputAt_29 : decode cX10_outputAt 29 = .ok (.aload_n 0, 1) := by decide +kernel
theorem dX10_outputAt_30 : decode cX10_outputAt 30 = .ok (.iconst 1, 1) := by decide +kernel
theorem dX10_outputAt_31 : decode cX10_outputAt 31 = .ok (.putfield 99, 3) := by decide +kernel
theorem dX10_outputAt_34 : decode cX10_outputAt 34 = .ok (.iconst 0, 1) := by decide +kernel
theorem dX10_outputAt_35 : decode cX10_outputAt 35 = .ok (.ireturn, 1) := by decide +kernel
theorem dX10_shortestText_0 : decode cX10_shortestText 0 = .ok (.aload_n 0, 1) := by decide +kernel
theorem dX10_shortestText_1 : decode cX10_shortestText 1 = .ok (.iconst 0, 1) := by decide +kernel
theorem dX10_shortestText_2 : decode cX10_shortestText 2 = .ok (.putfield 99, 3) := by decide +kernel
theorem dX10_shortestText_5 : decode cX10_shortestText 5 = .ok (.aload_n 0, 1) := by decide +kernel
theorem dX10_shortestText_6 : decode cX10_shortestText 6 = .ok (.getfield 109, 3) := by decide +kernel
theorem dX10_shortestText_9 : decode cX10_shortestText 9 = .ok (.bipush 40, 2) := by decide +kernel
theorem dX10_shortestText_11 : decode cX10_shortestText 11 = .ok (.if_icmp .le 9, 3) := by decide +kernel
theorem dX10_shortestText_14 : decode cX10_shortestText 14 = .ok (.aload_n 0, 1) := by decide +kernel
theorem dX10_shortestText_15 : decode cX10_shortestText 15 = .ok (.iconst 1, 1) := by decide +kernel
theorem dX10_shortestText_16 : decode cX10_shortestText 16 = .ok (.invokevirtual 124, 3) := by decide +kernel
theorem dX10_shortestText_19 : decode cX10_shortestText 19 = .ok (.ireturn, 1) := by decide +kernel
theorem dX10_shortestText_20 : decode cX10_shortestText 20 = .ok (.iconst 0, 1) := by decide +kernel
theorem dX10_shortestText_21 : decode cX10_shortestText 21 = .ok (.istore_n 1, 1) := by decide +kernel
theorem dX10_shortestText_22 : decode cX10_shortestText 22 = .ok (.iload_n 1, 1) := by decide +kernel
theorem dX10_shortestText_23 : decode cX10_shortestText 23 = .ok (.aload_n 0, 1) := by decide +kernel
theorem dX10_shortestText_24 : decode cX10_shortestText 24 = .ok (.getfield 109, 3) := by decide +kernel
theorem dX10_shortestText_27 : decode cX10_shortestText 27 = .ok (.if_icmp .gt 259, 3) := by decide +kernel
theorem dX10_shortestText_30 : decode cX10_shortestText 30 = .ok (.iconst 0, 1) := by decide +kernel
theorem dX10_shortestText_31 : decode cX10_shortestText 31 = .ok (.istore_n 2, 1) := by decide +kernel
theorem dX10_shortestText_32 : decode cX10_shortestText 32 = .ok (.iload_n 2, 1) := by decide +kernel
theorem dX10_shortestText_33 : decode cX10_shortestText 33 = .ok (.iload_n 1, 1) := by decide +kernel
theorem dX10_shortestText_34 : decode cX10_shortestText 34 = .ok (.iadd, 1) := by decide +kernel
theorem dX10_shortestText_35 : decode cX10_shortestText 35 = .ok (.aload_n 0, 1) := by decide +kernel
theorem dX10_shortestText_36 : decode cX10_shortestText 36 = .ok (.getfield 109, 3) := by decide +kernel
theorem dX10_shortestText_39 : decode cX10_shortestText 39 = .ok (.if_icmp .gt 241, 3) := by decide +kernel
theorem dX10_shortestText_42 : decode cX10_shortestText 42 = .ok (.iload_n 2, 1) := by decide +kernel
theorem dX10_shortestText_43 : decode cX10_shortestText 43 = .ok (.iload_n 1, 1) := by decide +kernel
theorem dX10_shortestText_44 : decode cX10_shortestText 44 = .ok (.iadd, 1) := by decide +kernel
theorem dX10_shortestText_45 : decode cX10_shortestText 45 = .ok (.istore_n 3, 1) := by decide +kernel
theorem dX10_shortestText_46 : decode cX10_shortestText 46 = .ok (.iload_n 1, 1) := by decide +kernel
theorem dX10_shortestText_47 : decode cX10_shortestText 47 = .ok (.ifCond .ne 7, 3) := by decide +kernel
theorem dX10_shortestText_50 : decode cX10_shortestText 50 = .ok (.iconst 0, 1) := by decide +kernel
theorem dX10_shortestText_51 : decode cX10_shortestText 51 = .ok (.goto 51, 3) := by decide +kernel
theorem dX10_shortestText_54 : decode cX10_shortestText 54 = .ok (.iload_n 1, 1) := by decide +kernel
theorem dX10_shortestText_55 : decode cX10_shortestText 55 = .ok (.iconst 1, 1) := by decide +kernel
theorem dX10_shortestText_56 : decode cX10_shortestText 56 = .ok (.if_icmp .ne 43, 3) := by decide +kernel
theorem dX10_shortestText_59 : decode cX10_shortestText 59 = .ok (.aload_n 0, 1) := by decide +kernel
theorem dX10_shortestText_60 : decode cX10_shortestText 60 = .ok (.getfield 26, 3) := by decide +kernel
theorem dX10_shortestText_63 : decode cX10_shortestText 63 = .ok (.iload_n 2, 1) := by decide +kernel
theorem dX10_shortestText_64 : decode cX10_shortestText 64 = .ok (.iaload, 1) := by decide +kernel
theorem dX10_shortestText_65 : decode cX10_shortestText 65 = .ok (.bipush 117, 2) := by decide +kernel
theorem dX10_shortestText_67 : decode cX10_shortestText 67 = .ok (.if_icmp .eq 14, 3) := by decide +kernel
theorem dX10_shortestText_70 : decode cX10_shortestText 70 = .ok (.aload_n 0, 1) := by decide +kernel
theorem dX10_shortestText_71 : decode cX10_shortestText 71 = .ok (.getfield 26, 3) := by decide +kernel
theorem dX10_shortestText_74 : decode cX10_shortestText 74 = .ok (.iload_n 2, 1) := by decide +kernel
theorem dX10_shortestText_75 : decode cX10_shortestText 75 = .ok (.iaload, 1) := by decide +kernel
theorem dX10_shortestText_76 : decode cX10_shortestText 76 = .ok (.bipush 100, 2) := by decide +kernel
theorem dX10_shortestText_78 : decode cX10_shortestText 78 = .ok (.if_icmp .ne 7, 3) := by decide +kernel
theorem dX10_shortestText_81 : decode cX10_shortestText 81 = .ok (.iconst 1, 1) := by decide +kernel
theorem dX10_shortestText_82 : decode cX10_shortestText 82 = .ok (.goto 20, 3) := by decide +kernel
theorem dX10_shortestText_85 : decode cX10_shortestText 85 = .ok (.iconst 1, 1) := by decide +kernel
theorem dX10_shortestText_86 : decode cX10_shortestText 86 = .ok (.aload_n 0, 1) := by decide +kernel
theorem dX10_shortestText_87 : decode cX10_shortestText 87 = .ok (.getfield 29, 3) := by decide +kernel
theorem dX10_shortestText_90 : decode cX10_shortestText 90 = .ok (.iload_n 2, 1) := by decide +kernel
theorem dX10_shortestText_91 : decode cX10_shortestText 91 = .ok (.iaload, 1) := by decide +kernel
theorem dX10_shortestText_92 : decode cX10_shortestText 92 = .ok (.invokestatic 281, 3) := by decide +kernel
theorem dX10_shortestText_95 : decode cX10_shortestText 95 = .ok (.iadd, 1) := by decide +kernel
theorem dX10_shortestText_96 : decode cX10_shortestText 96 = .ok (.goto 6, 3) := by decide +kernel
theorem dX10_shortestText_99 : decode cX10_shortestText 99 = .ok (.sipush 1000, 3) := by decide +kernel
theorem dX10_shortestText_102 : decode cX10_shortestText 102 = .ok (.istore 4, 2) := by decide +kernel
theorem dX10_shortestText_104 : decode cX10_shortestText 104 = .ok (.iload_n 2, 1) := by decide +kernel
theorem dX10_shortestText_105 : decode cX10_shortestText 105 = .ok (.iconst 1, 1) := by decide +kernel
theorem dX10_shortestText_106 : decode cX10_shortestText 106 = .ok (.iadd, 1) := by decide +kernel
theorem dX10_shortestText_107 : decode cX10_shortestText 107 = .ok (.istore 5, 2) := by decide +kernel
theorem dX10_shortestText_109 : decode cX10_shortestText 109 = .ok (.iload 5, 2) := by decide +kernel
theorem dX10_shortestText_111 : decode cX10_shortestText 111 = .ok (.iload_n 3, 1) := by decide +kernel
theorem dX10_shortestText_112 : decode cX10_shortestText 112 = .ok (.if_icmp .ge 41, 3) := by decide +kernel
theorem dX10_shortestText_115 : decode cX10_shortestText 115 = .ok (.iload 4, 2) := by decide +kernel
theorem dX10_shortestText_117 : decode cX10_shortestText 117 = .ok (.aload_n 0, 1) := by decide +kernel
theorem dX10_shortestText_118 : decode cX10_shortestText 118 = .ok (.getfield 96, 3) := by decide +kernel
theorem dX10_shortestText_121 : decode cX10_shortestText 121 = .ok (.bipush 41, 2) := by decide +kernel
theorem dX10_shortestText_123 : decode cX10_shortestText 123 = .ok (.iload_n 2, 1) := by decide +kernel
theorem dX10_shortestText_124 : decode cX10_shortestText 124 = .ok (.imul, 1) := by decide +kernel
theorem dX10_shortestText_125 : decode cX10_shortestText 125 = .ok (.iload 5, 2) := by decide +kernel
theorem dX10_shortestText_127 : decode cX10_shortestText 127 = .ok (.iadd, 1) := by decide +kernel
theorem dX10_shortestText_128 : decode cX10_shortestText 128 = .ok (.iaload, 1) := by decide +kernel
theorem dX10_shortestText_129 : decode cX10_shortestText 129 = .ok (.aload_n 0, 1) := by decide +kernel
theorem dX10_shortestText_130 : decode cX10_shortestText 130 = .ok (.getfield 96, 3) := by decide +kernel
theorem dX10_shortestText_133 : decode cX10_shortestText 133 = .ok (.bipush 41, 2) := by decide +kernel
theorem dX10_shortestText_135 : decode cX10_shortestText 135 = .ok (.iload 5, 2) := by decide +kernel
theorem dX10_shortestText_137 : decode cX10_shortestText 137 = .ok (.imul, 1) := by decide +kernel
theorem dX10_shortestText_138 : decode cX10_shortestText 138 = .ok (.iload_n 3, 1) := by decide +kernel
theorem dX10_shortestText_139 : decode cX10_shortestText 139 = .ok (.iadd, 1) := by decide +kernel
theorem dX10_shortestText_140 : decode cX10_shortestText 140 = .ok (.iaload, 1) := by decide +kernel
theorem dX10_shortestText_141 : decode cX10_shortestText 141 = .ok (.iadd, 1) := by decide +kernel
theorem dX10_shortestText_142 : decode cX10_shortestText 142 = .ok (.invokestatic 284, 3) := by decide +kernel
theorem dX10_shortestText_145 : decode cX10_shortestText 145 = .ok (.istore 4, 2) := by decide +kernel
theorem dX10_shortestText_147 : decode cX10_shortestText 147 = .ok (.iinc 5 1, 3) := by decide +kernel
theorem dX10_shortestText_150 : decode cX10_shortestText 150 = .ok (.goto (-41), 3) := by decide +kernel
theorem dX10_shortestText_153 : decode cX10_shortestText 153 = .ok (.iconst 1, 1) := by decide +kernel
theorem dX10_shortestText_154 : decode cX10_shortestText 154 = .ok (.istore 5, 2) := by decide +kernel
theorem dX10_shortestText_156 : decode cX10_shortestText 156 = .ok (.iload 5, 2) := by decide +kernel
theorem dX10_shortestText_158 : decode cX10_shortestText 158 = .ok (.iload_n 1, 1) := by decide +kernel
theorem dX10_shortestText_159 : decode cX10_shortestText 159 = .ok (.if_icmp .ge 102, 3) := by decide +kernel
theorem dX10_shortestText_162 : decode cX10_shortestText 162 = .ok (.iload_n 1, 1) := by decide +kernel
theorem dX10_shortestText_163 : decode cX10_shortestText 163 = .ok (.iload 5, 2) := by decide +kernel
theorem dX10_shortestText_165 : decode cX10_shortestText 165 = .ok (.irem, 1) := by decide +kernel
theorem dX10_shortestText_166 : decode cX10_shortestText 166 = .ok (.ifCond .eq 6, 3) := by decide +kernel
theorem dX10_shortestText_169 : decode cX10_shortestText 169 = .ok (.goto 86, 3) := by decide +kernel
theorem dX10_shortestText_172 : decode cX10_shortestText 172 = .ok (.iconst 1, 1) := by decide +kernel
theorem dX10_shortestText_173 : decode cX10_shortestText 173 = .ok (.istore 6, 2) := by decide +kernel
theorem dX10_shortestText_175 : decode cX10_shortestText 175 = .ok (.iload_n 2, 1) := by decide +kernel
theorem dX10_shortestText_176 : decode cX10_shortestText 176 = .ok (.istore 7, 2) := by decide +kernel
theorem dX10_shortestText_178 : decode cX10_shortestText 178 = .ok (.iload 7, 2) := by decide +kernel
theorem dX10_shortestText_180 : decode cX10_shortestText 180 = .ok (.iload 5, 2) := by decide +kernel
theorem dX10_shortestText_182 : decode cX10_shortestText 182 = .ok (.iadd, 1) := by decide +kernel
theorem dX10_shortestText_183 : decode cX10_shortestText 183 = .ok (.iload_n 3, 1) := by decide +kernel
theorem dX10_shortestText_184 : decode cX10_shortestText 184 = .ok (.if_icmp .ge 35, 3) := by decide +kernel
theorem dX10_shortestText_187 : decode cX10_shortestText 187 = .ok (.iload 6, 2) := by decide +kernel
theorem dX10_shortestText_189 : decode cX10_shortestText 189 = .ok (.ifCond .eq 21, 3) := by decide +kernel
theorem dX10_shortestText_192 : decode cX10_shortestText 192 = .ok (.aload_n 0, 1) := by decide +kernel
theorem dX10_shortestText_193 : decode cX10_shortestText 193 = .ok (.iload 7, 2) := by decide +kernel
theorem dX10_shortestText_195 : decode cX10_shortestText 195 = .ok (.iload 7, 2) := by decide +kernel
theorem dX10_shortestText_197 : decode cX10_shortestText 197 = .ok (.iload 5, 2) := by decide +kernel
theorem dX10_shortestText_199 : decode cX10_shortestText 199 = .ok (.iadd, 1) := by decide +kernel
theorem dX10_shortestText_200 : decode cX10_shortestText 200 = .ok (.invokevirtual 289, 3) := by decide +kernel
theorem dX10_shortestText_203 : decode cX10_shortestText 203 = .ok (.ifCond .eq 7, 3) := by decide +kernel
theorem dX10_shortestText_206 : decode cX10_shortestText 206 = .ok (.iconst 1, 1) := by decide +kernel
theorem dX10_shortestText_207 : decode cX10_shortestText 207 = .ok (.goto 4, 3) := by decide +kernel
theorem dX10_shortestText_210 : decode cX10_shortestText 210 = .ok (.iconst 0, 1) := by decide +kernel
theorem dX10_shortestText_211 : decode cX10_shortestText 211 = .ok (.istore 6, 2) := by decide +kernel
theorem dX10_shortestText_213 : decode cX10_shortestText 213 = .ok (.iinc 7 1, 3) := by decide +kernel
theorem dX10_shortestText_216 : decode cX10_shortestText 216 = .ok (.goto (-38), 3) := by decide +kernel
theorem dX10_shortestText_219 : decode cX10_shortestText 219 = .ok (.iload 6, 2) := by decide +kernel
theorem dX10_shortestText_221 : decode cX10_shortestText 221 = .ok (.ifCond .eq 34, 3) := by decide +kernel
theorem dX10_shortestText_224 : decode cX10_shortestText 224 = .ok (.iload 4, 2) := by decide +kernel
theorem dX10_shortestText_226 : decode cX10_shortestText 226 = .ok (.iload_n 1, 1) := by decide +kernel
theorem dX10_shortestText_227 : decode cX10_shortestText 227 = .ok (.iload 5, 2) := by decide +kernel
theorem dX10_shortestText_229 : decode cX10_shortestText 229 = .ok (.idiv, 1) := by decide +kernel
theorem dX10_shortestText_230 : decode cX10_shortestText 230 = .ok (.invokestatic 281, 3) := by decide +kernel
theorem dX10_shortestText_233 : decode cX10_shortestText 233 = .ok (.iconst 2, 1) := by decide +kernel
theorem dX10_shortestText_234 : decode cX10_shortestText 234 = .ok (.iadd, 1) := by decide +kernel
theorem dX10_shortestText_235 : decode cX10_shortestText 235 = .ok (.aload_n 0, 1) := by decide +kernel
theorem dX10_shortestText_236 : decode cX10_shortestText 236 = .ok (.getfield 96, 3) := by decide +kernel
theorem dX10_shortestText_239 : decode cX10_shortestText 239 = .ok (.bipush 41, 2) := by decide +kernel
theorem dX10_shortestText_241 : decode cX10_shortestText 241 = .ok (.iload_n 2, 1) := by decide +kernel
theorem dX10_shortestText_242 : decode cX10_shortestText 242 = .ok (.imul, 1) := by decide +kernel
theorem dX10_shortestText_243 : decode cX10_shortestText 243 = .ok (.iload_n 2, 1) := by decide +kernel
theorem dX10_shortestText_244 : decode cX10_shortestText 244 = .ok (.iadd, 1) := by decide +kernel
theorem dX10_shortestText_245 : decode cX10_shortestText 245 = .ok (.iload 5, 2) := by decide +kernel
theorem dX10_shortestText_247 : decode cX10_shortestText 247 = .ok (.iadd, 1) := by decide +kernel
theorem dX10_shortestText_248 : decode cX10_shortestText 248 = .ok (.iaload, 1) := by decide +kernel
theorem dX10_shortestText_249 : decode cX10_shortestText 249 = .ok (.iadd, 1) := by decide +kernel
theorem dX10_shortestText_250 : decode cX10_shortestText 250 = .ok (.invokestatic 284, 3) := by decide +kernel
theorem dX10_shortestText_253 : decode cX10_shortestText 253 = .ok (.istore 4, 2) := by decide +kernel
theorem dX10_shortestText_255 : decode cX10_shortestText 255 = .ok (.iinc 5 1, 3) := by decide +kernel
theorem dX10_shortestText_258 : decode cX10_shortestText 258 = .ok (.goto (-102), 3) := by decide +kernel
theorem dX10_shortestText_261 : decode cX10_shortestText 261 = .ok (.aload_n 0, 1) := by decide +kernel
theorem dX10_shortestText_262 : decode cX10_shortestText 262 = .ok (.getfield 96, 3) := by decide +kernel
theorem dX10_shortestText_265 : decode cX10_shortestText 265 = .ok (.bipush 41, 2) := by decide +kernel
theorem dX10_shortestText_267 : decode cX10_shortestText 267 = .ok (.iload_n 2, 1) := by decide +kernel
theorem dX10_shortestText_268 : decode cX10_shortestText 268 = .ok (.imul, 1) := by decide +kernel
theorem dX10_shortestText_269 : decode cX10_shortestText 269 = .ok (.iload_n 3, 1) := by decide +kernel
theorem dX10_shortestText_270 : decode cX10_shortestText 270 = .ok (.iadd, 1) := by decide +kernel
theorem dX10_shortestText_271 : decode cX10_shortestText 271 = .ok (.iload 4, 2) := by decide +kernel
theorem dX10_shortestText_273 : decode cX10_shortestText 273 = .ok (.iastore, 1) := by decide +kernel
theorem dX10_shortestText_274 : decode cX10_shortestText 274 = .ok (.iinc 2 1, 3) := by decide +kernel
theorem dX10_shortestText_277 : decode cX10_shortestText 277 = .ok (.goto (-245), 3) := by decide +kernel
theorem dX10_shortestText_280 : decode cX10_shortestText 280 = .ok (.iinc 1 1, 3) := by decide +kernel
theorem dX10_shortestText_283 : decode cX10_shortestText 283 = .ok (.goto (-261), 3) := by decide +kernel
theorem dX10_shortestText_286 : decode cX10_shortestText 286 = .ok (.aload_n 0, 1) := by decide +kernel
theorem dX10_shortestText_287 : decode cX10_shortestText 287 = .ok (.getfield 96, 3) := by decide +kernel
theorem dX10_shortestText_290 : decode cX10_shortestText 290 = .ok (.aload_n 0, 1) := by decide +kernel
theorem dX10_shortestText_291 : decode cX10_shortestText 291 = .ok (.getfield 109, 3) := by decide +kernel
theorem dX10_shortestText_294 : decode cX10_shortestText 294 = .ok (.iaload, 1) := by decide +kernel
theorem dX10_shortestText_295 : decode cX10_shortestText 295 = .ok (.ireturn, 1) := by decide +kernel
theorem dX10_called_0 : decode cX10_called 0 = .ok (.aload_n 0, 1) := by decide +kernel
theorem dX10_called_1 : decode cX10_called 1 = .ok (.iconst 0, 1) := by decide +kernel
theorem dX10_called_2 : decode cX10_called 2 = .ok (.putfield 99, 3) := by decide +kernel
theorem dX10_called_5 : decode cX10_called 5 = .ok (.iload_n 1, 1) := by decide +kernel
theorem dX10_called_6 : decode cX10_called 6 = .ok (.i2l, 1) := by decide +kernel
theorem dX10_called_7 : decode cX10_called 7 = .ok (.lconst 0, 1) := by decide +kernel
theorem dX10_called_8 : decode cX10_called 8 = .ok (.aload_n 0, 1) := by decide +kernel
theorem dX10_called_9 : decode cX10_called 9 = .ok (.getfield 121, 3) := by decide +kernel
theorem dX10_called_12 : decode cX10_called 12 = .ok (.iconst 1, 1) := by decide +kernel
theorem dX10_called_13 : decode cX10_called 13 = .ok (.isub, 1) := by decide +kernel
theorem dX10_called_14 : decode cX10_called 14 = .ok (.i2l, 1) := by decide +kernel
theorem dX10_called_15 : decode cX10_called 15 = .ok (.invokestatic 137, 3) := by decide +kernel
theorem dX10_called_18 : decode cX10_called 18 = .ok (.ifCond .eq 14, 3) := by decide +kernel
theorem dX10_called_21 : decode cX10_called 21 = .ok (.bipush 65, 2) := by decide +kernel
theorem dX10_called_23 : decode cX10_called 23 = .ok (.aload_n 0, 1) := by decide +kernel
theorem dX10_called_24 : decode cX10_called 24 = .ok (.getfield 45, 3) := by decide +kernel
theorem dX10_called_27 : decode cX10_called 27 = .ok (.iload_n 1, 1) := by decide +kernel
theorem dX10_called_28 : decode cX10_called 28 = .ok (.iaload, 1) := by decide +kernel
theorem dX10_called_29 : decode cX10_called 29 = .ok (.iadd, 1) := by decide +kernel
theorem dX10_called_30 : decode cX10_called 30 = .ok (.i2c, 1) := by decide +kernel
theorem dX10_called_31 : decode cX10_called 31 = .ok (.ireturn, 1) := by decide +kernel
theorem dX10_called_32 : decode cX10_called 32 = .ok (.aload_n 0, 1) := by decide +kernel
theorem dX10_called_33 : decode cX10_called 33 = .ok (.iconst 1, 1) := by decide +kernel
theorem dX10_called_34 : decode cX10_called 34 = .ok (.putfield 99, 3) := by decide +kernel
theorem dX10_called_37 : decode cX10_called 37 = .ok (.iconst 0, 1) := by decide +kernel
theorem dX10_called_38 : decode cX10_called 38 = .ok (.ireturn, 1) := by decide +kernel
theorem dX10_calls_0 : decode cX10_calls 0 = .ok (.aload_n 0, 1) := by decide +kernel
theorem dX10_calls_1 : decode cX10_calls 1 = .ok (.iconst 0, 1) := by decide +kernel
theorem dX10_calls_2 : decode cX10_calls 2 = .ok (.putfield 99, 3) := by decide +kernel
theorem dX10_calls_5 : decode cX10_calls 5 = .ok (.iload_n 1, 1) := by decide +kernel
theorem dX10_calls_6 : decode cX10_calls 6 = .ok (.i2l, 1) := by decide +kernel
theorem dX10_calls_7 : decode cX10_calls 7 = .ok (.ldc2_w 155, 3) := by decide +kernel
theorem dX10_calls_10 : decode cX10_calls 10 = .ok (.ldc2_w 157, 3) := by decide +kernel
theorem dX10_calls_13 : decode cX10_calls 13 = .ok (.invokestatic 137, 3) := by decide +kernel
theorem dX10_calls_16 : decode cX10_calls 16 = .ok (.ifCond .eq 15, 3) := by decide +kernel
theorem dX10_calls_19 : decode cX10_calls 19 = .ok (.aload_n 0, 1) := by decide +kernel
theorem dX10_calls_20 : decode cX10_calls 20 = .ok (.getfield 48, 3) := by decide +kernel
theorem dX10_calls_23 : decode cX10_calls 23 = .ok (.iload_n 1, 1) := by decide +kernel
theorem dX10_calls_24 : decode cX10_calls 24 = .ok (.bipush 65, 2) := by decide +kernel
theorem dX10_calls_26 : decode cX10_calls 26 = .ok (.isub, 1) := by decide +kernel
theorem dX10_calls_27 : decode cX10_calls 27 = .ok (.iaload, 1) := by decide +kernel
theorem dX10_calls_28 : decode cX10_calls 28 = .ok (.goto 4, 3) := by decide +kernel
theorem dX10_calls_31 : decode cX10_calls 31 = .ok (.iconst 0, 1) := by decide +kernel
theorem dX10_calls_32 : decode cX10_calls 32 = .ok (.ireturn, 1) := by decide +kernel
theorem dX10_createTrace_0 : decode cX10_createTrace 0 = .ok (.aload_n 0, 1) := by decide +kernel
theorem dX10_createTrace_1 : decode cX10_createTrace 1 = .ok (.iconst 0, 1) := by decide +kernel
theorem dX10_createTrace_2 : decode cX10_createTrace 2 = .ok (.putfield 99, 3) := by decide +kernel
theorem dX10_createTrace_5 : decode cX10_createTrace 5 = .ok (.iload_n 1, 1) := by decide +kernel
theorem dX10_createTrace_6 : decode cX10_createTrace 6 = .ok (.sipush 300, 3) := by decide +kernel
theorem dX10_createTrace_9 : decode cX10_createTrace 9 = .ok (.if_icmp .le 9, 3) := by decide +kernel
theorem dX10_createTrace_12 : decode cX10_createTrace 12 = .ok (.aload_n 0, 1) := by decide +kernel
theorem dX10_createTrace_13 : decode cX10_createTrace 13 = .ok (.iconst 1, 1) := by decide +kernel
theorem dX10_createTrace_14 : decode cX10_createTrace 14 = .ok (.invokevirtual 124, 3) := by decide +kernel
theorem dX10_createTrace_17 : decode cX10_createTrace 17 = .ok (.ireturn, 1) := by decide +kernel
theorem dX10_createTrace_18 : decode cX10_createTrace 18 = .ok (.iload_n 1, 1) := by decide +kernel
theorem dX10_createTrace_19 : decode cX10_createTrace 19 = .ok (.ifCond .ge 6, 3) := by decide +kernel
theorem dX10_createTrace_22 : decode cX10_createTrace 22 = .ok (.bipush (-14), 2) := by decide +kernel
theorem dX10_createTrace_24 : decode cX10_createTrace 24 = .ok (.ireturn, 1) := by decide +kernel
theorem dX10_createTrace_25 : decode cX10_createTrace 25 = .ok (.aload_n 0, 1) := by decide +kernel
theorem dX10_createTrace_26 : decode cX10_createTrace 26 = .ok (.iload_n 1, 1) := by decide +kernel
theorem dX10_createTrace_27 : decode cX10_createTrace 27 = .ok (.putfield 84, 3) := by decide +kernel
theorem dX10_createTrace_30 : decode cX10_createTrace 30 = .ok (.iconst 0, 1) := by decide +kernel
theorem dX10_createTrace_31 : decode cX10_createTrace 31 = .ok (.istore_n 2, 1) := by decide +kernel
theorem dX10_createTrace_32 : decode cX10_createTrace 32 = .ok (.iload_n 2, 1) := by decide +kernel
theorem dX10_createTrace_33 : decode cX10_createTrace 33 = .ok (.iload_n 1, 1) := by decide +kernel
theorem dX10_createTrace_34 : decode cX10_createTrace 34 = .ok (.if_icmp .ge 16, 3) := by decide +kernel
theorem dX10_createTrace_37 : decode cX10_createTrace 37 = .ok (.aload_n 0, 1) := by decide +kernel
theorem dX10_createTrace_38 : decode cX10_createTrace 38 = .ok (.getfield 87, 3) := by decide +kernel
theorem dX10_createTrace_41 : decode cX10_createTrace 41 = .ok (.iload_n 2, 1) := by decide +kernel
theorem dX10_createTrace_42 : decode cX10_createTrace 42 = .ok (.iconst (-1), 1) := by decide +kernel
theorem dX10_createTrace_43 : decode cX10_createTrace 43 = .ok (.iastore, 1) := by decide +kernel
theorem dX10_createTrace_44 : decode cX10_createTrace 44 = .ok (.iinc 2 1, 3) := by decide +kernel
theorem dX10_createTrace_47 : decode cX10_createTrace 47 = .ok (.goto (-15), 3) := by decide +kernel
theorem dX10_createTrace_50 : decode cX10_createTrace 50 = .ok (.iload_n 1, 1) := by decide +kernel
theorem dX10_createTrace_51 : decode cX10_createTrace 51 = .ok (.ireturn, 1) := by decide +kernel
theorem dX10_traceAt_0 : decode cX10_traceAt 0 = .ok (.aload_n 0, 1) := by decide +kernel
theorem dX10_traceAt_1 : decode cX10_traceAt 1 = .ok (.iconst 0, 1) := by decide +kernel
theorem dX10_traceAt_2 : decode cX10_traceAt 2 = .ok (.putfield 99, 3) := by decide +kernel
theorem dX10_traceAt_5 : decode cX10_traceAt 5 = .ok (.aload_n 0, 1) := by decide +kernel
theorem dX10_traceAt_6 : decode cX10_traceAt 6 = .ok (.getfield 84, 3) := by decide +kernel
theorem dX10_traceAt_9 : decode cX10_traceAt 9 = .ok (.iconst (-1), 1) := by decide +kernel
theorem dX10_traceAt_10 : decode cX10_traceAt 10 = .ok (.if_icmp .ne 6, 3) := by decide +kernel
theorem dX10_traceAt_13 : decode cX10_traceAt 13 = .ok (.bipush (-11), 2) := by decide +kernel
theorem dX10_traceAt_15 : decode cX10_traceAt 15 = .ok (.ireturn, 1) := by decide +kernel
theorem dX10_traceAt_16 : decode cX10_traceAt 16 = .ok (.iload_n 1, 1) := by decide +kernel
theorem dX10_traceAt_17 : decode cX10_traceAt 17 = .ok (.i2l, 1) := by decide +kernel
theorem dX10_traceAt_18 : decode cX10_traceAt 18 = .ok (.lconst 0, 1) := by decide +kernel
theorem dX10_traceAt_19 : decode cX10_traceAt 19 = .ok (.aload_n 0, 1) := by decide +kernel
theorem dX10_traceAt_20 : decode cX10_traceAt 20 = .ok (.getfield 84, 3) := by decide +kernel
theorem dX10_traceAt_23 : decode cX10_traceAt 23 = .ok (.iconst 1, 1) := by decide +kernel
theorem dX10_traceAt_24 : decode cX10_traceAt 24 = .ok (.isub, 1) := by decide +kernel
theorem dX10_traceAt_25 : decode cX10_traceAt 25 = .ok (.i2l, 1) := by decide +kernel
theorem dX10_traceAt_26 : decode cX10_traceAt 26 = .ok (.invokestatic 137, 3) := by decide +kernel
theorem dX10_traceAt_29 : decode cX10_traceAt 29 = .ok (.ifCond .eq 12, 3) := by decide +kernel
theorem dX10_traceAt_32 : decode cX10_traceAt 32 = .ok (.aload_n 0, 1) := by decide +kernel
theorem dX10_traceAt_33 : decode cX10_traceAt 33 = .ok (.getfield 87, 3) := by decide +kernel
theorem dX10_traceAt_36 : decode cX10_traceAt 36 = .ok (.iload_n 1, 1) := by decide +kernel
theorem dX10_traceAt_37 : decode cX10_traceAt 37 = .ok (.iaload, 1) := by decide +kernel
theorem dX10_traceAt_38 : decode cX10_traceAt 38 = .ok (.goto 5, 3) := by decide +kernel
theorem dX10_traceAt_41 : decode cX10_traceAt 41 = .ok (.bipush (-13), 2) := by decide +kernel
theorem dX10_traceAt_43 : decode cX10_traceAt 43 = .ok (.ireturn, 1) := by decide +kernel
theorem dX10_defined_0 : decode cX10_defined 0 = .ok (.iconst 0, 1) := by decide +kernel
theorem dX10_defined_1 : decode cX10_defined 1 = .ok (.istore_n 1, 1) := by decide +kernel
theorem dX10_defined_2 : decode cX10_defined 2 = .ok (.iconst 0, 1) := by decide +kernel
theorem dX10_defined_3 : decode cX10_defined 3 = .ok (.istore_n 2, 1) := by decide +kernel
theorem dX10_defined_4 : decode cX10_defined 4 = .ok (.iload_n 2, 1) := by decide +kernel
theorem dX10_defined_5 : decode cX10_defined 5 = .ok (.bipush 8, 2) := by decide +kernel
theorem dX10_defined_7 : decode cX10_defined 7 = .ok (.if_icmp .ge 22, 3) := by decide +kernel
theorem dX10_defined_10 : decode cX10_defined 10 = .ok (.aload_n 0, 1) := by decide +kernel
theorem dX10_defined_11 : decode cX10_defined 11 = .ok (.getfield 17, 3) := by decide +kernel
theorem dX10_defined_14 : decode cX10_defined 14 = .ok (.iload_n 2, 1) := by decide +kernel
theorem dX10_defined_15 : decode cX10_defined 15 = .ok (.iaload, 1) := by decide +kernel
theorem dX10_defined_16 : decode cX10_defined 16 = .ok (.iconst (-1), 1) := by decide +kernel
theorem dX10_defined_17 : decode cX10_defined 17 = .ok (.if_icmp .eq 6, 3) := by decide +kernel
theorem dX10_defined_20 : decode cX10_defined 20 = .ok (.iinc 1 1, 3) := by decide +kernel
theorem dX10_defined_23 : decode cX10_defined 23 = .ok (.iinc 2 1, 3) := by decide +kernel
theorem dX10_defined_26 : decode cX10_defined 26 = .ok (.goto (-22), 3) := by decide +kernel
theorem dX10_defined_29 : decode cX10_defined 29 = .ok (.iload_n 1, 1) := by decide +kernel
theorem dX10_defined_30 : decode cX10_defined 30 = .ok (.ireturn, 1) := by decide +kernel
theorem dX10_saveProcedures_0 : decode cX10_saveProcedures 0 = .ok (.aload_n 0, 1) := by decide +kernel
theorem dX10_saveProcedures_1 : decode cX10_saveProcedures 1 = .ok (.iconst 0, 1) := by decide +kernel
theorem dX10_saveProcedures_2 : decode cX10_saveProcedures 2 = .ok (.putfield 99, 3) := by decide +kernel
theorem dX10_saveProcedures_5 : decode cX10_saveProcedures 5 = .ok (.aload_n 0, 1) := by decide +kernel
theorem dX10_saveProcedures_6 : decode cX10_saveProcedures 6 = .ok (.iconst 1, 1) := by decide +kernel
theorem dX10_saveProcedures_7 : decode cX10_saveProcedures 7 = .ok (.putfield 292, 3) := by decide +kernel
theorem dX10_saveProcedures_10 : decode cX10_saveProcedures 10 = .ok (.aload_n 0, 1) := by decide +kernel
theorem dX10_saveProcedures_11 : decode cX10_saveProcedures 11 = .ok (.getfield 13, 3) := by decide +kernel
theorem dX10_saveProcedures_14 : decode cX10_saveProcedures 14 = .ok (.aload_n 0, 1) := by decide +kernel
theorem dX10_saveProcedures_15 : decode cX10_saveProcedures 15 = .ok (.getfield 20, 3) := by decide +kernel
theorem dX10_saveProcedures_18 : decode cX10_saveProcedures 18 = .ok (.sipush 800, 3) := by decide +kernel
theorem dX10_saveProcedures_21 : decode cX10_saveProcedures 21 = .ok (.invokestatic 222, 3) := by decide +kernel
theorem dX10_saveProcedures_24 : decode cX10_saveProcedures 24 = .ok (.aload_n 0, 1) := by decide +kernel
theorem dX10_saveProcedures_25 : decode cX10_saveProcedures 25 = .ok (.getfield 17, 3) := by decide +kernel
theorem dX10_saveProcedures_28 : decode cX10_saveProcedures 28 = .ok (.aload_n 0, 1) := by decide +kernel
theorem dX10_saveProcedures_29 : decode cX10_saveProcedures 29 = .ok (.getfield 23, 3) := by decide +kernel
theorem dX10_saveProcedures_32 : decode cX10_saveProcedures 32 = .ok (.bipush 8, 2) := by decide +kernel
theorem dX10_saveProcedures_34 : decode cX10_saveProcedures 34 = .ok (.invokestatic 222, 3) := by decide +kernel
theorem dX10_saveProcedures_37 : decode cX10_saveProcedures 37 = .ok (.aload_n 0, 1) := by decide +kernel
theorem dX10_saveProcedures_38 : decode cX10_saveProcedures 38 = .ok (.invokevirtual 295, 3) := by decide +kernel
theorem dX10_saveProcedures_41 : decode cX10_saveProcedures 41 = .ok (.ireturn, 1) := by decide +kernel
theorem dX10_restoreProcedures_0 : decode cX10_restoreProcedures 0 = .ok (.aload_n 0, 1) := by decide +kernel
theorem dX10_restoreProcedures_1 : decode cX10_restoreProcedures 1 = .ok (.iconst 0, 1) := by decide +kernel
theorem dX10_restoreProcedures_2 : decode cX10_restoreProcedures 2 = .ok (.putfield 99, 3) := by decide +kernel
theorem dX10_restoreProcedures_5 : decode cX10_restoreProcedures 5 = .ok (.aload_n 0, 1) := by decide +kernel
theorem dX10_restoreProcedures_6 : decode cX10_restoreProcedures 6 = .ok (.getfield 292, 3) := by decide +kernel
theorem dX10_restoreProcedures_9 : decode cX10_restoreProcedures 9 = .ok (.ifCond .ne 9, 3) := by decide +kernel
theorem dX10_restoreProcedures_12 : decode cX10_restoreProcedures 12 = .ok (.aload_n 0, 1) := by decide +kernel
theorem dX10_restoreProcedures_13 : decode cX10_restoreProcedures 13 = .ok (.iconst 1, 1) := by decide +kernel
theorem dX10_restoreProcedures_14 : decode cX10_restoreProcedures 14 = .ok (.invokevirtual 124, 3) := by decide +kernel
theorem dX10_restoreProcedures_17 : decode cX10_restoreProcedures 17 = .ok (.ireturn, 1) := by decide +kernel
theorem dX10_restoreProcedures_18 : decode cX10_restoreProcedures 18 = .ok (.aload_n 0, 1) := by decide +kernel
theorem dX10_restoreProcedures_19 : decode cX10_restoreProcedures 19 = .ok (.getfield 20, 3) := by decide +kernel
theorem dX10_restoreProcedures_22 : decode cX10_restoreProcedures 22 = .ok (.aload_n 0, 1) := by decide +kernel
theorem dX10_restoreProcedures_23 : decode cX10_restoreProcedures 23 = .ok (.getfield 13, 3) := by decide +kernel
theorem dX10_restoreProcedures_26 : decode cX10_restoreProcedures 26 = .ok (.sipush 800, 3) := by decide +kernel
theorem dX10_restoreProcedures_29 : decode cX10_restoreProcedures 29 = .ok (.invokestatic 222, 3) := by decide +kernel
theorem dX10_restoreProcedures_32 : decode cX10_restoreProcedures 32 = .ok (.aload_n 0, 1) := by decide +kernel
theorem dX10_restoreProcedures_33 : decode cX10_restoreProcedures 33 = .ok (.getfield 23, 3) := by decide +kernel
theorem dX10_restoreProcedures_36 : decode cX10_restoreProcedures 36 = .ok (.aload_n 0, 1) := by decide +kernel
theorem dX10_restoreProcedures_37 : decode cX10_restoreProcedures 37 = .ok (.getfield 17, 3) := by decide +kernel
theorem dX10_restoreProcedures_40 : decode cX10_restoreProcedures 40 = .ok (.bipush 8, 2) := by decide +kernel
theorem dX10_restoreProcedures_42 : decode cX10_restoreProcedures 42 = .ok (.invokestatic 222, 3) := by decide +kernel
theorem dX10_restoreProcedures_45 : decode cX10_restoreProcedures 45 = .ok (.aload_n 0, 1) := by decide +kernel
theorem dX10_restoreProcedures_46 : decode cX10_restoreProcedures 46 = .ok (.invokevirtual 295, 3) := by decide +kernel
theorem dX10_restoreProcedures_49 : decode cX10_restoreProcedures 49 = .ok (.ireturn, 1) := by decide +kernel
theorem dJ9_floorMod_7cf53_0 : decode cJ9_floorMod_7cf53 0 = .ok (.iload_n 0, 1) := by decide +kernel
theorem dJ9_floorMod_7cf53_1 : decode cJ9_floorMod_7cf53 1 = .ok (.iload_n 1, 1) := by decide +kernel
theorem dJ9_floorMod_7cf53_2 : decode cJ9_floorMod_7cf53 2 = .ok (.irem, 1) := by decide +kernel
theorem dJ9_floorMod_7cf53_3 : decode cJ9_floorMod_7cf53 3 = .ok (.istore_n 2, 1) := by decide +kernel
theorem dJ9_floorMod_7cf53_4 : decode cJ9_floorMod_7cf53 4 = .ok (.iload_n 0, 1) := by decide +kernel
theorem dJ9_floorMod_7cf53_5 : decode cJ9_floorMod_7cf53 5 = .ok (.iload_n 1, 1) := by decide +kernel
theorem dJ9_floorMod_7cf53_6 : decode cJ9_floorMod_7cf53 6 = .ok (.ixor, 1) := by decide +kernel
theorem dJ9_floorMod_7cf53_7 : decode cJ9_floorMod_7cf53 7 = .ok (.ifCond .ge 11, 3) := by decide +kernel
theorem dJ9_floorMod_7cf53_10 : decode cJ9_floorMod_7cf53 10 = .ok (.iload_n 2, 1) := by decide +kernel
theorem dJ9_floorMod_7cf53_11 : decode cJ9_floorMod_7cf53 11 = .ok (.ifCond .eq 7, 3) := by decide +kernel
theorem dJ9_floorMod_7cf53_14 : decode cJ9_floorMod_7cf53 14 = .ok (.iload_n 2, 1) := by decide +kernel
theorem dJ9_floorMod_7cf53_15 : decode cJ9_floorMod_7cf53 15 = .ok (.iload_n 1, 1) := by decide +kernel
theorem dJ9_floorMod_7cf53_16 : decode cJ9_floorMod_7cf53 16 = .ok (.iadd, 1) := by decide +kernel
theorem dJ9_floorMod_7cf53_17 : decode cJ9_floorMod_7cf53 17 = .ok (.ireturn, 1) := by decide +kernel
theorem dJ9_floorMod_7cf53_18 : decode cJ9_floorMod_7cf53 18 = .ok (.iload_n 2, 1) := by decide +kernel
theorem dJ9_floorMod_7cf53_19 : decode cJ9_floorMod_7cf53 19 = .ok (.ireturn, 1) := by decide +kernel
theorem dJ9_max_7cf53_0 : decode cJ9_max_7cf53 0 = .ok (.iload_n 0, 1) := by decide +kernel
theorem dJ9_max_7cf53_1 : decode cJ9_max_7cf53 1 = .ok (.iload_n 1, 1) := by decide +kernel
theorem dJ9_max_7cf53_2 : decode cJ9_max_7cf53 2 = .ok (.if_icmp .lt 7, 3) := by decide +kernel
theorem dJ9_max_7cf53_5 : decode cJ9_max_7cf53 5 = .ok (.iload_n 0, 1) := by decide +kernel
theorem dJ9_max_7cf53_6 : decode cJ9_max_7cf53 6 = .ok (.goto 4, 3) := by decide +kernel
theorem dJ9_max_7cf53_9 : decode cJ9_max_7cf53 9 = .ok (.iload_n 1, 1) := by decide +kernel
theorem dJ9_max_7cf53_10 : decode cJ9_max_7cf53 10 = .ok (.ireturn, 1) := by decide +kernel
theorem dJ7_fill_53178_0 : decode cJ7_fill_53178 0 = .ok (.iconst 0, 1) := by decide +kernel
theorem dJ7_fill_53178_1 : decode cJ7_fill_53178 1 = .ok (.istore_n 2, 1) := by decide +kernel
theorem dJ7_fill_53178_2 : decode cJ7_fill_53178 2 = .ok (.aload_n 0, 1) := by decide +kernel
theorem dJ7_fill_53178_3 : decode cJ7_fill_53178 3 = .ok (.arraylength, 1) := by decide +kernel
theorem dJ7_fill_53178_4 : decode cJ7_fill_53178 4 = .ok (.istore_n 3, 1) := by decide +kernel
theorem dJ7_fill_53178_5 : decode cJ7_fill_53178 5 = .ok (.iload_n 2, 1) := by decide +kernel
theorem dJ7_fill_53178_6 : decode cJ7_fill_53178 6 = .ok (.iload_n 3, 1) := by decide +kernel
theorem dJ7_fill_53178_7 : decode cJ7_fill_53178 7 = .ok (.if_icmp .ge 13, 3) := by decide +kernel
theorem dJ7_fill_53178_10 : decode cJ7_fill_53178 10 = .ok (.aload_n 0, 1) := by decide +kernel
theorem dJ7_fill_53178_11 : decode cJ7_fill_53178 11 = .ok (.iload_n 2, 1) := by decide +kernel
theorem dJ7_fill_53178_12 : decode cJ7_fill_53178 12 = .ok (.iload_n 1, 1) := by decide +kernel
theorem dJ7_fill_53178_13 : decode cJ7_fill_53178 13 = .ok (.iastore, 1) := by decide +kernel
theorem dJ7_fill_53178_14 : decode cJ7_fill_53178 14 = .ok (.iinc 2 1, 3) := by decide +kernel
theorem dJ7_fill_53178_17 : decode cJ7_fill_53178 17 = .ok (.goto (-12), 3) := by decide +kernel
theorem dJ7_fill_53178_20 : decode cJ7_fill_53178 20 = .ok (.return_, 1) := by decide +kernel
theorem dJ7_copyOf_59c91_0 : decode cJ7_copyOf_59c91 0 = .ok (.iload_n 1, 1) := by decide +kernel
theorem dJ7_copyOf_59c91_1 : decode cJ7_copyOf_59c91 1 = .ok (.aload_n 0, 1) := by decide +kernel
theorem dJ7_copyOf_59c91_2 : decode cJ7_copyOf_59c91 2 = .ok (.arraylength, 1) := by decide +kernel
theorem dJ7_copyOf_59c91_3 : decode cJ7_copyOf_59c91 3 = .ok (.if_icmp .ne 11, 3) := by decide +kernel
theorem dJ7_copyOf_59c91_6 : decode cJ7_copyOf_59c91 6 = .ok (.aload_n 0, 1) := by decide +kernel
theorem dJ7_copyOf_59c91_7 : decode cJ7_copyOf_59c91 7 = .ok (.invokevirtual 316, 3) := by decide +kernel
theorem dJ7_copyOf_59c91_10 : decode cJ7_copyOf_59c91 10 = .ok (.checkcast 317, 3) := by decide +kernel
theorem dJ7_copyOf_59c91_13 : decode cJ7_copyOf_59c91 13 = .ok (.areturn, 1) := by decide +kernel
theorem dJ7_copyOf_59c91_14 : decode cJ7_copyOf_59c91 14 = .ok (.iload_n 1, 1) := by decide +kernel
theorem dJ7_copyOf_59c91_15 : decode cJ7_copyOf_59c91 15 = .ok (.newarray .int, 2) := by decide +kernel
theorem dJ7_copyOf_59c91_17 : decode cJ7_copyOf_59c91 17 = .ok (.astore_n 2, 1) := by decide +kernel
theorem dJ7_copyOf_59c91_18 : decode cJ7_copyOf_59c91 18 = .ok (.aload_n 0, 1) := by decide +kernel
theorem dJ7_copyOf_59c91_19 : decode cJ7_copyOf_59c91 19 = .ok (.iconst 0, 1) := by decide +kernel
theorem dJ7_copyOf_59c91_20 : decode cJ7_copyOf_59c91 20 = .ok (.aload_n 2, 1) := by decide +kernel
theorem dJ7_copyOf_59c91_21 : decode cJ7_copyOf_59c91 21 = .ok (.iconst 0, 1) := by decide +kernel
theorem dJ7_copyOf_59c91_22 : decode cJ7_copyOf_59c91 22 = .ok (.aload_n 0, 1) := by decide +kernel
theorem dJ7_copyOf_59c91_23 : decode cJ7_copyOf_59c91 23 = .ok (.arraylength, 1) := by decide +kernel
theorem dJ7_copyOf_59c91_24 : decode cJ7_copyOf_59c91 24 = .ok (.iload_n 1, 1) := by decide +kernel
theorem dJ7_copyOf_59c91_25 : decode cJ7_copyOf_59c91 25 = .ok (.invokestatic 304, 3) := by decide +kernel
theorem dJ7_copyOf_59c91_28 : decode cJ7_copyOf_59c91 28 = .ok (.invokestatic 150, 3) := by decide +kernel
theorem dJ7_copyOf_59c91_31 : decode cJ7_copyOf_59c91 31 = .ok (.aload_n 2, 1) := by decide +kernel
theorem dJ7_copyOf_59c91_32 : decode cJ7_copyOf_59c91 32 = .ok (.areturn, 1) := by decide +kernel
theorem dL_setDirections_0 : decode cL_setDirections 0 = .ok (.aload_n 2, 1) := by decide +kernel
theorem dL_setDirections_1 : decode cL_setDirections 1 = .ok (.iconst 0, 1) := by decide +kernel
theorem dL_setDirections_2 : decode cL_setDirections 2 = .ok (.aload_n 0, 1) := by decide +kernel
theorem dL_setDirections_3 : decode cL_setDirections 3 = .ok (.iload_n 1, 1) := by decide +kernel
theorem dL_setDirections_4 : decode cL_setDirections 4 = .ok (.invokevirtual 7, 3) := by decide +kernel
theorem dL_setDirections_7 : decode cL_setDirections 7 = .ok (.i2l, 1) := by decide +kernel
theorem dL_setDirections_8 : decode cL_setDirections 8 = .ok (.lastore, 1) := by decide +kernel
theorem dL_setDirections_9 : decode cL_setDirections 9 = .ok (.goto 6, 3) := by decide +kernel
theorem dL_setDirections_12 : decode cL_setDirections 12 = .ok (.astore_n 3, 1) := by decide +kernel
theorem dL_setDirections_13 : decode cL_setDirections 13 = .ok (.iconst 1, 1) := by decide +kernel
theorem dL_setDirections_14 : decode cL_setDirections 14 = .ok (.ireturn, 1) := by decide +kernel
theorem dL_setDirections_15 : decode cL_setDirections 15 = .ok (.iconst 0, 1) := by decide +kernel
theorem dL_setDirections_16 : decode cL_setDirections 16 = .ok (.ireturn, 1) := by decide +kernel
theorem dL_feed_0 : decode cL_feed 0 = .ok (.aload_n 2, 1) := by decide +kernel
theorem dL_feed_1 : decode cL_feed 1 = .ok (.iconst 0, 1) := by decide +kernel
theorem dL_feed_2 : decode cL_feed 2 = .ok (.aload_n 0, 1) := by decide +kernel
theorem dL_feed_3 : decode cL_feed 3 = .ok (.iload_n 1, 1) := by decide +kernel
theorem dL_feed_4 : decode cL_feed 4 = .ok (.invokevirtual 15, 3) := by decide +kernel
theorem dL_feed_7 : decode cL_feed 7 = .ok (.i2l, 1) := by decide +kernel
theorem dL_feed_8 : decode cL_feed 8 = .ok (.lastore, 1) := by decide +kernel
theorem dL_feed_9 : decode cL_feed 9 = .ok (.goto 6, 3) := by decide +kernel
theorem dL_feed_12 : decode cL_feed 12 = .ok (.astore_n 3, 1) := by decide +kernel
theorem dL_feed_13 : decode cL_feed 13 = .ok (.iconst 1, 1) := by decide +kernel
theorem dL_feed_14 : decode cL_feed 14 = .ok (.ireturn, 1) := by decide +kernel
theorem dL_feed_15 : decode cL_feed 15 = .ok (.iconst 0, 1) := by decide +kernel
theorem dL_feed_16 : decode cL_feed 16 = .ok (.ireturn, 1) := by decide +kernel
theorem dL_define_0 : decode cL_define 0 = .ok (.aload_n 2, 1) := by decide +kernel
theorem dL_define_1 : decode cL_define 1 = .ok (.iconst 0, 1) := by decide +kernel
theorem dL_define_2 : decode cL_define 2 = .ok (.aload_n 0, 1) := by decide +kernel
theorem dL_define_3 : decode cL_define 3 = .ok (.iload_n 1, 1) := by decide +kernel
theorem dL_define_4 : decode cL_define 4 = .ok (.invokevirtual 21, 3) := by decide +kernel
theorem dL_define_7 : decode cL_define 7 = .ok (.i2l, 1) := by decide +kernel
theorem dL_define_8 : decode cL_define 8 = .ok (.lastore, 1) := by decide +kernel
theorem dL_define_9 : decode cL_define 9 = .ok (.goto 6, 3) := by decide +kernel
theorem dL_define_12 : decode cL_define 12 = .ok (.astore_n 3, 1) := by decide +kernel
theorem dL_define_13 : decode cL_define 13 = .ok (.iconst 1, 1) := by decide +kernel
theorem dL_define_14 : decode cL_define 14 = .ok (.ireturn, 1) := by decide +kernel
theorem dL_define_15 : decode cL_define 15 = .ok (.iconst 0, 1) := by decide +kernel
theorem dL_define_16 : decode cL_define 16 = .ok (.ireturn, 1) := by decide +kernel
theorem dL_undefine_0 : decode cL_undefine 0 = .ok (.aload_n 2, 1) := by decide +kernel
theorem dL_undefine_1 : decode cL_undefine 1 = .ok (.iconst 0, 1) := by decide +kernel
theorem dL_undefine_2 : decode cL_undefine 2 = .ok (.aload_n 0, 1) := by decide +kernel
theorem dL_undefine_3 : decode cL_undefine 3 = .ok (.iload_n 1, 1) := by decide +kernel
theorem dL_undefine_4 : decode cL_undefine 4 = .ok (.invokevirtual 24, 3) := by decide +kernel
theorem dL_undefine_7 : decode cL_undefine 7 = .ok (.ifCond .eq 7, 3) := by decide +kernel
theorem dL_undefine_10 : decode cL_undefine 10 = .ok (.lconst 1, 1) := by decide +kernel
theorem dL_undefine_11 : decode cL_undefine 11 = .ok (.goto 4, 3) := by decide +kernel
theorem dL_undefine_14 : decode cL_undefine 14 = .ok (.lconst 0, 1) := by decide +kernel
theorem dL_undefine_15 : decode cL_undefine 15 = .ok (.lastore, 1) := by decide +kernel
theorem dL_undefine_16 : decode cL_undefine 16 = .ok (.goto 6, 3) := by decide +kernel
theorem dL_undefine_19 : decode cL_undefine 19 = .ok (.astore_n 3, 1) := by decide +kernel
theorem dL_undefine_20 : decode cL_undefine 20 = .ok (.iconst 1, 1) := by decide +kernel
theorem dL_undefine_21 : decode cL_undefine 21 = .ok (.ireturn, 1) := by decide +kernel
theorem dL_undefine_22 : decode cL_undefine 22 = .ok (.iconst 0, 1) := by decide +kernel
theorem dL_undefine_23 : decode cL_undefine 23 = .ok (.ireturn, 1) := by decide +kernel
theorem dL_run_0 : decode cL_run 0 = .ok (.aload_n 1, 1) := by decide +kernel
theorem dL_run_1 : decode cL_run 1 = .ok (.iconst 0, 1) := by decide +kernel
theorem dL_run_2 : decode cL_run 2 = .ok (.aload_n 0, 1) := by decide +kernel
theorem dL_run_3 : decode cL_run 3 = .ok (.invokevirtual 28, 3) := by decide +kernel
theorem dL_run_6 : decode cL_run 6 = .ok (.i2l, 1) := by decide +kernel
theorem dL_run_7 : decode cL_run 7 = .ok (.lastore, 1) := by decide +kernel
theorem dL_run_8 : decode cL_run 8 = .ok (.goto 12, 3) := by decide +kernel
theorem dL_run_11 : decode cL_run 11 = .ok (.astore_n 2, 1) := by decide +kernel
theorem dL_run_12 : decode cL_run 12 = .ok (.iconst 1, 1) := by decide +kernel
theorem dL_run_13 : decode cL_run 13 = .ok (.ireturn, 1) := by decide +kernel
theorem dL_run_14 : decode cL_run 14 = .ok (.astore_n 2, 1) := by decide +kernel
theorem dL_run_15 : decode cL_run 15 = .ok (.iconst 2, 1) := by decide +kernel
theorem dL_run_16 : decode cL_run 16 = .ok (.ireturn, 1) := by decide +kernel
theorem dL_run_17 : decode cL_run 17 = .ok (.astore_n 2, 1) := by decide +kernel
theorem dL_run_18 : decode cL_run 18 = .ok (.iconst 3, 1) := by decide +kernel
theorem dL_run_19 : decode cL_run 19 = .ok (.ireturn, 1) := by decide +kernel
theorem dL_run_20 : decode cL_run 20 = .ok (.iconst 0, 1) := by decide +kernel
theorem dL_run_21 : decode cL_run 21 = .ok (.ireturn, 1) := by decide +kernel
theorem dL_point_0 : decode cL_point 0 = .ok (.aload_n 3, 1) := by decide +kernel
theorem dL_point_1 : decode cL_point 1 = .ok (.iconst 0, 1) := by decide +kernel
theorem dL_point_2 : decode cL_point 2 = .ok (.aload_n 0, 1) := by decide +kernel
theorem dL_point_3 : decode cL_point 3 = .ok (.iload_n 1, 1) := by decide +kernel
theorem dL_point_4 : decode cL_point 4 = .ok (.iload_n 2, 1) := by decide +kernel
theorem dL_point_5 : decode cL_point 5 = .ok (.invokevirtual 36, 3) := by decide +kernel
theorem dL_point_8 : decode cL_point 8 = .ok (.i2l, 1) := by decide +kernel
theorem dL_point_9 : decode cL_point 9 = .ok (.lastore, 1) := by decide +kernel
theorem dL_point_10 : decode cL_point 10 = .ok (.goto 7, 3) := by decide +kernel
theorem dL_point_13 : decode cL_point 13 = .ok (.astore 4, 2) := by decide +kernel
theorem dL_point_15 : decode cL_point 15 = .ok (.iconst 1, 1) := by decide +kernel
theorem dL_point_16 : decode cL_point 16 = .ok (.ireturn, 1) := by decide +kernel
theorem dL_point_17 : decode cL_point 17 = .ok (.iconst 0, 1) := by decide +kernel
theorem dL_point_18 : decode cL_point 18 = .ok (.ireturn, 1) := by decide +kernel
theorem dL_isDrawn_0 : decode cL_isDrawn 0 = .ok (.aload_n 2, 1) := by decide +kernel
theorem dL_isDrawn_1 : decode cL_isDrawn 1 = .ok (.iconst 0, 1) := by decide +kernel
theorem dL_isDrawn_2 : decode cL_isDrawn 2 = .ok (.aload_n 0, 1) := by decide +kernel
theorem dL_isDrawn_3 : decode cL_isDrawn 3 = .ok (.iload_n 1, 1) := by decide +kernel
theorem dL_isDrawn_4 : decode cL_isDrawn 4 = .ok (.invokevirtual 42, 3) := by decide +kernel
theorem dL_isDrawn_7 : decode cL_isDrawn 7 = .ok (.ifCond .eq 7, 3) := by decide +kernel
theorem dL_isDrawn_10 : decode cL_isDrawn 10 = .ok (.lconst 1, 1) := by decide +kernel
theorem dL_isDrawn_11 : decode cL_isDrawn 11 = .ok (.goto 4, 3) := by decide +kernel
theorem dL_isDrawn_14 : decode cL_isDrawn 14 = .ok (.lconst 0, 1) := by decide +kernel
theorem dL_isDrawn_15 : decode cL_isDrawn 15 = .ok (.lastore, 1) := by decide +kernel
theorem dL_isDrawn_16 : decode cL_isDrawn 16 = .ok (.goto 6, 3) := by decide +kernel
theorem dL_isDrawn_19 : decode cL_isDrawn 19 = .ok (.astore_n 3, 1) := by decide +kernel
theorem dL_isDrawn_20 : decode cL_isDrawn 20 = .ok (.iconst 1, 1) := by decide +kernel
theorem dL_isDrawn_21 : decode cL_isDrawn 21 = .ok (.ireturn, 1) := by decide +kernel
theorem dL_isDrawn_22 : decode cL_isDrawn 22 = .ok (.iconst 0, 1) := by decide +kernel
theorem dL_isDrawn_23 : decode cL_isDrawn 23 = .ok (.ireturn, 1) := by decide +kernel
theorem dL_closingRepeats_0 : decode cL_closingRepeats 0 = .ok (.aload_n 1, 1) := by decide +kernel
theorem dL_closingRepeats_1 : decode cL_closingRepeats 1 = .ok (.iconst 0, 1) := by decide +kernel
theorem dL_closingRepeats_2 : decode cL_closingRepeats 2 = .ok (.aload_n 0, 1) := by decide +kernel
theorem dL_closingRepeats_3 : decode cL_closingRepeats 3 = .ok (.invokevirtual 46, 3) := by decide +kernel
theorem dL_closingRepeats_6 : decode cL_closingRepeats 6 = .ok (.i2l, 1) := by decide +kernel
theorem dL_closingRepeats_7 : decode cL_closingRepeats 7 = .ok (.lastore, 1) := by decide +kernel
theorem dL_closingRepeats_8 : decode cL_closingRepeats 8 = .ok (.goto 6, 3) := by decide +kernel
theorem dL_closingRepeats_11 : decode cL_closingRepeats 11 = .ok (.astore_n 2, 1) := by decide +kernel
theorem dL_closingRepeats_12 : decode cL_closingRepeats 12 = .ok (.iconst 1, 1) := by decide +kernel
theorem dL_closingRepeats_13 : decode cL_closingRepeats 13 = .ok (.ireturn, 1) := by decide +kernel
theorem dL_closingRepeats_14 : decode cL_closingRepeats 14 = .ok (.iconst 0, 1) := by decide +kernel
theorem dL_closingRepeats_15 : decode cL_closingRepeats 15 = .ok (.ireturn, 1) := by decide +kernel
theorem dL_area_0 : decode cL_area 0 = .ok (.aload_n 2, 1) := by decide +kernel
theorem dL_area_1 : decode cL_area 1 = .ok (.iconst 0, 1) := by decide +kernel
theorem dL_area_2 : decode cL_area 2 = .ok (.aload_n 0, 1) := by decide +kernel
theorem dL_area_3 : decode cL_area 3 = .ok (.iload_n 1, 1) := by decide +kernel
theorem dL_area_4 : decode cL_area 4 = .ok (.invokevirtual 49, 3) := by decide +kernel
theorem dL_area_7 : decode cL_area 7 = .ok (.lastore, 1) := by decide +kernel
theorem dL_area_8 : decode cL_area 8 = .ok (.goto 9, 3) := by decide +kernel
theorem dL_area_11 : decode cL_area 11 = .ok (.astore_n 3, 1) := by decide +kernel
theorem dL_area_12 : decode cL_area 12 = .ok (.iconst 1, 1) := by decide +kernel
theorem dL_area_13 : decode cL_area 13 = .ok (.ireturn, 1) := by decide +kernel
theorem dL_area_14 : decode cL_area 14 = .ok (.astore_n 3, 1) := by decide +kernel
theorem dL_area_15 : decode cL_area 15 = .ok (.iconst 2, 1) := by decide +kernel
theorem dL_area_16 : decode cL_area 16 = .ok (.ireturn, 1) := by decide +kernel
theorem dL_area_17 : decode cL_area 17 = .ok (.iconst 0, 1) := by decide +kernel
theorem dL_area_18 : decode cL_area 18 = .ok (.ireturn, 1) := by decide +kernel
theorem dL_firstMeeting_0 : decode cL_firstMeeting 0 = .ok (.aload_n 1, 1) := by decide +kernel
theorem dL_firstMeeting_1 : decode cL_firstMeeting 1 = .ok (.iconst 0, 1) := by decide +kernel
theorem dL_firstMeeting_2 : decode cL_firstMeeting 2 = .ok (.aload_n 0, 1) := by decide +kernel
theorem dL_firstMeeting_3 : decode cL_firstMeeting 3 = .ok (.invokevirtual 53, 3) := by decide +kernel
theorem dL_firstMeeting_6 : decode cL_firstMeeting 6 = .ok (.i2l, 1) := by decide +kernel
theorem dL_firstMeeting_7 : decode cL_firstMeeting 7 = .ok (.lastore, 1) := by decide +kernel
theorem dL_firstMeeting_8 : decode cL_firstMeeting 8 = .ok (.goto 6, 3) := by decide +kernel
theorem dL_firstMeeting_11 : decode cL_firstMeeting 11 = .ok (.astore_n 2, 1) := by decide +kernel
theorem dL_firstMeeting_12 : decode cL_firstMeeting 12 = .ok (.iconst 1, 1) := by decide +kernel
theorem dL_firstMeeting_13 : decode cL_firstMeeting 13 = .ok (.ireturn, 1) := by decide +kernel
theorem dL_firstMeeting_14 : decode cL_firstMeeting 14 = .ok (.iconst 0, 1) := by decide +kernel
theorem dL_firstMeeting_15 : decode cL_firstMeeting 15 = .ok (.ireturn, 1) := by decide +kernel
theorem dL_extreme_0 : decode cL_extreme 0 = .ok (.aload_n 3, 1) := by decide +kernel
theorem dL_extreme_1 : decode cL_extreme 1 = .ok (.iconst 0, 1) := by decide +kernel
theorem dL_extreme_2 : decode cL_extreme 2 = .ok (.aload_n 0, 1) := by decide +kernel
theorem dL_extreme_3 : decode cL_extreme 3 = .ok (.iload_n 1, 1) := by decide +kernel
theorem dL_extreme_4 : decode cL_extreme 4 = .ok (.iload_n 2, 1) := by decide +kernel
theorem dL_extreme_5 : decode cL_extreme 5 = .ok (.invokevirtual 56, 3) := by decide +kernel
theorem dL_extreme_8 : decode cL_extreme 8 = .ok (.i2l, 1) := by decide +kernel
theorem dL_extreme_9 : decode cL_extreme 9 = .ok (.lastore, 1) := by decide +kernel
theorem dL_extreme_10 : decode cL_extreme 10 = .ok (.goto 7, 3) := by decide +kernel
theorem dL_extreme_13 : decode cL_extreme 13 = .ok (.astore 4, 2) := by decide +kernel
theorem dL_extreme_15 : decode cL_extreme 15 = .ok (.iconst 1, 1) := by decide +kernel
theorem dL_extreme_16 : decode cL_extreme 16 = .ok (.ireturn, 1) := by decide +kernel
theorem dL_extreme_17 : decode cL_extreme 17 = .ok (.iconst 0, 1) := by decide +kernel
theorem dL_extreme_18 : decode cL_extreme 18 = .ok (.ireturn, 1) := by decide +kernel
theorem dL_corners_0 : decode cL_corners 0 = .ok (.aload_n 1, 1) := by decide +kernel
theorem dL_corners_1 : decode cL_corners 1 = .ok (.iconst 0, 1) := by decide +kernel
theorem dL_corners_2 : decode cL_corners 2 = .ok (.aload_n 0, 1) := by decide +kernel
theorem dL_corners_3 : decode cL_corners 3 = .ok (.invokevirtual 59, 3) := by decide +kernel
theorem dL_corners_6 : decode cL_corners 6 = .ok (.i2l, 1) := by decide +kernel
theorem dL_corners_7 : decode cL_corners 7 = .ok (.lastore, 1) := by decide +kernel
theorem dL_corners_8 : decode cL_corners 8 = .ok (.goto 6, 3) := by decide +kernel
theorem dL_corners_11 : decode cL_corners 11 = .ok (.astore_n 2, 1) := by decide +kernel
theorem dL_corners_12 : decode cL_corners 12 = .ok (.iconst 1, 1) := by decide +kernel
theorem dL_corners_13 : decode cL_corners 13 = .ok (.ireturn, 1) := by decide +kernel
theorem dL_corners_14 : decode cL_corners 14 = .ok (.iconst 0, 1) := by decide +kernel
theorem dL_corners_15 : decode cL_corners 15 = .ok (.ireturn, 1) := by decide +kernel
theorem dL_symmetry_0 : decode cL_symmetry 0 = .ok (.aload_n 1, 1) := by decide +kernel
theorem dL_symmetry_1 : decode cL_symmetry 1 = .ok (.iconst 0, 1) := by decide +kernel
theorem dL_symmetry_2 : decode cL_symmetry 2 = .ok (.aload_n 0, 1) := by decide +kernel
theorem dL_symmetry_3 : decode cL_symmetry 3 = .ok (.invokevirtual 62, 3) := by decide +kernel
theorem dL_symmetry_6 : decode cL_symmetry 6 = .ok (.i2l, 1) := by decide +kernel
theorem dL_symmetry_7 : decode cL_symmetry 7 = .ok (.lastore, 1) := by decide +kernel
theorem dL_symmetry_8 : decode cL_symmetry 8 = .ok (.goto 6, 3) := by decide +kernel
theorem dL_symmetry_11 : decode cL_symmetry 11 = .ok (.astore_n 2, 1) := by decide +kernel
theorem dL_symmetry_12 : decode cL_symmetry 12 = .ok (.iconst 1, 1) := by decide +kernel
theorem dL_symmetry_13 : decode cL_symmetry 13 = .ok (.ireturn, 1) := by decide +kernel
theorem dL_symmetry_14 : decode cL_symmetry 14 = .ok (.iconst 0, 1) := by decide +kernel
theorem dL_symmetry_15 : decode cL_symmetry 15 = .ok (.ireturn, 1) := by decide +kernel
theorem dL_isMirrored_0 : decode cL_isMirrored 0 = .ok (.aload_n 1, 1) := by decide +kernel
theorem dL_isMirrored_1 : decode cL_isMirrored 1 = .ok (.iconst 0, 1) := by decide +kernel
theorem dL_isMirrored_2 : decode cL_isMirrored 2 = .ok (.aload_n 0, 1) := by decide +kernel
theorem dL_isMirrored_3 : decode cL_isMirrored 3 = .ok (.invokevirtual 65, 3) := by decide +kernel
theorem dL_isMirrored_6 : decode cL_isMirrored 6 = .ok (.ifCond .eq 7, 3) := by decide +kernel
theorem dL_isMirrored_9 : decode cL_isMirrored 9 = .ok (.lconst 1, 1) := by decide +kernel
theorem dL_isMirrored_10 : decode cL_isMirrored 10 = .ok (.goto 4, 3) := by decide +kernel
theorem dL_isMirrored_13 : decode cL_isMirrored 13 = .ok (.lconst 0, 1) := by decide +kernel
theorem dL_isMirrored_14 : decode cL_isMirrored 14 = .ok (.lastore, 1) := by decide +kernel
theorem dL_isMirrored_15 : decode cL_isMirrored 15 = .ok (.goto 6, 3) := by decide +kernel
theorem dL_isMirrored_18 : decode cL_isMirrored 18 = .ok (.astore_n 2, 1) := by decide +kernel
theorem dL_isMirrored_19 : decode cL_isMirrored 19 = .ok (.iconst 1, 1) := by decide +kernel
theorem dL_isMirrored_20 : decode cL_isMirrored 20 = .ok (.ireturn, 1) := by decide +kernel
theorem dL_isMirrored_21 : decode cL_isMirrored 21 = .ok (.iconst 0, 1) := by decide +kernel
theorem dL_isMirrored_22 : decode cL_isMirrored 22 = .ok (.ireturn, 1) := by decide +kernel
theorem dL_shortestWalk_0 : decode cL_shortestWalk 0 = .ok (.aload_n 2, 1) := by decide +kernel
theorem dL_shortestWalk_1 : decode cL_shortestWalk 1 = .ok (.iconst 0, 1) := by decide +kernel
theorem dL_shortestWalk_2 : decode cL_shortestWalk 2 = .ok (.aload_n 0, 1) := by decide +kernel
theorem dL_shortestWalk_3 : decode cL_shortestWalk 3 = .ok (.iload_n 1, 1) := by decide +kernel
theorem dL_shortestWalk_4 : decode cL_shortestWalk 4 = .ok (.invokevirtual 69, 3) := by decide +kernel
theorem dL_shortestWalk_7 : decode cL_shortestWalk 7 = .ok (.i2l, 1) := by decide +kernel
theorem dL_shortestWalk_8 : decode cL_shortestWalk 8 = .ok (.lastore, 1) := by decide +kernel
theorem dL_shortestWalk_9 : decode cL_shortestWalk 9 = .ok (.goto 9, 3) := by decide +kernel
theorem dL_shortestWalk_12 : decode cL_shortestWalk 12 = .ok (.astore_n 3, 1) := by decide +kernel
theorem dL_shortestWalk_13 : decode cL_shortestWalk 13 = .ok (.iconst 1, 1) := by decide +kernel
theorem dL_shortestWalk_14 : decode cL_shortestWalk 14 = .ok (.ireturn, 1) := by decide +kernel
theorem dL_shortestWalk_15 : decode cL_shortestWalk 15 = .ok (.astore_n 3, 1) := by decide +kernel
theorem dL_shortestWalk_16 : decode cL_shortestWalk 16 = .ok (.iconst 2, 1) := by decide +kernel
theorem dL_shortestWalk_17 : decode cL_shortestWalk 17 = .ok (.ireturn, 1) := by decide +kernel
theorem dL_shortestWalk_18 : decode cL_shortestWalk 18 = .ok (.iconst 0, 1) := by decide +kernel
theorem dL_shortestWalk_19 : decode cL_shortestWalk 19 = .ok (.ireturn, 1) := by decide +kernel
theorem dL_outputAt_0 : decode cL_outputAt 0 = .ok (.aload_n 2, 1) := by decide +kernel
theorem dL_outputAt_1 : decode cL_outputAt 1 = .ok (.iconst 0, 1) := by decide +kernel
theorem dL_outputAt_2 : decode cL_outputAt 2 = .ok (.aload_n 0, 1) := by decide +kernel
theorem dL_outputAt_3 : decode cL_outputAt 3 = .ok (.iload_n 1, 1) := by decide +kernel
theorem dL_outputAt_4 : decode cL_outputAt 4 = .ok (.invokevirtual 72, 3) := by decide +kernel
theorem dL_outputAt_7 : decode cL_outputAt 7 = .ok (.i2l, 1) := by decide +kernel
theorem dL_outputAt_8 : decode cL_outputAt 8 = .ok (.lastore, 1) := by decide +kernel
theorem dL_outputAt_9 : decode cL_outputAt 9 = .ok (.goto 6, 3) := by decide +kernel
theorem dL_outputAt_12 : decode cL_outputAt 12 = .ok (.astore_n 3, 1) := by decide +kernel
theorem dL_outputAt_13 : decode cL_outputAt 13 = .ok (.iconst 1, 1) := by decide +kernel
theorem dL_outputAt_14 : decode cL_outputAt 14 = .ok (.ireturn, 1) := by decide +kernel
theorem dL_outputAt_15 : decode cL_outputAt 15 = .ok (.iconst 0, 1) := by decide +kernel
theorem dL_outputAt_16 : decode cL_outputAt 16 = .ok (.ireturn, 1) := by decide +kernel
theorem dL_shortestText_0 : decode cL_shortestText 0 = .ok (.aload_n 1, 1) := by decide +kernel
theorem dL_shortestText_1 : decode cL_shortestText 1 = .ok (.iconst 0, 1) := by decide +kernel
theorem dL_shortestText_2 : decode cL_shortestText 2 = .ok (.aload_n 0, 1) := by decide +kernel
theorem dL_shortestText_3 : decode cL_shortestText 3 = .ok (.invokevirtual 76, 3) := by decide +kernel
theorem dL_shortestText_6 : decode cL_shortestText 6 = .ok (.i2l, 1) := by decide +kernel
theorem dL_shortestText_7 : decode cL_shortestText 7 = .ok (.lastore, 1) := by decide +kernel
theorem dL_shortestText_8 : decode cL_shortestText 8 = .ok (.goto 6, 3) := by decide +kernel
theorem dL_shortestText_11 : decode cL_shortestText 11 = .ok (.astore_n 2, 1) := by decide +kernel
theorem dL_shortestText_12 : decode cL_shortestText 12 = .ok (.iconst 1, 1) := by decide +kernel
theorem dL_shortestText_13 : decode cL_shortestText 13 = .ok (.ireturn, 1) := by decide +kernel
theorem dL_shortestText_14 : decode cL_shortestText 14 = .ok (.iconst 0, 1) := by decide +kernel
theorem dL_shortestText_15 : decode cL_shortestText 15 = .ok (.ireturn, 1) := by decide +kernel
theorem dL_called_0 : decode cL_called 0 = .ok (.aload_n 2, 1) := by decide +kernel
theorem dL_called_1 : decode cL_called 1 = .ok (.iconst 0, 1) := by decide +kernel
theorem dL_called_2 : decode cL_called 2 = .ok (.aload_n 0, 1) := by decide +kernel
theorem dL_called_3 : decode cL_called 3 = .ok (.iload_n 1, 1) := by decide +kernel
theorem dL_called_4 : decode cL_called 4 = .ok (.invokevirtual 79, 3) := by decide +kernel
theorem dL_called_7 : decode cL_called 7 = .ok (.i2l, 1) := by decide +kernel
theorem dL_called_8 : decode cL_called 8 = .ok (.lastore, 1) := by decide +kernel
theorem dL_called_9 : decode cL_called 9 = .ok (.goto 6, 3) := by decide +kernel
theorem dL_called_12 : decode cL_called 12 = .ok (.astore_n 3, 1) := by decide +kernel
theorem dL_called_13 : decode cL_called 13 = .ok (.iconst 1, 1) := by decide +kernel
theorem dL_called_14 : decode cL_called 14 = .ok (.ireturn, 1) := by decide +kernel
theorem dL_called_15 : decode cL_called 15 = .ok (.iconst 0, 1) := by decide +kernel
theorem dL_called_16 : decode cL_called 16 = .ok (.ireturn, 1) := by decide +kernel
theorem dL_createTrace_0 : decode cL_createTrace 0 = .ok (.aload_n 2, 1) := by decide +kernel
theorem dL_createTrace_1 : decode cL_createTrace 1 = .ok (.iconst 0, 1) := by decide +kernel
theorem dL_createTrace_2 : decode cL_createTrace 2 = .ok (.aload_n 0, 1) := by decide +kernel
theorem dL_createTrace_3 : decode cL_createTrace 3 = .ok (.iload_n 1, 1) := by decide +kernel
theorem dL_createTrace_4 : decode cL_createTrace 4 = .ok (.invokevirtual 82, 3) := by decide +kernel
theorem dL_createTrace_7 : decode cL_createTrace 7 = .ok (.i2l, 1) := by decide +kernel
theorem dL_createTrace_8 : decode cL_createTrace 8 = .ok (.lastore, 1) := by decide +kernel
theorem dL_createTrace_9 : decode cL_createTrace 9 = .ok (.goto 6, 3) := by decide +kernel
theorem dL_createTrace_12 : decode cL_createTrace 12 = .ok (.astore_n 3, 1) := by decide +kernel
theorem dL_createTrace_13 : decode cL_createTrace 13 = .ok (.iconst 1, 1) := by decide +kernel
theorem dL_createTrace_14 : decode cL_createTrace 14 = .ok (.ireturn, 1) := by decide +kernel
theorem dL_createTrace_15 : decode cL_createTrace 15 = .ok (.iconst 0, 1) := by decide +kernel
theorem dL_createTrace_16 : decode cL_createTrace 16 = .ok (.ireturn, 1) := by decide +kernel
theorem dL_restoreProcedures_0 : decode cL_restoreProcedures 0 = .ok (.aload_n 1, 1) := by decide +kernel
theorem dL_restoreProcedures_1 : decode cL_restoreProcedures 1 = .ok (.iconst 0, 1) := by decide +kernel
theorem dL_restoreProcedures_2 : decode cL_restoreProcedures 2 = .ok (.aload_n 0, 1) := by decide +kernel
theorem dL_restoreProcedures_3 : decode cL_restoreProcedures 3 = .ok (.invokevirtual 85, 3) := by decide +kernel
theorem dL_restoreProcedures_6 : decode cL_restoreProcedures 6 = .ok (.i2l, 1) := by decide +kernel
theorem dL_restoreProcedures_7 : decode cL_restoreProcedures 7 = .ok (.lastore, 1) := by decide +kernel
theorem dL_restoreProcedures_8 : decode cL_restoreProcedures 8 = .ok (.goto 6, 3) := by decide +kernel
theorem dL_restoreProcedures_11 : decode cL_restoreProcedures 11 = .ok (.astore_n 2, 1) := by decide +kernel
theorem dL_restoreProcedures_12 : decode cL_restoreProcedures 12 = .ok (.iconst 1, 1) := by decide +kernel
theorem dL_restoreProcedures_13 : decode cL_restoreProcedures 13 = .ok (.ireturn, 1) := by decide +kernel
theorem dL_restoreProcedures_14 : decode cL_restoreProcedures 14 = .ok (.iconst 0, 1) := by decide +kernel
theorem dL_restoreProcedures_15 : decode cL_restoreProcedures 15 = .ok (.ireturn, 1) := by decide +kernel
theorem dL_law_0 : decode cL_law 0 = .ok (.new 8, 3) := by decide +kernel
theorem dL_law_3 : decode cL_law 3 = .ok (.dup, 1) := by decide +kernel
theorem dL_law_4 : decode cL_law 4 = .ok (.invokespecial 88, 3) := by decide +kernel
theorem dL_law_7 : decode cL_law 7 = .ok (.astore_n 1, 1) := by decide +kernel
theorem dL_law_8 : decode cL_law 8 = .ok (.new 89, 3) := by decide +kernel
theorem dL_law_11 : decode cL_law 11 = .ok (.dup, 1) := by decide +kernel
theorem dL_law_12 : decode cL_law 12 = .ok (.invokespecial 91, 3) := by decide +kernel
theorem dL_law_15 : decode cL_law 15 = .ok (.astore_n 2, 1) := by decide +kernel
theorem dL_law_16 : decode cL_law 16 = .ok (.iconst 1, 1) := by decide +kernel
theorem dL_law_17 : decode cL_law 17 = .ok (.newarray .long, 2) := by decide +kernel
theorem dL_law_19 : decode cL_law 19 = .ok (.astore_n 3, 1) := by decide +kernel
theorem dL_law_20 : decode cL_law 20 = .ok (.iconst 0, 1) := by decide +kernel
theorem dL_law_21 : decode cL_law 21 = .ok (.istore 4, 2) := by decide +kernel
theorem dL_law_23 : decode cL_law 23 = .ok (.iload 4, 2) := by decide +kernel
theorem dL_law_25 : decode cL_law 25 = .ok (.aload_n 0, 1) := by decide +kernel
theorem dL_law_26 : decode cL_law 26 = .ok (.arraylength, 1) := by decide +kernel
theorem dL_law_27 : decode cL_law 27 = .ok (.iconst 3, 1) := by decide +kernel
theorem dL_law_28 : decode cL_law 28 = .ok (.isub, 1) := by decide +kernel
theorem dL_law_29 : decode cL_law 29 = .ok (.if_icmp .gt 1362, 3) := by decide +kernel
theorem dL_law_32 : decode cL_law 32 = .ok (.aload_n 0, 1) := by decide +kernel
theorem dL_law_33 : decode cL_law 33 = .ok (.iload 4, 2) := by decide +kernel
theorem dL_law_35 : decode cL_law 35 = .ok (.iaload, 1) := by decide +kernel
theorem dL_law_36 : decode cL_law 36 = .ok (.bipush 31, 2) := by decide +kernel
theorem dL_law_38 : decode cL_law 38 = .ok (.iand, 1) := by decide +kernel
theorem dL_law_39 : decode cL_law 39 = .ok (.tableswitch 1346 0 28 #[129, 185, 243, 301, 366, 410, 478, 491, 554, 567, 580, 593, 637, 692, 705, 718, 762, 830, 874, 918, 969, 1025, 1081, 1125, 1181, 1208, 1264, 1289, 1302], 129) := by decide +kernel
theorem dL_law_168 : decode cL_law 168 = .ok (.aload_n 1, 1) := by decide +kernel
theorem dL_law_169 : decode cL_law 169 = .ok (.aload_n 0, 1) := by decide +kernel
theorem dL_law_170 : decode cL_law 170 = .ok (.iload 4, 2) := by decide +kernel
theorem dL_law_172 : decode cL_law 172 = .ok (.iconst 1, 1) := by decide +kernel
theorem dL_law_173 : decode cL_law 173 = .ok (.iadd, 1) := by decide +kernel
theorem dL_law_174 : decode cL_law 174 = .ok (.iaload, 1) := by decide +kernel
theorem dL_law_175 : decode cL_law 175 = .ok (.aload_n 3, 1) := by decide +kernel
theorem dL_law_176 : decode cL_law 176 = .ok (.invokestatic 92, 3) := by decide +kernel
theorem dL_law_179 : decode cL_law 179 = .ok (.istore 5, 2) := by decide +kernel
theorem dL_law_181 : decode cL_law 181 = .ok (.aload_n 2, 1) := by decide +kernel
theorem dL_law_182 : decode cL_law 182 = .ok (.aload_n 0, 1) := by decide +kernel
theorem dL_law_183 : decode cL_law 183 = .ok (.iload 4, 2) := by decide +kernel
theorem dL_law_185 : decode cL_law 185 = .ok (.iconst 1, 1) := by decide +kernel
theorem dL_law_186 : decode cL_law 186 = .ok (.iadd, 1) := by decide +kernel
theorem dL_law_187 : decode cL_law 187 = .ok (.iaload, 1) := by decide +kernel
theorem dL_law_188 : decode cL_law 188 = .ok (.invokevirtual 97, 3) := by decide +kernel
theorem dL_law_191 : decode cL_law 191 = .ok (.istore 6, 2) := by decide +kernel
theorem dL_law_193 : decode cL_law 193 = .ok (.aload_n 2, 1) := by decide +kernel
theorem dL_law_194 : decode cL_law 194 = .ok (.invokevirtual 98, 3) := by decide +kernel
theorem dL_law_197 : decode cL_law 197 = .ok (.iload 5, 2) := by decide +kernel
theorem dL_law_199 : decode cL_law 199 = .ok (.if_icmp .eq 5, 3) := by decide +kernel
theorem dL_law_202 : decode cL_law 202 = .ok (.iconst 0, 1) := by decide +kernel
theorem dL_law_203 : decode cL_law 203 = .ok (.ireturn, 1) := by decide +kernel
theorem dL_law_204 : decode cL_law 204 = .ok (.iload 5, 2) := by decide +kernel
theorem dL_law_206 : decode cL_law 206 = .ok (.ifCond .ne 15, 3) := by decide +kernel
theorem dL_law_209 : decode cL_law 209 = .ok (.aload_n 3, 1) := by decide +kernel
theorem dL_law_210 : decode cL_law 210 = .ok (.iconst 0, 1) := by decide +kernel
theorem dL_law_211 : decode cL_law 211 = .ok (.laload, 1) := by decide +kernel
theorem dL_law_212 : decode cL_law 212 = .ok (.iload 6, 2) := by decide +kernel
theorem dL_law_214 : decode cL_law 214 = .ok (.i2l, 1) := by decide +kernel
theorem dL_law_215 : decode cL_law 215 = .ok (.lcmp, 1) := by decide +kernel
theorem dL_law_216 : decode cL_law 216 = .ok (.ifCond .eq 5, 3) := by decide +kernel
theorem dL_law_219 : decode cL_law 219 = .ok (.iconst 0, 1) := by decide +kernel
theorem dL_law_220 : decode cL_law 220 = .ok (.ireturn, 1) := by decide +kernel
theorem dL_law_221 : decode cL_law 221 = .ok (.goto 1164, 3) := by decide +kernel
theorem dL_law_224 : decode cL_law 224 = .ok (.aload_n 1, 1) := by decide +kernel
theorem dL_law_225 : decode cL_law 225 = .ok (.aload_n 0, 1) := by decide +kernel
theorem dL_law_226 : decode cL_law 226 = .ok (.iload 4, 2) := by decide +kernel
theorem dL_law_228 : decode cL_law 228 = .ok (.iconst 1, 1) := by decide +kernel
theorem dL_law_229 : decode cL_law 229 = .ok (.iadd, 1) := by decide +kernel
theorem dL_law_230 : decode cL_law 230 = .ok (.iaload, 1) := by decide +kernel
theorem dL_law_231 : decode cL_law 231 = .ok (.i2c, 1) := by decide +kernel
theorem dL_law_232 : decode cL_law 232 = .ok (.aload_n 3, 1) := by decide +kernel
theorem dL_law_233 : decode cL_law 233 = .ok (.invokestatic 101, 3) := by decide +kernel
theorem dL_law_236 : decode cL_law 236 = .ok (.istore 5, 2) := by decide +kernel
theorem dL_law_238 : decode cL_law 238 = .ok (.aload_n 2, 1) := by decide +kernel
theorem dL_law_239 : decode cL_law 239 = .ok (.aload_n 0, 1) := by decide +kernel
theorem dL_law_240 : decode cL_law 240 = .ok (.iload 4, 2) := by decide +kernel
theorem dL_law_242 : decode cL_law 242 = .ok (.iconst 1, 1) := by decide +kernel
theorem dL_law_243 : decode cL_law 243 = .ok (.iadd, 1) := by decide +kernel
theorem dL_law_244 : decode cL_law 244 = .ok (.iaload, 1) := by decide +kernel
theorem dL_law_245 : decode cL_law 245 = .ok (.i2c, 1) := by decide +kernel
theorem dL_law_246 : decode cL_law 246 = .ok (.invokevirtual 104, 3) := by decide +kernel
theorem dL_law_249 : decode cL_law 249 = .ok (.istore 6, 2) := by decide +kernel
theorem dL_law_251 : decode cL_law 251 = .ok (.aload_n 2, 1) := by decide +kernel
theorem dL_law_252 : decode cL_law 252 = .ok (.invokevirtual 98, 3) := by decide +kernel
theorem dL_law_255 : decode cL_law 255 = .ok (.iload 5, 2) := by decide +kernel
theorem dL_law_257 : decode cL_law 257 = .ok (.if_icmp .eq 5, 3) := by decide +kernel
theorem dL_law_260 : decode cL_law 260 = .ok (.iconst 0, 1) := by decide +kernel
theorem dL_law_261 : decode cL_law 261 = .ok (.ireturn, 1) := by decide +kernel
theorem dL_law_262 : decode cL_law 262 = .ok (.iload 5, 2) := by decide +kernel
theorem dL_law_264 : decode cL_law 264 = .ok (.ifCond .ne 15, 3) := by decide +kernel
theorem dL_law_267 : decode cL_law 267 = .ok (.aload_n 3, 1) := by decide +kernel
theorem dL_law_268 : decode cL_law 268 = .ok (.iconst 0, 1) := by decide +kernel
theorem dL_law_269 : decode cL_law 269 = .ok (.laload, 1) := by decide +kernel
theorem dL_law_270 : decode cL_law 270 = .ok (.iload 6, 2) := by decide +kernel
theorem dL_law_272 : decode cL_law 272 = .ok (.i2l, 1) := by decide +kernel
theorem dL_law_273 : decode cL_law 273 = .ok (.lcmp, 1) := by decide +kernel
theorem dL_law_274 : decode cL_law 274 = .ok (.ifCond .eq 5, 3) := by decide +kernel
theorem dL_law_277 : decode cL_law 277 = .ok (.iconst 0, 1) := by decide +kernel
theorem dL_law_278 : decode cL_law 278 = .ok (.ireturn, 1) := by decide +kernel
theorem dL_law_279 : decode cL_law 279 = .ok (.goto 1106, 3) := by decide +kernel
theorem dL_law_282 : decode cL_law 282 = .ok (.aload_n 1, 1) := by decide +kernel
theorem dL_law_283 : decode cL_law 283 = .ok (.aload_n 0, 1) := by decide +kernel
theorem dL_law_284 : decode cL_law 284 = .ok (.iload 4, 2) := by decide +kernel
theorem dL_law_286 : decode cL_law 286 = .ok (.iconst 1, 1) := by decide +kernel
theorem dL_law_287 : decode cL_law 287 = .ok (.iadd, 1) := by decide +kernel
theorem dL_law_288 : decode cL_law 288 = .ok (.iaload, 1) := by decide +kernel
theorem dL_law_289 : decode cL_law 289 = .ok (.i2c, 1) := by decide +kernel
theorem dL_law_290 : decode cL_law 290 = .ok (.aload_n 3, 1) := by decide +kernel
theorem dL_law_291 : decode cL_law 291 = .ok (.invokestatic 105, 3) := by decide +kernel
theorem dL_law_294 : decode cL_law 294 = .ok (.istore 5, 2) := by decide +kernel
theorem dL_law_296 : decode cL_law 296 = .ok (.aload_n 2, 1) := by decide +kernel
theorem dL_law_297 : decode cL_law 297 = .ok (.aload_n 0, 1) := by decide +kernel
theorem dL_law_298 : decode cL_law 298 = .ok (.iload 4, 2) := by decide +kernel
theorem dL_law_300 : decode cL_law 300 = .ok (.iconst 1, 1) := by decide +kernel
theorem dL_law_301 : decode cL_law 301 = .ok (.iadd, 1) := by decide +kernel
theorem dL_law_302 : decode cL_law 302 = .ok (.iaload, 1) := by decide +kernel
theorem dL_law_303 : decode cL_law 303 = .ok (.i2c, 1) := by decide +kernel
theorem dL_law_304 : decode cL_law 304 = .ok (.invokevirtual 107, 3) := by decide +kernel
theorem dL_law_307 : decode cL_law 307 = .ok (.istore 6, 2) := by decide +kernel
theorem dL_law_309 : decode cL_law 309 = .ok (.aload_n 2, 1) := by decide +kernel
theorem dL_law_310 : decode cL_law 310 = .ok (.invokevirtual 98, 3) := by decide +kernel
theorem dL_law_313 : decode cL_law 313 = .ok (.iload 5, 2) := by decide +kernel
theorem dL_law_315 : decode cL_law 315 = .ok (.if_icmp .eq 5, 3) := by decide +kernel
theorem dL_law_318 : decode cL_law 318 = .ok (.iconst 0, 1) := by decide +kernel
theorem dL_law_319 : decode cL_law 319 = .ok (.ireturn, 1) := by decide +kernel
theorem dL_law_320 : decode cL_law 320 = .ok (.iload 5, 2) := by decide +kernel
theorem dL_law_322 : decode cL_law 322 = .ok (.ifCond .ne 15, 3) := by decide +kernel
theorem dL_law_325 : decode cL_law 325 = .ok (.aload_n 3, 1) := by decide +kernel
theorem dL_law_326 : decode cL_law 326 = .ok (.iconst 0, 1) := by decide +kernel
theorem dL_law_327 : decode cL_law 327 = .ok (.laload, 1) := by decide +kernel
theorem dL_law_328 : decode cL_law 328 = .ok (.iload 6, 2) := by decide +kernel
theorem dL_law_330 : decode cL_law 330 = .ok (.i2l, 1) := by decide +kernel
theorem dL_law_331 : decode cL_law 331 = .ok (.lcmp, 1) := by decide +kernel
theorem dL_law_332 : decode cL_law 332 = .ok (.ifCond .eq 5, 3) := by decide +kernel
theorem dL_law_335 : decode cL_law 335 = .ok (.iconst 0, 1) := by decide +kernel
theorem dL_law_336 : decode cL_law 336 = .ok (.ireturn, 1) := by decide +kernel
theorem dL_law_337 : decode cL_law 337 = .ok (.goto 1048, 3) := by decide +kernel
theorem dL_law_340 : decode cL_law 340 = .ok (.aload_n 1, 1) := by decide +kernel
theorem dL_law_341 : decode cL_law 341 = .ok (.aload_n 0, 1) := by decide +kernel
theorem dL_law_342 : decode cL_law 342 = .ok (.iload 4, 2) := by decide +kernel
theorem dL_law_344 : decode cL_law 344 = .ok (.iconst 1, 1) := by decide +kernel
theorem dL_law_345 : decode cL_law 345 = .ok (.iadd, 1) := by decide +kernel
theorem dL_law_346 : decode cL_law 346 = .ok (.iaload, 1) := by decide +kernel
theorem dL_law_347 : decode cL_law 347 = .ok (.i2c, 1) := by decide +kernel
theorem dL_law_348 : decode cL_law 348 = .ok (.aload_n 3, 1) := by decide +kernel
theorem dL_law_349 : decode cL_law 349 = .ok (.invokestatic 108, 3) := by decide +kernel
