theorem dX7_enclosed_0 : decode cX7_enclosed 0 = .ok (.lconst 0, 1) := by decide +kernel
theorem dX7_enclosed_1 : decode cX7_enclosed 1 = .ok (.lstore_n 2, 1) := by decide +kernel
theorem dX7_enclosed_2 : decode cX7_enclosed 2 = .ok (.iconst 0, 1) := by decide +kernel
theorem dX7_enclosed_3 : decode cX7_enclosed 3 = .ok (.istore 4, 2) := by decide +kernel
theorem dX7_enclosed_5 : decode cX7_enclosed 5 = .ok (.iload 4, 2) := by decide +kernel
theorem dX7_enclosed_7 : decode cX7_enclosed 7 = .ok (.aload_n 0, 1) := by decide +kernel
theorem dX7_enclosed_8 : decode cX7_enclosed 8 = .ok (.getfield 29, 3) := by decide +kernel
theorem dX7_enclosed_11 : decode cX7_enclosed 11 = .ok (.if_icmp .ge 41, 3) := by decide +kernel
theorem dX7_enclosed_14 : decode cX7_enclosed 14 = .ok (.lload_n 2, 1) := by decide +kernel
theorem dX7_enclosed_15 : decode cX7_enclosed 15 = .ok (.iload_n 1, 1) := by decide +kernel
theorem dX7_enclosed_16 : decode cX7_enclosed 16 = .ok (.ifCond .eq 17, 3) := by decide +kernel
theorem dX7_enclosed_19 : decode cX7_enclosed 19 = .ok (.aload_n 0, 1) := by decide +kernel
theorem dX7_enclosed_20 : decode cX7_enclosed 20 = .ok (.iconst 0, 1) := by decide +kernel
theorem dX7_enclosed_21 : decode cX7_enclosed 21 = .ok (.iload 4, 2) := by decide +kernel
theorem dX7_enclosed_23 : decode cX7_enclosed 23 = .ok (.iload 4, 2) := by decide +kernel
theorem dX7_enclosed_25 : decode cX7_enclosed 25 = .ok (.iconst 1, 1) := by decide +kernel
theorem dX7_enclosed_26 : decode cX7_enclosed 26 = .ok (.iadd, 1) := by decide +kernel
theorem dX7_enclosed_27 : decode cX7_enclosed 27 = .ok (.invokevirtual 44, 3) := by decide +kernel
theorem dX7_enclosed_30 : decode cX7_enclosed 30 = .ok (.goto 14, 3) := by decide +kernel
theorem dX7_enclosed_33 : decode cX7_enclosed 33 = .ok (.aload_n 0, 1) := by decide +kernel
theorem dX7_enclosed_34 : decode cX7_enclosed 34 = .ok (.iconst 0, 1) := by decide +kernel
theorem dX7_enclosed_35 : decode cX7_enclosed 35 = .ok (.iload 4, 2) := by decide +kernel
theorem dX7_enclosed_37 : decode cX7_enclosed 37 = .ok (.iload 4, 2) := by decide +kernel
theorem dX7_enclosed_39 : decode cX7_enclosed 39 = .ok (.iconst 1, 1) := by decide +kernel
theorem dX7_enclosed_40 : decode cX7_enclosed 40 = .ok (.iadd, 1) := by decide +kernel
theorem dX7_enclosed_41 : decode cX7_enclosed 41 = .ok (.invokevirtual 48, 3) := by decide +kernel
theorem dX7_enclosed_44 : decode cX7_enclosed 44 = .ok (.ladd, 1) := by decide +kernel
theorem dX7_enclosed_45 : decode cX7_enclosed 45 = .ok (.lstore_n 2, 1) := by decide +kernel
theorem dX7_enclosed_46 : decode cX7_enclosed 46 = .ok (.iinc 4 1, 3) := by decide +kernel
theorem dX7_enclosed_49 : decode cX7_enclosed 49 = .ok (.goto (-44), 3) := by decide +kernel
theorem dX7_enclosed_52 : decode cX7_enclosed 52 = .ok (.lload_n 2, 1) := by decide +kernel
theorem dX7_enclosed_53 : decode cX7_enclosed 53 = .ok (.lreturn, 1) := by decide +kernel
theorem dX7_outermost_0 : decode cX7_outermost 0 = .ok (.iconst 0, 1) := by decide +kernel
theorem dX7_outermost_1 : decode cX7_outermost 1 = .ok (.istore_n 3, 1) := by decide +kernel
theorem dX7_outermost_2 : decode cX7_outermost 2 = .ok (.iconst 1, 1) := by decide +kernel
theorem dX7_outermost_3 : decode cX7_outermost 3 = .ok (.istore 4, 2) := by decide +kernel
theorem dX7_outermost_5 : decode cX7_outermost 5 = .ok (.iload 4, 2) := by decide +kernel
theorem dX7_outermost_7 : decode cX7_outermost 7 = .ok (.aload_n 0, 1) := by decide +kernel
theorem dX7_outermost_8 : decode cX7_outermost 8 = .ok (.getfield 29, 3) := by decide +kernel
theorem dX7_outermost_11 : decode cX7_outermost 11 = .ok (.if_icmp .gt 56, 3) := by decide +kernel
theorem dX7_outermost_14 : decode cX7_outermost 14 = .ok (.aload_n 0, 1) := by decide +kernel
theorem dX7_outermost_15 : decode cX7_outermost 15 = .ok (.iload_n 3, 1) := by decide +kernel
theorem dX7_outermost_16 : decode cX7_outermost 16 = .ok (.iload 4, 2) := by decide +kernel
theorem dX7_outermost_18 : decode cX7_outermost 18 = .ok (.iload_n 1, 1) := by decide +kernel
theorem dX7_outermost_19 : decode cX7_outermost 19 = .ok (.invokevirtual 51, 3) := by decide +kernel
theorem dX7_outermost_22 : decode cX7_outermost 22 = .ok (.aload_n 0, 1) := by decide +kernel
theorem dX7_outermost_23 : decode cX7_outermost 23 = .ok (.iload_n 3, 1) := by decide +kernel
theorem dX7_outermost_24 : decode cX7_outermost 24 = .ok (.iload 4, 2) := by decide +kernel
theorem dX7_outermost_26 : decode cX7_outermost 26 = .ok (.iload_n 1, 1) := by decide +kernel
theorem dX7_outermost_27 : decode cX7_outermost 27 = .ok (.iconst 1, 1) := by decide +kernel
theorem dX7_outermost_28 : decode cX7_outermost 28 = .ok (.iadd, 1) := by decide +kernel
theorem dX7_outermost_29 : decode cX7_outermost 29 = .ok (.invokevirtual 51, 3) := by decide +kernel
theorem dX7_outermost_32 : decode cX7_outermost 32 = .ok (.aload_n 0, 1) := by decide +kernel
theorem dX7_outermost_33 : decode cX7_outermost 33 = .ok (.invokevirtual 54, 3) := by decide +kernel
theorem dX7_outermost_36 : decode cX7_outermost 36 = .ok (.invokestatic 58, 3) := by decide +kernel
theorem dX7_outermost_39 : decode cX7_outermost 39 = .ok (.istore 5, 2) := by decide +kernel
theorem dX7_outermost_41 : decode cX7_outermost 41 = .ok (.iload_n 2, 1) := by decide +kernel
theorem dX7_outermost_42 : decode cX7_outermost 42 = .ok (.ifCond .eq 11, 3) := by decide +kernel
theorem dX7_outermost_45 : decode cX7_outermost 45 = .ok (.iload 5, 2) := by decide +kernel
theorem dX7_outermost_47 : decode cX7_outermost 47 = .ok (.ifCond .le 14, 3) := by decide +kernel
theorem dX7_outermost_50 : decode cX7_outermost 50 = .ok (.goto 8, 3) := by decide +kernel
theorem dX7_outermost_53 : decode cX7_outermost 53 = .ok (.iload 5, 2) := by decide +kernel
theorem dX7_outermost_55 : decode cX7_outermost 55 = .ok (.ifCond .ge 6, 3) := by decide +kernel
theorem dX7_outermost_58 : decode cX7_outermost 58 = .ok (.iload 4, 2) := by decide +kernel
theorem dX7_outermost_60 : decode cX7_outermost 60 = .ok (.istore_n 3, 1) := by decide +kernel
theorem dX7_outermost_61 : decode cX7_outermost 61 = .ok (.iinc 4 1, 3) := by decide +kernel
theorem dX7_outermost_64 : decode cX7_outermost 64 = .ok (.goto (-59), 3) := by decide +kernel
theorem dX7_outermost_67 : decode cX7_outermost 67 = .ok (.iload_n 3, 1) := by decide +kernel
theorem dX7_outermost_68 : decode cX7_outermost 68 = .ok (.ireturn, 1) := by decide +kernel
theorem dX7_comparePairs_0 : decode cX7_comparePairs 0 = .ok (.aload_n 0, 1) := by decide +kernel
theorem dX7_comparePairs_1 : decode cX7_comparePairs 1 = .ok (.getfield 32, 3) := by decide +kernel
theorem dX7_comparePairs_4 : decode cX7_comparePairs 4 = .ok (.ifCond .eq 4, 3) := by decide +kernel
theorem dX7_comparePairs_7 : decode cX7_comparePairs 7 = .ok (.return_, 1) := by decide +kernel
theorem dX7_comparePairs_8 : decode cX7_comparePairs 8 = .ok (.aload_n 0, 1) := by decide +kernel
theorem dX7_comparePairs_9 : decode cX7_comparePairs 9 = .ok (.iconst 0, 1) := by decide +kernel
theorem dX7_comparePairs_10 : decode cX7_comparePairs 10 = .ok (.putfield 62, 3) := by decide +kernel
theorem dX7_comparePairs_13 : decode cX7_comparePairs 13 = .ok (.aload_n 0, 1) := by decide +kernel
theorem dX7_comparePairs_14 : decode cX7_comparePairs 14 = .ok (.iconst 0, 1) := by decide +kernel
theorem dX7_comparePairs_15 : decode cX7_comparePairs 15 = .ok (.putfield 65, 3) := by decide +kernel
theorem dX7_comparePairs_18 : decode cX7_comparePairs 18 = .ok (.iconst 0, 1) := by decide +kernel
theorem dX7_comparePairs_19 : decode cX7_comparePairs 19 = .ok (.istore_n 1, 1) := by decide +kernel
theorem dX7_comparePairs_20 : decode cX7_comparePairs 20 = .ok (.iload_n 1, 1) := by decide +kernel
theorem dX7_comparePairs_21 : decode cX7_comparePairs 21 = .ok (.aload_n 0, 1) := by decide +kernel
theorem dX7_comparePairs_22 : decode cX7_comparePairs 22 = .ok (.getfield 29, 3) := by decide +kernel
theorem dX7_comparePairs_25 : decode cX7_comparePairs 25 = .ok (.if_icmp .ge 42, 3) := by decide +kernel
theorem dX7_comparePairs_28 : decode cX7_comparePairs 28 = .ok (.iload_n 1, 1) := by decide +kernel
theorem dX7_comparePairs_29 : decode cX7_comparePairs 29 = .ok (.iconst 2, 1) := by decide +kernel
theorem dX7_comparePairs_30 : decode cX7_comparePairs 30 = .ok (.iadd, 1) := by decide +kernel
theorem dX7_comparePairs_31 : decode cX7_comparePairs 31 = .ok (.istore_n 2, 1) := by decide +kernel
theorem dX7_comparePairs_32 : decode cX7_comparePairs 32 = .ok (.iload_n 2, 1) := by decide +kernel
theorem dX7_comparePairs_33 : decode cX7_comparePairs 33 = .ok (.aload_n 0, 1) := by decide +kernel
theorem dX7_comparePairs_34 : decode cX7_comparePairs 34 = .ok (.getfield 29, 3) := by decide +kernel
theorem dX7_comparePairs_37 : decode cX7_comparePairs 37 = .ok (.if_icmp .ge 24, 3) := by decide +kernel
theorem dX7_comparePairs_40 : decode cX7_comparePairs 40 = .ok (.aload_n 0, 1) := by decide +kernel
theorem dX7_comparePairs_41 : decode cX7_comparePairs 41 = .ok (.iload_n 1, 1) := by decide +kernel
theorem dX7_comparePairs_42 : decode cX7_comparePairs 42 = .ok (.iload_n 2, 1) := by decide +kernel
theorem dX7_comparePairs_43 : decode cX7_comparePairs 43 = .ok (.invokevirtual 68, 3) := by decide +kernel
theorem dX7_comparePairs_46 : decode cX7_comparePairs 46 = .ok (.ifCond .eq 9, 3) := by decide +kernel
theorem dX7_comparePairs_49 : decode cX7_comparePairs 49 = .ok (.aload_n 0, 1) := by decide +kernel
theorem dX7_comparePairs_50 : decode cX7_comparePairs 50 = .ok (.iload_n 1, 1) := by decide +kernel
theorem dX7_comparePairs_51 : decode cX7_comparePairs 51 = .ok (.iload_n 2, 1) := by decide +kernel
theorem dX7_comparePairs_52 : decode cX7_comparePairs 52 = .ok (.invokevirtual 72, 3) := by decide +kernel
theorem dX7_comparePairs_55 : decode cX7_comparePairs 55 = .ok (.iinc 2 1, 3) := by decide +kernel
theorem dX7_comparePairs_58 : decode cX7_comparePairs 58 = .ok (.goto (-26), 3) := by decide +kernel
theorem dX7_comparePairs_61 : decode cX7_comparePairs 61 = .ok (.iinc 1 1, 3) := by decide +kernel
theorem dX7_comparePairs_64 : decode cX7_comparePairs 64 = .ok (.goto (-44), 3) := by decide +kernel
theorem dX7_comparePairs_67 : decode cX7_comparePairs 67 = .ok (.aload_n 0, 1) := by decide +kernel
theorem dX7_comparePairs_68 : decode cX7_comparePairs 68 = .ok (.iconst 1, 1) := by decide +kernel
theorem dX7_comparePairs_69 : decode cX7_comparePairs 69 = .ok (.putfield 32, 3) := by decide +kernel
theorem dX7_comparePairs_72 : decode cX7_comparePairs 72 = .ok (.return_, 1) := by decide +kernel
theorem dX8_init_0 : decode cX8_init 0 = .ok (.aload_n 0, 1) := by decide +kernel
theorem dX8_init_1 : decode cX8_init 1 = .ok (.invokespecial 3, 3) := by decide +kernel
theorem dX8_init_4 : decode cX8_init 4 = .ok (.aload_n 0, 1) := by decide +kernel
theorem dX8_init_5 : decode cX8_init 5 = .ok (.bipush 8, 2) := by decide +kernel
theorem dX8_init_7 : decode cX8_init 7 = .ok (.newarray .char, 2) := by decide +kernel
theorem dX8_init_9 : decode cX8_init 9 = .ok (.putfield 9, 3) := by decide +kernel
theorem dX8_init_12 : decode cX8_init 12 = .ok (.aload_n 0, 1) := by decide +kernel
theorem dX8_init_13 : decode cX8_init 13 = .ok (.iconst 4, 1) := by decide +kernel
theorem dX8_init_14 : decode cX8_init 14 = .ok (.newarray .int, 2) := by decide +kernel
theorem dX8_init_16 : decode cX8_init 16 = .ok (.putfield 15, 3) := by decide +kernel
theorem dX8_init_19 : decode cX8_init 19 = .ok (.return_, 1) := by decide +kernel
theorem dX8_find_0 : decode cX8_find 0 = .ok (.iconst 0, 1) := by decide +kernel
theorem dX8_find_1 : decode cX8_find 1 = .ok (.istore 4, 2) := by decide +kernel
theorem dX8_find_3 : decode cX8_find 3 = .ok (.iload 4, 2) := by decide +kernel
theorem dX8_find_5 : decode cX8_find 5 = .ok (.iload_n 3, 1) := by decide +kernel
theorem dX8_find_6 : decode cX8_find 6 = .ok (.if_icmp .gt 40, 3) := by decide +kernel
theorem dX8_find_9 : decode cX8_find 9 = .ok (.iload 4, 2) := by decide +kernel
theorem dX8_find_11 : decode cX8_find 11 = .ok (.bipush 8, 2) := by decide +kernel
theorem dX8_find_13 : decode cX8_find 13 = .ok (.if_icmp .gt 33, 3) := by decide +kernel
theorem dX8_find_16 : decode cX8_find 16 = .ok (.aload_n 0, 1) := by decide +kernel
theorem dX8_find_17 : decode cX8_find 17 = .ok (.getfield 15, 3) := by decide +kernel
theorem dX8_find_20 : decode cX8_find 20 = .ok (.iconst 0, 1) := by decide +kernel
theorem dX8_find_21 : decode cX8_find 21 = .ok (.invokestatic 19, 3) := by decide +kernel
theorem dX8_find_24 : decode cX8_find 24 = .ok (.aload_n 0, 1) := by decide +kernel
theorem dX8_find_25 : decode cX8_find 25 = .ok (.aload_n 1, 1) := by decide +kernel
theorem dX8_find_26 : decode cX8_find 26 = .ok (.iload_n 2, 1) := by decide +kernel
theorem dX8_find_27 : decode cX8_find 27 = .ok (.iconst 0, 1) := by decide +kernel
theorem dX8_find_28 : decode cX8_find 28 = .ok (.iload 4, 2) := by decide +kernel
theorem dX8_find_30 : decode cX8_find 30 = .ok (.iconst 0, 1) := by decide +kernel
theorem dX8_find_31 : decode cX8_find 31 = .ok (.invokevirtual 25, 3) := by decide +kernel
theorem dX8_find_34 : decode cX8_find 34 = .ok (.ifCond .eq 6, 3) := by decide +kernel
theorem dX8_find_37 : decode cX8_find 37 = .ok (.iload 4, 2) := by decide +kernel
theorem dX8_find_39 : decode cX8_find 39 = .ok (.ireturn, 1) := by decide +kernel
theorem dX8_find_40 : decode cX8_find 40 = .ok (.iinc 4 1, 3) := by decide +kernel
theorem dX8_find_43 : decode cX8_find 43 = .ok (.goto (-40), 3) := by decide +kernel
theorem dX8_find_46 : decode cX8_find 46 = .ok (.iconst (-1), 1) := by decide +kernel
theorem dX8_find_47 : decode cX8_find 47 = .ok (.ireturn, 1) := by decide +kernel
theorem dX8_walkOn_0 : decode cX8_walkOn 0 = .ok (.iload 5, 2) := by decide +kernel
theorem dX8_walkOn_2 : decode cX8_walkOn 2 = .ok (.iload 4, 2) := by decide +kernel
theorem dX8_walkOn_4 : decode cX8_walkOn 4 = .ok (.if_icmp .ge 15, 3) := by decide +kernel
theorem dX8_walkOn_7 : decode cX8_walkOn 7 = .ok (.iload 5, 2) := by decide +kernel
theorem dX8_walkOn_9 : decode cX8_walkOn 9 = .ok (.ifCond .lt 10, 3) := by decide +kernel
theorem dX8_walkOn_12 : decode cX8_walkOn 12 = .ok (.iload 5, 2) := by decide +kernel
theorem dX8_walkOn_14 : decode cX8_walkOn 14 = .ok (.bipush 8, 2) := by decide +kernel
theorem dX8_walkOn_16 : decode cX8_walkOn 16 = .ok (.if_icmp .lt 22, 3) := by decide +kernel
theorem dX8_walkOn_19 : decode cX8_walkOn 19 = .ok (.iload_n 3, 1) := by decide +kernel
theorem dX8_walkOn_20 : decode cX8_walkOn 20 = .ok (.iload_n 2, 1) := by decide +kernel
theorem dX8_walkOn_21 : decode cX8_walkOn 21 = .ok (.if_icmp .ne 15, 3) := by decide +kernel
theorem dX8_walkOn_24 : decode cX8_walkOn 24 = .ok (.aload_n 0, 1) := by decide +kernel
theorem dX8_walkOn_25 : decode cX8_walkOn 25 = .ok (.aload_n 1, 1) := by decide +kernel
theorem dX8_walkOn_26 : decode cX8_walkOn 26 = .ok (.invokevirtual 29, 3) := by decide +kernel
theorem dX8_walkOn_29 : decode cX8_walkOn 29 = .ok (.ifCond .eq 7, 3) := by decide +kernel
theorem dX8_walkOn_32 : decode cX8_walkOn 32 = .ok (.iconst 1, 1) := by decide +kernel
theorem dX8_walkOn_33 : decode cX8_walkOn 33 = .ok (.goto 4, 3) := by decide +kernel
theorem dX8_walkOn_36 : decode cX8_walkOn 36 = .ok (.iconst 0, 1) := by decide +kernel
theorem dX8_walkOn_37 : decode cX8_walkOn 37 = .ok (.ireturn, 1) := by decide +kernel
theorem dX8_walkOn_38 : decode cX8_walkOn 38 = .ok (.aload_n 0, 1) := by decide +kernel
theorem dX8_walkOn_39 : decode cX8_walkOn 39 = .ok (.aload_n 1, 1) := by decide +kernel
theorem dX8_walkOn_40 : decode cX8_walkOn 40 = .ok (.getfield 33, 3) := by decide +kernel
theorem dX8_walkOn_43 : decode cX8_walkOn 43 = .ok (.iload_n 3, 1) := by decide +kernel
theorem dX8_walkOn_44 : decode cX8_walkOn 44 = .ok (.iconst 1, 1) := by decide +kernel
theorem dX8_walkOn_45 : decode cX8_walkOn 45 = .ok (.invokevirtual 39, 3) := by decide +kernel
theorem dX8_walkOn_48 : decode cX8_walkOn 48 = .ok (.aload_n 0, 1) := by decide +kernel
theorem dX8_walkOn_49 : decode cX8_walkOn 49 = .ok (.bipush 102, 2) := by decide +kernel
theorem dX8_walkOn_51 : decode cX8_walkOn 51 = .ok (.aload_n 1, 1) := by decide +kernel
theorem dX8_walkOn_52 : decode cX8_walkOn 52 = .ok (.iload_n 2, 1) := by decide +kernel
theorem dX8_walkOn_53 : decode cX8_walkOn 53 = .ok (.iload_n 3, 1) := by decide +kernel
theorem dX8_walkOn_54 : decode cX8_walkOn 54 = .ok (.iload 4, 2) := by decide +kernel
theorem dX8_walkOn_56 : decode cX8_walkOn 56 = .ok (.iload 5, 2) := by decide +kernel
theorem dX8_walkOn_58 : decode cX8_walkOn 58 = .ok (.invokevirtual 43, 3) := by decide +kernel
theorem dX8_walkOn_61 : decode cX8_walkOn 61 = .ok (.ifCond .eq 5, 3) := by decide +kernel
theorem dX8_walkOn_64 : decode cX8_walkOn 64 = .ok (.iconst 1, 1) := by decide +kernel
theorem dX8_walkOn_65 : decode cX8_walkOn 65 = .ok (.ireturn, 1) := by decide +kernel
theorem dX8_walkOn_66 : decode cX8_walkOn 66 = .ok (.aload_n 0, 1) := by decide +kernel
theorem dX8_walkOn_67 : decode cX8_walkOn 67 = .ok (.aload_n 1, 1) := by decide +kernel
theorem dX8_walkOn_68 : decode cX8_walkOn 68 = .ok (.getfield 33, 3) := by decide +kernel
theorem dX8_walkOn_71 : decode cX8_walkOn 71 = .ok (.iload_n 3, 1) := by decide +kernel
theorem dX8_walkOn_72 : decode cX8_walkOn 72 = .ok (.iconst (-1), 1) := by decide +kernel
theorem dX8_walkOn_73 : decode cX8_walkOn 73 = .ok (.invokevirtual 39, 3) := by decide +kernel
theorem dX8_walkOn_76 : decode cX8_walkOn 76 = .ok (.iload_n 3, 1) := by decide +kernel
theorem dX8_walkOn_77 : decode cX8_walkOn 77 = .ok (.iconst 1, 1) := by decide +kernel
theorem dX8_walkOn_78 : decode cX8_walkOn 78 = .ok (.iadd, 1) := by decide +kernel
theorem dX8_walkOn_79 : decode cX8_walkOn 79 = .ok (.aload_n 1, 1) := by decide +kernel
theorem dX8_walkOn_80 : decode cX8_walkOn 80 = .ok (.getfield 33, 3) := by decide +kernel
theorem dX8_walkOn_83 : decode cX8_walkOn 83 = .ok (.invokestatic 47, 3) := by decide +kernel
theorem dX8_walkOn_86 : decode cX8_walkOn 86 = .ok (.istore 6, 2) := by decide +kernel
theorem dX8_walkOn_88 : decode cX8_walkOn 88 = .ok (.iload_n 3, 1) := by decide +kernel
theorem dX8_walkOn_89 : decode cX8_walkOn 89 = .ok (.iconst 1, 1) := by decide +kernel
theorem dX8_walkOn_90 : decode cX8_walkOn 90 = .ok (.isub, 1) := by decide +kernel
theorem dX8_walkOn_91 : decode cX8_walkOn 91 = .ok (.aload_n 1, 1) := by decide +kernel
theorem dX8_walkOn_92 : decode cX8_walkOn 92 = .ok (.getfield 33, 3) := by decide +kernel
theorem dX8_walkOn_95 : decode cX8_walkOn 95 = .ok (.invokestatic 47, 3) := by decide +kernel
theorem dX8_walkOn_98 : decode cX8_walkOn 98 = .ok (.istore 7, 2) := by decide +kernel
theorem dX8_walkOn_100 : decode cX8_walkOn 100 = .ok (.aload_n 0, 1) := by decide +kernel
theorem dX8_walkOn_101 : decode cX8_walkOn 101 = .ok (.bipush 108, 2) := by decide +kernel
theorem dX8_walkOn_103 : decode cX8_walkOn 103 = .ok (.aload_n 1, 1) := by decide +kernel
theorem dX8_walkOn_104 : decode cX8_walkOn 104 = .ok (.iload_n 2, 1) := by decide +kernel
theorem dX8_walkOn_105 : decode cX8_walkOn 105 = .ok (.iload 6, 2) := by decide +kernel
theorem dX8_walkOn_107 : decode cX8_walkOn 107 = .ok (.iload 4, 2) := by decide +kernel
theorem dX8_walkOn_109 : decode cX8_walkOn 109 = .ok (.iload 5, 2) := by decide +kernel
theorem dX8_walkOn_111 : decode cX8_walkOn 111 = .ok (.invokevirtual 43, 3) := by decide +kernel
theorem dX8_walkOn_114 : decode cX8_walkOn 114 = .ok (.ifCond .ne 20, 3) := by decide +kernel
theorem dX8_walkOn_117 : decode cX8_walkOn 117 = .ok (.aload_n 0, 1) := by decide +kernel
theorem dX8_walkOn_118 : decode cX8_walkOn 118 = .ok (.bipush 114, 2) := by decide +kernel
theorem dX8_walkOn_120 : decode cX8_walkOn 120 = .ok (.aload_n 1, 1) := by decide +kernel
theorem dX8_walkOn_121 : decode cX8_walkOn 121 = .ok (.iload_n 2, 1) := by decide +kernel
theorem dX8_walkOn_122 : decode cX8_walkOn 122 = .ok (.iload 7, 2) := by decide +kernel
theorem dX8_walkOn_124 : decode cX8_walkOn 124 = .ok (.iload 4, 2) := by decide +kernel
theorem dX8_walkOn_126 : decode cX8_walkOn 126 = .ok (.iload 5, 2) := by decide +kernel
theorem dX8_walkOn_128 : decode cX8_walkOn 128 = .ok (.invokevirtual 43, 3) := by decide +kernel
theorem dX8_walkOn_131 : decode cX8_walkOn 131 = .ok (.ifCond .eq 7, 3) := by decide +kernel
theorem dX8_walkOn_134 : decode cX8_walkOn 134 = .ok (.iconst 1, 1) := by decide +kernel
theorem dX8_walkOn_135 : decode cX8_walkOn 135 = .ok (.goto 4, 3) := by decide +kernel
theorem dX8_walkOn_138 : decode cX8_walkOn 138 = .ok (.iconst 0, 1) := by decide +kernel
theorem dX8_walkOn_139 : decode cX8_walkOn 139 = .ok (.ireturn, 1) := by decide +kernel
theorem dX8_isAtEnd_0 : decode cX8_isAtEnd 0 = .ok (.iconst 0, 1) := by decide +kernel
theorem dX8_isAtEnd_1 : decode cX8_isAtEnd 1 = .ok (.istore_n 2, 1) := by decide +kernel
theorem dX8_isAtEnd_2 : decode cX8_isAtEnd 2 = .ok (.iload_n 2, 1) := by decide +kernel
theorem dX8_isAtEnd_3 : decode cX8_isAtEnd 3 = .ok (.iconst 4, 1) := by decide +kernel
theorem dX8_isAtEnd_4 : decode cX8_isAtEnd 4 = .ok (.if_icmp .ge 29, 3) := by decide +kernel
theorem dX8_isAtEnd_7 : decode cX8_isAtEnd 7 = .ok (.aload_n 0, 1) := by decide +kernel
theorem dX8_isAtEnd_8 : decode cX8_isAtEnd 8 = .ok (.getfield 15, 3) := by decide +kernel
theorem dX8_isAtEnd_11 : decode cX8_isAtEnd 11 = .ok (.iload_n 2, 1) := by decide +kernel
theorem dX8_isAtEnd_12 : decode cX8_isAtEnd 12 = .ok (.iaload, 1) := by decide +kernel
theorem dX8_isAtEnd_13 : decode cX8_isAtEnd 13 = .ok (.aload_n 1, 1) := by decide +kernel
theorem dX8_isAtEnd_14 : decode cX8_isAtEnd 14 = .ok (.aload_n 1, 1) := by decide +kernel
theorem dX8_isAtEnd_15 : decode cX8_isAtEnd 15 = .ok (.getfield 55, 3) := by decide +kernel
theorem dX8_isAtEnd_18 : decode cX8_isAtEnd 18 = .ok (.iload_n 2, 1) := by decide +kernel
theorem dX8_isAtEnd_19 : decode cX8_isAtEnd 19 = .ok (.invokevirtual 58, 3) := by decide +kernel
theorem dX8_isAtEnd_22 : decode cX8_isAtEnd 22 = .ok (.if_icmp .eq 5, 3) := by decide +kernel
theorem dX8_isAtEnd_25 : decode cX8_isAtEnd 25 = .ok (.iconst 0, 1) := by decide +kernel
theorem dX8_isAtEnd_26 : decode cX8_isAtEnd 26 = .ok (.ireturn, 1) := by decide +kernel
theorem dX8_isAtEnd_27 : decode cX8_isAtEnd 27 = .ok (.iinc 2 1, 3) := by decide +kernel
theorem dX8_isAtEnd_30 : decode cX8_isAtEnd 30 = .ok (.goto (-28), 3) := by decide +kernel
theorem dX8_isAtEnd_33 : decode cX8_isAtEnd 33 = .ok (.iconst 1, 1) := by decide +kernel
theorem dX8_isAtEnd_34 : decode cX8_isAtEnd 34 = .ok (.ireturn, 1) := by decide +kernel
theorem dX9_init_0 : decode cX9_init 0 = .ok (.aload_n 0, 1) := by decide +kernel
theorem dX9_init_1 : decode cX9_init 1 = .ok (.invokespecial 1, 3) := by decide +kernel
theorem dX9_init_4 : decode cX9_init 4 = .ok (.aload_n 0, 1) := by decide +kernel
theorem dX9_init_5 : decode cX9_init 5 = .ok (.new 7, 3) := by decide +kernel
theorem dX9_init_8 : decode cX9_init 8 = .ok (.dup, 1) := by decide +kernel
theorem dX9_init_9 : decode cX9_init 9 = .ok (.invokespecial 9, 3) := by decide +kernel
theorem dX9_init_12 : decode cX9_init 12 = .ok (.putfield 10, 3) := by decide +kernel
theorem dX9_init_15 : decode cX9_init 15 = .ok (.aload_n 0, 1) := by decide +kernel
theorem dX9_init_16 : decode cX9_init 16 = .ok (.new 16, 3) := by decide +kernel
theorem dX9_init_19 : decode cX9_init 19 = .ok (.dup, 1) := by decide +kernel
theorem dX9_init_20 : decode cX9_init 20 = .ok (.invokespecial 18, 3) := by decide +kernel
theorem dX9_init_23 : decode cX9_init 23 = .ok (.putfield 19, 3) := by decide +kernel
theorem dX9_init_26 : decode cX9_init 26 = .ok (.aload_n 0, 1) := by decide +kernel
theorem dX9_init_27 : decode cX9_init 27 = .ok (.new 23, 3) := by decide +kernel
theorem dX9_init_30 : decode cX9_init 30 = .ok (.dup, 1) := by decide +kernel
theorem dX9_init_31 : decode cX9_init 31 = .ok (.invokespecial 25, 3) := by decide +kernel
theorem dX9_init_34 : decode cX9_init 34 = .ok (.putfield 26, 3) := by decide +kernel
theorem dX9_init_37 : decode cX9_init 37 = .ok (.aload_n 0, 1) := by decide +kernel
theorem dX9_init_38 : decode cX9_init 38 = .ok (.new 30, 3) := by decide +kernel
theorem dX9_init_41 : decode cX9_init 41 = .ok (.dup, 1) := by decide +kernel
theorem dX9_init_42 : decode cX9_init 42 = .ok (.invokespecial 32, 3) := by decide +kernel
theorem dX9_init_45 : decode cX9_init 45 = .ok (.putfield 33, 3) := by decide +kernel
theorem dX9_init_48 : decode cX9_init 48 = .ok (.aload_n 0, 1) := by decide +kernel
theorem dX9_init_49 : decode cX9_init 49 = .ok (.new 37, 3) := by decide +kernel
theorem dX9_init_52 : decode cX9_init 52 = .ok (.dup, 1) := by decide +kernel
theorem dX9_init_53 : decode cX9_init 53 = .ok (.invokespecial 39, 3) := by decide +kernel
theorem dX9_init_56 : decode cX9_init 56 = .ok (.putfield 40, 3) := by decide +kernel
theorem dX9_init_59 : decode cX9_init 59 = .ok (.aload_n 0, 1) := by decide +kernel
theorem dX9_init_60 : decode cX9_init 60 = .ok (.new 44, 3) := by decide +kernel
theorem dX9_init_63 : decode cX9_init 63 = .ok (.dup, 1) := by decide +kernel
theorem dX9_init_64 : decode cX9_init 64 = .ok (.invokespecial 46, 3) := by decide +kernel
theorem dX9_init_67 : decode cX9_init 67 = .ok (.putfield 47, 3) := by decide +kernel
theorem dX9_init_70 : decode cX9_init 70 = .ok (.aload_n 0, 1) := by decide +kernel
theorem dX9_init_71 : decode cX9_init 71 = .ok (.bipush 8, 2) := by decide +kernel
theorem dX9_init_73 : decode cX9_init 73 = .ok (.newarray .char, 2) := by decide +kernel
theorem dX9_init_75 : decode cX9_init 75 = .ok (.putfield 51, 3) := by decide +kernel
theorem dX9_init_78 : decode cX9_init 78 = .ok (.aload_n 0, 1) := by decide +kernel
theorem dX9_init_79 : decode cX9_init 79 = .ok (.sipush 300, 3) := by decide +kernel
theorem dX9_init_82 : decode cX9_init 82 = .ok (.newarray .int, 2) := by decide +kernel
theorem dX9_init_84 : decode cX9_init 84 = .ok (.putfield 55, 3) := by decide +kernel
theorem dX9_init_87 : decode cX9_init 87 = .ok (.aload_n 0, 1) := by decide +kernel
theorem dX9_init_88 : decode cX9_init 88 = .ok (.new 59, 3) := by decide +kernel
theorem dX9_init_91 : decode cX9_init 91 = .ok (.dup, 1) := by decide +kernel
theorem dX9_init_92 : decode cX9_init 92 = .ok (.invokespecial 61, 3) := by decide +kernel
theorem dX9_init_95 : decode cX9_init 95 = .ok (.putfield 62, 3) := by decide +kernel
theorem dX9_init_98 : decode cX9_init 98 = .ok (.aload_n 0, 1) := by decide +kernel
theorem dX9_init_99 : decode cX9_init 99 = .ok (.new 59, 3) := by decide +kernel
theorem dX9_init_102 : decode cX9_init 102 = .ok (.dup, 1) := by decide +kernel
theorem dX9_init_103 : decode cX9_init 103 = .ok (.invokespecial 61, 3) := by decide +kernel
theorem dX9_init_106 : decode cX9_init 106 = .ok (.putfield 66, 3) := by decide +kernel
theorem dX9_init_109 : decode cX9_init 109 = .ok (.aload_n 0, 1) := by decide +kernel
theorem dX9_init_110 : decode cX9_init 110 = .ok (.bipush (-11), 2) := by decide +kernel
theorem dX9_init_112 : decode cX9_init 112 = .ok (.putfield 69, 3) := by decide +kernel
theorem dX9_init_115 : decode cX9_init 115 = .ok (.return_, 1) := by decide +kernel
theorem dX9_setDirections_0 : decode cX9_setDirections 0 = .ok (.iload_n 1, 1) := by decide +kernel
theorem dX9_setDirections_1 : decode cX9_setDirections 1 = .ok (.iconst 4, 1) := by decide +kernel
theorem dX9_setDirections_2 : decode cX9_setDirections 2 = .ok (.if_icmp .eq 31, 3) := by decide +kernel
theorem dX9_setDirections_5 : decode cX9_setDirections 5 = .ok (.iload_n 1, 1) := by decide +kernel
theorem dX9_setDirections_6 : decode cX9_setDirections 6 = .ok (.bipush 6, 2) := by decide +kernel
theorem dX9_setDirections_8 : decode cX9_setDirections 8 = .ok (.if_icmp .eq 25, 3) := by decide +kernel
theorem dX9_setDirections_11 : decode cX9_setDirections 11 = .ok (.iload_n 1, 1) := by decide +kernel
theorem dX9_setDirections_12 : decode cX9_setDirections 12 = .ok (.bipush 8, 2) := by decide +kernel
theorem dX9_setDirections_14 : decode cX9_setDirections 14 = .ok (.if_icmp .eq 19, 3) := by decide +kernel
theorem dX9_setDirections_17 : decode cX9_setDirections 17 = .ok (.iload_n 1, 1) := by decide +kernel
theorem dX9_setDirections_18 : decode cX9_setDirections 18 = .ok (.bipush 12, 2) := by decide +kernel
theorem dX9_setDirections_20 : decode cX9_setDirections 20 = .ok (.if_icmp .eq 13, 3) := by decide +kernel
theorem dX9_setDirections_23 : decode cX9_setDirections 23 = .ok (.new 73, 3) := by decide +kernel
theorem dX9_setDirections_26 : decode cX9_setDirections 26 = .ok (.dup, 1) := by decide +kernel
theorem dX9_setDirections_27 : decode cX9_setDirections 27 = .ok (.ldc 75, 2) := by decide +kernel
theorem dX9_setDirections_29 : decode cX9_setDirections 29 = .ok (.invokespecial 77, 3) := by decide +kernel
theorem dX9_setDirections_32 : decode cX9_setDirections 32 = .ok (.athrow, 1) := by decide +kernel
theorem dX9_setDirections_33 : decode cX9_setDirections 33 = .ok (.aload_n 0, 1) := by decide +kernel
theorem dX9_setDirections_34 : decode cX9_setDirections 34 = .ok (.getfield 62, 3) := by decide +kernel
theorem dX9_setDirections_37 : decode cX9_setDirections 37 = .ok (.getfield 80, 3) := by decide +kernel
theorem dX9_setDirections_40 : decode cX9_setDirections 40 = .ok (.getfield 84, 3) := by decide +kernel
theorem dX9_setDirections_43 : decode cX9_setDirections 43 = .ok (.istore_n 2, 1) := by decide +kernel
theorem dX9_setDirections_44 : decode cX9_setDirections 44 = .ok (.aload_n 0, 1) := by decide +kernel
theorem dX9_setDirections_45 : decode cX9_setDirections 45 = .ok (.getfield 62, 3) := by decide +kernel
theorem dX9_setDirections_48 : decode cX9_setDirections 48 = .ok (.iload_n 1, 1) := by decide +kernel
theorem dX9_setDirections_49 : decode cX9_setDirections 49 = .ok (.invokevirtual 88, 3) := by decide +kernel
theorem dX9_setDirections_52 : decode cX9_setDirections 52 = .ok (.iload_n 2, 1) := by decide +kernel
theorem dX9_setDirections_53 : decode cX9_setDirections 53 = .ok (.ireturn, 1) := by decide +kernel
theorem dX9_feed_0 : decode cX9_feed 0 = .ok (.aload_n 0, 1) := by decide +kernel
theorem dX9_feed_1 : decode cX9_feed 1 = .ok (.getfield 10, 3) := by decide +kernel
theorem dX9_feed_4 : decode cX9_feed 4 = .ok (.iload_n 1, 1) := by decide +kernel
theorem dX9_feed_5 : decode cX9_feed 5 = .ok (.invokevirtual 92, 3) := by decide +kernel
theorem dX9_feed_8 : decode cX9_feed 8 = .ok (.ifCond .ne 13, 3) := by decide +kernel
theorem dX9_feed_11 : decode cX9_feed 11 = .ok (.new 96, 3) := by decide +kernel
theorem dX9_feed_14 : decode cX9_feed 14 = .ok (.dup, 1) := by decide +kernel
theorem dX9_feed_15 : decode cX9_feed 15 = .ok (.ldc 98, 2) := by decide +kernel
theorem dX9_feed_17 : decode cX9_feed 17 = .ok (.invokespecial 100, 3) := by decide +kernel
theorem dX9_feed_20 : decode cX9_feed 20 = .ok (.athrow, 1) := by decide +kernel
theorem dX9_feed_21 : decode cX9_feed 21 = .ok (.aload_n 0, 1) := by decide +kernel
theorem dX9_feed_22 : decode cX9_feed 22 = .ok (.getfield 10, 3) := by decide +kernel
theorem dX9_feed_25 : decode cX9_feed 25 = .ok (.getfield 101, 3) := by decide +kernel
theorem dX9_feed_28 : decode cX9_feed 28 = .ok (.ireturn, 1) := by decide +kernel
theorem dX9_define_0 : decode cX9_define 0 = .ok (.iload_n 1, 1) := by decide +kernel
theorem dX9_define_1 : decode cX9_define 1 = .ok (.invokestatic 104, 3) := by decide +kernel
theorem dX9_define_4 : decode cX9_define 4 = .ok (.istore_n 2, 1) := by decide +kernel
theorem dX9_define_5 : decode cX9_define 5 = .ok (.iload_n 2, 1) := by decide +kernel
theorem dX9_define_6 : decode cX9_define 6 = .ok (.ifCond .ge 13, 3) := by decide +kernel
theorem dX9_define_9 : decode cX9_define 9 = .ok (.new 73, 3) := by decide +kernel
theorem dX9_define_12 : decode cX9_define 12 = .ok (.dup, 1) := by decide +kernel
theorem dX9_define_13 : decode cX9_define 13 = .ok (.ldc 108, 2) := by decide +kernel
theorem dX9_define_15 : decode cX9_define 15 = .ok (.invokespecial 77, 3) := by decide +kernel
theorem dX9_define_18 : decode cX9_define 18 = .ok (.athrow, 1) := by decide +kernel
theorem dX9_define_19 : decode cX9_define 19 = .ok (.aload_n 0, 1) := by decide +kernel
theorem dX9_define_20 : decode cX9_define 20 = .ok (.getfield 10, 3) := by decide +kernel
theorem dX9_define_23 : decode cX9_define 23 = .ok (.invokevirtual 110, 3) := by decide +kernel
theorem dX9_define_26 : decode cX9_define 26 = .ok (.astore_n 3, 1) := by decide +kernel
theorem dX9_define_27 : decode cX9_define 27 = .ok (.aload_n 3, 1) := by decide +kernel
theorem dX9_define_28 : decode cX9_define 28 = .ok (.ifnonnull 11, 3) := by decide +kernel
theorem dX9_define_31 : decode cX9_define 31 = .ok (.aload_n 0, 1) := by decide +kernel
theorem dX9_define_32 : decode cX9_define 32 = .ok (.getfield 10, 3) := by decide +kernel
theorem dX9_define_35 : decode cX9_define 35 = .ok (.invokevirtual 114, 3) := by decide +kernel
theorem dX9_define_38 : decode cX9_define 38 = .ok (.ireturn, 1) := by decide +kernel
theorem dX9_define_39 : decode cX9_define 39 = .ok (.aload_n 0, 1) := by decide +kernel
theorem dX9_define_40 : decode cX9_define 40 = .ok (.getfield 19, 3) := by decide +kernel
theorem dX9_define_43 : decode cX9_define 43 = .ok (.iload_n 2, 1) := by decide +kernel
theorem dX9_define_44 : decode cX9_define 44 = .ok (.aload_n 3, 1) := by decide +kernel
theorem dX9_define_45 : decode cX9_define 45 = .ok (.invokevirtual 118, 3) := by decide +kernel
theorem dX9_define_48 : decode cX9_define 48 = .ok (.aload_n 3, 1) := by decide +kernel
theorem dX9_define_49 : decode cX9_define 49 = .ok (.getfield 122, 3) := by decide +kernel
theorem dX9_define_52 : decode cX9_define 52 = .ok (.ireturn, 1) := by decide +kernel
theorem dX9_undefine_0 : decode cX9_undefine 0 = .ok (.iload_n 1, 1) := by decide +kernel
theorem dX9_undefine_1 : decode cX9_undefine 1 = .ok (.invokestatic 104, 3) := by decide +kernel
theorem dX9_undefine_4 : decode cX9_undefine 4 = .ok (.istore_n 2, 1) := by decide +kernel
theorem dX9_undefine_5 : decode cX9_undefine 5 = .ok (.iload_n 2, 1) := by decide +kernel
theorem dX9_undefine_6 : decode cX9_undefine 6 = .ok (.ifCond .ge 13, 3) := by decide +kernel
theorem dX9_undefine_9 : decode cX9_undefine 9 = .ok (.new 73, 3) := by decide +kernel
theorem dX9_undefine_12 : decode cX9_undefine 12 = .ok (.dup, 1) := by decide +kernel
theorem dX9_undefine_13 : decode cX9_undefine 13 = .ok (.ldc 108, 2) := by decide +kernel
theorem dX9_undefine_15 : decode cX9_undefine 15 = .ok (.invokespecial 77, 3) := by decide +kernel
theorem dX9_undefine_18 : decode cX9_undefine 18 = .ok (.athrow, 1) := by decide +kernel
theorem dX9_undefine_19 : decode cX9_undefine 19 = .ok (.aload_n 0, 1) := by decide +kernel
theorem dX9_undefine_20 : decode cX9_undefine 20 = .ok (.getfield 19, 3) := by decide +kernel
theorem dX9_undefine_23 : decode cX9_undefine 23 = .ok (.iload_n 2, 1) := by decide +kernel
theorem dX9_undefine_24 : decode cX9_undefine 24 = .ok (.invokevirtual 127, 3) := by decide +kernel
theorem dX9_undefine_27 : decode cX9_undefine 27 = .ok (.ifnull 7, 3) := by decide +kernel
theorem dX9_undefine_30 : decode cX9_undefine 30 = .ok (.iconst 1, 1) := by decide +kernel
theorem dX9_undefine_31 : decode cX9_undefine 31 = .ok (.goto 4, 3) := by decide +kernel
theorem dX9_undefine_34 : decode cX9_undefine 34 = .ok (.iconst 0, 1) := by decide +kernel
theorem dX9_undefine_35 : decode cX9_undefine 35 = .ok (.istore_n 3, 1) := by decide +kernel
theorem dX9_undefine_36 : decode cX9_undefine 36 = .ok (.aload_n 0, 1) := by decide +kernel
theorem dX9_undefine_37 : decode cX9_undefine 37 = .ok (.getfield 19, 3) := by decide +kernel
theorem dX9_undefine_40 : decode cX9_undefine 40 = .ok (.iload_n 2, 1) := by decide +kernel
theorem dX9_undefine_41 : decode cX9_undefine 41 = .ok (.aconst_null, 1) := by decide +kernel
theorem dX9_undefine_42 : decode cX9_undefine 42 = .ok (.invokevirtual 118, 3) := by decide +kernel
theorem dX9_undefine_45 : decode cX9_undefine 45 = .ok (.iload_n 3, 1) := by decide +kernel
theorem dX9_undefine_46 : decode cX9_undefine 46 = .ok (.ireturn, 1) := by decide +kernel
theorem dX9_run_0 : decode cX9_run 0 = .ok (.aload_n 0, 1) := by decide +kernel
theorem dX9_run_1 : decode cX9_run 1 = .ok (.getfield 10, 3) := by decide +kernel
theorem dX9_run_4 : decode cX9_run 4 = .ok (.invokevirtual 110, 3) := by decide +kernel
theorem dX9_run_7 : decode cX9_run 7 = .ok (.astore_n 1, 1) := by decide +kernel
theorem dX9_run_8 : decode cX9_run 8 = .ok (.aload_n 1, 1) := by decide +kernel
theorem dX9_run_9 : decode cX9_run 9 = .ok (.ifnonnull 11, 3) := by decide +kernel
theorem dX9_run_12 : decode cX9_run 12 = .ok (.aload_n 0, 1) := by decide +kernel
theorem dX9_run_13 : decode cX9_run 13 = .ok (.getfield 10, 3) := by decide +kernel
theorem dX9_run_16 : decode cX9_run 16 = .ok (.invokevirtual 114, 3) := by decide +kernel
theorem dX9_run_19 : decode cX9_run 19 = .ok (.ireturn, 1) := by decide +kernel
theorem dX9_run_20 : decode cX9_run 20 = .ok (.aload_n 0, 1) := by decide +kernel
theorem dX9_run_21 : decode cX9_run 21 = .ok (.getfield 66, 3) := by decide +kernel
theorem dX9_run_24 : decode cX9_run 24 = .ok (.aload_n 0, 1) := by decide +kernel
theorem dX9_run_25 : decode cX9_run 25 = .ok (.getfield 62, 3) := by decide +kernel
theorem dX9_run_28 : decode cX9_run 28 = .ok (.getfield 80, 3) := by decide +kernel
theorem dX9_run_31 : decode cX9_run 31 = .ok (.getfield 84, 3) := by decide +kernel
theorem dX9_run_34 : decode cX9_run 34 = .ok (.invokevirtual 88, 3) := by decide +kernel
theorem dX9_run_37 : decode cX9_run 37 = .ok (.aload_n 0, 1) := by decide +kernel
theorem dX9_run_38 : decode cX9_run 38 = .ok (.getfield 26, 3) := by decide +kernel
theorem dX9_run_41 : decode cX9_run 41 = .ok (.aload_n 1, 1) := by decide +kernel
theorem dX9_run_42 : decode cX9_run 42 = .ok (.aload_n 0, 1) := by decide +kernel
theorem dX9_run_43 : decode cX9_run 43 = .ok (.getfield 19, 3) := by decide +kernel
theorem dX9_run_46 : decode cX9_run 46 = .ok (.aload_n 0, 1) := by decide +kernel
theorem dX9_run_47 : decode cX9_run 47 = .ok (.getfield 66, 3) := by decide +kernel
theorem dX9_run_50 : decode cX9_run 50 = .ok (.invokevirtual 131, 3) := by decide +kernel
theorem dX9_run_53 : decode cX9_run 53 = .ok (.aload_n 0, 1) := by decide +kernel
theorem dX9_run_54 : decode cX9_run 54 = .ok (.getfield 62, 3) := by decide +kernel
theorem dX9_run_57 : decode cX9_run 57 = .ok (.astore_n 2, 1) := by decide +kernel
theorem dX9_run_58 : decode cX9_run 58 = .ok (.aload_n 0, 1) := by decide +kernel
theorem dX9_run_59 : decode cX9_run 59 = .ok (.aload_n 0, 1) := by decide +kernel
theorem dX9_run_60 : decode cX9_run 60 = .ok (.getfield 66, 3) := by decide +kernel
theorem dX9_run_63 : decode cX9_run 63 = .ok (.putfield 62, 3) := by decide +kernel
theorem dX9_run_66 : decode cX9_run 66 = .ok (.aload_n 0, 1) := by decide +kernel
theorem dX9_run_67 : decode cX9_run 67 = .ok (.aload_n 2, 1) := by decide +kernel
theorem dX9_run_68 : decode cX9_run 68 = .ok (.putfield 66, 3) := by decide +kernel
theorem dX9_run_71 : decode cX9_run 71 = .ok (.aload_n 0, 1) := by decide +kernel
theorem dX9_run_72 : decode cX9_run 72 = .ok (.invokevirtual 135, 3) := by decide +kernel
theorem dX9_run_75 : decode cX9_run 75 = .ok (.aload_n 0, 1) := by decide +kernel
theorem dX9_run_76 : decode cX9_run 76 = .ok (.getfield 62, 3) := by decide +kernel
theorem dX9_run_79 : decode cX9_run 79 = .ok (.getfield 138, 3) := by decide +kernel
theorem dX9_run_82 : decode cX9_run 82 = .ok (.ireturn, 1) := by decide +kernel
theorem dX9_point_0 : decode cX9_point 0 = .ok (.iload_n 1, 1) := by decide +kernel
theorem dX9_point_1 : decode cX9_point 1 = .ok (.ifCond .lt 26, 3) := by decide +kernel
theorem dX9_point_4 : decode cX9_point 4 = .ok (.iload_n 1, 1) := by decide +kernel
theorem dX9_point_5 : decode cX9_point 5 = .ok (.aload_n 0, 1) := by decide +kernel
theorem dX9_point_6 : decode cX9_point 6 = .ok (.getfield 62, 3) := by decide +kernel
theorem dX9_point_9 : decode cX9_point 9 = .ok (.getfield 80, 3) := by decide +kernel
theorem dX9_point_12 : decode cX9_point 12 = .ok (.getfield 141, 3) := by decide +kernel
theorem dX9_point_15 : decode cX9_point 15 = .ok (.if_icmp .gt 12, 3) := by decide +kernel
theorem dX9_point_18 : decode cX9_point 18 = .ok (.iload_n 2, 1) := by decide +kernel
theorem dX9_point_19 : decode cX9_point 19 = .ok (.ifCond .lt 8, 3) := by decide +kernel
theorem dX9_point_22 : decode cX9_point 22 = .ok (.iload_n 2, 1) := by decide +kernel
theorem dX9_point_23 : decode cX9_point 23 = .ok (.iconst 4, 1) := by decide +kernel
theorem dX9_point_24 : decode cX9_point 24 = .ok (.if_icmp .lt 13, 3) := by decide +kernel
theorem dX9_point_27 : decode cX9_point 27 = .ok (.new 144, 3) := by decide +kernel
theorem dX9_point_30 : decode cX9_point 30 = .ok (.dup, 1) := by decide +kernel
theorem dX9_point_31 : decode cX9_point 31 = .ok (.ldc 146, 2) := by decide +kernel
theorem dX9_point_33 : decode cX9_point 33 = .ok (.invokespecial 148, 3) := by decide +kernel
theorem dX9_point_36 : decode cX9_point 36 = .ok (.athrow, 1) := by decide +kernel
theorem dX9_point_37 : decode cX9_point 37 = .ok (.aload_n 0, 1) := by decide +kernel
theorem dX9_point_38 : decode cX9_point 38 = .ok (.getfield 62, 3) := by decide +kernel
theorem dX9_point_41 : decode cX9_point 41 = .ok (.getfield 80, 3) := by decide +kernel
theorem dX9_point_44 : decode cX9_point 44 = .ok (.iload_n 1, 1) := by decide +kernel
theorem dX9_point_45 : decode cX9_point 45 = .ok (.iload_n 2, 1) := by decide +kernel
theorem dX9_point_46 : decode cX9_point 46 = .ok (.invokevirtual 149, 3) := by decide +kernel
theorem dX9_point_49 : decode cX9_point 49 = .ok (.ireturn, 1) := by decide +kernel
theorem dX9_points_0 : decode cX9_points 0 = .ok (.aload_n 0, 1) := by decide +kernel
theorem dX9_points_1 : decode cX9_points 1 = .ok (.getfield 62, 3) := by decide +kernel
theorem dX9_points_4 : decode cX9_points 4 = .ok (.getfield 80, 3) := by decide +kernel
theorem dX9_points_7 : decode cX9_points 7 = .ok (.getfield 141, 3) := by decide +kernel
theorem dX9_points_10 : decode cX9_points 10 = .ok (.iconst 1, 1) := by decide +kernel
theorem dX9_points_11 : decode cX9_points 11 = .ok (.iadd, 1) := by decide +kernel
theorem dX9_points_12 : decode cX9_points 12 = .ok (.ireturn, 1) := by decide +kernel
theorem dX9_isDrawn_0 : decode cX9_isDrawn 0 = .ok (.iload_n 1, 1) := by decide +kernel
theorem dX9_isDrawn_1 : decode cX9_isDrawn 1 = .ok (.ifCond .lt 17, 3) := by decide +kernel
theorem dX9_isDrawn_4 : decode cX9_isDrawn 4 = .ok (.iload_n 1, 1) := by decide +kernel
theorem dX9_isDrawn_5 : decode cX9_isDrawn 5 = .ok (.aload_n 0, 1) := by decide +kernel
theorem dX9_isDrawn_6 : decode cX9_isDrawn 6 = .ok (.getfield 62, 3) := by decide +kernel
theorem dX9_isDrawn_9 : decode cX9_isDrawn 9 = .ok (.getfield 80, 3) := by decide +kernel
theorem dX9_isDrawn_12 : decode cX9_isDrawn 12 = .ok (.getfield 141, 3) := by decide +kernel
theorem dX9_isDrawn_15 : decode cX9_isDrawn 15 = .ok (.if_icmp .lt 13, 3) := by decide +kernel
theorem dX9_isDrawn_18 : decode cX9_isDrawn 18 = .ok (.new 144, 3) := by decide +kernel
theorem dX9_isDrawn_21 : decode cX9_isDrawn 21 = .ok (.dup, 1) := by decide +kernel
theorem dX9_isDrawn_22 : decode cX9_isDrawn 22 = .ok (.ldc 153, 2) := by decide +kernel
theorem dX9_isDrawn_24 : decode cX9_isDrawn 24 = .ok (.invokespecial 148, 3) := by decide +kernel
theorem dX9_isDrawn_27 : decode cX9_isDrawn 27 = .ok (.athrow, 1) := by decide +kernel
theorem dX9_isDrawn_28 : decode cX9_isDrawn 28 = .ok (.aload_n 0, 1) := by decide +kernel
theorem dX9_isDrawn_29 : decode cX9_isDrawn 29 = .ok (.getfield 62, 3) := by decide +kernel
theorem dX9_isDrawn_32 : decode cX9_isDrawn 32 = .ok (.getfield 80, 3) := by decide +kernel
theorem dX9_isDrawn_35 : decode cX9_isDrawn 35 = .ok (.iload_n 1, 1) := by decide +kernel
theorem dX9_isDrawn_36 : decode cX9_isDrawn 36 = .ok (.invokevirtual 155, 3) := by decide +kernel
theorem dX9_isDrawn_39 : decode cX9_isDrawn 39 = .ok (.ireturn, 1) := by decide +kernel
theorem dX9_direction_0 : decode cX9_direction 0 = .ok (.aload_n 0, 1) := by decide +kernel
theorem dX9_direction_1 : decode cX9_direction 1 = .ok (.getfield 62, 3) := by decide +kernel
theorem dX9_direction_4 : decode cX9_direction 4 = .ok (.invokevirtual 159, 3) := by decide +kernel
theorem dX9_direction_7 : decode cX9_direction 7 = .ok (.ireturn, 1) := by decide +kernel
theorem dX9_turning_0 : decode cX9_turning 0 = .ok (.aload_n 0, 1) := by decide +kernel
theorem dX9_turning_1 : decode cX9_turning 1 = .ok (.getfield 62, 3) := by decide +kernel
theorem dX9_turning_4 : decode cX9_turning 4 = .ok (.getfield 162, 3) := by decide +kernel
theorem dX9_turning_7 : decode cX9_turning 7 = .ok (.ireturn, 1) := by decide +kernel
theorem dX9_isClosed_0 : decode cX9_isClosed 0 = .ok (.aload_n 0, 1) := by decide +kernel
theorem dX9_isClosed_1 : decode cX9_isClosed 1 = .ok (.getfield 62, 3) := by decide +kernel
theorem dX9_isClosed_4 : decode cX9_isClosed 4 = .ok (.getfield 80, 3) := by decide +kernel
theorem dX9_isClosed_7 : decode cX9_isClosed 7 = .ok (.invokevirtual 165, 3) := by decide +kernel
theorem dX9_isClosed_10 : decode cX9_isClosed 10 = .ok (.ireturn, 1) := by decide +kernel
theorem dX9_closingRepeats_0 : decode cX9_closingRepeats 0 = .ok (.aload_n 0, 1) := by decide +kernel
theorem dX9_closingRepeats_1 : decode cX9_closingRepeats 1 = .ok (.getfield 62, 3) := by decide +kernel
theorem dX9_closingRepeats_4 : decode cX9_closingRepeats 4 = .ok (.invokevirtual 159, 3) := by decide +kernel
theorem dX9_closingRepeats_7 : decode cX9_closingRepeats 7 = .ok (.istore_n 1, 1) := by decide +kernel
theorem dX9_closingRepeats_8 : decode cX9_closingRepeats 8 = .ok (.iload_n 1, 1) := by decide +kernel
theorem dX9_closingRepeats_9 : decode cX9_closingRepeats 9 = .ok (.ifCond .ne 28, 3) := by decide +kernel
theorem dX9_closingRepeats_12 : decode cX9_closingRepeats 12 = .ok (.aload_n 0, 1) := by decide +kernel
theorem dX9_closingRepeats_13 : decode cX9_closingRepeats 13 = .ok (.getfield 62, 3) := by decide +kernel
theorem dX9_closingRepeats_16 : decode cX9_closingRepeats 16 = .ok (.getfield 80, 3) := by decide +kernel
theorem dX9_closingRepeats_19 : decode cX9_closingRepeats 19 = .ok (.invokevirtual 165, 3) := by decide +kernel
theorem dX9_closingRepeats_22 : decode cX9_closingRepeats 22 = .ok (.ifCond .ne 13, 3) := by decide +kernel
theorem dX9_closingRepeats_25 : decode cX9_closingRepeats 25 = .ok (.new 169, 3) := by decide +kernel
theorem dX9_closingRepeats_28 : decode cX9_closingRepeats 28 = .ok (.dup, 1) := by decide +kernel
theorem dX9_closingRepeats_29 : decode cX9_closingRepeats 29 = .ok (.ldc 171, 2) := by decide +kernel
theorem dX9_closingRepeats_31 : decode cX9_closingRepeats 31 = .ok (.invokespecial 173, 3) := by decide +kernel
theorem dX9_closingRepeats_34 : decode cX9_closingRepeats 34 = .ok (.athrow, 1) := by decide +kernel
theorem dX9_closingRepeats_35 : decode cX9_closingRepeats 35 = .ok (.iconst 1, 1) := by decide +kernel
theorem dX9_closingRepeats_36 : decode cX9_closingRepeats 36 = .ok (.ireturn, 1) := by decide +kernel
theorem dX9_closingRepeats_37 : decode cX9_closingRepeats 37 = .ok (.iconst 1, 1) := by decide +kernel
theorem dX9_closingRepeats_38 : decode cX9_closingRepeats 38 = .ok (.istore_n 2, 1) := by decide +kernel
theorem dX9_closingRepeats_39 : decode cX9_closingRepeats 39 = .ok (.iload_n 2, 1) := by decide +kernel
theorem dX9_closingRepeats_40 : decode cX9_closingRepeats 40 = .ok (.aload_n 0, 1) := by decide +kernel
theorem dX9_closingRepeats_41 : decode cX9_closingRepeats 41 = .ok (.getfield 62, 3) := by decide +kernel
theorem dX9_closingRepeats_44 : decode cX9_closingRepeats 44 = .ok (.getfield 80, 3) := by decide +kernel
theorem dX9_closingRepeats_47 : decode cX9_closingRepeats 47 = .ok (.getfield 84, 3) := by decide +kernel
theorem dX9_closingRepeats_50 : decode cX9_closingRepeats 50 = .ok (.if_icmp .ge 28, 3) := by decide +kernel
theorem dX9_closingRepeats_53 : decode cX9_closingRepeats 53 = .ok (.iload_n 2, 1) := by decide +kernel
theorem dX9_closingRepeats_54 : decode cX9_closingRepeats 54 = .ok (.iload_n 1, 1) := by decide +kernel
theorem dX9_closingRepeats_55 : decode cX9_closingRepeats 55 = .ok (.imul, 1) := by decide +kernel
theorem dX9_closingRepeats_56 : decode cX9_closingRepeats 56 = .ok (.aload_n 0, 1) := by decide +kernel
theorem dX9_closingRepeats_57 : decode cX9_closingRepeats 57 = .ok (.getfield 62, 3) := by decide +kernel
theorem dX9_closingRepeats_60 : decode cX9_closingRepeats 60 = .ok (.getfield 80, 3) := by decide +kernel
theorem dX9_closingRepeats_63 : decode cX9_closingRepeats 63 = .ok (.getfield 84, 3) := by decide +kernel
theorem dX9_closingRepeats_66 : decode cX9_closingRepeats 66 = .ok (.invokestatic 174, 3) := by decide +kernel
theorem dX9_closingRepeats_69 : decode cX9_closingRepeats 69 = .ok (.ifCond .eq 9, 3) := by decide +kernel
theorem dX9_closingRepeats_72 : decode cX9_closingRepeats 72 = .ok (.iinc 2 1, 3) := by decide +kernel
theorem dX9_closingRepeats_75 : decode cX9_closingRepeats 75 = .ok (.goto (-36), 3) := by decide +kernel
theorem dX9_closingRepeats_78 : decode cX9_closingRepeats 78 = .ok (.iload_n 2, 1) := by decide +kernel
theorem dX9_closingRepeats_79 : decode cX9_closingRepeats 79 = .ok (.ireturn, 1) := by decide +kernel
theorem dX9_area_0 : decode cX9_area 0 = .ok (.iload_n 1, 1) := by decide +kernel
theorem dX9_area_1 : decode cX9_area 1 = .ok (.ifCond .eq 18, 3) := by decide +kernel
theorem dX9_area_4 : decode cX9_area 4 = .ok (.iload_n 1, 1) := by decide +kernel
theorem dX9_area_5 : decode cX9_area 5 = .ok (.iconst 1, 1) := by decide +kernel
theorem dX9_area_6 : decode cX9_area 6 = .ok (.if_icmp .eq 13, 3) := by decide +kernel
theorem dX9_area_9 : decode cX9_area 9 = .ok (.new 73, 3) := by decide +kernel
theorem dX9_area_12 : decode cX9_area 12 = .ok (.dup, 1) := by decide +kernel
theorem dX9_area_13 : decode cX9_area 13 = .ok (.ldc 177, 2) := by decide +kernel
theorem dX9_area_15 : decode cX9_area 15 = .ok (.invokespecial 77, 3) := by decide +kernel
theorem dX9_area_18 : decode cX9_area 18 = .ok (.athrow, 1) := by decide +kernel
theorem dX9_area_19 : decode cX9_area 19 = .ok (.aload_n 0, 1) := by decide +kernel
theorem dX9_area_20 : decode cX9_area 20 = .ok (.getfield 62, 3) := by decide +kernel
theorem dX9_area_23 : decode cX9_area 23 = .ok (.getfield 80, 3) := by decide +kernel
theorem dX9_area_26 : decode cX9_area 26 = .ok (.invokevirtual 165, 3) := by decide +kernel
theorem dX9_area_29 : decode cX9_area 29 = .ok (.ifCond .ne 13, 3) := by decide +kernel
theorem dX9_area_32 : decode cX9_area 32 = .ok (.new 96, 3) := by decide +kernel
theorem dX9_area_35 : decode cX9_area 35 = .ok (.dup, 1) := by decide +kernel
theorem dX9_area_36 : decode cX9_area 36 = .ok (.ldc 179, 2) := by decide +kernel
theorem dX9_area_38 : decode cX9_area 38 = .ok (.invokespecial 100, 3) := by decide +kernel
theorem dX9_area_41 : decode cX9_area 41 = .ok (.athrow, 1) := by decide +kernel
theorem dX9_area_42 : decode cX9_area 42 = .ok (.aload_n 0, 1) := by decide +kernel
theorem dX9_area_43 : decode cX9_area 43 = .ok (.getfield 62, 3) := by decide +kernel
theorem dX9_area_46 : decode cX9_area 46 = .ok (.getfield 80, 3) := by decide +kernel
theorem dX9_area_49 : decode cX9_area 49 = .ok (.iload_n 1, 1) := by decide +kernel
theorem dX9_area_50 : decode cX9_area 50 = .ok (.iconst 1, 1) := by decide +kernel
theorem dX9_area_51 : decode cX9_area 51 = .ok (.if_icmp .ne 7, 3) := by decide +kernel
theorem dX9_area_54 : decode cX9_area 54 = .ok (.iconst 1, 1) := by decide +kernel
theorem dX9_area_55 : decode cX9_area 55 = .ok (.goto 4, 3) := by decide +kernel
theorem dX9_area_58 : decode cX9_area 58 = .ok (.iconst 0, 1) := by decide +kernel
theorem dX9_area_59 : decode cX9_area 59 = .ok (.invokevirtual 181, 3) := by decide +kernel
theorem dX9_area_62 : decode cX9_area 62 = .ok (.lreturn, 1) := by decide +kernel
theorem dX9_meetings_0 : decode cX9_meetings 0 = .ok (.aload_n 0, 1) := by decide +kernel
theorem dX9_meetings_1 : decode cX9_meetings 1 = .ok (.getfield 62, 3) := by decide +kernel
theorem dX9_meetings_4 : decode cX9_meetings 4 = .ok (.getfield 80, 3) := by decide +kernel
theorem dX9_meetings_7 : decode cX9_meetings 7 = .ok (.invokevirtual 185, 3) := by decide +kernel
theorem dX9_meetings_10 : decode cX9_meetings 10 = .ok (.aload_n 0, 1) := by decide +kernel
theorem dX9_meetings_11 : decode cX9_meetings 11 = .ok (.getfield 62, 3) := by decide +kernel
theorem dX9_meetings_14 : decode cX9_meetings 14 = .ok (.getfield 80, 3) := by decide +kernel
theorem dX9_meetings_17 : decode cX9_meetings 17 = .ok (.getfield 188, 3) := by decide +kernel
theorem dX9_meetings_20 : decode cX9_meetings 20 = .ok (.ireturn, 1) := by decide +kernel
theorem dX9_crossings_0 : decode cX9_crossings 0 = .ok (.aload_n 0, 1) := by decide +kernel
theorem dX9_crossings_1 : decode cX9_crossings 1 = .ok (.getfield 62, 3) := by decide +kernel
theorem dX9_crossings_4 : decode cX9_crossings 4 = .ok (.getfield 80, 3) := by decide +kernel
theorem dX9_crossings_7 : decode cX9_crossings 7 = .ok (.invokevirtual 185, 3) := by decide +kernel
theorem dX9_crossings_10 : decode cX9_crossings 10 = .ok (.aload_n 0, 1) := by decide +kernel
theorem dX9_crossings_11 : decode cX9_crossings 11 = .ok (.getfield 62, 3) := by decide +kernel
theorem dX9_crossings_14 : decode cX9_crossings 14 = .ok (.getfield 80, 3) := by decide +kernel
theorem dX9_crossings_17 : decode cX9_crossings 17 = .ok (.getfield 191, 3) := by decide +kernel
theorem dX9_crossings_20 : decode cX9_crossings 20 = .ok (.ireturn, 1) := by decide +kernel
theorem dX9_firstMeeting_0 : decode cX9_firstMeeting 0 = .ok (.aload_n 0, 1) := by decide +kernel
theorem dX9_firstMeeting_1 : decode cX9_firstMeeting 1 = .ok (.getfield 62, 3) := by decide +kernel
theorem dX9_firstMeeting_4 : decode cX9_firstMeeting 4 = .ok (.getfield 80, 3) := by decide +kernel
theorem dX9_firstMeeting_7 : decode cX9_firstMeeting 7 = .ok (.invokevirtual 185, 3) := by decide +kernel
theorem dX9_firstMeeting_10 : decode cX9_firstMeeting 10 = .ok (.aload_n 0, 1) := by decide +kernel
theorem dX9_firstMeeting_11 : decode cX9_firstMeeting 11 = .ok (.getfield 62, 3) := by decide +kernel
theorem dX9_firstMeeting_14 : decode cX9_firstMeeting 14 = .ok (.getfield 80, 3) := by decide +kernel
theorem dX9_firstMeeting_17 : decode cX9_firstMeeting 17 = .ok (.getfield 188, 3) := by decide +kernel
theorem dX9_firstMeeting_20 : decode cX9_firstMeeting 20 = .ok (.ifCond .ne 13, 3) := by decide +kernel
theorem dX9_firstMeeting_23 : decode cX9_firstMeeting 23 = .ok (.new 169, 3) := by decide +kernel
theorem dX9_firstMeeting_26 : decode cX9_firstMeeting 26 = .ok (.dup, 1) := by decide +kernel
theorem dX9_firstMeeting_27 : decode cX9_firstMeeting 27 = .ok (.ldc 194, 2) := by decide +kernel
theorem dX9_firstMeeting_29 : decode cX9_firstMeeting 29 = .ok (.invokespecial 173, 3) := by decide +kernel
theorem dX9_firstMeeting_32 : decode cX9_firstMeeting 32 = .ok (.athrow, 1) := by decide +kernel
theorem dX9_firstMeeting_33 : decode cX9_firstMeeting 33 = .ok (.aload_n 0, 1) := by decide +kernel
theorem dX9_firstMeeting_34 : decode cX9_firstMeeting 34 = .ok (.getfield 62, 3) := by decide +kernel
theorem dX9_firstMeeting_37 : decode cX9_firstMeeting 37 = .ok (.getfield 80, 3) := by decide +kernel
theorem dX9_firstMeeting_40 : decode cX9_firstMeeting 40 = .ok (.getfield 196, 3) := by decide +kernel
theorem dX9_firstMeeting_43 : decode cX9_firstMeeting 43 = .ok (.ireturn, 1) := by decide +kernel
theorem dX9_extreme_0 : decode cX9_extreme 0 = .ok (.iload_n 1, 1) := by decide +kernel
theorem dX9_extreme_1 : decode cX9_extreme 1 = .ok (.ifCond .lt 17, 3) := by decide +kernel
theorem dX9_extreme_4 : decode cX9_extreme 4 = .ok (.iload_n 1, 1) := by decide +kernel
theorem dX9_extreme_5 : decode cX9_extreme 5 = .ok (.iconst 3, 1) := by decide +kernel
theorem dX9_extreme_6 : decode cX9_extreme 6 = .ok (.if_icmp .gt 12, 3) := by decide +kernel
theorem dX9_extreme_9 : decode cX9_extreme 9 = .ok (.iload_n 2, 1) := by decide +kernel
theorem dX9_extreme_10 : decode cX9_extreme 10 = .ok (.ifCond .eq 18, 3) := by decide +kernel
theorem dX9_extreme_13 : decode cX9_extreme 13 = .ok (.iload_n 2, 1) := by decide +kernel
theorem dX9_extreme_14 : decode cX9_extreme 14 = .ok (.iconst 1, 1) := by decide +kernel
theorem dX9_extreme_15 : decode cX9_extreme 15 = .ok (.if_icmp .eq 13, 3) := by decide +kernel
theorem dX9_extreme_18 : decode cX9_extreme 18 = .ok (.new 73, 3) := by decide +kernel
theorem dX9_extreme_21 : decode cX9_extreme 21 = .ok (.dup, 1) := by decide +kernel
theorem dX9_extreme_22 : decode cX9_extreme 22 = .ok (.ldc 199, 2) := by decide +kernel
theorem dX9_extreme_24 : decode cX9_extreme 24 = .ok (.invokespecial 77, 3) := by decide +kernel
theorem dX9_extreme_27 : decode cX9_extreme 27 = .ok (.athrow, 1) := by decide +kernel
theorem dX9_extreme_28 : decode cX9_extreme 28 = .ok (.iload_n 1, 1) := by decide +kernel
theorem dX9_extreme_29 : decode cX9_extreme 29 = .ok (.iconst 2, 1) := by decide +kernel
theorem dX9_extreme_30 : decode cX9_extreme 30 = .ok (.if_icmp .ge 7, 3) := by decide +kernel
theorem dX9_extreme_33 : decode cX9_extreme 33 = .ok (.iconst 0, 1) := by decide +kernel
theorem dX9_extreme_34 : decode cX9_extreme 34 = .ok (.goto 4, 3) := by decide +kernel
theorem dX9_extreme_37 : decode cX9_extreme 37 = .ok (.iconst 2, 1) := by decide +kernel
theorem dX9_extreme_38 : decode cX9_extreme 38 = .ok (.istore_n 3, 1) := by decide +kernel
theorem dX9_extreme_39 : decode cX9_extreme 39 = .ok (.iload_n 1, 1) := by decide +kernel
theorem dX9_extreme_40 : decode cX9_extreme 40 = .ok (.iconst 1, 1) := by decide +kernel
theorem dX9_extreme_41 : decode cX9_extreme 41 = .ok (.if_icmp .eq 8, 3) := by decide +kernel
theorem dX9_extreme_44 : decode cX9_extreme 44 = .ok (.iload_n 1, 1) := by decide +kernel
theorem dX9_extreme_45 : decode cX9_extreme 45 = .ok (.iconst 3, 1) := by decide +kernel
theorem dX9_extreme_46 : decode cX9_extreme 46 = .ok (.if_icmp .ne 7, 3) := by decide +kernel
theorem dX9_extreme_49 : decode cX9_extreme 49 = .ok (.iconst 1, 1) := by decide +kernel
theorem dX9_extreme_50 : decode cX9_extreme 50 = .ok (.goto 4, 3) := by decide +kernel
theorem dX9_extreme_53 : decode cX9_extreme 53 = .ok (.iconst 0, 1) := by decide +kernel
theorem dX9_extreme_54 : decode cX9_extreme 54 = .ok (.istore 4, 2) := by decide +kernel
theorem dX9_extreme_56 : decode cX9_extreme 56 = .ok (.aload_n 0, 1) := by decide +kernel
theorem dX9_extreme_57 : decode cX9_extreme 57 = .ok (.getfield 62, 3) := by decide +kernel
theorem dX9_extreme_60 : decode cX9_extreme 60 = .ok (.getfield 80, 3) := by decide +kernel
theorem dX9_extreme_63 : decode cX9_extreme 63 = .ok (.iload_n 3, 1) := by decide +kernel
theorem dX9_extreme_64 : decode cX9_extreme 64 = .ok (.iload 4, 2) := by decide +kernel
theorem dX9_extreme_66 : decode cX9_extreme 66 = .ok (.invokevirtual 201, 3) := by decide +kernel
theorem dX9_extreme_69 : decode cX9_extreme 69 = .ok (.istore 5, 2) := by decide +kernel
theorem dX9_extreme_71 : decode cX9_extreme 71 = .ok (.aload_n 0, 1) := by decide +kernel
theorem dX9_extreme_72 : decode cX9_extreme 72 = .ok (.getfield 62, 3) := by decide +kernel
theorem dX9_extreme_75 : decode cX9_extreme 75 = .ok (.getfield 80, 3) := by decide +kernel
theorem dX9_extreme_78 : decode cX9_extreme 78 = .ok (.iload 5, 2) := by decide +kernel
theorem dX9_extreme_80 : decode cX9_extreme 80 = .ok (.iload_n 3, 1) := by decide +kernel
theorem dX9_extreme_81 : decode cX9_extreme 81 = .ok (.iload_n 2, 1) := by decide +kernel
theorem dX9_extreme_82 : decode cX9_extreme 82 = .ok (.iadd, 1) := by decide +kernel
theorem dX9_extreme_83 : decode cX9_extreme 83 = .ok (.invokevirtual 149, 3) := by decide +kernel
theorem dX9_extreme_86 : decode cX9_extreme 86 = .ok (.ireturn, 1) := by decide +kernel
theorem dX9_corners_0 : decode cX9_corners 0 = .ok (.aload_n 0, 1) := by decide +kernel
theorem dX9_corners_1 : decode cX9_corners 1 = .ok (.getfield 62, 3) := by decide +kernel
theorem dX9_corners_4 : decode cX9_corners 4 = .ok (.invokevirtual 205, 3) := by decide +kernel
theorem dX9_corners_7 : decode cX9_corners 7 = .ok (.ifCond .ne 13, 3) := by decide +kernel
theorem dX9_corners_10 : decode cX9_corners 10 = .ok (.new 96, 3) := by decide +kernel
theorem dX9_corners_13 : decode cX9_corners 13 = .ok (.dup, 1) := by decide +kernel
theorem dX9_corners_14 : decode cX9_corners 14 = .ok (.ldc 208, 2) := by decide +kernel
theorem dX9_corners_16 : decode cX9_corners 16 = .ok (.invokespecial 100, 3) := by decide +kernel
theorem dX9_corners_19 : decode cX9_corners 19 = .ok (.athrow, 1) := by decide +kernel
theorem dX9_corners_20 : decode cX9_corners 20 = .ok (.aload_n 0, 1) := by decide +kernel
theorem dX9_corners_21 : decode cX9_corners 21 = .ok (.getfield 33, 3) := by decide +kernel
theorem dX9_corners_24 : decode cX9_corners 24 = .ok (.aload_n 0, 1) := by decide +kernel
theorem dX9_corners_25 : decode cX9_corners 25 = .ok (.getfield 62, 3) := by decide +kernel
theorem dX9_corners_28 : decode cX9_corners 28 = .ok (.getfield 80, 3) := by decide +kernel
theorem dX9_corners_31 : decode cX9_corners 31 = .ok (.invokevirtual 210, 3) := by decide +kernel
theorem dX9_corners_34 : decode cX9_corners 34 = .ok (.aload_n 0, 1) := by decide +kernel
theorem dX9_corners_35 : decode cX9_corners 35 = .ok (.getfield 33, 3) := by decide +kernel
theorem dX9_corners_38 : decode cX9_corners 38 = .ok (.getfield 214, 3) := by decide +kernel
theorem dX9_corners_41 : decode cX9_corners 41 = .ok (.ireturn, 1) := by decide +kernel
theorem dX9_symmetry_0 : decode cX9_symmetry 0 = .ok (.aload_n 0, 1) := by decide +kernel
theorem dX9_symmetry_1 : decode cX9_symmetry 1 = .ok (.invokevirtual 217, 3) := by decide +kernel
theorem dX9_symmetry_4 : decode cX9_symmetry 4 = .ok (.ifCond .ne 13, 3) := by decide +kernel
theorem dX9_symmetry_7 : decode cX9_symmetry 7 = .ok (.new 96, 3) := by decide +kernel
theorem dX9_symmetry_10 : decode cX9_symmetry 10 = .ok (.dup, 1) := by decide +kernel
theorem dX9_symmetry_11 : decode cX9_symmetry 11 = .ok (.ldc 220, 2) := by decide +kernel
theorem dX9_symmetry_13 : decode cX9_symmetry 13 = .ok (.invokespecial 100, 3) := by decide +kernel
theorem dX9_symmetry_16 : decode cX9_symmetry 16 = .ok (.athrow, 1) := by decide +kernel
theorem dX9_symmetry_17 : decode cX9_symmetry 17 = .ok (.aload_n 0, 1) := by decide +kernel
theorem dX9_symmetry_18 : decode cX9_symmetry 18 = .ok (.getfield 33, 3) := by decide +kernel
theorem dX9_symmetry_21 : decode cX9_symmetry 21 = .ok (.invokevirtual 222, 3) := by decide +kernel
theorem dX9_symmetry_24 : decode cX9_symmetry 24 = .ok (.ireturn, 1) := by decide +kernel
theorem dX9_isMirrored_0 : decode cX9_isMirrored 0 = .ok (.aload_n 0, 1) := by decide +kernel
theorem dX9_isMirrored_1 : decode cX9_isMirrored 1 = .ok (.invokevirtual 217, 3) := by decide +kernel
theorem dX9_isMirrored_4 : decode cX9_isMirrored 4 = .ok (.ifCond .ne 13, 3) := by decide +kernel
theorem dX9_isMirrored_7 : decode cX9_isMirrored 7 = .ok (.new 96, 3) := by decide +kernel
theorem dX9_isMirrored_10 : decode cX9_isMirrored 10 = .ok (.dup, 1) := by decide +kernel
theorem dX9_isMirrored_11 : decode cX9_isMirrored 11 = .ok (.ldc 220, 2) := by decide +kernel
theorem dX9_isMirrored_13 : decode cX9_isMirrored 13 = .ok (.invokespecial 100, 3) := by decide +kernel
theorem dX9_isMirrored_16 : decode cX9_isMirrored 16 = .ok (.athrow, 1) := by decide +kernel
theorem dX9_isMirrored_17 : decode cX9_isMirrored 17 = .ok (.aload_n 0, 1) := by decide +kernel
theorem dX9_isMirrored_18 : decode cX9_isMirrored 18 = .ok (.getfield 33, 3) := by decide +kernel
theorem dX9_isMirrored_21 : decode cX9_isMirrored 21 = .ok (.invokevirtual 225, 3) := by decide +kernel
theorem dX9_isMirrored_24 : decode cX9_isMirrored 24 = .ok (.ireturn, 1) := by decide +kernel
theorem dX9_shortestWalk_0 : decode cX9_shortestWalk 0 = .ok (.iload_n 1, 1) := by decide +kernel
theorem dX9_shortestWalk_1 : decode cX9_shortestWalk 1 = .ok (.ifCond .lt 9, 3) := by decide +kernel
theorem dX9_shortestWalk_4 : decode cX9_shortestWalk 4 = .ok (.iload_n 1, 1) := by decide +kernel
theorem dX9_shortestWalk_5 : decode cX9_shortestWalk 5 = .ok (.bipush 8, 2) := by decide +kernel
theorem dX9_shortestWalk_7 : decode cX9_shortestWalk 7 = .ok (.if_icmp .le 13, 3) := by decide +kernel
theorem dX9_shortestWalk_10 : decode cX9_shortestWalk 10 = .ok (.new 73, 3) := by decide +kernel
theorem dX9_shortestWalk_13 : decode cX9_shortestWalk 13 = .ok (.dup, 1) := by decide +kernel
theorem dX9_shortestWalk_14 : decode cX9_shortestWalk 14 = .ok (.ldc 228, 2) := by decide +kernel
theorem dX9_shortestWalk_16 : decode cX9_shortestWalk 16 = .ok (.invokespecial 77, 3) := by decide +kernel
theorem dX9_shortestWalk_19 : decode cX9_shortestWalk 19 = .ok (.athrow, 1) := by decide +kernel
theorem dX9_shortestWalk_20 : decode cX9_shortestWalk 20 = .ok (.aload_n 0, 1) := by decide +kernel
theorem dX9_shortestWalk_21 : decode cX9_shortestWalk 21 = .ok (.getfield 40, 3) := by decide +kernel
theorem dX9_shortestWalk_24 : decode cX9_shortestWalk 24 = .ok (.aload_n 0, 1) := by decide +kernel
theorem dX9_shortestWalk_25 : decode cX9_shortestWalk 25 = .ok (.getfield 62, 3) := by decide +kernel
theorem dX9_shortestWalk_28 : decode cX9_shortestWalk 28 = .ok (.getfield 80, 3) := by decide +kernel
theorem dX9_shortestWalk_31 : decode cX9_shortestWalk 31 = .ok (.aload_n 0, 1) := by decide +kernel
theorem dX9_shortestWalk_32 : decode cX9_shortestWalk 32 = .ok (.getfield 62, 3) := by decide +kernel
theorem dX9_shortestWalk_35 : decode cX9_shortestWalk 35 = .ok (.invokevirtual 159, 3) := by decide +kernel
theorem dX9_shortestWalk_38 : decode cX9_shortestWalk 38 = .ok (.iload_n 1, 1) := by decide +kernel
theorem dX9_shortestWalk_39 : decode cX9_shortestWalk 39 = .ok (.invokevirtual 230, 3) := by decide +kernel
theorem dX9_shortestWalk_42 : decode cX9_shortestWalk 42 = .ok (.istore_n 2, 1) := by decide +kernel
theorem dX9_shortestWalk_43 : decode cX9_shortestWalk 43 = .ok (.iload_n 2, 1) := by decide +kernel
theorem dX9_shortestWalk_44 : decode cX9_shortestWalk 44 = .ok (.ifCond .ge 13, 3) := by decide +kernel
theorem dX9_shortestWalk_47 : decode cX9_shortestWalk 47 = .ok (.new 169, 3) := by decide +kernel
theorem dX9_shortestWalk_50 : decode cX9_shortestWalk 50 = .ok (.dup, 1) := by decide +kernel
theorem dX9_shortestWalk_51 : decode cX9_shortestWalk 51 = .ok (.ldc 234, 2) := by decide +kernel
theorem dX9_shortestWalk_53 : decode cX9_shortestWalk 53 = .ok (.invokespecial 173, 3) := by decide +kernel
theorem dX9_shortestWalk_56 : decode cX9_shortestWalk 56 = .ok (.athrow, 1) := by decide +kernel
theorem dX9_shortestWalk_57 : decode cX9_shortestWalk 57 = .ok (.iconst 0, 1) := by decide +kernel
theorem dX9_shortestWalk_58 : decode cX9_shortestWalk 58 = .ok (.istore_n 3, 1) := by decide +kernel
theorem dX9_shortestWalk_59 : decode cX9_shortestWalk 59 = .ok (.iload_n 3, 1) := by decide +kernel
theorem dX9_shortestWalk_60 : decode cX9_shortestWalk 60 = .ok (.iload_n 2, 1) := by decide +kernel
theorem dX9_shortestWalk_61 : decode cX9_shortestWalk 61 = .ok (.if_icmp .ge 30, 3) := by decide +kernel
theorem dX9_shortestWalk_64 : decode cX9_shortestWalk 64 = .ok (.iload_n 3, 1) := by decide +kernel
theorem dX9_shortestWalk_65 : decode cX9_shortestWalk 65 = .ok (.bipush 8, 2) := by decide +kernel
theorem dX9_shortestWalk_67 : decode cX9_shortestWalk 67 = .ok (.if_icmp .ge 24, 3) := by decide +kernel
theorem dX9_shortestWalk_70 : decode cX9_shortestWalk 70 = .ok (.aload_n 0, 1) := by decide +kernel
theorem dX9_shortestWalk_71 : decode cX9_shortestWalk 71 = .ok (.getfield 51, 3) := by decide +kernel
theorem dX9_shortestWalk_74 : decode cX9_shortestWalk 74 = .ok (.iload_n 3, 1) := by decide +kernel
theorem dX9_shortestWalk_75 : decode cX9_shortestWalk 75 = .ok (.aload_n 0, 1) := by decide +kernel
theorem dX9_shortestWalk_76 : decode cX9_shortestWalk 76 = .ok (.getfield 40, 3) := by decide +kernel
theorem dX9_shortestWalk_79 : decode cX9_shortestWalk 79 = .ok (.getfield 236, 3) := by decide +kernel
theorem dX9_shortestWalk_82 : decode cX9_shortestWalk 82 = .ok (.iload_n 3, 1) := by decide +kernel
theorem dX9_shortestWalk_83 : decode cX9_shortestWalk 83 = .ok (.caload, 1) := by decide +kernel
theorem dX9_shortestWalk_84 : decode cX9_shortestWalk 84 = .ok (.castore, 1) := by decide +kernel
theorem dX9_shortestWalk_85 : decode cX9_shortestWalk 85 = .ok (.iinc 3 1, 3) := by decide +kernel
theorem dX9_shortestWalk_88 : decode cX9_shortestWalk 88 = .ok (.goto (-29), 3) := by decide +kernel
theorem dX9_shortestWalk_91 : decode cX9_shortestWalk 91 = .ok (.aload_n 0, 1) := by decide +kernel
theorem dX9_shortestWalk_92 : decode cX9_shortestWalk 92 = .ok (.iload_n 2, 1) := by decide +kernel
theorem dX9_shortestWalk_93 : decode cX9_shortestWalk 93 = .ok (.putfield 239, 3) := by decide +kernel
theorem dX9_shortestWalk_96 : decode cX9_shortestWalk 96 = .ok (.iload_n 2, 1) := by decide +kernel
theorem dX9_shortestWalk_97 : decode cX9_shortestWalk 97 = .ok (.ireturn, 1) := by decide +kernel
theorem dX9_outputAt_0 : decode cX9_outputAt 0 = .ok (.iload_n 1, 1) := by decide +kernel
theorem dX9_outputAt_1 : decode cX9_outputAt 1 = .ok (.ifCond .lt 20, 3) := by decide +kernel
theorem dX9_outputAt_4 : decode cX9_outputAt 4 = .ok (.iload_n 1, 1) := by decide +kernel
theorem dX9_outputAt_5 : decode cX9_outputAt 5 = .ok (.aload_n 0, 1) := by decide +kernel
theorem dX9_outputAt_6 : decode cX9_outputAt 6 = .ok (.getfield 239, 3) := by decide +kernel
theorem dX9_outputAt_9 : decode cX9_outputAt 9 = .ok (.if_icmp .ge 12, 3) := by decide +kernel
theorem dX9_outputAt_12 : decode cX9_outputAt 12 = .ok (.iload_n 1, 1) := by decide +kernel
theorem dX9_outputAt_13 : decode cX9_outputAt 13 = .ok (.aload_n 0, 1) := by decide +kernel
theorem dX9_outputAt_14 : decode cX9_outputAt 14 = .ok (.getfield 51, 3) := by decide +kernel
theorem dX9_outputAt_17 : decode cX9_outputAt 17 = .ok (.arraylength, 1) := by decide +kernel
theorem dX9_outputAt_18 : decode cX9_outputAt 18 = .ok (.if_icmp .lt 13, 3) := by decide +kernel
theorem dX9_outputAt_21 : decode cX9_outputAt 21 = .ok (.new 144, 3) := by decide +kernel
theorem dX9_outputAt_24 : decode cX9_outputAt 24 = .ok (.dup, 1) := by decide +kernel
theorem dX9_outputAt_25 : decode cX9_outputAt 25 = .ok (.ldc 242, 2) := by decide +kernel
theorem dX9_outputAt_27 : decode cX9_outputAt 27 = .ok (.invokespecial 148, 3) := by decide +kernel
theorem dX9_outputAt_30 : decode cX9_outputAt 30 = .ok (.athrow, 1) := by decide +kernel
theorem dX9_outputAt_31 : decode cX9_outputAt 31 = .ok (.aload_n 0, 1) := by decide +kernel
theorem dX9_outputAt_32 : decode cX9_outputAt 32 = .ok (.getfield 51, 3) := by decide +kernel
theorem dX9_outputAt_35 : decode cX9_outputAt 35 = .ok (.iload_n 1, 1) := by decide +kernel
theorem dX9_outputAt_36 : decode cX9_outputAt 36 = .ok (.caload, 1) := by decide +kernel
theorem dX9_outputAt_37 : decode cX9_outputAt 37 = .ok (.ireturn, 1) := by decide +kernel
theorem dX9_shortestText_0 : decode cX9_shortestText 0 = .ok (.aload_n 0, 1) := by decide +kernel
theorem dX9_shortestText_1 : decode cX9_shortestText 1 = .ok (.getfield 62, 3) := by decide +kernel
theorem dX9_shortestText_4 : decode cX9_shortestText 4 = .ok (.getfield 138, 3) := by decide +kernel
theorem dX9_shortestText_7 : decode cX9_shortestText 7 = .ok (.bipush 40, 2) := by decide +kernel
theorem dX9_shortestText_9 : decode cX9_shortestText 9 = .ok (.if_icmp .le 13, 3) := by decide +kernel
theorem dX9_shortestText_12 : decode cX9_shortestText 12 = .ok (.new 96, 3) := by decide +kernel
theorem dX9_shortestText_15 : decode cX9_shortestText 15 = .ok (.dup, 1) := by decide +kernel
theorem dX9_shortestText_16 : decode cX9_shortestText 16 = .ok (.ldc 244, 2) := by decide +kernel
theorem dX9_shortestText_18 : decode cX9_shortestText 18 = .ok (.invokespecial 100, 3) := by decide +kernel
theorem dX9_shortestText_21 : decode cX9_shortestText 21 = .ok (.athrow, 1) := by decide +kernel
theorem dX9_shortestText_22 : decode cX9_shortestText 22 = .ok (.aload_n 0, 1) := by decide +kernel
theorem dX9_shortestText_23 : decode cX9_shortestText 23 = .ok (.getfield 47, 3) := by decide +kernel
theorem dX9_shortestText_26 : decode cX9_shortestText 26 = .ok (.aload_n 0, 1) := by decide +kernel
theorem dX9_shortestText_27 : decode cX9_shortestText 27 = .ok (.getfield 62, 3) := by decide +kernel
theorem dX9_shortestText_30 : decode cX9_shortestText 30 = .ok (.invokevirtual 246, 3) := by decide +kernel
theorem dX9_shortestText_33 : decode cX9_shortestText 33 = .ok (.ireturn, 1) := by decide +kernel
theorem dX9_called_0 : decode cX9_called 0 = .ok (.iload_n 1, 1) := by decide +kernel
theorem dX9_called_1 : decode cX9_called 1 = .ok (.ifCond .lt 20, 3) := by decide +kernel
theorem dX9_called_4 : decode cX9_called 4 = .ok (.iload_n 1, 1) := by decide +kernel
theorem dX9_called_5 : decode cX9_called 5 = .ok (.aload_n 0, 1) := by decide +kernel
theorem dX9_called_6 : decode cX9_called 6 = .ok (.getfield 62, 3) := by decide +kernel
theorem dX9_called_9 : decode cX9_called 9 = .ok (.getfield 250, 3) := by decide +kernel
theorem dX9_called_12 : decode cX9_called 12 = .ok (.if_icmp .ge 9, 3) := by decide +kernel
theorem dX9_called_15 : decode cX9_called 15 = .ok (.iload_n 1, 1) := by decide +kernel
theorem dX9_called_16 : decode cX9_called 16 = .ok (.bipush 8, 2) := by decide +kernel
theorem dX9_called_18 : decode cX9_called 18 = .ok (.if_icmp .lt 13, 3) := by decide +kernel
theorem dX9_called_21 : decode cX9_called 21 = .ok (.new 144, 3) := by decide +kernel
theorem dX9_called_24 : decode cX9_called 24 = .ok (.dup, 1) := by decide +kernel
theorem dX9_called_25 : decode cX9_called 25 = .ok (.ldc 253, 2) := by decide +kernel
theorem dX9_called_27 : decode cX9_called 27 = .ok (.invokespecial 148, 3) := by decide +kernel
theorem dX9_called_30 : decode cX9_called 30 = .ok (.athrow, 1) := by decide +kernel
theorem dX9_called_31 : decode cX9_called 31 = .ok (.bipush 65, 2) := by decide +kernel
theorem dX9_called_33 : decode cX9_called 33 = .ok (.aload_n 0, 1) := by decide +kernel
theorem dX9_called_34 : decode cX9_called 34 = .ok (.getfield 62, 3) := by decide +kernel
theorem dX9_called_37 : decode cX9_called 37 = .ok (.getfield 255, 3) := by decide +kernel
theorem dX9_called_40 : decode cX9_called 40 = .ok (.iload_n 1, 1) := by decide +kernel
theorem dX9_called_41 : decode cX9_called 41 = .ok (.iaload, 1) := by decide +kernel
theorem dX9_called_42 : decode cX9_called 42 = .ok (.iadd, 1) := by decide +kernel
theorem dX9_called_43 : decode cX9_called 43 = .ok (.i2c, 1) := by decide +kernel
theorem dX9_called_44 : decode cX9_called 44 = .ok (.ireturn, 1) := by decide +kernel
theorem dX9_calls_0 : decode cX9_calls 0 = .ok (.iload_n 1, 1) := by decide +kernel
theorem dX9_calls_1 : decode cX9_calls 1 = .ok (.invokestatic 104, 3) := by decide +kernel
theorem dX9_calls_4 : decode cX9_calls 4 = .ok (.istore_n 2, 1) := by decide +kernel
theorem dX9_calls_5 : decode cX9_calls 5 = .ok (.iload_n 2, 1) := by decide +kernel
theorem dX9_calls_6 : decode cX9_calls 6 = .ok (.ifCond .ge 5, 3) := by decide +kernel
theorem dX9_calls_9 : decode cX9_calls 9 = .ok (.iconst 0, 1) := by decide +kernel
theorem dX9_calls_10 : decode cX9_calls 10 = .ok (.ireturn, 1) := by decide +kernel
theorem dX9_calls_11 : decode cX9_calls 11 = .ok (.aload_n 0, 1) := by decide +kernel
theorem dX9_calls_12 : decode cX9_calls 12 = .ok (.getfield 62, 3) := by decide +kernel
theorem dX9_calls_15 : decode cX9_calls 15 = .ok (.iload_n 2, 1) := by decide +kernel
theorem dX9_calls_16 : decode cX9_calls 16 = .ok (.invokevirtual 258, 3) := by decide +kernel
theorem dX9_calls_19 : decode cX9_calls 19 = .ok (.ireturn, 1) := by decide +kernel
theorem dX9_createTrace_0 : decode cX9_createTrace 0 = .ok (.iload_n 1, 1) := by decide +kernel
theorem dX9_createTrace_1 : decode cX9_createTrace 1 = .ok (.sipush 300, 3) := by decide +kernel
theorem dX9_createTrace_4 : decode cX9_createTrace 4 = .ok (.if_icmp .le 14, 3) := by decide +kernel
theorem dX9_createTrace_7 : decode cX9_createTrace 7 = .ok (.new 73, 3) := by decide +kernel
theorem dX9_createTrace_10 : decode cX9_createTrace 10 = .ok (.dup, 1) := by decide +kernel
theorem dX9_createTrace_11 : decode cX9_createTrace 11 = .ok (.ldc_w 261, 3) := by decide +kernel
theorem dX9_createTrace_14 : decode cX9_createTrace 14 = .ok (.invokespecial 77, 3) := by decide +kernel
theorem dX9_createTrace_17 : decode cX9_createTrace 17 = .ok (.athrow, 1) := by decide +kernel
theorem dX9_createTrace_18 : decode cX9_createTrace 18 = .ok (.iload_n 1, 1) := by decide +kernel
theorem dX9_createTrace_19 : decode cX9_createTrace 19 = .ok (.ifCond .ge 6, 3) := by decide +kernel
theorem dX9_createTrace_22 : decode cX9_createTrace 22 = .ok (.bipush (-14), 2) := by decide +kernel
theorem dX9_createTrace_24 : decode cX9_createTrace 24 = .ok (.ireturn, 1) := by decide +kernel
theorem dX9_createTrace_25 : decode cX9_createTrace 25 = .ok (.aload_n 0, 1) := by decide +kernel
theorem dX9_createTrace_26 : decode cX9_createTrace 26 = .ok (.getfield 55, 3) := by decide +kernel
theorem dX9_createTrace_29 : decode cX9_createTrace 29 = .ok (.iconst (-1), 1) := by decide +kernel
theorem dX9_createTrace_30 : decode cX9_createTrace 30 = .ok (.invokestatic 263, 3) := by decide +kernel
theorem dX9_createTrace_33 : decode cX9_createTrace 33 = .ok (.aload_n 0, 1) := by decide +kernel
theorem dX9_createTrace_34 : decode cX9_createTrace 34 = .ok (.iload_n 1, 1) := by decide +kernel
theorem dX9_createTrace_35 : decode cX9_createTrace 35 = .ok (.putfield 69, 3) := by decide +kernel
theorem dX9_createTrace_38 : decode cX9_createTrace 38 = .ok (.iload_n 1, 1) := by decide +kernel
theorem dX9_createTrace_39 : decode cX9_createTrace 39 = .ok (.ireturn, 1) := by decide +kernel
theorem dX9_traceAt_0 : decode cX9_traceAt 0 = .ok (.aload_n 0, 1) := by decide +kernel
theorem dX9_traceAt_1 : decode cX9_traceAt 1 = .ok (.getfield 69, 3) := by decide +kernel
theorem dX9_traceAt_4 : decode cX9_traceAt 4 = .ok (.bipush (-11), 2) := by decide +kernel
theorem dX9_traceAt_6 : decode cX9_traceAt 6 = .ok (.if_icmp .ne 6, 3) := by decide +kernel
theorem dX9_traceAt_9 : decode cX9_traceAt 9 = .ok (.bipush (-11), 2) := by decide +kernel
theorem dX9_traceAt_11 : decode cX9_traceAt 11 = .ok (.ireturn, 1) := by decide +kernel
theorem dX9_traceAt_12 : decode cX9_traceAt 12 = .ok (.iload_n 1, 1) := by decide +kernel
theorem dX9_traceAt_13 : decode cX9_traceAt 13 = .ok (.ifCond .lt 20, 3) := by decide +kernel
theorem dX9_traceAt_16 : decode cX9_traceAt 16 = .ok (.iload_n 1, 1) := by decide +kernel
theorem dX9_traceAt_17 : decode cX9_traceAt 17 = .ok (.aload_n 0, 1) := by decide +kernel
theorem dX9_traceAt_18 : decode cX9_traceAt 18 = .ok (.getfield 69, 3) := by decide +kernel
theorem dX9_traceAt_21 : decode cX9_traceAt 21 = .ok (.if_icmp .ge 12, 3) := by decide +kernel
theorem dX9_traceAt_24 : decode cX9_traceAt 24 = .ok (.iload_n 1, 1) := by decide +kernel
theorem dX9_traceAt_25 : decode cX9_traceAt 25 = .ok (.aload_n 0, 1) := by decide +kernel
theorem dX9_traceAt_26 : decode cX9_traceAt 26 = .ok (.getfield 55, 3) := by decide +kernel
theorem dX9_traceAt_29 : decode cX9_traceAt 29 = .ok (.arraylength, 1) := by decide +kernel
theorem dX9_traceAt_30 : decode cX9_traceAt 30 = .ok (.if_icmp .lt 6, 3) := by decide +kernel
theorem dX9_traceAt_33 : decode cX9_traceAt 33 = .ok (.bipush (-13), 2) := by decide +kernel
theorem dX9_traceAt_35 : decode cX9_traceAt 35 = .ok (.ireturn, 1) := by decide +kernel
theorem dX9_traceAt_36 : decode cX9_traceAt 36 = .ok (.aload_n 0, 1) := by decide +kernel
theorem dX9_traceAt_37 : decode cX9_traceAt 37 = .ok (.getfield 55, 3) := by decide +kernel
theorem dX9_traceAt_40 : decode cX9_traceAt 40 = .ok (.iload_n 1, 1) := by decide +kernel
theorem dX9_traceAt_41 : decode cX9_traceAt 41 = .ok (.iaload, 1) := by decide +kernel
theorem dX9_traceAt_42 : decode cX9_traceAt 42 = .ok (.ireturn, 1) := by decide +kernel
theorem dX9_saveProcedures_0 : decode cX9_saveProcedures 0 = .ok (.aload_n 0, 1) := by decide +kernel
theorem dX9_saveProcedures_1 : decode cX9_saveProcedures 1 = .ok (.getfield 19, 3) := by decide +kernel
theorem dX9_saveProcedures_4 : decode cX9_saveProcedures 4 = .ok (.invokevirtual 269, 3) := by decide +kernel
theorem dX9_saveProcedures_7 : decode cX9_saveProcedures 7 = .ok (.aload_n 0, 1) := by decide +kernel
theorem dX9_saveProcedures_8 : decode cX9_saveProcedures 8 = .ok (.getfield 19, 3) := by decide +kernel
theorem dX9_saveProcedures_11 : decode cX9_saveProcedures 11 = .ok (.invokevirtual 272, 3) := by decide +kernel
theorem dX9_saveProcedures_14 : decode cX9_saveProcedures 14 = .ok (.ireturn, 1) := by decide +kernel
theorem dX9_restoreProcedures_0 : decode cX9_restoreProcedures 0 = .ok (.aload_n 0, 1) := by decide +kernel
theorem dX9_restoreProcedures_1 : decode cX9_restoreProcedures 1 = .ok (.getfield 19, 3) := by decide +kernel
theorem dX9_restoreProcedures_4 : decode cX9_restoreProcedures 4 = .ok (.invokevirtual 275, 3) := by decide +kernel
theorem dX9_restoreProcedures_7 : decode cX9_restoreProcedures 7 = .ok (.ifCond .ne 14, 3) := by decide +kernel
theorem dX9_restoreProcedures_10 : decode cX9_restoreProcedures 10 = .ok (.new 96, 3) := by decide +kernel
theorem dX9_restoreProcedures_13 : decode cX9_restoreProcedures 13 = .ok (.dup, 1) := by decide +kernel
theorem dX9_restoreProcedures_14 : decode cX9_restoreProcedures 14 = .ok (.ldc_w 278, 3) := by decide +kernel
theorem dX9_restoreProcedures_17 : decode cX9_restoreProcedures 17 = .ok (.invokespecial 100, 3) := by decide +kernel
theorem dX9_restoreProcedures_20 : decode cX9_restoreProcedures 20 = .ok (.athrow, 1) := by decide +kernel
theorem dX9_restoreProcedures_21 : decode cX9_restoreProcedures 21 = .ok (.aload_n 0, 1) := by decide +kernel
theorem dX9_restoreProcedures_22 : decode cX9_restoreProcedures 22 = .ok (.getfield 19, 3) := by decide +kernel
theorem dX9_restoreProcedures_25 : decode cX9_restoreProcedures 25 = .ok (.invokevirtual 272, 3) := by decide +kernel
theorem dX9_restoreProcedures_28 : decode cX9_restoreProcedures 28 = .ok (.ireturn, 1) := by decide +kernel
theorem dX9_fillTrace_0 : decode cX9_fillTrace 0 = .ok (.iconst 0, 1) := by decide +kernel
theorem dX9_fillTrace_1 : decode cX9_fillTrace 1 = .ok (.istore_n 1, 1) := by decide +kernel
theorem dX9_fillTrace_2 : decode cX9_fillTrace 2 = .ok (.iconst 0, 1) := by decide +kernel
theorem dX9_fillTrace_3 : decode cX9_fillTrace 3 = .ok (.istore_n 2, 1) := by decide +kernel
theorem dX9_fillTrace_4 : decode cX9_fillTrace 4 = .ok (.iload_n 2, 1) := by decide +kernel
theorem dX9_fillTrace_5 : decode cX9_fillTrace 5 = .ok (.aload_n 0, 1) := by decide +kernel
theorem dX9_fillTrace_6 : decode cX9_fillTrace 6 = .ok (.getfield 69, 3) := by decide +kernel
theorem dX9_fillTrace_9 : decode cX9_fillTrace 9 = .ok (.if_icmp .ge 60, 3) := by decide +kernel
theorem dX9_fillTrace_12 : decode cX9_fillTrace 12 = .ok (.iload_n 2, 1) := by decide +kernel
theorem dX9_fillTrace_13 : decode cX9_fillTrace 13 = .ok (.aload_n 0, 1) := by decide +kernel
theorem dX9_fillTrace_14 : decode cX9_fillTrace 14 = .ok (.getfield 62, 3) := by decide +kernel
theorem dX9_fillTrace_17 : decode cX9_fillTrace 17 = .ok (.getfield 138, 3) := by decide +kernel
theorem dX9_fillTrace_20 : decode cX9_fillTrace 20 = .ok (.if_icmp .ge 49, 3) := by decide +kernel
theorem dX9_fillTrace_23 : decode cX9_fillTrace 23 = .ok (.iload_n 2, 1) := by decide +kernel
theorem dX9_fillTrace_24 : decode cX9_fillTrace 24 = .ok (.aload_n 0, 1) := by decide +kernel
theorem dX9_fillTrace_25 : decode cX9_fillTrace 25 = .ok (.getfield 55, 3) := by decide +kernel
theorem dX9_fillTrace_28 : decode cX9_fillTrace 28 = .ok (.arraylength, 1) := by decide +kernel
theorem dX9_fillTrace_29 : decode cX9_fillTrace 29 = .ok (.if_icmp .ge 40, 3) := by decide +kernel
theorem dX9_fillTrace_32 : decode cX9_fillTrace 32 = .ok (.iload_n 1, 1) := by decide +kernel
theorem dX9_fillTrace_33 : decode cX9_fillTrace 33 = .ok (.aload_n 0, 1) := by decide +kernel
theorem dX9_fillTrace_34 : decode cX9_fillTrace 34 = .ok (.getfield 62, 3) := by decide +kernel
theorem dX9_fillTrace_37 : decode cX9_fillTrace 37 = .ok (.iload_n 2, 1) := by decide +kernel
theorem dX9_fillTrace_38 : decode cX9_fillTrace 38 = .ok (.invokevirtual 280, 3) := by decide +kernel
theorem dX9_fillTrace_41 : decode cX9_fillTrace 41 = .ok (.iadd, 1) := by decide +kernel
theorem dX9_fillTrace_42 : decode cX9_fillTrace 42 = .ok (.istore_n 1, 1) := by decide +kernel
theorem dX9_fillTrace_43 : decode cX9_fillTrace 43 = .ok (.aload_n 0, 1) := by decide +kernel
theorem dX9_fillTrace_44 : decode cX9_fillTrace 44 = .ok (.getfield 55, 3) := by decide +kernel
theorem dX9_fillTrace_47 : decode cX9_fillTrace 47 = .ok (.iload_n 2, 1) := by decide +kernel
theorem dX9_fillTrace_48 : decode cX9_fillTrace 48 = .ok (.iload_n 1, 1) := by decide +kernel
theorem dX9_fillTrace_49 : decode cX9_fillTrace 49 = .ok (.aload_n 0, 1) := by decide +kernel
theorem dX9_fillTrace_50 : decode cX9_fillTrace 50 = .ok (.getfield 62, 3) := by decide +kernel
theorem dX9_fillTrace_53 : decode cX9_fillTrace 53 = .ok (.getfield 80, 3) := by decide +kernel
theorem dX9_fillTrace_56 : decode cX9_fillTrace 56 = .ok (.getfield 84, 3) := by decide +kernel
theorem dX9_fillTrace_59 : decode cX9_fillTrace 59 = .ok (.invokestatic 174, 3) := by decide +kernel
theorem dX9_fillTrace_62 : decode cX9_fillTrace 62 = .ok (.iastore, 1) := by decide +kernel
theorem dX9_fillTrace_63 : decode cX9_fillTrace 63 = .ok (.iinc 2 1, 3) := by decide +kernel
theorem dX9_fillTrace_66 : decode cX9_fillTrace 66 = .ok (.goto (-62), 3) := by decide +kernel
theorem dX9_fillTrace_69 : decode cX9_fillTrace 69 = .ok (.return_, 1) := by decide +kernel
theorem dX9_gatherCorners_0 : decode cX9_gatherCorners 0 = .ok (.aload_n 0, 1) := by decide +kernel
theorem dX9_gatherCorners_1 : decode cX9_gatherCorners 1 = .ok (.getfield 62, 3) := by decide +kernel
theorem dX9_gatherCorners_4 : decode cX9_gatherCorners 4 = .ok (.invokevirtual 205, 3) := by decide +kernel
theorem dX9_gatherCorners_7 : decode cX9_gatherCorners 7 = .ok (.ifCond .ne 5, 3) := by decide +kernel
theorem dX9_gatherCorners_10 : decode cX9_gatherCorners 10 = .ok (.iconst 0, 1) := by decide +kernel
theorem dX9_gatherCorners_11 : decode cX9_gatherCorners 11 = .ok (.ireturn, 1) := by decide +kernel
theorem dX9_gatherCorners_12 : decode cX9_gatherCorners 12 = .ok (.aload_n 0, 1) := by decide +kernel
theorem dX9_gatherCorners_13 : decode cX9_gatherCorners 13 = .ok (.getfield 33, 3) := by decide +kernel
theorem dX9_gatherCorners_16 : decode cX9_gatherCorners 16 = .ok (.aload_n 0, 1) := by decide +kernel
theorem dX9_gatherCorners_17 : decode cX9_gatherCorners 17 = .ok (.getfield 62, 3) := by decide +kernel
theorem dX9_gatherCorners_20 : decode cX9_gatherCorners 20 = .ok (.getfield 80, 3) := by decide +kernel
theorem dX9_gatherCorners_23 : decode cX9_gatherCorners 23 = .ok (.invokevirtual 210, 3) := by decide +kernel
theorem dX9_gatherCorners_26 : decode cX9_gatherCorners 26 = .ok (.aload_n 0, 1) := by decide +kernel
theorem dX9_gatherCorners_27 : decode cX9_gatherCorners 27 = .ok (.getfield 33, 3) := by decide +kernel
theorem dX9_gatherCorners_30 : decode cX9_gatherCorners 30 = .ok (.getfield 214, 3) := by decide +kernel
theorem dX9_gatherCorners_33 : decode cX9_gatherCorners 33 = .ok (.ifCond .le 7, 3) := by decide +kernel
theorem dX9_gatherCorners_36 : decode cX9_gatherCorners 36 = .ok (.iconst 1, 1) := by decide +kernel
theorem dX9_gatherCorners_37 : decode cX9_gatherCorners 37 = .ok (.goto 4, 3) := by decide +kernel
theorem dX9_gatherCorners_40 : decode cX9_gatherCorners 40 = .ok (.iconst 0, 1) := by decide +kernel
theorem dX9_gatherCorners_41 : decode cX9_gatherCorners 41 = .ok (.ireturn, 1) := by decide +kernel
theorem dX9_nameIndex_0 : decode cX9_nameIndex 0 = .ok (.iload_n 0, 1) := by decide +kernel
theorem dX9_nameIndex_1 : decode cX9_nameIndex 1 = .ok (.bipush 65, 2) := by decide +kernel
theorem dX9_nameIndex_3 : decode cX9_nameIndex 3 = .ok (.if_icmp .lt 16, 3) := by decide +kernel
theorem dX9_nameIndex_6 : decode cX9_nameIndex 6 = .ok (.iload_n 0, 1) := by decide +kernel
theorem dX9_nameIndex_7 : decode cX9_nameIndex 7 = .ok (.bipush 72, 2) := by decide +kernel
theorem dX9_nameIndex_9 : decode cX9_nameIndex 9 = .ok (.if_icmp .gt 10, 3) := by decide +kernel
theorem dX9_nameIndex_12 : decode cX9_nameIndex 12 = .ok (.iload_n 0, 1) := by decide +kernel
theorem dX9_nameIndex_13 : decode cX9_nameIndex 13 = .ok (.bipush 65, 2) := by decide +kernel
theorem dX9_nameIndex_15 : decode cX9_nameIndex 15 = .ok (.isub, 1) := by decide +kernel
theorem dX9_nameIndex_16 : decode cX9_nameIndex 16 = .ok (.goto 4, 3) := by decide +kernel
theorem dX9_nameIndex_19 : decode cX9_nameIndex 19 = .ok (.iconst (-1), 1) := by decide +kernel
theorem dX9_nameIndex_20 : decode cX9_nameIndex 20 = .ok (.ireturn, 1) := by decide +kernel
theorem dX9_wrap_0 : decode cX9_wrap 0 = .ok (.iload_n 1, 1) := by decide +kernel
theorem dX9_wrap_1 : decode cX9_wrap 1 = .ok (.ifCond .le 11, 3) := by decide +kernel
theorem dX9_wrap_4 : decode cX9_wrap 4 = .ok (.iload_n 0, 1) := by decide +kernel
theorem dX9_wrap_5 : decode cX9_wrap 5 = .ok (.iload_n 1, 1) := by decide +kernel
theorem dX9_wrap_6 : decode cX9_wrap 6 = .ok (.invokestatic 283, 3) := by decide +kernel
theorem dX9_wrap_9 : decode cX9_wrap 9 = .ok (.goto 4, 3) := by decide +kernel
theorem dX9_wrap_12 : decode cX9_wrap 12 = .ok (.iconst 0, 1) := by decide +kernel
theorem dX9_wrap_13 : decode cX9_wrap 13 = .ok (.ireturn, 1) := by decide +kernel
theorem dX10_init_0 : decode cX10_init 0 = .ok (.aload_n 0, 1) := by decide +kernel
theorem dX10_init_1 : decode cX10_init 1 = .ok (.invokespecial 1, 3) := by decide +kernel
theorem dX10_init_4 : decode cX10_init 4 = .ok (.aload_n 0, 1) := by decide +kernel
theorem dX10_init_5 : decode cX10_init 5 = .ok (.iconst 4, 1) := by decide +kernel
theorem dX10_init_6 : decode cX10_init 6 = .ok (.putfield 7, 3) := by decide +kernel
theorem dX10_init_9 : decode cX10_init 9 = .ok (.aload_n 0, 1) := by decide +kernel
theorem dX10_init_10 : decode cX10_init 10 = .ok (.sipush 900, 3) := by decide +kernel
theorem dX10_init_13 : decode cX10_init 13 = .ok (.newarray .int, 2) := by decide +kernel
theorem dX10_init_15 : decode cX10_init 15 = .ok (.putfield 13, 3) := by decide +kernel
theorem dX10_init_18 : decode cX10_init 18 = .ok (.aload_n 0, 1) := by decide +kernel
theorem dX10_init_19 : decode cX10_init 19 = .ok (.bipush 9, 2) := by decide +kernel
theorem dX10_init_21 : decode cX10_init 21 = .ok (.newarray .int, 2) := by decide +kernel
theorem dX10_init_23 : decode cX10_init 23 = .ok (.dup, 1) := by decide +kernel
theorem dX10_init_24 : decode cX10_init 24 = .ok (.iconst 0, 1) := by decide +kernel
theorem dX10_init_25 : decode cX10_init 25 = .ok (.iconst (-1), 1) := by decide +kernel
theorem dX10_init_26 : decode cX10_init 26 = .ok (.iastore, 1) := by decide +kernel
theorem dX10_init_27 : decode cX10_init 27 = .ok (.dup, 1) := by decide +kernel
theorem dX10_init_28 : decode cX10_init 28 = .ok (.iconst 1, 1) := by decide +kernel
theorem dX10_init_29 : decode cX10_init 29 = .ok (.iconst (-1), 1) := by decide +kernel
theorem dX10_init_30 : decode cX10_init 30 = .ok (.iastore, 1) := by decide +kernel
theorem dX10_init_31 : decode cX10_init 31 = .ok (.dup, 1) := by decide +kernel
theorem dX10_init_32 : decode cX10_init 32 = .ok (.iconst 2, 1) := by decide +kernel
theorem dX10_init_33 : decode cX10_init 33 = .ok (.iconst (-1), 1) := by decide +kernel
theorem dX10_init_34 : decode cX10_init 34 = .ok (.iastore, 1) := by decide +kernel
theorem dX10_init_35 : decode cX10_init 35 = .ok (.dup, 1) := by decide +kernel
theorem dX10_init_36 : decode cX10_init 36 = .ok (.iconst 3, 1) := by decide +kernel
theorem dX10_init_37 : decode cX10_init 37 = .ok (.iconst (-1), 1) := by decide +kernel
theorem dX10_init_38 : decode cX10_init 38 = .ok (.iastore, 1) := by decide +kernel
theorem dX10_init_39 : decode cX10_init 39 = .ok (.dup, 1) := by decide +kernel
theorem dX10_init_40 : decode cX10_init 40 = .ok (.iconst 4, 1) := by decide +kernel
theorem dX10_init_41 : decode cX10_init 41 = .ok (.iconst (-1), 1) := by decide +kernel
theorem dX10_init_42 : decode cX10_init 42 = .ok (.iastore, 1) := by decide +kernel
theorem dX10_init_43 : decode cX10_init 43 = .ok (.dup, 1) := by decide +kernel
theorem dX10_init_44 : decode cX10_init 44 = .ok (.iconst 5, 1) := by decide +kernel
theorem dX10_init_45 : decode cX10_init 45 = .ok (.iconst (-1), 1) := by decide +kernel
theorem dX10_init_46 : decode cX10_init 46 = .ok (.iastore, 1) := by decide +kernel
theorem dX10_init_47 : decode cX10_init 47 = .ok (.dup, 1) := by decide +kernel
theorem dX10_init_48 : decode cX10_init 48 = .ok (.bipush 6, 2) := by decide +kernel
theorem dX10_init_50 : decode cX10_init 50 = .ok (.iconst (-1), 1) := by decide +kernel
theorem dX10_init_51 : decode cX10_init 51 = .ok (.iastore, 1) := by decide +kernel
theorem dX10_init_52 : decode cX10_init 52 = .ok (.dup, 1) := by decide +kernel
theorem dX10_init_53 : decode cX10_init 53 = .ok (.bipush 7, 2) := by decide +kernel
theorem dX10_init_55 : decode cX10_init 55 = .ok (.iconst (-1), 1) := by decide +kernel
theorem dX10_init_56 : decode cX10_init 56 = .ok (.iastore, 1) := by decide +kernel
theorem dX10_init_57 : decode cX10_init 57 = .ok (.dup, 1) := by decide +kernel
theorem dX10_init_58 : decode cX10_init 58 = .ok (.bipush 8, 2) := by decide +kernel
theorem dX10_init_60 : decode cX10_init 60 = .ok (.iconst 0, 1) := by decide +kernel
theorem dX10_init_61 : decode cX10_init 61 = .ok (.iastore, 1) := by decide +kernel
theorem dX10_init_62 : decode cX10_init 62 = .ok (.putfield 17, 3) := by decide +kernel
theorem dX10_init_65 : decode cX10_init 65 = .ok (.aload_n 0, 1) := by decide +kernel
theorem dX10_init_66 : decode cX10_init 66 = .ok (.sipush 800, 3) := by decide +kernel
theorem dX10_init_69 : decode cX10_init 69 = .ok (.newarray .int, 2) := by decide +kernel
theorem dX10_init_71 : decode cX10_init 71 = .ok (.putfield 20, 3) := by decide +kernel
theorem dX10_init_74 : decode cX10_init 74 = .ok (.aload_n 0, 1) := by decide +kernel
theorem dX10_init_75 : decode cX10_init 75 = .ok (.bipush 8, 2) := by decide +kernel
theorem dX10_init_77 : decode cX10_init 77 = .ok (.newarray .int, 2) := by decide +kernel
theorem dX10_init_79 : decode cX10_init 79 = .ok (.putfield 23, 3) := by decide +kernel
theorem dX10_init_82 : decode cX10_init 82 = .ok (.aload_n 0, 1) := by decide +kernel
theorem dX10_init_83 : decode cX10_init 83 = .ok (.sipush 300, 3) := by decide +kernel
theorem dX10_init_86 : decode cX10_init 86 = .ok (.newarray .int, 2) := by decide +kernel
theorem dX10_init_88 : decode cX10_init 88 = .ok (.putfield 26, 3) := by decide +kernel
theorem dX10_init_91 : decode cX10_init 91 = .ok (.aload_n 0, 1) := by decide +kernel
theorem dX10_init_92 : decode cX10_init 92 = .ok (.sipush 300, 3) := by decide +kernel
theorem dX10_init_95 : decode cX10_init 95 = .ok (.newarray .int, 2) := by decide +kernel
theorem dX10_init_97 : decode cX10_init 97 = .ok (.putfield 29, 3) := by decide +kernel
theorem dX10_init_100 : decode cX10_init 100 = .ok (.aload_n 0, 1) := by decide +kernel
theorem dX10_init_101 : decode cX10_init 101 = .ok (.sipush 1204, 3) := by decide +kernel
theorem dX10_init_104 : decode cX10_init 104 = .ok (.newarray .int, 2) := by decide +kernel
theorem dX10_init_106 : decode cX10_init 106 = .ok (.putfield 32, 3) := by decide +kernel
theorem dX10_init_109 : decode cX10_init 109 = .ok (.aload_n 0, 1) := by decide +kernel
theorem dX10_init_110 : decode cX10_init 110 = .ok (.sipush 300, 3) := by decide +kernel
theorem dX10_init_113 : decode cX10_init 113 = .ok (.newarray .boolean, 2) := by decide +kernel
theorem dX10_init_115 : decode cX10_init 115 = .ok (.putfield 35, 3) := by decide +kernel
theorem dX10_init_118 : decode cX10_init 118 = .ok (.aload_n 0, 1) := by decide +kernel
theorem dX10_init_119 : decode cX10_init 119 = .ok (.sipush 300, 3) := by decide +kernel
theorem dX10_init_122 : decode cX10_init 122 = .ok (.newarray .int, 2) := by decide +kernel
theorem dX10_init_124 : decode cX10_init 124 = .ok (.putfield 39, 3) := by decide +kernel
theorem dX10_init_127 : decode cX10_init 127 = .ok (.aload_n 0, 1) := by decide +kernel
theorem dX10_init_128 : decode cX10_init 128 = .ok (.sipush 300, 3) := by decide +kernel
theorem dX10_init_131 : decode cX10_init 131 = .ok (.newarray .int, 2) := by decide +kernel
theorem dX10_init_133 : decode cX10_init 133 = .ok (.putfield 42, 3) := by decide +kernel
theorem dX10_init_136 : decode cX10_init 136 = .ok (.aload_n 0, 1) := by decide +kernel
theorem dX10_init_137 : decode cX10_init 137 = .ok (.bipush 8, 2) := by decide +kernel
theorem dX10_init_139 : decode cX10_init 139 = .ok (.newarray .int, 2) := by decide +kernel
theorem dX10_init_141 : decode cX10_init 141 = .ok (.putfield 45, 3) := by decide +kernel
theorem dX10_init_144 : decode cX10_init 144 = .ok (.aload_n 0, 1) := by decide +kernel
theorem dX10_init_145 : decode cX10_init 145 = .ok (.bipush 8, 2) := by decide +kernel
theorem dX10_init_147 : decode cX10_init 147 = .ok (.newarray .int, 2) := by decide +kernel
theorem dX10_init_149 : decode cX10_init 149 = .ok (.putfield 48, 3) := by decide +kernel
theorem dX10_init_152 : decode cX10_init 152 = .ok (.aload_n 0, 1) := by decide +kernel
theorem dX10_init_153 : decode cX10_init 153 = .ok (.sipush 300, 3) := by decide +kernel
theorem dX10_init_156 : decode cX10_init 156 = .ok (.newarray .int, 2) := by decide +kernel
theorem dX10_init_158 : decode cX10_init 158 = .ok (.putfield 51, 3) := by decide +kernel
theorem dX10_init_161 : decode cX10_init 161 = .ok (.aload_n 0, 1) := by decide +kernel
theorem dX10_init_162 : decode cX10_init 162 = .ok (.sipush 300, 3) := by decide +kernel
theorem dX10_init_165 : decode cX10_init 165 = .ok (.newarray .int, 2) := by decide +kernel
theorem dX10_init_167 : decode cX10_init 167 = .ok (.putfield 54, 3) := by decide +kernel
theorem dX10_init_170 : decode cX10_init 170 = .ok (.aload_n 0, 1) := by decide +kernel
theorem dX10_init_171 : decode cX10_init 171 = .ok (.sipush 300, 3) := by decide +kernel
theorem dX10_init_174 : decode cX10_init 174 = .ok (.newarray .int, 2) := by decide +kernel
theorem dX10_init_176 : decode cX10_init 176 = .ok (.putfield 57, 3) := by decide +kernel
theorem dX10_init_179 : decode cX10_init 179 = .ok (.aload_n 0, 1) := by decide +kernel
theorem dX10_init_180 : decode cX10_init 180 = .ok (.sipush 1204, 3) := by decide +kernel
theorem dX10_init_183 : decode cX10_init 183 = .ok (.newarray .int, 2) := by decide +kernel
theorem dX10_init_185 : decode cX10_init 185 = .ok (.putfield 60, 3) := by decide +kernel
theorem dX10_init_188 : decode cX10_init 188 = .ok (.aload_n 0, 1) := by decide +kernel
theorem dX10_init_189 : decode cX10_init 189 = .ok (.sipush 300, 3) := by decide +kernel
theorem dX10_init_192 : decode cX10_init 192 = .ok (.newarray .boolean, 2) := by decide +kernel
theorem dX10_init_194 : decode cX10_init 194 = .ok (.putfield 63, 3) := by decide +kernel
theorem dX10_init_197 : decode cX10_init 197 = .ok (.aload_n 0, 1) := by decide +kernel
theorem dX10_init_198 : decode cX10_init 198 = .ok (.sipush 300, 3) := by decide +kernel
theorem dX10_init_201 : decode cX10_init 201 = .ok (.newarray .int, 2) := by decide +kernel
theorem dX10_init_203 : decode cX10_init 203 = .ok (.putfield 66, 3) := by decide +kernel
theorem dX10_init_206 : decode cX10_init 206 = .ok (.aload_n 0, 1) := by decide +kernel
theorem dX10_init_207 : decode cX10_init 207 = .ok (.sipush 300, 3) := by decide +kernel
theorem dX10_init_210 : decode cX10_init 210 = .ok (.newarray .int, 2) := by decide +kernel
theorem dX10_init_212 : decode cX10_init 212 = .ok (.putfield 69, 3) := by decide +kernel
theorem dX10_init_215 : decode cX10_init 215 = .ok (.aload_n 0, 1) := by decide +kernel
theorem dX10_init_216 : decode cX10_init 216 = .ok (.bipush 8, 2) := by decide +kernel
theorem dX10_init_218 : decode cX10_init 218 = .ok (.newarray .int, 2) := by decide +kernel
theorem dX10_init_220 : decode cX10_init 220 = .ok (.putfield 72, 3) := by decide +kernel
theorem dX10_init_223 : decode cX10_init 223 = .ok (.aload_n 0, 1) := by decide +kernel
theorem dX10_init_224 : decode cX10_init 224 = .ok (.bipush 8, 2) := by decide +kernel
theorem dX10_init_226 : decode cX10_init 226 = .ok (.newarray .int, 2) := by decide +kernel
theorem dX10_init_228 : decode cX10_init 228 = .ok (.putfield 75, 3) := by decide +kernel
theorem dX10_init_231 : decode cX10_init 231 = .ok (.aload_n 0, 1) := by decide +kernel
theorem dX10_init_232 : decode cX10_init 232 = .ok (.bipush 8, 2) := by decide +kernel
theorem dX10_init_234 : decode cX10_init 234 = .ok (.newarray .int, 2) := by decide +kernel
theorem dX10_init_236 : decode cX10_init 236 = .ok (.putfield 78, 3) := by decide +kernel
theorem dX10_init_239 : decode cX10_init 239 = .ok (.aload_n 0, 1) := by decide +kernel
theorem dX10_init_240 : decode cX10_init 240 = .ok (.bipush 8, 2) := by decide +kernel
theorem dX10_init_242 : decode cX10_init 242 = .ok (.newarray .int, 2) := by decide +kernel
theorem dX10_init_244 : decode cX10_init 244 = .ok (.putfield 81, 3) := by decide +kernel
theorem dX10_init_247 : decode cX10_init 247 = .ok (.aload_n 0, 1) := by decide +kernel
theorem dX10_init_248 : decode cX10_init 248 = .ok (.iconst (-1), 1) := by decide +kernel
theorem dX10_init_249 : decode cX10_init 249 = .ok (.putfield 84, 3) := by decide +kernel
theorem dX10_init_252 : decode cX10_init 252 = .ok (.aload_n 0, 1) := by decide +kernel
theorem dX10_init_253 : decode cX10_init 253 = .ok (.sipush 300, 3) := by decide +kernel
theorem dX10_init_256 : decode cX10_init 256 = .ok (.newarray .int, 2) := by decide +kernel
theorem dX10_init_258 : decode cX10_init 258 = .ok (.putfield 87, 3) := by decide +kernel
theorem dX10_init_261 : decode cX10_init 261 = .ok (.aload_n 0, 1) := by decide +kernel
theorem dX10_init_262 : decode cX10_init 262 = .ok (.sipush 300, 3) := by decide +kernel
theorem dX10_init_265 : decode cX10_init 265 = .ok (.newarray .int, 2) := by decide +kernel
theorem dX10_init_267 : decode cX10_init 267 = .ok (.putfield 90, 3) := by decide +kernel
theorem dX10_init_270 : decode cX10_init 270 = .ok (.aload_n 0, 1) := by decide +kernel
theorem dX10_init_271 : decode cX10_init 271 = .ok (.sipush 300, 3) := by decide +kernel
theorem dX10_init_274 : decode cX10_init 274 = .ok (.newarray .int, 2) := by decide +kernel
theorem dX10_init_276 : decode cX10_init 276 = .ok (.putfield 93, 3) := by decide +kernel
theorem dX10_init_279 : decode cX10_init 279 = .ok (.aload_n 0, 1) := by decide +kernel
theorem dX10_init_280 : decode cX10_init 280 = .ok (.sipush 1681, 3) := by decide +kernel
theorem dX10_init_283 : decode cX10_init 283 = .ok (.newarray .int, 2) := by decide +kernel
theorem dX10_init_285 : decode cX10_init 285 = .ok (.putfield 96, 3) := by decide +kernel
theorem dX10_init_288 : decode cX10_init 288 = .ok (.return_, 1) := by decide +kernel
theorem dX10_thrown_0 : decode cX10_thrown 0 = .ok (.aload_n 0, 1) := by decide +kernel
theorem dX10_thrown_1 : decode cX10_thrown 1 = .ok (.getfield 99, 3) := by decide +kernel
theorem dX10_thrown_4 : decode cX10_thrown 4 = .ok (.ireturn, 1) := by decide +kernel
theorem dX10_in_0 : decode cX10_in 0 = .ok (.lload_n 0, 1) := by decide +kernel
theorem dX10_in_1 : decode cX10_in 1 = .ok (.lload_n 2, 1) := by decide +kernel
theorem dX10_in_2 : decode cX10_in 2 = .ok (.lcmp, 1) := by decide +kernel
theorem dX10_in_3 : decode cX10_in 3 = .ok (.ifCond .lt 14, 3) := by decide +kernel
theorem dX10_in_6 : decode cX10_in 6 = .ok (.lload_n 0, 1) := by decide +kernel
theorem dX10_in_7 : decode cX10_in 7 = .ok (.lload 4, 2) := by decide +kernel
theorem dX10_in_9 : decode cX10_in 9 = .ok (.lcmp, 1) := by decide +kernel
theorem dX10_in_10 : decode cX10_in 10 = .ok (.ifCond .gt 7, 3) := by decide +kernel
theorem dX10_in_13 : decode cX10_in 13 = .ok (.iconst 1, 1) := by decide +kernel
theorem dX10_in_14 : decode cX10_in 14 = .ok (.goto 4, 3) := by decide +kernel
theorem dX10_in_17 : decode cX10_in 17 = .ok (.iconst 0, 1) := by decide +kernel
theorem dX10_in_18 : decode cX10_in 18 = .ok (.ireturn, 1) := by decide +kernel
theorem dX10_raises_0 : decode cX10_raises 0 = .ok (.aload_n 0, 1) := by decide +kernel
theorem dX10_raises_1 : decode cX10_raises 1 = .ok (.iload_n 1, 1) := by decide +kernel
theorem dX10_raises_2 : decode cX10_raises 2 = .ok (.putfield 99, 3) := by decide +kernel
theorem dX10_raises_5 : decode cX10_raises 5 = .ok (.iconst 0, 1) := by decide +kernel
theorem dX10_raises_6 : decode cX10_raises 6 = .ok (.ireturn, 1) := by decide +kernel
theorem dX10_empties_0 : decode cX10_empties 0 = .ok (.aload_n 0, 1) := by decide +kernel
theorem dX10_empties_1 : decode cX10_empties 1 = .ok (.iconst 0, 1) := by decide +kernel
theorem dX10_empties_2 : decode cX10_empties 2 = .ok (.putfield 109, 3) := by decide +kernel
theorem dX10_empties_5 : decode cX10_empties 5 = .ok (.aload_n 0, 1) := by decide +kernel
theorem dX10_empties_6 : decode cX10_empties 6 = .ok (.iconst 0, 1) := by decide +kernel
theorem dX10_empties_7 : decode cX10_empties 7 = .ok (.putfield 112, 3) := by decide +kernel
theorem dX10_empties_10 : decode cX10_empties 10 = .ok (.aload_n 0, 1) := by decide +kernel
theorem dX10_empties_11 : decode cX10_empties 11 = .ok (.iconst 0, 1) := by decide +kernel
theorem dX10_empties_12 : decode cX10_empties 12 = .ok (.putfield 115, 3) := by decide +kernel
theorem dX10_empties_15 : decode cX10_empties 15 = .ok (.aload_n 0, 1) := by decide +kernel
theorem dX10_empties_16 : decode cX10_empties 16 = .ok (.iconst 0, 1) := by decide +kernel
theorem dX10_empties_17 : decode cX10_empties 17 = .ok (.putfield 118, 3) := by decide +kernel
theorem dX10_empties_20 : decode cX10_empties 20 = .ok (.aload_n 0, 1) := by decide +kernel
theorem dX10_empties_21 : decode cX10_empties 21 = .ok (.iconst 0, 1) := by decide +kernel
theorem dX10_empties_22 : decode cX10_empties 22 = .ok (.putfield 121, 3) := by decide +kernel
theorem dX10_empties_25 : decode cX10_empties 25 = .ok (.iconst 0, 1) := by decide +kernel
theorem dX10_empties_26 : decode cX10_empties 26 = .ok (.istore_n 1, 1) := by decide +kernel
theorem dX10_empties_27 : decode cX10_empties 27 = .ok (.iload_n 1, 1) := by decide +kernel
theorem dX10_empties_28 : decode cX10_empties 28 = .ok (.bipush 8, 2) := by decide +kernel
theorem dX10_empties_30 : decode cX10_empties 30 = .ok (.if_icmp .ge 16, 3) := by decide +kernel
theorem dX10_empties_33 : decode cX10_empties 33 = .ok (.aload_n 0, 1) := by decide +kernel
theorem dX10_empties_34 : decode cX10_empties 34 = .ok (.getfield 48, 3) := by decide +kernel
theorem dX10_empties_37 : decode cX10_empties 37 = .ok (.iload_n 1, 1) := by decide +kernel
theorem dX10_empties_38 : decode cX10_empties 38 = .ok (.iconst 0, 1) := by decide +kernel
theorem dX10_empties_39 : decode cX10_empties 39 = .ok (.iastore, 1) := by decide +kernel
theorem dX10_empties_40 : decode cX10_empties 40 = .ok (.iinc 1 1, 3) := by decide +kernel
theorem dX10_empties_43 : decode cX10_empties 43 = .ok (.goto (-16), 3) := by decide +kernel
theorem dX10_empties_46 : decode cX10_empties 46 = .ok (.iconst 0, 1) := by decide +kernel
theorem dX10_empties_47 : decode cX10_empties 47 = .ok (.istore_n 1, 1) := by decide +kernel
theorem dX10_empties_48 : decode cX10_empties 48 = .ok (.iload_n 1, 1) := by decide +kernel
theorem dX10_empties_49 : decode cX10_empties 49 = .ok (.iconst 4, 1) := by decide +kernel
theorem dX10_empties_50 : decode cX10_empties 50 = .ok (.if_icmp .ge 16, 3) := by decide +kernel
theorem dX10_empties_53 : decode cX10_empties 53 = .ok (.aload_n 0, 1) := by decide +kernel
theorem dX10_empties_54 : decode cX10_empties 54 = .ok (.getfield 32, 3) := by decide +kernel
theorem dX10_empties_57 : decode cX10_empties 57 = .ok (.iload_n 1, 1) := by decide +kernel
theorem dX10_empties_58 : decode cX10_empties 58 = .ok (.iconst 0, 1) := by decide +kernel
theorem dX10_empties_59 : decode cX10_empties 59 = .ok (.iastore, 1) := by decide +kernel
theorem dX10_empties_60 : decode cX10_empties 60 = .ok (.iinc 1 1, 3) := by decide +kernel
theorem dX10_empties_63 : decode cX10_empties 63 = .ok (.goto (-15), 3) := by decide +kernel
theorem dX10_empties_66 : decode cX10_empties 66 = .ok (.return_, 1) := by decide +kernel
theorem dX10_setDirections_0 : decode cX10_setDirections 0 = .ok (.aload_n 0, 1) := by decide +kernel
theorem dX10_setDirections_1 : decode cX10_setDirections 1 = .ok (.iconst 0, 1) := by decide +kernel
theorem dX10_setDirections_2 : decode cX10_setDirections 2 = .ok (.putfield 99, 3) := by decide +kernel
theorem dX10_setDirections_5 : decode cX10_setDirections 5 = .ok (.iload_n 1, 1) := by decide +kernel
theorem dX10_setDirections_6 : decode cX10_setDirections 6 = .ok (.iconst 4, 1) := by decide +kernel
theorem dX10_setDirections_7 : decode cX10_setDirections 7 = .ok (.if_icmp .eq 27, 3) := by decide +kernel
theorem dX10_setDirections_10 : decode cX10_setDirections 10 = .ok (.iload_n 1, 1) := by decide +kernel
theorem dX10_setDirections_11 : decode cX10_setDirections 11 = .ok (.bipush 6, 2) := by decide +kernel
theorem dX10_setDirections_13 : decode cX10_setDirections 13 = .ok (.if_icmp .eq 21, 3) := by decide +kernel
theorem dX10_setDirections_16 : decode cX10_setDirections 16 = .ok (.iload_n 1, 1) := by decide +kernel
theorem dX10_setDirections_17 : decode cX10_setDirections 17 = .ok (.bipush 8, 2) := by decide +kernel
theorem dX10_setDirections_19 : decode cX10_setDirections 19 = .ok (.if_icmp .eq 15, 3) := by decide +kernel
theorem dX10_setDirections_22 : decode cX10_setDirections 22 = .ok (.iload_n 1, 1) := by decide +kernel
theorem dX10_setDirections_23 : decode cX10_setDirections 23 = .ok (.bipush 12, 2) := by decide +kernel
theorem dX10_setDirections_25 : decode cX10_setDirections 25 = .ok (.if_icmp .eq 9, 3) := by decide +kernel
theorem dX10_setDirections_28 : decode cX10_setDirections 28 = .ok (.aload_n 0, 1) := by decide +kernel
theorem dX10_setDirections_29 : decode cX10_setDirections 29 = .ok (.iconst 1, 1) := by decide +kernel
theorem dX10_setDirections_30 : decode cX10_setDirections 30 = .ok (.invokevirtual 124, 3) := by decide +kernel
theorem dX10_setDirections_33 : decode cX10_setDirections 33 = .ok (.ireturn, 1) := by decide +kernel
theorem dX10_setDirections_34 : decode cX10_setDirections 34 = .ok (.aload_n 0, 1) := by decide +kernel
