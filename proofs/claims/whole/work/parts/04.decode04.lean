theorem dX4_write_1 : decode cX4_write 1 = .ok (.iload_n 1, 1) := by decide +kernel
theorem dX4_write_2 : decode cX4_write 2 = .ok (.iload_n 2, 1) := by decide +kernel
theorem dX4_write_3 : decode cX4_write 3 = .ok (.invokevirtual 118, 3) := by decide +kernel
theorem dX4_write_6 : decode cX4_write 6 = .ok (.ifCond .ne 5, 3) := by decide +kernel
theorem dX4_write_9 : decode cX4_write 9 = .ok (.iconst 0, 1) := by decide +kernel
theorem dX4_write_10 : decode cX4_write 10 = .ok (.ireturn, 1) := by decide +kernel
theorem dX4_write_11 : decode cX4_write 11 = .ok (.bipush 24, 2) := by decide +kernel
theorem dX4_write_13 : decode cX4_write 13 = .ok (.iload_n 1, 1) := by decide +kernel
theorem dX4_write_14 : decode cX4_write 14 = .ok (.imul, 1) := by decide +kernel
theorem dX4_write_15 : decode cX4_write 15 = .ok (.iload_n 2, 1) := by decide +kernel
theorem dX4_write_16 : decode cX4_write 16 = .ok (.iadd, 1) := by decide +kernel
theorem dX4_write_17 : decode cX4_write 17 = .ok (.istore 5, 2) := by decide +kernel
theorem dX4_write_19 : decode cX4_write 19 = .ok (.aload_n 0, 1) := by decide +kernel
theorem dX4_write_20 : decode cX4_write 20 = .ok (.iload 5, 2) := by decide +kernel
theorem dX4_write_22 : decode cX4_write 22 = .ok (.iload_n 2, 1) := by decide +kernel
theorem dX4_write_23 : decode cX4_write 23 = .ok (.invokevirtual 121, 3) := by decide +kernel
theorem dX4_write_26 : decode cX4_write 26 = .ok (.aload_n 0, 1) := by decide +kernel
theorem dX4_write_27 : decode cX4_write 27 = .ok (.getfield 24, 3) := by decide +kernel
theorem dX4_write_30 : decode cX4_write 30 = .ok (.iload 5, 2) := by decide +kernel
theorem dX4_write_32 : decode cX4_write 32 = .ok (.iconst 1, 1) := by decide +kernel
theorem dX4_write_33 : decode cX4_write 33 = .ok (.bastore, 1) := by decide +kernel
theorem dX4_write_34 : decode cX4_write 34 = .ok (.aload_n 0, 1) := by decide +kernel
theorem dX4_write_35 : decode cX4_write 35 = .ok (.getfield 30, 3) := by decide +kernel
theorem dX4_write_38 : decode cX4_write 38 = .ok (.iload 5, 2) := by decide +kernel
theorem dX4_write_40 : decode cX4_write 40 = .ok (.lload_n 3, 1) := by decide +kernel
theorem dX4_write_41 : decode cX4_write 41 = .ok (.lastore, 1) := by decide +kernel
theorem dX4_write_42 : decode cX4_write 42 = .ok (.iconst 1, 1) := by decide +kernel
theorem dX4_write_43 : decode cX4_write 43 = .ok (.ireturn, 1) := by decide +kernel
theorem dX4_isConflict_0 : decode cX4_isConflict 0 = .ok (.bipush 24, 2) := by decide +kernel
theorem dX4_isConflict_2 : decode cX4_isConflict 2 = .ok (.iload_n 1, 1) := by decide +kernel
theorem dX4_isConflict_3 : decode cX4_isConflict 3 = .ok (.imul, 1) := by decide +kernel
theorem dX4_isConflict_4 : decode cX4_isConflict 4 = .ok (.iload_n 2, 1) := by decide +kernel
theorem dX4_isConflict_5 : decode cX4_isConflict 5 = .ok (.iadd, 1) := by decide +kernel
theorem dX4_isConflict_6 : decode cX4_isConflict 6 = .ok (.istore_n 3, 1) := by decide +kernel
theorem dX4_isConflict_7 : decode cX4_isConflict 7 = .ok (.aload_n 0, 1) := by decide +kernel
theorem dX4_isConflict_8 : decode cX4_isConflict 8 = .ok (.getfield 21, 3) := by decide +kernel
theorem dX4_isConflict_11 : decode cX4_isConflict 11 = .ok (.iload_n 3, 1) := by decide +kernel
theorem dX4_isConflict_12 : decode cX4_isConflict 12 = .ok (.baload, 1) := by decide +kernel
theorem dX4_isConflict_13 : decode cX4_isConflict 13 = .ok (.ifCond .eq 48, 3) := by decide +kernel
theorem dX4_isConflict_16 : decode cX4_isConflict 16 = .ok (.aload_n 0, 1) := by decide +kernel
theorem dX4_isConflict_17 : decode cX4_isConflict 17 = .ok (.getfield 13, 3) := by decide +kernel
theorem dX4_isConflict_20 : decode cX4_isConflict 20 = .ok (.iload_n 2, 1) := by decide +kernel
theorem dX4_isConflict_21 : decode cX4_isConflict 21 = .ok (.laload, 1) := by decide +kernel
theorem dX4_isConflict_22 : decode cX4_isConflict 22 = .ok (.aload_n 0, 1) := by decide +kernel
theorem dX4_isConflict_23 : decode cX4_isConflict 23 = .ok (.getfield 27, 3) := by decide +kernel
theorem dX4_isConflict_26 : decode cX4_isConflict 26 = .ok (.iload_n 3, 1) := by decide +kernel
theorem dX4_isConflict_27 : decode cX4_isConflict 27 = .ok (.laload, 1) := by decide +kernel
theorem dX4_isConflict_28 : decode cX4_isConflict 28 = .ok (.lcmp, 1) := by decide +kernel
theorem dX4_isConflict_29 : decode cX4_isConflict 29 = .ok (.ifCond .eq 32, 3) := by decide +kernel
theorem dX4_isConflict_32 : decode cX4_isConflict 32 = .ok (.aload_n 0, 1) := by decide +kernel
theorem dX4_isConflict_33 : decode cX4_isConflict 33 = .ok (.getfield 24, 3) := by decide +kernel
theorem dX4_isConflict_36 : decode cX4_isConflict 36 = .ok (.iload_n 3, 1) := by decide +kernel
theorem dX4_isConflict_37 : decode cX4_isConflict 37 = .ok (.baload, 1) := by decide +kernel
theorem dX4_isConflict_38 : decode cX4_isConflict 38 = .ok (.ifCond .eq 19, 3) := by decide +kernel
theorem dX4_isConflict_41 : decode cX4_isConflict 41 = .ok (.aload_n 0, 1) := by decide +kernel
theorem dX4_isConflict_42 : decode cX4_isConflict 42 = .ok (.getfield 13, 3) := by decide +kernel
theorem dX4_isConflict_45 : decode cX4_isConflict 45 = .ok (.iload_n 2, 1) := by decide +kernel
theorem dX4_isConflict_46 : decode cX4_isConflict 46 = .ok (.laload, 1) := by decide +kernel
theorem dX4_isConflict_47 : decode cX4_isConflict 47 = .ok (.aload_n 0, 1) := by decide +kernel
theorem dX4_isConflict_48 : decode cX4_isConflict 48 = .ok (.getfield 30, 3) := by decide +kernel
theorem dX4_isConflict_51 : decode cX4_isConflict 51 = .ok (.iload_n 3, 1) := by decide +kernel
theorem dX4_isConflict_52 : decode cX4_isConflict 52 = .ok (.laload, 1) := by decide +kernel
theorem dX4_isConflict_53 : decode cX4_isConflict 53 = .ok (.lcmp, 1) := by decide +kernel
theorem dX4_isConflict_54 : decode cX4_isConflict 54 = .ok (.ifCond .eq 7, 3) := by decide +kernel
theorem dX4_isConflict_57 : decode cX4_isConflict 57 = .ok (.iconst 1, 1) := by decide +kernel
theorem dX4_isConflict_58 : decode cX4_isConflict 58 = .ok (.goto 4, 3) := by decide +kernel
theorem dX4_isConflict_61 : decode cX4_isConflict 61 = .ok (.iconst 0, 1) := by decide +kernel
theorem dX4_isConflict_62 : decode cX4_isConflict 62 = .ok (.ireturn, 1) := by decide +kernel
theorem dX4_keepConflicts_0 : decode cX4_keepConflicts 0 = .ok (.aload_n 0, 1) := by decide +kernel
theorem dX4_keepConflicts_1 : decode cX4_keepConflicts 1 = .ok (.iconst 0, 1) := by decide +kernel
theorem dX4_keepConflicts_2 : decode cX4_keepConflicts 2 = .ok (.putfield 129, 3) := by decide +kernel
theorem dX4_keepConflicts_5 : decode cX4_keepConflicts 5 = .ok (.aload_n 0, 1) := by decide +kernel
theorem dX4_keepConflicts_6 : decode cX4_keepConflicts 6 = .ok (.iload_n 1, 1) := by decide +kernel
theorem dX4_keepConflicts_7 : decode cX4_keepConflicts 7 = .ok (.putfield 132, 3) := by decide +kernel
theorem dX4_keepConflicts_10 : decode cX4_keepConflicts 10 = .ok (.iconst 0, 1) := by decide +kernel
theorem dX4_keepConflicts_11 : decode cX4_keepConflicts 11 = .ok (.istore_n 2, 1) := by decide +kernel
theorem dX4_keepConflicts_12 : decode cX4_keepConflicts 12 = .ok (.iload_n 2, 1) := by decide +kernel
theorem dX4_keepConflicts_13 : decode cX4_keepConflicts 13 = .ok (.aload_n 0, 1) := by decide +kernel
theorem dX4_keepConflicts_14 : decode cX4_keepConflicts 14 = .ok (.getfield 82, 3) := by decide +kernel
theorem dX4_keepConflicts_17 : decode cX4_keepConflicts 17 = .ok (.if_icmp .ge 82, 3) := by decide +kernel
theorem dX4_keepConflicts_20 : decode cX4_keepConflicts 20 = .ok (.aload_n 0, 1) := by decide +kernel
theorem dX4_keepConflicts_21 : decode cX4_keepConflicts 21 = .ok (.iload_n 1, 1) := by decide +kernel
theorem dX4_keepConflicts_22 : decode cX4_keepConflicts 22 = .ok (.iload_n 2, 1) := by decide +kernel
theorem dX4_keepConflicts_23 : decode cX4_keepConflicts 23 = .ok (.invokevirtual 135, 3) := by decide +kernel
theorem dX4_keepConflicts_26 : decode cX4_keepConflicts 26 = .ok (.ifCond .eq 67, 3) := by decide +kernel
theorem dX4_keepConflicts_29 : decode cX4_keepConflicts 29 = .ok (.aload_n 0, 1) := by decide +kernel
theorem dX4_keepConflicts_30 : decode cX4_keepConflicts 30 = .ok (.getfield 33, 3) := by decide +kernel
theorem dX4_keepConflicts_33 : decode cX4_keepConflicts 33 = .ok (.aload_n 0, 1) := by decide +kernel
theorem dX4_keepConflicts_34 : decode cX4_keepConflicts 34 = .ok (.getfield 129, 3) := by decide +kernel
theorem dX4_keepConflicts_37 : decode cX4_keepConflicts 37 = .ok (.iload_n 2, 1) := by decide +kernel
theorem dX4_keepConflicts_38 : decode cX4_keepConflicts 38 = .ok (.iastore, 1) := by decide +kernel
theorem dX4_keepConflicts_39 : decode cX4_keepConflicts 39 = .ok (.aload_n 0, 1) := by decide +kernel
theorem dX4_keepConflicts_40 : decode cX4_keepConflicts 40 = .ok (.getfield 37, 3) := by decide +kernel
theorem dX4_keepConflicts_43 : decode cX4_keepConflicts 43 = .ok (.aload_n 0, 1) := by decide +kernel
theorem dX4_keepConflicts_44 : decode cX4_keepConflicts 44 = .ok (.getfield 129, 3) := by decide +kernel
theorem dX4_keepConflicts_47 : decode cX4_keepConflicts 47 = .ok (.aload_n 0, 1) := by decide +kernel
theorem dX4_keepConflicts_48 : decode cX4_keepConflicts 48 = .ok (.bipush 24, 2) := by decide +kernel
theorem dX4_keepConflicts_50 : decode cX4_keepConflicts 50 = .ok (.iload_n 1, 1) := by decide +kernel
theorem dX4_keepConflicts_51 : decode cX4_keepConflicts 51 = .ok (.imul, 1) := by decide +kernel
theorem dX4_keepConflicts_52 : decode cX4_keepConflicts 52 = .ok (.iload_n 2, 1) := by decide +kernel
theorem dX4_keepConflicts_53 : decode cX4_keepConflicts 53 = .ok (.iadd, 1) := by decide +kernel
theorem dX4_keepConflicts_54 : decode cX4_keepConflicts 54 = .ok (.invokevirtual 125, 3) := by decide +kernel
theorem dX4_keepConflicts_57 : decode cX4_keepConflicts 57 = .ok (.lastore, 1) := by decide +kernel
theorem dX4_keepConflicts_58 : decode cX4_keepConflicts 58 = .ok (.aload_n 0, 1) := by decide +kernel
theorem dX4_keepConflicts_59 : decode cX4_keepConflicts 59 = .ok (.getfield 40, 3) := by decide +kernel
theorem dX4_keepConflicts_62 : decode cX4_keepConflicts 62 = .ok (.aload_n 0, 1) := by decide +kernel
theorem dX4_keepConflicts_63 : decode cX4_keepConflicts 63 = .ok (.getfield 129, 3) := by decide +kernel
theorem dX4_keepConflicts_66 : decode cX4_keepConflicts 66 = .ok (.aload_n 0, 1) := by decide +kernel
theorem dX4_keepConflicts_67 : decode cX4_keepConflicts 67 = .ok (.getfield 13, 3) := by decide +kernel
theorem dX4_keepConflicts_70 : decode cX4_keepConflicts 70 = .ok (.iload_n 2, 1) := by decide +kernel
theorem dX4_keepConflicts_71 : decode cX4_keepConflicts 71 = .ok (.laload, 1) := by decide +kernel
theorem dX4_keepConflicts_72 : decode cX4_keepConflicts 72 = .ok (.lastore, 1) := by decide +kernel
theorem dX4_keepConflicts_73 : decode cX4_keepConflicts 73 = .ok (.aload_n 0, 1) := by decide +kernel
theorem dX4_keepConflicts_74 : decode cX4_keepConflicts 74 = .ok (.getfield 43, 3) := by decide +kernel
theorem dX4_keepConflicts_77 : decode cX4_keepConflicts 77 = .ok (.aload_n 0, 1) := by decide +kernel
theorem dX4_keepConflicts_78 : decode cX4_keepConflicts 78 = .ok (.getfield 129, 3) := by decide +kernel
theorem dX4_keepConflicts_81 : decode cX4_keepConflicts 81 = .ok (.iconst 0, 1) := by decide +kernel
theorem dX4_keepConflicts_82 : decode cX4_keepConflicts 82 = .ok (.bastore, 1) := by decide +kernel
theorem dX4_keepConflicts_83 : decode cX4_keepConflicts 83 = .ok (.aload_n 0, 1) := by decide +kernel
theorem dX4_keepConflicts_84 : decode cX4_keepConflicts 84 = .ok (.dup, 1) := by decide +kernel
theorem dX4_keepConflicts_85 : decode cX4_keepConflicts 85 = .ok (.getfield 129, 3) := by decide +kernel
theorem dX4_keepConflicts_88 : decode cX4_keepConflicts 88 = .ok (.iconst 1, 1) := by decide +kernel
theorem dX4_keepConflicts_89 : decode cX4_keepConflicts 89 = .ok (.iadd, 1) := by decide +kernel
theorem dX4_keepConflicts_90 : decode cX4_keepConflicts 90 = .ok (.putfield 129, 3) := by decide +kernel
theorem dX4_keepConflicts_93 : decode cX4_keepConflicts 93 = .ok (.iinc 2 1, 3) := by decide +kernel
theorem dX4_keepConflicts_96 : decode cX4_keepConflicts 96 = .ok (.goto (-84), 3) := by decide +kernel
theorem dX4_keepConflicts_99 : decode cX4_keepConflicts 99 = .ok (.return_, 1) := by decide +kernel
theorem dX4_join_0 : decode cX4_join 0 = .ok (.iload_n 1, 1) := by decide +kernel
theorem dX4_join_1 : decode cX4_join 1 = .ok (.ifCond .lt 20, 3) := by decide +kernel
theorem dX4_join_4 : decode cX4_join 4 = .ok (.iload_n 1, 1) := by decide +kernel
theorem dX4_join_5 : decode cX4_join 5 = .ok (.aload_n 0, 1) := by decide +kernel
theorem dX4_join_6 : decode cX4_join 6 = .ok (.getfield 115, 3) := by decide +kernel
theorem dX4_join_9 : decode cX4_join 9 = .ok (.if_icmp .ge 12, 3) := by decide +kernel
theorem dX4_join_12 : decode cX4_join 12 = .ok (.aload_n 0, 1) := by decide +kernel
theorem dX4_join_13 : decode cX4_join 13 = .ok (.getfield 17, 3) := by decide +kernel
theorem dX4_join_16 : decode cX4_join 16 = .ok (.iload_n 1, 1) := by decide +kernel
theorem dX4_join_17 : decode cX4_join 17 = .ok (.baload, 1) := by decide +kernel
theorem dX4_join_18 : decode cX4_join 18 = .ok (.ifCond .ne 6, 3) := by decide +kernel
theorem dX4_join_21 : decode cX4_join 21 = .ok (.bipush (-2), 2) := by decide +kernel
theorem dX4_join_23 : decode cX4_join 23 = .ok (.ireturn, 1) := by decide +kernel
theorem dX4_join_24 : decode cX4_join 24 = .ok (.iconst 0, 1) := by decide +kernel
theorem dX4_join_25 : decode cX4_join 25 = .ok (.istore_n 3, 1) := by decide +kernel
theorem dX4_join_26 : decode cX4_join 26 = .ok (.iload_n 2, 1) := by decide +kernel
theorem dX4_join_27 : decode cX4_join 27 = .ok (.istore 4, 2) := by decide +kernel
theorem dX4_join_29 : decode cX4_join 29 = .ok (.iconst 0, 1) := by decide +kernel
theorem dX4_join_30 : decode cX4_join 30 = .ok (.istore 5, 2) := by decide +kernel
theorem dX4_join_32 : decode cX4_join 32 = .ok (.iload 5, 2) := by decide +kernel
theorem dX4_join_34 : decode cX4_join 34 = .ok (.aload_n 0, 1) := by decide +kernel
theorem dX4_join_35 : decode cX4_join 35 = .ok (.getfield 82, 3) := by decide +kernel
theorem dX4_join_38 : decode cX4_join 38 = .ok (.if_icmp .ge 86, 3) := by decide +kernel
theorem dX4_join_41 : decode cX4_join 41 = .ok (.bipush 24, 2) := by decide +kernel
theorem dX4_join_43 : decode cX4_join 43 = .ok (.iload_n 1, 1) := by decide +kernel
theorem dX4_join_44 : decode cX4_join 44 = .ok (.imul, 1) := by decide +kernel
theorem dX4_join_45 : decode cX4_join 45 = .ok (.iload 5, 2) := by decide +kernel
theorem dX4_join_47 : decode cX4_join 47 = .ok (.iadd, 1) := by decide +kernel
theorem dX4_join_48 : decode cX4_join 48 = .ok (.istore 6, 2) := by decide +kernel
theorem dX4_join_50 : decode cX4_join 50 = .ok (.aload_n 0, 1) := by decide +kernel
theorem dX4_join_51 : decode cX4_join 51 = .ok (.iload_n 1, 1) := by decide +kernel
theorem dX4_join_52 : decode cX4_join 52 = .ok (.iload 5, 2) := by decide +kernel
theorem dX4_join_54 : decode cX4_join 54 = .ok (.invokevirtual 135, 3) := by decide +kernel
theorem dX4_join_57 : decode cX4_join 57 = .ok (.ifCond .eq 9, 3) := by decide +kernel
theorem dX4_join_60 : decode cX4_join 60 = .ok (.iload_n 3, 1) := by decide +kernel
theorem dX4_join_61 : decode cX4_join 61 = .ok (.iconst 1, 1) := by decide +kernel
theorem dX4_join_62 : decode cX4_join 62 = .ok (.iadd, 1) := by decide +kernel
theorem dX4_join_63 : decode cX4_join 63 = .ok (.goto 4, 3) := by decide +kernel
theorem dX4_join_66 : decode cX4_join 66 = .ok (.iload_n 3, 1) := by decide +kernel
theorem dX4_join_67 : decode cX4_join 67 = .ok (.istore_n 3, 1) := by decide +kernel
theorem dX4_join_68 : decode cX4_join 68 = .ok (.iload 4, 2) := by decide +kernel
theorem dX4_join_70 : decode cX4_join 70 = .ok (.ifCond .ne 41, 3) := by decide +kernel
theorem dX4_join_73 : decode cX4_join 73 = .ok (.aload_n 0, 1) := by decide +kernel
theorem dX4_join_74 : decode cX4_join 74 = .ok (.getfield 24, 3) := by decide +kernel
theorem dX4_join_77 : decode cX4_join 77 = .ok (.iload 6, 2) := by decide +kernel
theorem dX4_join_79 : decode cX4_join 79 = .ok (.baload, 1) := by decide +kernel
theorem dX4_join_80 : decode cX4_join 80 = .ok (.ifCond .eq 35, 3) := by decide +kernel
theorem dX4_join_83 : decode cX4_join 83 = .ok (.aload_n 0, 1) := by decide +kernel
theorem dX4_join_84 : decode cX4_join 84 = .ok (.getfield 30, 3) := by decide +kernel
theorem dX4_join_87 : decode cX4_join 87 = .ok (.iload 6, 2) := by decide +kernel
theorem dX4_join_89 : decode cX4_join 89 = .ok (.laload, 1) := by decide +kernel
theorem dX4_join_90 : decode cX4_join 90 = .ok (.ldc2_w 138, 3) := by decide +kernel
theorem dX4_join_93 : decode cX4_join 93 = .ok (.lcmp, 1) := by decide +kernel
theorem dX4_join_94 : decode cX4_join 94 = .ok (.ifCond .gt 17, 3) := by decide +kernel
theorem dX4_join_97 : decode cX4_join 97 = .ok (.aload_n 0, 1) := by decide +kernel
theorem dX4_join_98 : decode cX4_join 98 = .ok (.getfield 30, 3) := by decide +kernel
theorem dX4_join_101 : decode cX4_join 101 = .ok (.iload 6, 2) := by decide +kernel
theorem dX4_join_103 : decode cX4_join 103 = .ok (.laload, 1) := by decide +kernel
theorem dX4_join_104 : decode cX4_join 104 = .ok (.ldc2_w 140, 3) := by decide +kernel
theorem dX4_join_107 : decode cX4_join 107 = .ok (.lcmp, 1) := by decide +kernel
theorem dX4_join_108 : decode cX4_join 108 = .ok (.ifCond .ge 7, 3) := by decide +kernel
theorem dX4_join_111 : decode cX4_join 111 = .ok (.iconst 1, 1) := by decide +kernel
theorem dX4_join_112 : decode cX4_join 112 = .ok (.goto 4, 3) := by decide +kernel
theorem dX4_join_115 : decode cX4_join 115 = .ok (.iconst 0, 1) := by decide +kernel
theorem dX4_join_116 : decode cX4_join 116 = .ok (.istore 4, 2) := by decide +kernel
theorem dX4_join_118 : decode cX4_join 118 = .ok (.iinc 5 1, 3) := by decide +kernel
theorem dX4_join_121 : decode cX4_join 121 = .ok (.goto (-89), 3) := by decide +kernel
theorem dX4_join_124 : decode cX4_join 124 = .ok (.iload_n 3, 1) := by decide +kernel
theorem dX4_join_125 : decode cX4_join 125 = .ok (.ifCond .le 10, 3) := by decide +kernel
theorem dX4_join_128 : decode cX4_join 128 = .ok (.aload_n 0, 1) := by decide +kernel
theorem dX4_join_129 : decode cX4_join 129 = .ok (.iload_n 1, 1) := by decide +kernel
theorem dX4_join_130 : decode cX4_join 130 = .ok (.invokevirtual 142, 3) := by decide +kernel
theorem dX4_join_133 : decode cX4_join 133 = .ok (.iload_n 3, 1) := by decide +kernel
theorem dX4_join_134 : decode cX4_join 134 = .ok (.ireturn, 1) := by decide +kernel
theorem dX4_join_135 : decode cX4_join 135 = .ok (.iload 4, 2) := by decide +kernel
theorem dX4_join_137 : decode cX4_join 137 = .ok (.ifCond .eq 5, 3) := by decide +kernel
theorem dX4_join_140 : decode cX4_join 140 = .ok (.iconst (-1), 1) := by decide +kernel
theorem dX4_join_141 : decode cX4_join 141 = .ok (.ireturn, 1) := by decide +kernel
theorem dX4_join_142 : decode cX4_join 142 = .ok (.iconst 0, 1) := by decide +kernel
theorem dX4_join_143 : decode cX4_join 143 = .ok (.istore 5, 2) := by decide +kernel
theorem dX4_join_145 : decode cX4_join 145 = .ok (.iload 5, 2) := by decide +kernel
theorem dX4_join_147 : decode cX4_join 147 = .ok (.aload_n 0, 1) := by decide +kernel
theorem dX4_join_148 : decode cX4_join 148 = .ok (.getfield 82, 3) := by decide +kernel
theorem dX4_join_151 : decode cX4_join 151 = .ok (.if_icmp .ge 52, 3) := by decide +kernel
theorem dX4_join_154 : decode cX4_join 154 = .ok (.bipush 24, 2) := by decide +kernel
theorem dX4_join_156 : decode cX4_join 156 = .ok (.iload_n 1, 1) := by decide +kernel
theorem dX4_join_157 : decode cX4_join 157 = .ok (.imul, 1) := by decide +kernel
theorem dX4_join_158 : decode cX4_join 158 = .ok (.iload 5, 2) := by decide +kernel
theorem dX4_join_160 : decode cX4_join 160 = .ok (.iadd, 1) := by decide +kernel
theorem dX4_join_161 : decode cX4_join 161 = .ok (.istore 6, 2) := by decide +kernel
theorem dX4_join_163 : decode cX4_join 163 = .ok (.aload_n 0, 1) := by decide +kernel
theorem dX4_join_164 : decode cX4_join 164 = .ok (.getfield 13, 3) := by decide +kernel
theorem dX4_join_167 : decode cX4_join 167 = .ok (.iload 5, 2) := by decide +kernel
theorem dX4_join_169 : decode cX4_join 169 = .ok (.aload_n 0, 1) := by decide +kernel
theorem dX4_join_170 : decode cX4_join 170 = .ok (.getfield 24, 3) := by decide +kernel
theorem dX4_join_173 : decode cX4_join 173 = .ok (.iload 6, 2) := by decide +kernel
theorem dX4_join_175 : decode cX4_join 175 = .ok (.baload, 1) := by decide +kernel
theorem dX4_join_176 : decode cX4_join 176 = .ok (.ifCond .eq 13, 3) := by decide +kernel
theorem dX4_join_179 : decode cX4_join 179 = .ok (.aload_n 0, 1) := by decide +kernel
theorem dX4_join_180 : decode cX4_join 180 = .ok (.getfield 30, 3) := by decide +kernel
theorem dX4_join_183 : decode cX4_join 183 = .ok (.iload 6, 2) := by decide +kernel
theorem dX4_join_185 : decode cX4_join 185 = .ok (.laload, 1) := by decide +kernel
theorem dX4_join_186 : decode cX4_join 186 = .ok (.goto 10, 3) := by decide +kernel
theorem dX4_join_189 : decode cX4_join 189 = .ok (.aload_n 0, 1) := by decide +kernel
theorem dX4_join_190 : decode cX4_join 190 = .ok (.getfield 13, 3) := by decide +kernel
theorem dX4_join_193 : decode cX4_join 193 = .ok (.iload 5, 2) := by decide +kernel
theorem dX4_join_195 : decode cX4_join 195 = .ok (.laload, 1) := by decide +kernel
theorem dX4_join_196 : decode cX4_join 196 = .ok (.lastore, 1) := by decide +kernel
theorem dX4_join_197 : decode cX4_join 197 = .ok (.iinc 5 1, 3) := by decide +kernel
theorem dX4_join_200 : decode cX4_join 200 = .ok (.goto (-55), 3) := by decide +kernel
theorem dX4_join_203 : decode cX4_join 203 = .ok (.aload_n 0, 1) := by decide +kernel
theorem dX4_join_204 : decode cX4_join 204 = .ok (.getfield 17, 3) := by decide +kernel
theorem dX4_join_207 : decode cX4_join 207 = .ok (.iload_n 1, 1) := by decide +kernel
theorem dX4_join_208 : decode cX4_join 208 = .ok (.iconst 0, 1) := by decide +kernel
theorem dX4_join_209 : decode cX4_join 209 = .ok (.bastore, 1) := by decide +kernel
theorem dX4_join_210 : decode cX4_join 210 = .ok (.iconst 0, 1) := by decide +kernel
theorem dX4_join_211 : decode cX4_join 211 = .ok (.ireturn, 1) := by decide +kernel
theorem dX4_conflict_0 : decode cX4_conflict 0 = .ok (.iload_n 1, 1) := by decide +kernel
theorem dX4_conflict_1 : decode cX4_conflict 1 = .ok (.ifCond .lt 11, 3) := by decide +kernel
theorem dX4_conflict_4 : decode cX4_conflict 4 = .ok (.iload_n 1, 1) := by decide +kernel
theorem dX4_conflict_5 : decode cX4_conflict 5 = .ok (.aload_n 0, 1) := by decide +kernel
theorem dX4_conflict_6 : decode cX4_conflict 6 = .ok (.getfield 129, 3) := by decide +kernel
theorem dX4_conflict_9 : decode cX4_conflict 9 = .ok (.if_icmp .lt 7, 3) := by decide +kernel
theorem dX4_conflict_12 : decode cX4_conflict 12 = .ok (.ldc2_w 146, 3) := by decide +kernel
theorem dX4_conflict_15 : decode cX4_conflict 15 = .ok (.lreturn, 1) := by decide +kernel
theorem dX4_conflict_16 : decode cX4_conflict 16 = .ok (.iload_n 2, 1) := by decide +kernel
theorem dX4_conflict_17 : decode cX4_conflict 17 = .ok (.ifCond .ne 13, 3) := by decide +kernel
theorem dX4_conflict_20 : decode cX4_conflict 20 = .ok (.aload_n 0, 1) := by decide +kernel
theorem dX4_conflict_21 : decode cX4_conflict 21 = .ok (.getfield 33, 3) := by decide +kernel
theorem dX4_conflict_24 : decode cX4_conflict 24 = .ok (.iload_n 1, 1) := by decide +kernel
theorem dX4_conflict_25 : decode cX4_conflict 25 = .ok (.iaload, 1) := by decide +kernel
theorem dX4_conflict_26 : decode cX4_conflict 26 = .ok (.i2l, 1) := by decide +kernel
theorem dX4_conflict_27 : decode cX4_conflict 27 = .ok (.goto 34, 3) := by decide +kernel
theorem dX4_conflict_30 : decode cX4_conflict 30 = .ok (.iload_n 2, 1) := by decide +kernel
theorem dX4_conflict_31 : decode cX4_conflict 31 = .ok (.iconst 1, 1) := by decide +kernel
theorem dX4_conflict_32 : decode cX4_conflict 32 = .ok (.if_icmp .ne 12, 3) := by decide +kernel
theorem dX4_conflict_35 : decode cX4_conflict 35 = .ok (.aload_n 0, 1) := by decide +kernel
theorem dX4_conflict_36 : decode cX4_conflict 36 = .ok (.getfield 37, 3) := by decide +kernel
theorem dX4_conflict_39 : decode cX4_conflict 39 = .ok (.iload_n 1, 1) := by decide +kernel
theorem dX4_conflict_40 : decode cX4_conflict 40 = .ok (.laload, 1) := by decide +kernel
theorem dX4_conflict_41 : decode cX4_conflict 41 = .ok (.goto 20, 3) := by decide +kernel
theorem dX4_conflict_44 : decode cX4_conflict 44 = .ok (.iload_n 2, 1) := by decide +kernel
theorem dX4_conflict_45 : decode cX4_conflict 45 = .ok (.iconst 2, 1) := by decide +kernel
theorem dX4_conflict_46 : decode cX4_conflict 46 = .ok (.if_icmp .ne 12, 3) := by decide +kernel
theorem dX4_conflict_49 : decode cX4_conflict 49 = .ok (.aload_n 0, 1) := by decide +kernel
theorem dX4_conflict_50 : decode cX4_conflict 50 = .ok (.getfield 40, 3) := by decide +kernel
theorem dX4_conflict_53 : decode cX4_conflict 53 = .ok (.iload_n 1, 1) := by decide +kernel
theorem dX4_conflict_54 : decode cX4_conflict 54 = .ok (.laload, 1) := by decide +kernel
theorem dX4_conflict_55 : decode cX4_conflict 55 = .ok (.goto 6, 3) := by decide +kernel
theorem dX4_conflict_58 : decode cX4_conflict 58 = .ok (.ldc2_w 148, 3) := by decide +kernel
theorem dX4_conflict_61 : decode cX4_conflict 61 = .ok (.lreturn, 1) := by decide +kernel
theorem dX4_settle_0 : decode cX4_settle 0 = .ok (.iload_n 1, 1) := by decide +kernel
theorem dX4_settle_1 : decode cX4_settle 1 = .ok (.ifCond .lt 41, 3) := by decide +kernel
theorem dX4_settle_4 : decode cX4_settle 4 = .ok (.iload_n 1, 1) := by decide +kernel
theorem dX4_settle_5 : decode cX4_settle 5 = .ok (.aload_n 0, 1) := by decide +kernel
theorem dX4_settle_6 : decode cX4_settle 6 = .ok (.getfield 129, 3) := by decide +kernel
theorem dX4_settle_9 : decode cX4_settle 9 = .ok (.if_icmp .ge 33, 3) := by decide +kernel
theorem dX4_settle_12 : decode cX4_settle 12 = .ok (.iload_n 2, 1) := by decide +kernel
theorem dX4_settle_13 : decode cX4_settle 13 = .ok (.ifCond .lt 29, 3) := by decide +kernel
theorem dX4_settle_16 : decode cX4_settle 16 = .ok (.iload_n 2, 1) := by decide +kernel
theorem dX4_settle_17 : decode cX4_settle 17 = .ok (.iconst 1, 1) := by decide +kernel
theorem dX4_settle_18 : decode cX4_settle 18 = .ok (.if_icmp .gt 24, 3) := by decide +kernel
theorem dX4_settle_21 : decode cX4_settle 21 = .ok (.aload_n 0, 1) := by decide +kernel
theorem dX4_settle_22 : decode cX4_settle 22 = .ok (.getfield 43, 3) := by decide +kernel
theorem dX4_settle_25 : decode cX4_settle 25 = .ok (.iload_n 1, 1) := by decide +kernel
theorem dX4_settle_26 : decode cX4_settle 26 = .ok (.baload, 1) := by decide +kernel
theorem dX4_settle_27 : decode cX4_settle 27 = .ok (.ifCond .ne 15, 3) := by decide +kernel
theorem dX4_settle_30 : decode cX4_settle 30 = .ok (.aload_n 0, 1) := by decide +kernel
theorem dX4_settle_31 : decode cX4_settle 31 = .ok (.getfield 17, 3) := by decide +kernel
theorem dX4_settle_34 : decode cX4_settle 34 = .ok (.aload_n 0, 1) := by decide +kernel
theorem dX4_settle_35 : decode cX4_settle 35 = .ok (.getfield 132, 3) := by decide +kernel
theorem dX4_settle_38 : decode cX4_settle 38 = .ok (.baload, 1) := by decide +kernel
theorem dX4_settle_39 : decode cX4_settle 39 = .ok (.ifCond .ne 5, 3) := by decide +kernel
theorem dX4_settle_42 : decode cX4_settle 42 = .ok (.iconst 0, 1) := by decide +kernel
theorem dX4_settle_43 : decode cX4_settle 43 = .ok (.ireturn, 1) := by decide +kernel
theorem dX4_settle_44 : decode cX4_settle 44 = .ok (.bipush 24, 2) := by decide +kernel
theorem dX4_settle_46 : decode cX4_settle 46 = .ok (.aload_n 0, 1) := by decide +kernel
theorem dX4_settle_47 : decode cX4_settle 47 = .ok (.getfield 132, 3) := by decide +kernel
theorem dX4_settle_50 : decode cX4_settle 50 = .ok (.imul, 1) := by decide +kernel
theorem dX4_settle_51 : decode cX4_settle 51 = .ok (.aload_n 0, 1) := by decide +kernel
theorem dX4_settle_52 : decode cX4_settle 52 = .ok (.getfield 33, 3) := by decide +kernel
theorem dX4_settle_55 : decode cX4_settle 55 = .ok (.iload_n 1, 1) := by decide +kernel
theorem dX4_settle_56 : decode cX4_settle 56 = .ok (.iaload, 1) := by decide +kernel
theorem dX4_settle_57 : decode cX4_settle 57 = .ok (.iadd, 1) := by decide +kernel
theorem dX4_settle_58 : decode cX4_settle 58 = .ok (.istore_n 3, 1) := by decide +kernel
theorem dX4_settle_59 : decode cX4_settle 59 = .ok (.aload_n 0, 1) := by decide +kernel
theorem dX4_settle_60 : decode cX4_settle 60 = .ok (.getfield 43, 3) := by decide +kernel
theorem dX4_settle_63 : decode cX4_settle 63 = .ok (.iload_n 1, 1) := by decide +kernel
theorem dX4_settle_64 : decode cX4_settle 64 = .ok (.iconst 1, 1) := by decide +kernel
theorem dX4_settle_65 : decode cX4_settle 65 = .ok (.bastore, 1) := by decide +kernel
theorem dX4_settle_66 : decode cX4_settle 66 = .ok (.aload_n 0, 1) := by decide +kernel
theorem dX4_settle_67 : decode cX4_settle 67 = .ok (.getfield 27, 3) := by decide +kernel
theorem dX4_settle_70 : decode cX4_settle 70 = .ok (.iload_n 3, 1) := by decide +kernel
theorem dX4_settle_71 : decode cX4_settle 71 = .ok (.aload_n 0, 1) := by decide +kernel
theorem dX4_settle_72 : decode cX4_settle 72 = .ok (.getfield 40, 3) := by decide +kernel
theorem dX4_settle_75 : decode cX4_settle 75 = .ok (.iload_n 1, 1) := by decide +kernel
theorem dX4_settle_76 : decode cX4_settle 76 = .ok (.laload, 1) := by decide +kernel
theorem dX4_settle_77 : decode cX4_settle 77 = .ok (.lastore, 1) := by decide +kernel
theorem dX4_settle_78 : decode cX4_settle 78 = .ok (.aload_n 0, 1) := by decide +kernel
theorem dX4_settle_79 : decode cX4_settle 79 = .ok (.getfield 24, 3) := by decide +kernel
theorem dX4_settle_82 : decode cX4_settle 82 = .ok (.iload_n 3, 1) := by decide +kernel
theorem dX4_settle_83 : decode cX4_settle 83 = .ok (.aload_n 0, 1) := by decide +kernel
theorem dX4_settle_84 : decode cX4_settle 84 = .ok (.getfield 24, 3) := by decide +kernel
theorem dX4_settle_87 : decode cX4_settle 87 = .ok (.iload_n 3, 1) := by decide +kernel
theorem dX4_settle_88 : decode cX4_settle 88 = .ok (.baload, 1) := by decide +kernel
theorem dX4_settle_89 : decode cX4_settle 89 = .ok (.ifCond .eq 11, 3) := by decide +kernel
theorem dX4_settle_92 : decode cX4_settle 92 = .ok (.iload_n 2, 1) := by decide +kernel
theorem dX4_settle_93 : decode cX4_settle 93 = .ok (.ifCond .ne 7, 3) := by decide +kernel
theorem dX4_settle_96 : decode cX4_settle 96 = .ok (.iconst 1, 1) := by decide +kernel
theorem dX4_settle_97 : decode cX4_settle 97 = .ok (.goto 4, 3) := by decide +kernel
theorem dX4_settle_100 : decode cX4_settle 100 = .ok (.iconst 0, 1) := by decide +kernel
theorem dX4_settle_101 : decode cX4_settle 101 = .ok (.bastore, 1) := by decide +kernel
theorem dX4_settle_102 : decode cX4_settle 102 = .ok (.iconst 1, 1) := by decide +kernel
theorem dX4_settle_103 : decode cX4_settle 103 = .ok (.ireturn, 1) := by decide +kernel
theorem dX4_isOff_0 : decode cX4_isOff 0 = .ok (.aload_n 0, 1) := by decide +kernel
theorem dX4_isOff_1 : decode cX4_isOff 1 = .ok (.getfield 61, 3) := by decide +kernel
theorem dX4_isOff_4 : decode cX4_isOff 4 = .ok (.iload_n 1, 1) := by decide +kernel
theorem dX4_isOff_5 : decode cX4_isOff 5 = .ok (.baload, 1) := by decide +kernel
theorem dX4_isOff_6 : decode cX4_isOff 6 = .ok (.ifCond .eq 33, 3) := by decide +kernel
theorem dX4_isOff_9 : decode cX4_isOff 9 = .ok (.aload_n 0, 1) := by decide +kernel
theorem dX4_isOff_10 : decode cX4_isOff 10 = .ok (.getfield 64, 3) := by decide +kernel
theorem dX4_isOff_13 : decode cX4_isOff 13 = .ok (.iload_n 1, 1) := by decide +kernel
theorem dX4_isOff_14 : decode cX4_isOff 14 = .ok (.iaload, 1) := by decide +kernel
theorem dX4_isOff_15 : decode cX4_isOff 15 = .ok (.aload_n 0, 1) := by decide +kernel
theorem dX4_isOff_16 : decode cX4_isOff 16 = .ok (.getfield 52, 3) := by decide +kernel
theorem dX4_isOff_19 : decode cX4_isOff 19 = .ok (.iload_n 1, 1) := by decide +kernel
theorem dX4_isOff_20 : decode cX4_isOff 20 = .ok (.iaload, 1) := by decide +kernel
theorem dX4_isOff_21 : decode cX4_isOff 21 = .ok (.if_icmp .ne 18, 3) := by decide +kernel
theorem dX4_isOff_24 : decode cX4_isOff 24 = .ok (.aload_n 0, 1) := by decide +kernel
theorem dX4_isOff_25 : decode cX4_isOff 25 = .ok (.getfield 67, 3) := by decide +kernel
theorem dX4_isOff_28 : decode cX4_isOff 28 = .ok (.iload_n 1, 1) := by decide +kernel
theorem dX4_isOff_29 : decode cX4_isOff 29 = .ok (.iaload, 1) := by decide +kernel
theorem dX4_isOff_30 : decode cX4_isOff 30 = .ok (.aload_n 0, 1) := by decide +kernel
theorem dX4_isOff_31 : decode cX4_isOff 31 = .ok (.getfield 58, 3) := by decide +kernel
theorem dX4_isOff_34 : decode cX4_isOff 34 = .ok (.iload_n 1, 1) := by decide +kernel
theorem dX4_isOff_35 : decode cX4_isOff 35 = .ok (.iaload, 1) := by decide +kernel
theorem dX4_isOff_36 : decode cX4_isOff 36 = .ok (.if_icmp .eq 7, 3) := by decide +kernel
theorem dX4_isOff_39 : decode cX4_isOff 39 = .ok (.iconst 1, 1) := by decide +kernel
theorem dX4_isOff_40 : decode cX4_isOff 40 = .ok (.goto 4, 3) := by decide +kernel
theorem dX4_isOff_43 : decode cX4_isOff 43 = .ok (.iconst 0, 1) := by decide +kernel
theorem dX4_isOff_44 : decode cX4_isOff 44 = .ok (.istore_n 2, 1) := by decide +kernel
theorem dX4_isOff_45 : decode cX4_isOff 45 = .ok (.iconst 0, 1) := by decide +kernel
theorem dX4_isOff_46 : decode cX4_isOff 46 = .ok (.istore_n 3, 1) := by decide +kernel
theorem dX4_isOff_47 : decode cX4_isOff 47 = .ok (.iload_n 3, 1) := by decide +kernel
theorem dX4_isOff_48 : decode cX4_isOff 48 = .ok (.aload_n 0, 1) := by decide +kernel
theorem dX4_isOff_49 : decode cX4_isOff 49 = .ok (.getfield 52, 3) := by decide +kernel
theorem dX4_isOff_52 : decode cX4_isOff 52 = .ok (.iload_n 1, 1) := by decide +kernel
theorem dX4_isOff_53 : decode cX4_isOff 53 = .ok (.iaload, 1) := by decide +kernel
theorem dX4_isOff_54 : decode cX4_isOff 54 = .ok (.if_icmp .ge 50, 3) := by decide +kernel
theorem dX4_isOff_57 : decode cX4_isOff 57 = .ok (.iload_n 2, 1) := by decide +kernel
theorem dX4_isOff_58 : decode cX4_isOff 58 = .ok (.ifCond .ne 46, 3) := by decide +kernel
theorem dX4_isOff_61 : decode cX4_isOff 61 = .ok (.aload_n 0, 1) := by decide +kernel
theorem dX4_isOff_62 : decode cX4_isOff 62 = .ok (.getfield 13, 3) := by decide +kernel
theorem dX4_isOff_65 : decode cX4_isOff 65 = .ok (.aload_n 0, 1) := by decide +kernel
theorem dX4_isOff_66 : decode cX4_isOff 66 = .ok (.getfield 49, 3) := by decide +kernel
theorem dX4_isOff_69 : decode cX4_isOff 69 = .ok (.bipush 8, 2) := by decide +kernel
theorem dX4_isOff_71 : decode cX4_isOff 71 = .ok (.iload_n 1, 1) := by decide +kernel
theorem dX4_isOff_72 : decode cX4_isOff 72 = .ok (.imul, 1) := by decide +kernel
theorem dX4_isOff_73 : decode cX4_isOff 73 = .ok (.iload_n 3, 1) := by decide +kernel
theorem dX4_isOff_74 : decode cX4_isOff 74 = .ok (.iadd, 1) := by decide +kernel
theorem dX4_isOff_75 : decode cX4_isOff 75 = .ok (.iaload, 1) := by decide +kernel
theorem dX4_isOff_76 : decode cX4_isOff 76 = .ok (.laload, 1) := by decide +kernel
theorem dX4_isOff_77 : decode cX4_isOff 77 = .ok (.aload_n 0, 1) := by decide +kernel
theorem dX4_isOff_78 : decode cX4_isOff 78 = .ok (.getfield 70, 3) := by decide +kernel
theorem dX4_isOff_81 : decode cX4_isOff 81 = .ok (.bipush 8, 2) := by decide +kernel
theorem dX4_isOff_83 : decode cX4_isOff 83 = .ok (.iload_n 1, 1) := by decide +kernel
theorem dX4_isOff_84 : decode cX4_isOff 84 = .ok (.imul, 1) := by decide +kernel
theorem dX4_isOff_85 : decode cX4_isOff 85 = .ok (.iload_n 3, 1) := by decide +kernel
theorem dX4_isOff_86 : decode cX4_isOff 86 = .ok (.iadd, 1) := by decide +kernel
theorem dX4_isOff_87 : decode cX4_isOff 87 = .ok (.laload, 1) := by decide +kernel
theorem dX4_isOff_88 : decode cX4_isOff 88 = .ok (.lcmp, 1) := by decide +kernel
theorem dX4_isOff_89 : decode cX4_isOff 89 = .ok (.ifCond .eq 7, 3) := by decide +kernel
theorem dX4_isOff_92 : decode cX4_isOff 92 = .ok (.iconst 1, 1) := by decide +kernel
theorem dX4_isOff_93 : decode cX4_isOff 93 = .ok (.goto 4, 3) := by decide +kernel
theorem dX4_isOff_96 : decode cX4_isOff 96 = .ok (.iconst 0, 1) := by decide +kernel
theorem dX4_isOff_97 : decode cX4_isOff 97 = .ok (.istore_n 2, 1) := by decide +kernel
theorem dX4_isOff_98 : decode cX4_isOff 98 = .ok (.iinc 3 1, 3) := by decide +kernel
theorem dX4_isOff_101 : decode cX4_isOff 101 = .ok (.goto (-54), 3) := by decide +kernel
theorem dX4_isOff_104 : decode cX4_isOff 104 = .ok (.iconst 0, 1) := by decide +kernel
theorem dX4_isOff_105 : decode cX4_isOff 105 = .ok (.istore_n 3, 1) := by decide +kernel
theorem dX4_isOff_106 : decode cX4_isOff 106 = .ok (.iload_n 3, 1) := by decide +kernel
theorem dX4_isOff_107 : decode cX4_isOff 107 = .ok (.aload_n 0, 1) := by decide +kernel
theorem dX4_isOff_108 : decode cX4_isOff 108 = .ok (.getfield 58, 3) := by decide +kernel
theorem dX4_isOff_111 : decode cX4_isOff 111 = .ok (.iload_n 1, 1) := by decide +kernel
theorem dX4_isOff_112 : decode cX4_isOff 112 = .ok (.iaload, 1) := by decide +kernel
theorem dX4_isOff_113 : decode cX4_isOff 113 = .ok (.if_icmp .ge 44, 3) := by decide +kernel
theorem dX4_isOff_116 : decode cX4_isOff 116 = .ok (.iload_n 2, 1) := by decide +kernel
theorem dX4_isOff_117 : decode cX4_isOff 117 = .ok (.ifCond .ne 40, 3) := by decide +kernel
theorem dX4_isOff_120 : decode cX4_isOff 120 = .ok (.aload_n 0, 1) := by decide +kernel
theorem dX4_isOff_121 : decode cX4_isOff 121 = .ok (.getfield 13, 3) := by decide +kernel
theorem dX4_isOff_124 : decode cX4_isOff 124 = .ok (.aload_n 0, 1) := by decide +kernel
theorem dX4_isOff_125 : decode cX4_isOff 125 = .ok (.getfield 55, 3) := by decide +kernel
theorem dX4_isOff_128 : decode cX4_isOff 128 = .ok (.iconst 4, 1) := by decide +kernel
theorem dX4_isOff_129 : decode cX4_isOff 129 = .ok (.iload_n 1, 1) := by decide +kernel
theorem dX4_isOff_130 : decode cX4_isOff 130 = .ok (.imul, 1) := by decide +kernel
theorem dX4_isOff_131 : decode cX4_isOff 131 = .ok (.iload_n 3, 1) := by decide +kernel
theorem dX4_isOff_132 : decode cX4_isOff 132 = .ok (.iadd, 1) := by decide +kernel
theorem dX4_isOff_133 : decode cX4_isOff 133 = .ok (.iaload, 1) := by decide +kernel
theorem dX4_isOff_134 : decode cX4_isOff 134 = .ok (.laload, 1) := by decide +kernel
theorem dX4_isOff_135 : decode cX4_isOff 135 = .ok (.aload_n 0, 1) := by decide +kernel
theorem dX4_isOff_136 : decode cX4_isOff 136 = .ok (.getfield 73, 3) := by decide +kernel
theorem dX4_isOff_139 : decode cX4_isOff 139 = .ok (.iload_n 1, 1) := by decide +kernel
theorem dX4_isOff_140 : decode cX4_isOff 140 = .ok (.laload, 1) := by decide +kernel
theorem dX4_isOff_141 : decode cX4_isOff 141 = .ok (.lcmp, 1) := by decide +kernel
theorem dX4_isOff_142 : decode cX4_isOff 142 = .ok (.ifCond .eq 7, 3) := by decide +kernel
theorem dX4_isOff_145 : decode cX4_isOff 145 = .ok (.iconst 1, 1) := by decide +kernel
theorem dX4_isOff_146 : decode cX4_isOff 146 = .ok (.goto 4, 3) := by decide +kernel
theorem dX4_isOff_149 : decode cX4_isOff 149 = .ok (.iconst 0, 1) := by decide +kernel
theorem dX4_isOff_150 : decode cX4_isOff 150 = .ok (.istore_n 2, 1) := by decide +kernel
theorem dX4_isOff_151 : decode cX4_isOff 151 = .ok (.iinc 3 1, 3) := by decide +kernel
theorem dX4_isOff_154 : decode cX4_isOff 154 = .ok (.goto (-48), 3) := by decide +kernel
theorem dX4_isOff_157 : decode cX4_isOff 157 = .ok (.iload_n 2, 1) := by decide +kernel
theorem dX4_isOff_158 : decode cX4_isOff 158 = .ok (.ireturn, 1) := by decide +kernel
theorem dX4_stale_0 : decode cX4_stale 0 = .ok (.aload_n 0, 1) := by decide +kernel
theorem dX4_stale_1 : decode cX4_stale 1 = .ok (.iload_n 1, 1) := by decide +kernel
theorem dX4_stale_2 : decode cX4_stale 2 = .ok (.invokevirtual 98, 3) := by decide +kernel
theorem dX4_stale_5 : decode cX4_stale 5 = .ok (.ifCond .ne 5, 3) := by decide +kernel
theorem dX4_stale_8 : decode cX4_stale 8 = .ok (.iconst 0, 1) := by decide +kernel
theorem dX4_stale_9 : decode cX4_stale 9 = .ok (.ireturn, 1) := by decide +kernel
theorem dX4_stale_10 : decode cX4_stale 10 = .ok (.iconst 0, 1) := by decide +kernel
theorem dX4_stale_11 : decode cX4_stale 11 = .ok (.istore_n 2, 1) := by decide +kernel
theorem dX4_stale_12 : decode cX4_stale 12 = .ok (.iload_n 2, 1) := by decide +kernel
theorem dX4_stale_13 : decode cX4_stale 13 = .ok (.bipush 12, 2) := by decide +kernel
theorem dX4_stale_15 : decode cX4_stale 15 = .ok (.if_icmp .ge 36, 3) := by decide +kernel
theorem dX4_stale_18 : decode cX4_stale 18 = .ok (.aload_n 0, 1) := by decide +kernel
theorem dX4_stale_19 : decode cX4_stale 19 = .ok (.getfield 76, 3) := by decide +kernel
theorem dX4_stale_22 : decode cX4_stale 22 = .ok (.iload_n 2, 1) := by decide +kernel
theorem dX4_stale_23 : decode cX4_stale 23 = .ok (.iload_n 2, 1) := by decide +kernel
theorem dX4_stale_24 : decode cX4_stale 24 = .ok (.aload_n 0, 1) := by decide +kernel
theorem dX4_stale_25 : decode cX4_stale 25 = .ok (.getfield 85, 3) := by decide +kernel
theorem dX4_stale_28 : decode cX4_stale 28 = .ok (.if_icmp .ge 15, 3) := by decide +kernel
theorem dX4_stale_31 : decode cX4_stale 31 = .ok (.aload_n 0, 1) := by decide +kernel
theorem dX4_stale_32 : decode cX4_stale 32 = .ok (.iload_n 2, 1) := by decide +kernel
theorem dX4_stale_33 : decode cX4_stale 33 = .ok (.invokevirtual 150, 3) := by decide +kernel
theorem dX4_stale_36 : decode cX4_stale 36 = .ok (.ifCond .eq 7, 3) := by decide +kernel
theorem dX4_stale_39 : decode cX4_stale 39 = .ok (.iconst 1, 1) := by decide +kernel
theorem dX4_stale_40 : decode cX4_stale 40 = .ok (.goto 4, 3) := by decide +kernel
theorem dX4_stale_43 : decode cX4_stale 43 = .ok (.iconst 0, 1) := by decide +kernel
theorem dX4_stale_44 : decode cX4_stale 44 = .ok (.bastore, 1) := by decide +kernel
theorem dX4_stale_45 : decode cX4_stale 45 = .ok (.iinc 2 1, 3) := by decide +kernel
theorem dX4_stale_48 : decode cX4_stale 48 = .ok (.goto (-36), 3) := by decide +kernel
theorem dX4_stale_51 : decode cX4_stale 51 = .ok (.aload_n 0, 1) := by decide +kernel
theorem dX4_stale_52 : decode cX4_stale 52 = .ok (.invokevirtual 108, 3) := by decide +kernel
theorem dX4_stale_55 : decode cX4_stale 55 = .ok (.aload_n 0, 1) := by decide +kernel
theorem dX4_stale_56 : decode cX4_stale 56 = .ok (.getfield 76, 3) := by decide +kernel
theorem dX4_stale_59 : decode cX4_stale 59 = .ok (.iload_n 1, 1) := by decide +kernel
theorem dX4_stale_60 : decode cX4_stale 60 = .ok (.baload, 1) := by decide +kernel
theorem dX4_stale_61 : decode cX4_stale 61 = .ok (.ireturn, 1) := by decide +kernel
theorem dX4_isEarlier_0 : decode cX4_isEarlier 0 = .ok (.iconst 0, 1) := by decide +kernel
theorem dX4_isEarlier_1 : decode cX4_isEarlier 1 = .ok (.istore_n 3, 1) := by decide +kernel
theorem dX4_isEarlier_2 : decode cX4_isEarlier 2 = .ok (.iconst 0, 1) := by decide +kernel
theorem dX4_isEarlier_3 : decode cX4_isEarlier 3 = .ok (.istore 4, 2) := by decide +kernel
theorem dX4_isEarlier_5 : decode cX4_isEarlier 5 = .ok (.iload 4, 2) := by decide +kernel
theorem dX4_isEarlier_7 : decode cX4_isEarlier 7 = .ok (.iload_n 2, 1) := by decide +kernel
theorem dX4_isEarlier_8 : decode cX4_isEarlier 8 = .ok (.if_icmp .ge 56, 3) := by decide +kernel
theorem dX4_isEarlier_11 : decode cX4_isEarlier 11 = .ok (.iload_n 3, 1) := by decide +kernel
theorem dX4_isEarlier_12 : decode cX4_isEarlier 12 = .ok (.ifCond .ne 40, 3) := by decide +kernel
theorem dX4_isEarlier_15 : decode cX4_isEarlier 15 = .ok (.aload_n 0, 1) := by decide +kernel
theorem dX4_isEarlier_16 : decode cX4_isEarlier 16 = .ok (.getfield 13, 3) := by decide +kernel
theorem dX4_isEarlier_19 : decode cX4_isEarlier 19 = .ok (.aload_n 0, 1) := by decide +kernel
theorem dX4_isEarlier_20 : decode cX4_isEarlier 20 = .ok (.getfield 49, 3) := by decide +kernel
theorem dX4_isEarlier_23 : decode cX4_isEarlier 23 = .ok (.bipush 8, 2) := by decide +kernel
theorem dX4_isEarlier_25 : decode cX4_isEarlier 25 = .ok (.iload_n 1, 1) := by decide +kernel
theorem dX4_isEarlier_26 : decode cX4_isEarlier 26 = .ok (.imul, 1) := by decide +kernel
theorem dX4_isEarlier_27 : decode cX4_isEarlier 27 = .ok (.iload 4, 2) := by decide +kernel
theorem dX4_isEarlier_29 : decode cX4_isEarlier 29 = .ok (.iadd, 1) := by decide +kernel
theorem dX4_isEarlier_30 : decode cX4_isEarlier 30 = .ok (.iaload, 1) := by decide +kernel
theorem dX4_isEarlier_31 : decode cX4_isEarlier 31 = .ok (.laload, 1) := by decide +kernel
theorem dX4_isEarlier_32 : decode cX4_isEarlier 32 = .ok (.aload_n 0, 1) := by decide +kernel
theorem dX4_isEarlier_33 : decode cX4_isEarlier 33 = .ok (.getfield 13, 3) := by decide +kernel
theorem dX4_isEarlier_36 : decode cX4_isEarlier 36 = .ok (.aload_n 0, 1) := by decide +kernel
theorem dX4_isEarlier_37 : decode cX4_isEarlier 37 = .ok (.getfield 49, 3) := by decide +kernel
theorem dX4_isEarlier_40 : decode cX4_isEarlier 40 = .ok (.bipush 8, 2) := by decide +kernel
