theorem dX4_isEarlier_42 : decode cX4_isEarlier 42 = .ok (.iload_n 1, 1) := by decide +kernel
theorem dX4_isEarlier_43 : decode cX4_isEarlier 43 = .ok (.imul, 1) := by decide +kernel
theorem dX4_isEarlier_44 : decode cX4_isEarlier 44 = .ok (.iload_n 2, 1) := by decide +kernel
theorem dX4_isEarlier_45 : decode cX4_isEarlier 45 = .ok (.iadd, 1) := by decide +kernel
theorem dX4_isEarlier_46 : decode cX4_isEarlier 46 = .ok (.iaload, 1) := by decide +kernel
theorem dX4_isEarlier_47 : decode cX4_isEarlier 47 = .ok (.laload, 1) := by decide +kernel
theorem dX4_isEarlier_48 : decode cX4_isEarlier 48 = .ok (.lcmp, 1) := by decide +kernel
theorem dX4_isEarlier_49 : decode cX4_isEarlier 49 = .ok (.ifCond .ne 7, 3) := by decide +kernel
theorem dX4_isEarlier_52 : decode cX4_isEarlier 52 = .ok (.iconst 1, 1) := by decide +kernel
theorem dX4_isEarlier_53 : decode cX4_isEarlier 53 = .ok (.goto 4, 3) := by decide +kernel
theorem dX4_isEarlier_56 : decode cX4_isEarlier 56 = .ok (.iconst 0, 1) := by decide +kernel
theorem dX4_isEarlier_57 : decode cX4_isEarlier 57 = .ok (.istore_n 3, 1) := by decide +kernel
theorem dX4_isEarlier_58 : decode cX4_isEarlier 58 = .ok (.iinc 4 1, 3) := by decide +kernel
theorem dX4_isEarlier_61 : decode cX4_isEarlier 61 = .ok (.goto (-56), 3) := by decide +kernel
theorem dX4_isEarlier_64 : decode cX4_isEarlier 64 = .ok (.iload_n 3, 1) := by decide +kernel
theorem dX4_isEarlier_65 : decode cX4_isEarlier 65 = .ok (.ireturn, 1) := by decide +kernel
theorem dX4_worth_0 : decode cX4_worth 0 = .ok (.lconst 0, 1) := by decide +kernel
theorem dX4_worth_1 : decode cX4_worth 1 = .ok (.lstore_n 2, 1) := by decide +kernel
theorem dX4_worth_2 : decode cX4_worth 2 = .ok (.iconst 0, 1) := by decide +kernel
theorem dX4_worth_3 : decode cX4_worth 3 = .ok (.istore 4, 2) := by decide +kernel
theorem dX4_worth_5 : decode cX4_worth 5 = .ok (.iload 4, 2) := by decide +kernel
theorem dX4_worth_7 : decode cX4_worth 7 = .ok (.aload_n 0, 1) := by decide +kernel
theorem dX4_worth_8 : decode cX4_worth 8 = .ok (.getfield 52, 3) := by decide +kernel
theorem dX4_worth_11 : decode cX4_worth 11 = .ok (.iload_n 1, 1) := by decide +kernel
theorem dX4_worth_12 : decode cX4_worth 12 = .ok (.iaload, 1) := by decide +kernel
theorem dX4_worth_13 : decode cX4_worth 13 = .ok (.if_icmp .ge 117, 3) := by decide +kernel
theorem dX4_worth_16 : decode cX4_worth 16 = .ok (.aload_n 0, 1) := by decide +kernel
theorem dX4_worth_17 : decode cX4_worth 17 = .ok (.getfield 13, 3) := by decide +kernel
theorem dX4_worth_20 : decode cX4_worth 20 = .ok (.aload_n 0, 1) := by decide +kernel
theorem dX4_worth_21 : decode cX4_worth 21 = .ok (.getfield 49, 3) := by decide +kernel
theorem dX4_worth_24 : decode cX4_worth 24 = .ok (.bipush 8, 2) := by decide +kernel
theorem dX4_worth_26 : decode cX4_worth 26 = .ok (.iload_n 1, 1) := by decide +kernel
theorem dX4_worth_27 : decode cX4_worth 27 = .ok (.imul, 1) := by decide +kernel
theorem dX4_worth_28 : decode cX4_worth 28 = .ok (.iload 4, 2) := by decide +kernel
theorem dX4_worth_30 : decode cX4_worth 30 = .ok (.iadd, 1) := by decide +kernel
theorem dX4_worth_31 : decode cX4_worth 31 = .ok (.iaload, 1) := by decide +kernel
theorem dX4_worth_32 : decode cX4_worth 32 = .ok (.laload, 1) := by decide +kernel
theorem dX4_worth_33 : decode cX4_worth 33 = .ok (.lstore 5, 2) := by decide +kernel
theorem dX4_worth_35 : decode cX4_worth 35 = .ok (.aload_n 0, 1) := by decide +kernel
theorem dX4_worth_36 : decode cX4_worth 36 = .ok (.getfield 46, 3) := by decide +kernel
theorem dX4_worth_39 : decode cX4_worth 39 = .ok (.iload_n 1, 1) := by decide +kernel
theorem dX4_worth_40 : decode cX4_worth 40 = .ok (.iaload, 1) := by decide +kernel
theorem dX4_worth_41 : decode cX4_worth 41 = .ok (.tableswitch 65 0 2 #[27, 35, 57], 27) := by decide +kernel
theorem dX4_worth_68 : decode cX4_worth 68 = .ok (.lload_n 2, 1) := by decide +kernel
theorem dX4_worth_69 : decode cX4_worth 69 = .ok (.lload 5, 2) := by decide +kernel
theorem dX4_worth_71 : decode cX4_worth 71 = .ok (.ladd, 1) := by decide +kernel
theorem dX4_worth_72 : decode cX4_worth 72 = .ok (.lstore_n 2, 1) := by decide +kernel
theorem dX4_worth_73 : decode cX4_worth 73 = .ok (.goto 51, 3) := by decide +kernel
theorem dX4_worth_76 : decode cX4_worth 76 = .ok (.iload 4, 2) := by decide +kernel
theorem dX4_worth_78 : decode cX4_worth 78 = .ok (.ifCond .eq 10, 3) := by decide +kernel
theorem dX4_worth_81 : decode cX4_worth 81 = .ok (.lload 5, 2) := by decide +kernel
theorem dX4_worth_83 : decode cX4_worth 83 = .ok (.lload_n 2, 1) := by decide +kernel
theorem dX4_worth_84 : decode cX4_worth 84 = .ok (.lcmp, 1) := by decide +kernel
theorem dX4_worth_85 : decode cX4_worth 85 = .ok (.ifCond .le 8, 3) := by decide +kernel
theorem dX4_worth_88 : decode cX4_worth 88 = .ok (.lload 5, 2) := by decide +kernel
theorem dX4_worth_90 : decode cX4_worth 90 = .ok (.goto 4, 3) := by decide +kernel
theorem dX4_worth_93 : decode cX4_worth 93 = .ok (.lload_n 2, 1) := by decide +kernel
theorem dX4_worth_94 : decode cX4_worth 94 = .ok (.lstore_n 2, 1) := by decide +kernel
theorem dX4_worth_95 : decode cX4_worth 95 = .ok (.goto 29, 3) := by decide +kernel
theorem dX4_worth_98 : decode cX4_worth 98 = .ok (.lload_n 2, 1) := by decide +kernel
theorem dX4_worth_99 : decode cX4_worth 99 = .ok (.lload 5, 2) := by decide +kernel
theorem dX4_worth_101 : decode cX4_worth 101 = .ok (.lxor, 1) := by decide +kernel
theorem dX4_worth_102 : decode cX4_worth 102 = .ok (.lstore_n 2, 1) := by decide +kernel
theorem dX4_worth_103 : decode cX4_worth 103 = .ok (.goto 21, 3) := by decide +kernel
theorem dX4_worth_106 : decode cX4_worth 106 = .ok (.aload_n 0, 1) := by decide +kernel
theorem dX4_worth_107 : decode cX4_worth 107 = .ok (.iload_n 1, 1) := by decide +kernel
theorem dX4_worth_108 : decode cX4_worth 108 = .ok (.iload 4, 2) := by decide +kernel
theorem dX4_worth_110 : decode cX4_worth 110 = .ok (.invokevirtual 153, 3) := by decide +kernel
theorem dX4_worth_113 : decode cX4_worth 113 = .ok (.ifCond .eq 7, 3) := by decide +kernel
theorem dX4_worth_116 : decode cX4_worth 116 = .ok (.lload_n 2, 1) := by decide +kernel
theorem dX4_worth_117 : decode cX4_worth 117 = .ok (.goto 6, 3) := by decide +kernel
theorem dX4_worth_120 : decode cX4_worth 120 = .ok (.lload_n 2, 1) := by decide +kernel
theorem dX4_worth_121 : decode cX4_worth 121 = .ok (.lconst 1, 1) := by decide +kernel
theorem dX4_worth_122 : decode cX4_worth 122 = .ok (.ladd, 1) := by decide +kernel
theorem dX4_worth_123 : decode cX4_worth 123 = .ok (.lstore_n 2, 1) := by decide +kernel
theorem dX4_worth_124 : decode cX4_worth 124 = .ok (.iinc 4 1, 3) := by decide +kernel
theorem dX4_worth_127 : decode cX4_worth 127 = .ok (.goto (-122), 3) := by decide +kernel
theorem dX4_worth_130 : decode cX4_worth 130 = .ok (.lload_n 2, 1) := by decide +kernel
theorem dX4_worth_131 : decode cX4_worth 131 = .ok (.lreturn, 1) := by decide +kernel
theorem dX4_give_0 : decode cX4_give 0 = .ok (.aload_n 0, 1) := by decide +kernel
theorem dX4_give_1 : decode cX4_give 1 = .ok (.iload_n 1, 1) := by decide +kernel
theorem dX4_give_2 : decode cX4_give 2 = .ok (.invokevirtual 156, 3) := by decide +kernel
theorem dX4_give_5 : decode cX4_give 5 = .ok (.lstore_n 2, 1) := by decide +kernel
theorem dX4_give_6 : decode cX4_give 6 = .ok (.iconst 0, 1) := by decide +kernel
theorem dX4_give_7 : decode cX4_give 7 = .ok (.istore 4, 2) := by decide +kernel
theorem dX4_give_9 : decode cX4_give 9 = .ok (.iconst 0, 1) := by decide +kernel
theorem dX4_give_10 : decode cX4_give 10 = .ok (.istore 5, 2) := by decide +kernel
theorem dX4_give_12 : decode cX4_give 12 = .ok (.iload 5, 2) := by decide +kernel
theorem dX4_give_14 : decode cX4_give 14 = .ok (.aload_n 0, 1) := by decide +kernel
theorem dX4_give_15 : decode cX4_give 15 = .ok (.getfield 52, 3) := by decide +kernel
theorem dX4_give_18 : decode cX4_give 18 = .ok (.iload_n 1, 1) := by decide +kernel
theorem dX4_give_19 : decode cX4_give 19 = .ok (.iaload, 1) := by decide +kernel
theorem dX4_give_20 : decode cX4_give 20 = .ok (.if_icmp .ge 38, 3) := by decide +kernel
theorem dX4_give_23 : decode cX4_give 23 = .ok (.aload_n 0, 1) := by decide +kernel
theorem dX4_give_24 : decode cX4_give 24 = .ok (.getfield 70, 3) := by decide +kernel
theorem dX4_give_27 : decode cX4_give 27 = .ok (.bipush 8, 2) := by decide +kernel
theorem dX4_give_29 : decode cX4_give 29 = .ok (.iload_n 1, 1) := by decide +kernel
theorem dX4_give_30 : decode cX4_give 30 = .ok (.imul, 1) := by decide +kernel
theorem dX4_give_31 : decode cX4_give 31 = .ok (.iload 5, 2) := by decide +kernel
theorem dX4_give_33 : decode cX4_give 33 = .ok (.iadd, 1) := by decide +kernel
theorem dX4_give_34 : decode cX4_give 34 = .ok (.aload_n 0, 1) := by decide +kernel
theorem dX4_give_35 : decode cX4_give 35 = .ok (.getfield 13, 3) := by decide +kernel
theorem dX4_give_38 : decode cX4_give 38 = .ok (.aload_n 0, 1) := by decide +kernel
theorem dX4_give_39 : decode cX4_give 39 = .ok (.getfield 49, 3) := by decide +kernel
theorem dX4_give_42 : decode cX4_give 42 = .ok (.bipush 8, 2) := by decide +kernel
theorem dX4_give_44 : decode cX4_give 44 = .ok (.iload_n 1, 1) := by decide +kernel
theorem dX4_give_45 : decode cX4_give 45 = .ok (.imul, 1) := by decide +kernel
theorem dX4_give_46 : decode cX4_give 46 = .ok (.iload 5, 2) := by decide +kernel
theorem dX4_give_48 : decode cX4_give 48 = .ok (.iadd, 1) := by decide +kernel
theorem dX4_give_49 : decode cX4_give 49 = .ok (.iaload, 1) := by decide +kernel
theorem dX4_give_50 : decode cX4_give 50 = .ok (.laload, 1) := by decide +kernel
theorem dX4_give_51 : decode cX4_give 51 = .ok (.lastore, 1) := by decide +kernel
theorem dX4_give_52 : decode cX4_give 52 = .ok (.iinc 5 1, 3) := by decide +kernel
theorem dX4_give_55 : decode cX4_give 55 = .ok (.goto (-43), 3) := by decide +kernel
theorem dX4_give_58 : decode cX4_give 58 = .ok (.iconst 0, 1) := by decide +kernel
theorem dX4_give_59 : decode cX4_give 59 = .ok (.istore 5, 2) := by decide +kernel
theorem dX4_give_61 : decode cX4_give 61 = .ok (.iload 5, 2) := by decide +kernel
theorem dX4_give_63 : decode cX4_give 63 = .ok (.aload_n 0, 1) := by decide +kernel
theorem dX4_give_64 : decode cX4_give 64 = .ok (.getfield 58, 3) := by decide +kernel
theorem dX4_give_67 : decode cX4_give 67 = .ok (.iload_n 1, 1) := by decide +kernel
theorem dX4_give_68 : decode cX4_give 68 = .ok (.iaload, 1) := by decide +kernel
theorem dX4_give_69 : decode cX4_give 69 = .ok (.if_icmp .ge 53, 3) := by decide +kernel
theorem dX4_give_72 : decode cX4_give 72 = .ok (.aload_n 0, 1) := by decide +kernel
theorem dX4_give_73 : decode cX4_give 73 = .ok (.getfield 55, 3) := by decide +kernel
theorem dX4_give_76 : decode cX4_give 76 = .ok (.iconst 4, 1) := by decide +kernel
theorem dX4_give_77 : decode cX4_give 77 = .ok (.iload_n 1, 1) := by decide +kernel
theorem dX4_give_78 : decode cX4_give 78 = .ok (.imul, 1) := by decide +kernel
theorem dX4_give_79 : decode cX4_give 79 = .ok (.iload 5, 2) := by decide +kernel
theorem dX4_give_81 : decode cX4_give 81 = .ok (.iadd, 1) := by decide +kernel
theorem dX4_give_82 : decode cX4_give 82 = .ok (.iaload, 1) := by decide +kernel
theorem dX4_give_83 : decode cX4_give 83 = .ok (.istore 6, 2) := by decide +kernel
theorem dX4_give_85 : decode cX4_give 85 = .ok (.aload_n 0, 1) := by decide +kernel
theorem dX4_give_86 : decode cX4_give 86 = .ok (.getfield 13, 3) := by decide +kernel
theorem dX4_give_89 : decode cX4_give 89 = .ok (.iload 6, 2) := by decide +kernel
theorem dX4_give_91 : decode cX4_give 91 = .ok (.laload, 1) := by decide +kernel
theorem dX4_give_92 : decode cX4_give 92 = .ok (.lload_n 2, 1) := by decide +kernel
theorem dX4_give_93 : decode cX4_give 93 = .ok (.lcmp, 1) := by decide +kernel
theorem dX4_give_94 : decode cX4_give 94 = .ok (.ifCond .eq 10, 3) := by decide +kernel
theorem dX4_give_97 : decode cX4_give 97 = .ok (.iload 4, 2) := by decide +kernel
theorem dX4_give_99 : decode cX4_give 99 = .ok (.iconst 1, 1) := by decide +kernel
theorem dX4_give_100 : decode cX4_give 100 = .ok (.iadd, 1) := by decide +kernel
theorem dX4_give_101 : decode cX4_give 101 = .ok (.goto 5, 3) := by decide +kernel
theorem dX4_give_104 : decode cX4_give 104 = .ok (.iload 4, 2) := by decide +kernel
theorem dX4_give_106 : decode cX4_give 106 = .ok (.istore 4, 2) := by decide +kernel
theorem dX4_give_108 : decode cX4_give 108 = .ok (.aload_n 0, 1) := by decide +kernel
theorem dX4_give_109 : decode cX4_give 109 = .ok (.getfield 13, 3) := by decide +kernel
theorem dX4_give_112 : decode cX4_give 112 = .ok (.iload 6, 2) := by decide +kernel
theorem dX4_give_114 : decode cX4_give 114 = .ok (.lload_n 2, 1) := by decide +kernel
theorem dX4_give_115 : decode cX4_give 115 = .ok (.lastore, 1) := by decide +kernel
theorem dX4_give_116 : decode cX4_give 116 = .ok (.iinc 5 1, 3) := by decide +kernel
theorem dX4_give_119 : decode cX4_give 119 = .ok (.goto (-58), 3) := by decide +kernel
theorem dX4_give_122 : decode cX4_give 122 = .ok (.aload_n 0, 1) := by decide +kernel
theorem dX4_give_123 : decode cX4_give 123 = .ok (.getfield 61, 3) := by decide +kernel
theorem dX4_give_126 : decode cX4_give 126 = .ok (.iload_n 1, 1) := by decide +kernel
theorem dX4_give_127 : decode cX4_give 127 = .ok (.iconst 1, 1) := by decide +kernel
theorem dX4_give_128 : decode cX4_give 128 = .ok (.bastore, 1) := by decide +kernel
theorem dX4_give_129 : decode cX4_give 129 = .ok (.aload_n 0, 1) := by decide +kernel
theorem dX4_give_130 : decode cX4_give 130 = .ok (.getfield 64, 3) := by decide +kernel
theorem dX4_give_133 : decode cX4_give 133 = .ok (.iload_n 1, 1) := by decide +kernel
theorem dX4_give_134 : decode cX4_give 134 = .ok (.aload_n 0, 1) := by decide +kernel
theorem dX4_give_135 : decode cX4_give 135 = .ok (.getfield 52, 3) := by decide +kernel
theorem dX4_give_138 : decode cX4_give 138 = .ok (.iload_n 1, 1) := by decide +kernel
theorem dX4_give_139 : decode cX4_give 139 = .ok (.iaload, 1) := by decide +kernel
theorem dX4_give_140 : decode cX4_give 140 = .ok (.iastore, 1) := by decide +kernel
theorem dX4_give_141 : decode cX4_give 141 = .ok (.aload_n 0, 1) := by decide +kernel
theorem dX4_give_142 : decode cX4_give 142 = .ok (.getfield 67, 3) := by decide +kernel
theorem dX4_give_145 : decode cX4_give 145 = .ok (.iload_n 1, 1) := by decide +kernel
theorem dX4_give_146 : decode cX4_give 146 = .ok (.aload_n 0, 1) := by decide +kernel
theorem dX4_give_147 : decode cX4_give 147 = .ok (.getfield 58, 3) := by decide +kernel
theorem dX4_give_150 : decode cX4_give 150 = .ok (.iload_n 1, 1) := by decide +kernel
theorem dX4_give_151 : decode cX4_give 151 = .ok (.iaload, 1) := by decide +kernel
theorem dX4_give_152 : decode cX4_give 152 = .ok (.iastore, 1) := by decide +kernel
theorem dX4_give_153 : decode cX4_give 153 = .ok (.aload_n 0, 1) := by decide +kernel
theorem dX4_give_154 : decode cX4_give 154 = .ok (.getfield 73, 3) := by decide +kernel
theorem dX4_give_157 : decode cX4_give 157 = .ok (.iload_n 1, 1) := by decide +kernel
theorem dX4_give_158 : decode cX4_give 158 = .ok (.lload_n 2, 1) := by decide +kernel
theorem dX4_give_159 : decode cX4_give 159 = .ok (.lastore, 1) := by decide +kernel
theorem dX4_give_160 : decode cX4_give 160 = .ok (.iload 4, 2) := by decide +kernel
theorem dX4_give_162 : decode cX4_give 162 = .ok (.ireturn, 1) := by decide +kernel
theorem dX4_isNext_0 : decode cX4_isNext 0 = .ok (.aload_n 0, 1) := by decide +kernel
theorem dX4_isNext_1 : decode cX4_isNext 1 = .ok (.getfield 79, 3) := by decide +kernel
theorem dX4_isNext_4 : decode cX4_isNext 4 = .ok (.iload_n 1, 1) := by decide +kernel
theorem dX4_isNext_5 : decode cX4_isNext 5 = .ok (.baload, 1) := by decide +kernel
theorem dX4_isNext_6 : decode cX4_isNext 6 = .ok (.ifCond .ne 7, 3) := by decide +kernel
theorem dX4_isNext_9 : decode cX4_isNext 9 = .ok (.iconst 1, 1) := by decide +kernel
theorem dX4_isNext_10 : decode cX4_isNext 10 = .ok (.goto 4, 3) := by decide +kernel
theorem dX4_isNext_13 : decode cX4_isNext 13 = .ok (.iconst 0, 1) := by decide +kernel
theorem dX4_isNext_14 : decode cX4_isNext 14 = .ok (.istore_n 2, 1) := by decide +kernel
theorem dX4_isNext_15 : decode cX4_isNext 15 = .ok (.iconst 0, 1) := by decide +kernel
theorem dX4_isNext_16 : decode cX4_isNext 16 = .ok (.istore_n 3, 1) := by decide +kernel
theorem dX4_isNext_17 : decode cX4_isNext 17 = .ok (.iload_n 3, 1) := by decide +kernel
theorem dX4_isNext_18 : decode cX4_isNext 18 = .ok (.aload_n 0, 1) := by decide +kernel
theorem dX4_isNext_19 : decode cX4_isNext 19 = .ok (.getfield 85, 3) := by decide +kernel
theorem dX4_isNext_22 : decode cX4_isNext 22 = .ok (.if_icmp .ge 37, 3) := by decide +kernel
theorem dX4_isNext_25 : decode cX4_isNext 25 = .ok (.iload_n 2, 1) := by decide +kernel
theorem dX4_isNext_26 : decode cX4_isNext 26 = .ok (.ifCond .eq 25, 3) := by decide +kernel
theorem dX4_isNext_29 : decode cX4_isNext 29 = .ok (.aload_n 0, 1) := by decide +kernel
theorem dX4_isNext_30 : decode cX4_isNext 30 = .ok (.getfield 79, 3) := by decide +kernel
theorem dX4_isNext_33 : decode cX4_isNext 33 = .ok (.iload_n 3, 1) := by decide +kernel
theorem dX4_isNext_34 : decode cX4_isNext 34 = .ok (.baload, 1) := by decide +kernel
theorem dX4_isNext_35 : decode cX4_isNext 35 = .ok (.ifCond .ne 12, 3) := by decide +kernel
theorem dX4_isNext_38 : decode cX4_isNext 38 = .ok (.aload_n 0, 1) := by decide +kernel
theorem dX4_isNext_39 : decode cX4_isNext 39 = .ok (.iload_n 1, 1) := by decide +kernel
theorem dX4_isNext_40 : decode cX4_isNext 40 = .ok (.iload_n 3, 1) := by decide +kernel
theorem dX4_isNext_41 : decode cX4_isNext 41 = .ok (.invokevirtual 95, 3) := by decide +kernel
theorem dX4_isNext_44 : decode cX4_isNext 44 = .ok (.ifCond .ne 7, 3) := by decide +kernel
theorem dX4_isNext_47 : decode cX4_isNext 47 = .ok (.iconst 1, 1) := by decide +kernel
theorem dX4_isNext_48 : decode cX4_isNext 48 = .ok (.goto 4, 3) := by decide +kernel
theorem dX4_isNext_51 : decode cX4_isNext 51 = .ok (.iconst 0, 1) := by decide +kernel
theorem dX4_isNext_52 : decode cX4_isNext 52 = .ok (.istore_n 2, 1) := by decide +kernel
theorem dX4_isNext_53 : decode cX4_isNext 53 = .ok (.iinc 3 1, 3) := by decide +kernel
theorem dX4_isNext_56 : decode cX4_isNext 56 = .ok (.goto (-39), 3) := by decide +kernel
theorem dX4_isNext_59 : decode cX4_isNext 59 = .ok (.iload_n 2, 1) := by decide +kernel
theorem dX4_isNext_60 : decode cX4_isNext 60 = .ok (.ireturn, 1) := by decide +kernel
theorem dX4_go_0 : decode cX4_go 0 = .ok (.aload_n 0, 1) := by decide +kernel
theorem dX4_go_1 : decode cX4_go 1 = .ok (.iconst 0, 1) := by decide +kernel
theorem dX4_go_2 : decode cX4_go 2 = .ok (.putfield 159, 3) := by decide +kernel
theorem dX4_go_5 : decode cX4_go 5 = .ok (.iconst 0, 1) := by decide +kernel
theorem dX4_go_6 : decode cX4_go 6 = .ok (.istore_n 2, 1) := by decide +kernel
theorem dX4_go_7 : decode cX4_go 7 = .ok (.iload_n 2, 1) := by decide +kernel
theorem dX4_go_8 : decode cX4_go 8 = .ok (.bipush 12, 2) := by decide +kernel
theorem dX4_go_10 : decode cX4_go 10 = .ok (.if_icmp .ge 16, 3) := by decide +kernel
theorem dX4_go_13 : decode cX4_go 13 = .ok (.aload_n 0, 1) := by decide +kernel
theorem dX4_go_14 : decode cX4_go 14 = .ok (.getfield 79, 3) := by decide +kernel
theorem dX4_go_17 : decode cX4_go 17 = .ok (.iload_n 2, 1) := by decide +kernel
theorem dX4_go_18 : decode cX4_go 18 = .ok (.iconst 0, 1) := by decide +kernel
theorem dX4_go_19 : decode cX4_go 19 = .ok (.bastore, 1) := by decide +kernel
theorem dX4_go_20 : decode cX4_go 20 = .ok (.iinc 2 1, 3) := by decide +kernel
theorem dX4_go_23 : decode cX4_go 23 = .ok (.goto (-16), 3) := by decide +kernel
theorem dX4_go_26 : decode cX4_go 26 = .ok (.aload_n 0, 1) := by decide +kernel
theorem dX4_go_27 : decode cX4_go 27 = .ok (.getfield 79, 3) := by decide +kernel
theorem dX4_go_30 : decode cX4_go 30 = .ok (.iload_n 1, 1) := by decide +kernel
theorem dX4_go_31 : decode cX4_go 31 = .ok (.baload, 1) := by decide +kernel
theorem dX4_go_32 : decode cX4_go 32 = .ok (.ifCond .ne 89, 3) := by decide +kernel
theorem dX4_go_35 : decode cX4_go 35 = .ok (.iconst 0, 1) := by decide +kernel
theorem dX4_go_36 : decode cX4_go 36 = .ok (.istore_n 2, 1) := by decide +kernel
theorem dX4_go_37 : decode cX4_go 37 = .ok (.iload_n 2, 1) := by decide +kernel
theorem dX4_go_38 : decode cX4_go 38 = .ok (.aload_n 0, 1) := by decide +kernel
theorem dX4_go_39 : decode cX4_go 39 = .ok (.getfield 85, 3) := by decide +kernel
theorem dX4_go_42 : decode cX4_go 42 = .ok (.if_icmp .ge 76, 3) := by decide +kernel
theorem dX4_go_45 : decode cX4_go 45 = .ok (.aload_n 0, 1) := by decide +kernel
theorem dX4_go_46 : decode cX4_go 46 = .ok (.iload_n 2, 1) := by decide +kernel
theorem dX4_go_47 : decode cX4_go 47 = .ok (.invokevirtual 163, 3) := by decide +kernel
theorem dX4_go_50 : decode cX4_go 50 = .ok (.ifCond .eq 62, 3) := by decide +kernel
theorem dX4_go_53 : decode cX4_go 53 = .ok (.aload_n 0, 1) := by decide +kernel
theorem dX4_go_54 : decode cX4_go 54 = .ok (.iload_n 2, 1) := by decide +kernel
theorem dX4_go_55 : decode cX4_go 55 = .ok (.iload_n 1, 1) := by decide +kernel
theorem dX4_go_56 : decode cX4_go 56 = .ok (.invokevirtual 166, 3) := by decide +kernel
theorem dX4_go_59 : decode cX4_go 59 = .ok (.ifCond .eq 46, 3) := by decide +kernel
theorem dX4_go_62 : decode cX4_go 62 = .ok (.aload_n 0, 1) := by decide +kernel
theorem dX4_go_63 : decode cX4_go 63 = .ok (.iload_n 2, 1) := by decide +kernel
theorem dX4_go_64 : decode cX4_go 64 = .ok (.invokevirtual 169, 3) := by decide +kernel
theorem dX4_go_67 : decode cX4_go 67 = .ok (.ifCond .eq 38, 3) := by decide +kernel
theorem dX4_go_70 : decode cX4_go 70 = .ok (.aload_n 0, 1) := by decide +kernel
theorem dX4_go_71 : decode cX4_go 71 = .ok (.dup, 1) := by decide +kernel
theorem dX4_go_72 : decode cX4_go 72 = .ok (.getfield 172, 3) := by decide +kernel
theorem dX4_go_75 : decode cX4_go 75 = .ok (.aload_n 0, 1) := by decide +kernel
theorem dX4_go_76 : decode cX4_go 76 = .ok (.iload_n 2, 1) := by decide +kernel
theorem dX4_go_77 : decode cX4_go 77 = .ok (.invokevirtual 175, 3) := by decide +kernel
theorem dX4_go_80 : decode cX4_go 80 = .ok (.iadd, 1) := by decide +kernel
theorem dX4_go_81 : decode cX4_go 81 = .ok (.putfield 172, 3) := by decide +kernel
theorem dX4_go_84 : decode cX4_go 84 = .ok (.aload_n 0, 1) := by decide +kernel
theorem dX4_go_85 : decode cX4_go 85 = .ok (.aload_n 0, 1) := by decide +kernel
theorem dX4_go_86 : decode cX4_go 86 = .ok (.getfield 159, 3) := by decide +kernel
theorem dX4_go_89 : decode cX4_go 89 = .ok (.ifCond .ne 8, 3) := by decide +kernel
theorem dX4_go_92 : decode cX4_go 92 = .ok (.iload_n 2, 1) := by decide +kernel
theorem dX4_go_93 : decode cX4_go 93 = .ok (.iload_n 1, 1) := by decide +kernel
theorem dX4_go_94 : decode cX4_go 94 = .ok (.if_icmp .ne 7, 3) := by decide +kernel
theorem dX4_go_97 : decode cX4_go 97 = .ok (.iconst 1, 1) := by decide +kernel
theorem dX4_go_98 : decode cX4_go 98 = .ok (.goto 4, 3) := by decide +kernel
theorem dX4_go_101 : decode cX4_go 101 = .ok (.iconst 0, 1) := by decide +kernel
theorem dX4_go_102 : decode cX4_go 102 = .ok (.putfield 159, 3) := by decide +kernel
theorem dX4_go_105 : decode cX4_go 105 = .ok (.aload_n 0, 1) := by decide +kernel
theorem dX4_go_106 : decode cX4_go 106 = .ok (.getfield 79, 3) := by decide +kernel
theorem dX4_go_109 : decode cX4_go 109 = .ok (.iload_n 2, 1) := by decide +kernel
theorem dX4_go_110 : decode cX4_go 110 = .ok (.iconst 1, 1) := by decide +kernel
theorem dX4_go_111 : decode cX4_go 111 = .ok (.bastore, 1) := by decide +kernel
theorem dX4_go_112 : decode cX4_go 112 = .ok (.iinc 2 1, 3) := by decide +kernel
theorem dX4_go_115 : decode cX4_go 115 = .ok (.goto (-78), 3) := by decide +kernel
theorem dX4_go_118 : decode cX4_go 118 = .ok (.goto (-92), 3) := by decide +kernel
theorem dX4_go_121 : decode cX4_go 121 = .ok (.return_, 1) := by decide +kernel
theorem dX4_isBefore_0 : decode cX4_isBefore 0 = .ok (.aload_n 0, 1) := by decide +kernel
theorem dX4_isBefore_1 : decode cX4_isBefore 1 = .ok (.invokevirtual 105, 3) := by decide +kernel
theorem dX4_isBefore_4 : decode cX4_isBefore 4 = .ok (.aload_n 0, 1) := by decide +kernel
theorem dX4_isBefore_5 : decode cX4_isBefore 5 = .ok (.getfield 76, 3) := by decide +kernel
theorem dX4_isBefore_8 : decode cX4_isBefore 8 = .ok (.iload_n 1, 1) := by decide +kernel
theorem dX4_isBefore_9 : decode cX4_isBefore 9 = .ok (.iconst 1, 1) := by decide +kernel
theorem dX4_isBefore_10 : decode cX4_isBefore 10 = .ok (.bastore, 1) := by decide +kernel
theorem dX4_isBefore_11 : decode cX4_isBefore 11 = .ok (.aload_n 0, 1) := by decide +kernel
theorem dX4_isBefore_12 : decode cX4_isBefore 12 = .ok (.invokevirtual 108, 3) := by decide +kernel
theorem dX4_isBefore_15 : decode cX4_isBefore 15 = .ok (.aload_n 0, 1) := by decide +kernel
theorem dX4_isBefore_16 : decode cX4_isBefore 16 = .ok (.getfield 76, 3) := by decide +kernel
theorem dX4_isBefore_19 : decode cX4_isBefore 19 = .ok (.iload_n 2, 1) := by decide +kernel
theorem dX4_isBefore_20 : decode cX4_isBefore 20 = .ok (.baload, 1) := by decide +kernel
theorem dX4_isBefore_21 : decode cX4_isBefore 21 = .ok (.ireturn, 1) := by decide +kernel
theorem dX4_run_0 : decode cX4_run 0 = .ok (.aload_n 0, 1) := by decide +kernel
theorem dX4_run_1 : decode cX4_run 1 = .ok (.iload_n 1, 1) := by decide +kernel
theorem dX4_run_2 : decode cX4_run 2 = .ok (.invokevirtual 98, 3) := by decide +kernel
theorem dX4_run_5 : decode cX4_run 5 = .ok (.ifCond .ne 5, 3) := by decide +kernel
theorem dX4_run_8 : decode cX4_run 8 = .ok (.iconst 0, 1) := by decide +kernel
theorem dX4_run_9 : decode cX4_run 9 = .ok (.ireturn, 1) := by decide +kernel
theorem dX4_run_10 : decode cX4_run 10 = .ok (.aload_n 0, 1) := by decide +kernel
theorem dX4_run_11 : decode cX4_run 11 = .ok (.iload_n 1, 1) := by decide +kernel
theorem dX4_run_12 : decode cX4_run 12 = .ok (.invokevirtual 178, 3) := by decide +kernel
theorem dX4_run_15 : decode cX4_run 15 = .ok (.aload_n 0, 1) := by decide +kernel
theorem dX4_run_16 : decode cX4_run 16 = .ok (.getfield 159, 3) := by decide +kernel
theorem dX4_run_19 : decode cX4_run 19 = .ok (.ireturn, 1) := by decide +kernel
theorem dX4_branch_0 : decode cX4_branch 0 = .ok (.aload_n 0, 1) := by decide +kernel
theorem dX4_branch_1 : decode cX4_branch 1 = .ok (.getfield 7, 3) := by decide +kernel
theorem dX4_branch_4 : decode cX4_branch 4 = .ok (.bipush 6, 2) := by decide +kernel
theorem dX4_branch_6 : decode cX4_branch 6 = .ok (.if_icmp .ne 5, 3) := by decide +kernel
theorem dX4_branch_9 : decode cX4_branch 9 = .ok (.iconst (-1), 1) := by decide +kernel
theorem dX4_branch_10 : decode cX4_branch 10 = .ok (.ireturn, 1) := by decide +kernel
theorem dX4_branch_11 : decode cX4_branch 11 = .ok (.iconst 0, 1) := by decide +kernel
theorem dX4_branch_12 : decode cX4_branch 12 = .ok (.istore_n 1, 1) := by decide +kernel
theorem dX4_branch_13 : decode cX4_branch 13 = .ok (.iload_n 1, 1) := by decide +kernel
theorem dX4_branch_14 : decode cX4_branch 14 = .ok (.aload_n 0, 1) := by decide +kernel
theorem dX4_branch_15 : decode cX4_branch 15 = .ok (.getfield 82, 3) := by decide +kernel
theorem dX4_branch_18 : decode cX4_branch 18 = .ok (.if_icmp .ge 29, 3) := by decide +kernel
theorem dX4_branch_21 : decode cX4_branch 21 = .ok (.aload_n 0, 1) := by decide +kernel
theorem dX4_branch_22 : decode cX4_branch 22 = .ok (.getfield 13, 3) := by decide +kernel
theorem dX4_branch_25 : decode cX4_branch 25 = .ok (.bipush 24, 2) := by decide +kernel
theorem dX4_branch_27 : decode cX4_branch 27 = .ok (.aload_n 0, 1) := by decide +kernel
theorem dX4_branch_28 : decode cX4_branch 28 = .ok (.getfield 7, 3) := by decide +kernel
theorem dX4_branch_31 : decode cX4_branch 31 = .ok (.imul, 1) := by decide +kernel
theorem dX4_branch_32 : decode cX4_branch 32 = .ok (.iload_n 1, 1) := by decide +kernel
theorem dX4_branch_33 : decode cX4_branch 33 = .ok (.iadd, 1) := by decide +kernel
theorem dX4_branch_34 : decode cX4_branch 34 = .ok (.aload_n 0, 1) := by decide +kernel
theorem dX4_branch_35 : decode cX4_branch 35 = .ok (.getfield 13, 3) := by decide +kernel
theorem dX4_branch_38 : decode cX4_branch 38 = .ok (.iload_n 1, 1) := by decide +kernel
theorem dX4_branch_39 : decode cX4_branch 39 = .ok (.laload, 1) := by decide +kernel
theorem dX4_branch_40 : decode cX4_branch 40 = .ok (.lastore, 1) := by decide +kernel
theorem dX4_branch_41 : decode cX4_branch 41 = .ok (.iinc 1 1, 3) := by decide +kernel
theorem dX4_branch_44 : decode cX4_branch 44 = .ok (.goto (-31), 3) := by decide +kernel
theorem dX4_branch_47 : decode cX4_branch 47 = .ok (.aload_n 0, 1) := by decide +kernel
theorem dX4_branch_48 : decode cX4_branch 48 = .ok (.dup, 1) := by decide +kernel
theorem dX4_branch_49 : decode cX4_branch 49 = .ok (.getfield 7, 3) := by decide +kernel
theorem dX4_branch_52 : decode cX4_branch 52 = .ok (.iconst 1, 1) := by decide +kernel
theorem dX4_branch_53 : decode cX4_branch 53 = .ok (.iadd, 1) := by decide +kernel
theorem dX4_branch_54 : decode cX4_branch 54 = .ok (.putfield 7, 3) := by decide +kernel
theorem dX4_branch_57 : decode cX4_branch 57 = .ok (.aload_n 0, 1) := by decide +kernel
theorem dX4_branch_58 : decode cX4_branch 58 = .ok (.getfield 7, 3) := by decide +kernel
theorem dX4_branch_61 : decode cX4_branch 61 = .ok (.iconst 1, 1) := by decide +kernel
theorem dX4_branch_62 : decode cX4_branch 62 = .ok (.isub, 1) := by decide +kernel
theorem dX4_branch_63 : decode cX4_branch 63 = .ok (.ireturn, 1) := by decide +kernel
theorem dX4_from_0 : decode cX4_from 0 = .ok (.aload_n 0, 1) := by decide +kernel
theorem dX4_from_1 : decode cX4_from 1 = .ok (.iload_n 1, 1) := by decide +kernel
theorem dX4_from_2 : decode cX4_from 2 = .ok (.invokevirtual 102, 3) := by decide +kernel
theorem dX4_from_5 : decode cX4_from 5 = .ok (.ifCond .eq 11, 3) := by decide +kernel
theorem dX4_from_8 : decode cX4_from 8 = .ok (.aload_n 0, 1) := by decide +kernel
theorem dX4_from_9 : decode cX4_from 9 = .ok (.iload_n 1, 1) := by decide +kernel
theorem dX4_from_10 : decode cX4_from 10 = .ok (.invokevirtual 111, 3) := by decide +kernel
theorem dX4_from_13 : decode cX4_from 13 = .ok (.goto 4, 3) := by decide +kernel
theorem dX4_from_16 : decode cX4_from 16 = .ok (.iconst (-1), 1) := by decide +kernel
theorem dX4_from_17 : decode cX4_from 17 = .ok (.istore_n 3, 1) := by decide +kernel
theorem dX4_from_18 : decode cX4_from 18 = .ok (.iload_n 3, 1) := by decide +kernel
theorem dX4_from_19 : decode cX4_from 19 = .ok (.ifCond .lt 42, 3) := by decide +kernel
theorem dX4_from_22 : decode cX4_from 22 = .ok (.aload_n 0, 1) := by decide +kernel
theorem dX4_from_23 : decode cX4_from 23 = .ok (.getfield 61, 3) := by decide +kernel
theorem dX4_from_26 : decode cX4_from 26 = .ok (.iload_n 3, 1) := by decide +kernel
theorem dX4_from_27 : decode cX4_from 27 = .ok (.baload, 1) := by decide +kernel
theorem dX4_from_28 : decode cX4_from 28 = .ok (.ifCond .eq 33, 3) := by decide +kernel
theorem dX4_from_31 : decode cX4_from 31 = .ok (.iload_n 2, 1) := by decide +kernel
theorem dX4_from_32 : decode cX4_from 32 = .ok (.ifCond .lt 29, 3) := by decide +kernel
theorem dX4_from_35 : decode cX4_from 35 = .ok (.iload_n 2, 1) := by decide +kernel
theorem dX4_from_36 : decode cX4_from 36 = .ok (.aload_n 0, 1) := by decide +kernel
theorem dX4_from_37 : decode cX4_from 37 = .ok (.getfield 64, 3) := by decide +kernel
theorem dX4_from_40 : decode cX4_from 40 = .ok (.iload_n 3, 1) := by decide +kernel
theorem dX4_from_41 : decode cX4_from 41 = .ok (.iaload, 1) := by decide +kernel
theorem dX4_from_42 : decode cX4_from 42 = .ok (.if_icmp .ge 19, 3) := by decide +kernel
theorem dX4_from_45 : decode cX4_from 45 = .ok (.aload_n 0, 1) := by decide +kernel
theorem dX4_from_46 : decode cX4_from 46 = .ok (.getfield 13, 3) := by decide +kernel
theorem dX4_from_49 : decode cX4_from 49 = .ok (.iload_n 1, 1) := by decide +kernel
theorem dX4_from_50 : decode cX4_from 50 = .ok (.laload, 1) := by decide +kernel
theorem dX4_from_51 : decode cX4_from 51 = .ok (.aload_n 0, 1) := by decide +kernel
theorem dX4_from_52 : decode cX4_from 52 = .ok (.getfield 73, 3) := by decide +kernel
theorem dX4_from_55 : decode cX4_from 55 = .ok (.iload_n 3, 1) := by decide +kernel
theorem dX4_from_56 : decode cX4_from 56 = .ok (.laload, 1) := by decide +kernel
theorem dX4_from_57 : decode cX4_from 57 = .ok (.lcmp, 1) := by decide +kernel
theorem dX4_from_58 : decode cX4_from 58 = .ok (.ifCond .eq 5, 3) := by decide +kernel
theorem dX4_from_61 : decode cX4_from 61 = .ok (.iconst (-1), 1) := by decide +kernel
theorem dX4_from_62 : decode cX4_from 62 = .ok (.ireturn, 1) := by decide +kernel
theorem dX4_from_63 : decode cX4_from 63 = .ok (.iconst 0, 1) := by decide +kernel
theorem dX4_from_64 : decode cX4_from 64 = .ok (.istore 4, 2) := by decide +kernel
theorem dX4_from_66 : decode cX4_from 66 = .ok (.iconst 0, 1) := by decide +kernel
theorem dX4_from_67 : decode cX4_from 67 = .ok (.istore 5, 2) := by decide +kernel
theorem dX4_from_69 : decode cX4_from 69 = .ok (.iload 5, 2) := by decide +kernel
theorem dX4_from_71 : decode cX4_from 71 = .ok (.aload_n 0, 1) := by decide +kernel
theorem dX4_from_72 : decode cX4_from 72 = .ok (.getfield 67, 3) := by decide +kernel
theorem dX4_from_75 : decode cX4_from 75 = .ok (.iload_n 3, 1) := by decide +kernel
theorem dX4_from_76 : decode cX4_from 76 = .ok (.iaload, 1) := by decide +kernel
theorem dX4_from_77 : decode cX4_from 77 = .ok (.if_icmp .ge 36, 3) := by decide +kernel
theorem dX4_from_80 : decode cX4_from 80 = .ok (.iload 4, 2) := by decide +kernel
theorem dX4_from_82 : decode cX4_from 82 = .ok (.ifCond .ne 18, 3) := by decide +kernel
theorem dX4_from_85 : decode cX4_from 85 = .ok (.aload_n 0, 1) := by decide +kernel
theorem dX4_from_86 : decode cX4_from 86 = .ok (.getfield 55, 3) := by decide +kernel
theorem dX4_from_89 : decode cX4_from 89 = .ok (.iconst 4, 1) := by decide +kernel
theorem dX4_from_90 : decode cX4_from 90 = .ok (.iload_n 3, 1) := by decide +kernel
theorem dX4_from_91 : decode cX4_from 91 = .ok (.imul, 1) := by decide +kernel
theorem dX4_from_92 : decode cX4_from 92 = .ok (.iload 5, 2) := by decide +kernel
theorem dX4_from_94 : decode cX4_from 94 = .ok (.iadd, 1) := by decide +kernel
theorem dX4_from_95 : decode cX4_from 95 = .ok (.iaload, 1) := by decide +kernel
theorem dX4_from_96 : decode cX4_from 96 = .ok (.iload_n 1, 1) := by decide +kernel
theorem dX4_from_97 : decode cX4_from 97 = .ok (.if_icmp .ne 7, 3) := by decide +kernel
theorem dX4_from_100 : decode cX4_from 100 = .ok (.iconst 1, 1) := by decide +kernel
theorem dX4_from_101 : decode cX4_from 101 = .ok (.goto 4, 3) := by decide +kernel
theorem dX4_from_104 : decode cX4_from 104 = .ok (.iconst 0, 1) := by decide +kernel
theorem dX4_from_105 : decode cX4_from 105 = .ok (.istore 4, 2) := by decide +kernel
theorem dX4_from_107 : decode cX4_from 107 = .ok (.iinc 5 1, 3) := by decide +kernel
theorem dX4_from_110 : decode cX4_from 110 = .ok (.goto (-41), 3) := by decide +kernel
theorem dX4_from_113 : decode cX4_from 113 = .ok (.iload 4, 2) := by decide +kernel
theorem dX4_from_115 : decode cX4_from 115 = .ok (.ifCond .eq 17, 3) := by decide +kernel
theorem dX4_from_118 : decode cX4_from 118 = .ok (.aload_n 0, 1) := by decide +kernel
theorem dX4_from_119 : decode cX4_from 119 = .ok (.getfield 49, 3) := by decide +kernel
theorem dX4_from_122 : decode cX4_from 122 = .ok (.bipush 8, 2) := by decide +kernel
theorem dX4_from_124 : decode cX4_from 124 = .ok (.iload_n 3, 1) := by decide +kernel
theorem dX4_from_125 : decode cX4_from 125 = .ok (.imul, 1) := by decide +kernel
theorem dX4_from_126 : decode cX4_from 126 = .ok (.iload_n 2, 1) := by decide +kernel
theorem dX4_from_127 : decode cX4_from 127 = .ok (.iadd, 1) := by decide +kernel
theorem dX4_from_128 : decode cX4_from 128 = .ok (.iaload, 1) := by decide +kernel
theorem dX4_from_129 : decode cX4_from 129 = .ok (.goto 4, 3) := by decide +kernel
theorem dX4_from_132 : decode cX4_from 132 = .ok (.iconst (-1), 1) := by decide +kernel
theorem dX4_from_133 : decode cX4_from 133 = .ok (.ireturn, 1) := by decide +kernel
theorem dX4_value_0 : decode cX4_value 0 = .ok (.iload_n 1, 1) := by decide +kernel
theorem dX4_value_1 : decode cX4_value 1 = .ok (.ifCond .lt 33, 3) := by decide +kernel
theorem dX4_value_4 : decode cX4_value 4 = .ok (.iload_n 1, 1) := by decide +kernel
theorem dX4_value_5 : decode cX4_value 5 = .ok (.aload_n 0, 1) := by decide +kernel
theorem dX4_value_6 : decode cX4_value 6 = .ok (.getfield 7, 3) := by decide +kernel
theorem dX4_value_9 : decode cX4_value 9 = .ok (.if_icmp .ge 25, 3) := by decide +kernel
theorem dX4_value_12 : decode cX4_value 12 = .ok (.aload_n 0, 1) := by decide +kernel
theorem dX4_value_13 : decode cX4_value 13 = .ok (.iload_n 2, 1) := by decide +kernel
theorem dX4_value_14 : decode cX4_value 14 = .ok (.invokevirtual 102, 3) := by decide +kernel
theorem dX4_value_17 : decode cX4_value 17 = .ok (.ifCond .eq 17, 3) := by decide +kernel
theorem dX4_value_20 : decode cX4_value 20 = .ok (.aload_n 0, 1) := by decide +kernel
theorem dX4_value_21 : decode cX4_value 21 = .ok (.getfield 13, 3) := by decide +kernel
theorem dX4_value_24 : decode cX4_value 24 = .ok (.bipush 24, 2) := by decide +kernel
theorem dX4_value_26 : decode cX4_value 26 = .ok (.iload_n 1, 1) := by decide +kernel
theorem dX4_value_27 : decode cX4_value 27 = .ok (.imul, 1) := by decide +kernel
theorem dX4_value_28 : decode cX4_value 28 = .ok (.iload_n 2, 1) := by decide +kernel
theorem dX4_value_29 : decode cX4_value 29 = .ok (.iadd, 1) := by decide +kernel
theorem dX4_value_30 : decode cX4_value 30 = .ok (.laload, 1) := by decide +kernel
theorem dX4_value_31 : decode cX4_value 31 = .ok (.goto 4, 3) := by decide +kernel
theorem dX4_value_34 : decode cX4_value 34 = .ok (.lconst 0, 1) := by decide +kernel
theorem dX4_value_35 : decode cX4_value 35 = .ok (.lreturn, 1) := by decide +kernel
theorem dX4_play_0 : decode cX4_play 0 = .ok (.iload_n 3, 1) := by decide +kernel
theorem dX4_play_1 : decode cX4_play 1 = .ok (.ifCond .lt 16, 3) := by decide +kernel
theorem dX4_play_4 : decode cX4_play 4 = .ok (.iload_n 3, 1) := by decide +kernel
theorem dX4_play_5 : decode cX4_play 5 = .ok (.bipush 50, 2) := by decide +kernel
theorem dX4_play_7 : decode cX4_play 7 = .ok (.if_icmp .gt 10, 3) := by decide +kernel
theorem dX4_play_10 : decode cX4_play 10 = .ok (.aload_n 0, 1) := by decide +kernel
theorem dX4_play_11 : decode cX4_play 11 = .ok (.getfield 82, 3) := by decide +kernel
theorem dX4_play_14 : decode cX4_play 14 = .ok (.ifCond .ne 7, 3) := by decide +kernel
theorem dX4_play_17 : decode cX4_play 17 = .ok (.iconst 0, 1) := by decide +kernel
theorem dX4_play_18 : decode cX4_play 18 = .ok (.goto 4, 3) := by decide +kernel
theorem dX4_play_21 : decode cX4_play 21 = .ok (.iload_n 3, 1) := by decide +kernel
theorem dX4_play_22 : decode cX4_play 22 = .ok (.istore 4, 2) := by decide +kernel
theorem dX4_play_24 : decode cX4_play 24 = .ok (.lload_n 1, 1) := by decide +kernel
theorem dX4_play_25 : decode cX4_play 25 = .ok (.lstore 5, 2) := by decide +kernel
theorem dX4_play_27 : decode cX4_play 27 = .ok (.aload_n 0, 1) := by decide +kernel
theorem dX4_play_28 : decode cX4_play 28 = .ok (.iconst 0, 1) := by decide +kernel
theorem dX4_play_29 : decode cX4_play 29 = .ok (.putfield 172, 3) := by decide +kernel
theorem dX4_play_32 : decode cX4_play 32 = .ok (.iconst 0, 1) := by decide +kernel
theorem dX4_play_33 : decode cX4_play 33 = .ok (.istore 7, 2) := by decide +kernel
theorem dX4_play_35 : decode cX4_play 35 = .ok (.iload 7, 2) := by decide +kernel
theorem dX4_play_37 : decode cX4_play 37 = .ok (.iload 4, 2) := by decide +kernel
theorem dX4_play_39 : decode cX4_play 39 = .ok (.if_icmp .ge 116, 3) := by decide +kernel
theorem dX4_play_42 : decode cX4_play 42 = .ok (.lload 5, 2) := by decide +kernel
theorem dX4_play_44 : decode cX4_play 44 = .ok (.ldc2_w 181, 3) := by decide +kernel
theorem dX4_play_47 : decode cX4_play 47 = .ok (.lmul, 1) := by decide +kernel
theorem dX4_play_48 : decode cX4_play 48 = .ok (.ldc2_w 183, 3) := by decide +kernel
theorem dX4_play_51 : decode cX4_play 51 = .ok (.ladd, 1) := by decide +kernel
theorem dX4_play_52 : decode cX4_play 52 = .ok (.lstore 5, 2) := by decide +kernel
theorem dX4_play_54 : decode cX4_play 54 = .ok (.lload 5, 2) := by decide +kernel
theorem dX4_play_56 : decode cX4_play 56 = .ok (.bipush 33, 2) := by decide +kernel
theorem dX4_play_58 : decode cX4_play 58 = .ok (.lushr, 1) := by decide +kernel
theorem dX4_play_59 : decode cX4_play 59 = .ok (.aload_n 0, 1) := by decide +kernel
theorem dX4_play_60 : decode cX4_play 60 = .ok (.getfield 82, 3) := by decide +kernel
theorem dX4_play_63 : decode cX4_play 63 = .ok (.i2l, 1) := by decide +kernel
theorem dX4_play_64 : decode cX4_play 64 = .ok (.lrem, 1) := by decide +kernel
theorem dX4_play_65 : decode cX4_play 65 = .ok (.l2i, 1) := by decide +kernel
theorem dX4_play_66 : decode cX4_play 66 = .ok (.istore 8, 2) := by decide +kernel
theorem dX4_play_68 : decode cX4_play 68 = .ok (.lload 5, 2) := by decide +kernel
theorem dX4_play_70 : decode cX4_play 70 = .ok (.bipush 20, 2) := by decide +kernel
theorem dX4_play_72 : decode cX4_play 72 = .ok (.lushr, 1) := by decide +kernel
theorem dX4_play_73 : decode cX4_play 73 = .ok (.ldc2_w 185, 3) := by decide +kernel
theorem dX4_play_76 : decode cX4_play 76 = .ok (.land, 1) := by decide +kernel
theorem dX4_play_77 : decode cX4_play 77 = .ok (.lstore 9, 2) := by decide +kernel
theorem dX4_play_79 : decode cX4_play 79 = .ok (.aload_n 0, 1) := by decide +kernel
theorem dX4_play_80 : decode cX4_play 80 = .ok (.aload_n 0, 1) := by decide +kernel
theorem dX4_play_81 : decode cX4_play 81 = .ok (.getfield 13, 3) := by decide +kernel
theorem dX4_play_84 : decode cX4_play 84 = .ok (.iload 8, 2) := by decide +kernel
theorem dX4_play_86 : decode cX4_play 86 = .ok (.laload, 1) := by decide +kernel
theorem dX4_play_87 : decode cX4_play 87 = .ok (.lload 9, 2) := by decide +kernel
theorem dX4_play_89 : decode cX4_play 89 = .ok (.lcmp, 1) := by decide +kernel
theorem dX4_play_90 : decode cX4_play 90 = .ok (.ifCond .eq 12, 3) := by decide +kernel
theorem dX4_play_93 : decode cX4_play 93 = .ok (.aload_n 0, 1) := by decide +kernel
theorem dX4_play_94 : decode cX4_play 94 = .ok (.getfield 172, 3) := by decide +kernel
theorem dX4_play_97 : decode cX4_play 97 = .ok (.iconst 1, 1) := by decide +kernel
theorem dX4_play_98 : decode cX4_play 98 = .ok (.iadd, 1) := by decide +kernel
theorem dX4_play_99 : decode cX4_play 99 = .ok (.goto 7, 3) := by decide +kernel
