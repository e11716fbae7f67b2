theorem dX3_from_33 : decode cX3_from 33 = .ok (.iload_n 1, 1) := by decide +kernel
theorem dX3_from_34 : decode cX3_from 34 = .ok (.invokevirtual 163, 3) := by decide +kernel
theorem dX3_from_37 : decode cX3_from 37 = .ok (.ifCond .eq 29, 3) := by decide +kernel
theorem dX3_from_40 : decode cX3_from 40 = .ok (.aload_n 0, 1) := by decide +kernel
theorem dX3_from_41 : decode cX3_from 41 = .ok (.getfield 14, 3) := by decide +kernel
theorem dX3_from_44 : decode cX3_from 44 = .ok (.iload_n 1, 1) := by decide +kernel
theorem dX3_from_45 : decode cX3_from 45 = .ok (.laload, 1) := by decide +kernel
theorem dX3_from_46 : decode cX3_from 46 = .ok (.aload_n 3, 1) := by decide +kernel
theorem dX3_from_47 : decode cX3_from 47 = .ok (.getfield 166, 3) := by decide +kernel
theorem dX3_from_50 : decode cX3_from 50 = .ok (.lcmp, 1) := by decide +kernel
theorem dX3_from_51 : decode cX3_from 51 = .ok (.ifCond .ne 15, 3) := by decide +kernel
theorem dX3_from_54 : decode cX3_from 54 = .ok (.iload_n 2, 1) := by decide +kernel
theorem dX3_from_55 : decode cX3_from 55 = .ok (.ifCond .lt 11, 3) := by decide +kernel
theorem dX3_from_58 : decode cX3_from 58 = .ok (.iload_n 2, 1) := by decide +kernel
theorem dX3_from_59 : decode cX3_from 59 = .ok (.aload_n 3, 1) := by decide +kernel
theorem dX3_from_60 : decode cX3_from 60 = .ok (.getfield 170, 3) := by decide +kernel
theorem dX3_from_63 : decode cX3_from 63 = .ok (.if_icmp .lt 5, 3) := by decide +kernel
theorem dX3_from_66 : decode cX3_from 66 = .ok (.iconst (-1), 1) := by decide +kernel
theorem dX3_from_67 : decode cX3_from 67 = .ok (.ireturn, 1) := by decide +kernel
theorem dX3_from_68 : decode cX3_from 68 = .ok (.aload_n 3, 1) := by decide +kernel
theorem dX3_from_69 : decode cX3_from 69 = .ok (.getfield 173, 3) := by decide +kernel
theorem dX3_from_72 : decode cX3_from 72 = .ok (.iload_n 2, 1) := by decide +kernel
theorem dX3_from_73 : decode cX3_from 73 = .ok (.iaload, 1) := by decide +kernel
theorem dX3_from_74 : decode cX3_from 74 = .ok (.ireturn, 1) := by decide +kernel
theorem dX3_run_0 : decode cX3_run 0 = .ok (.aload_n 0, 1) := by decide +kernel
theorem dX3_run_1 : decode cX3_run 1 = .ok (.iload_n 1, 1) := by decide +kernel
theorem dX3_run_2 : decode cX3_run 2 = .ok (.invokevirtual 60, 3) := by decide +kernel
theorem dX3_run_5 : decode cX3_run 5 = .ok (.ifCond .eq 16, 3) := by decide +kernel
theorem dX3_run_8 : decode cX3_run 8 = .ok (.aload_n 0, 1) := by decide +kernel
theorem dX3_run_9 : decode cX3_run 9 = .ok (.iload_n 1, 1) := by decide +kernel
theorem dX3_run_10 : decode cX3_run 10 = .ok (.iconst 0, 1) := by decide +kernel
theorem dX3_run_11 : decode cX3_run 11 = .ok (.invokevirtual 176, 3) := by decide +kernel
theorem dX3_run_14 : decode cX3_run 14 = .ok (.ifCond .eq 7, 3) := by decide +kernel
theorem dX3_run_17 : decode cX3_run 17 = .ok (.iconst 1, 1) := by decide +kernel
theorem dX3_run_18 : decode cX3_run 18 = .ok (.goto 4, 3) := by decide +kernel
theorem dX3_run_21 : decode cX3_run 21 = .ok (.iconst 0, 1) := by decide +kernel
theorem dX3_run_22 : decode cX3_run 22 = .ok (.ireturn, 1) := by decide +kernel
theorem dX3_value_0 : decode cX3_value 0 = .ok (.iload_n 1, 1) := by decide +kernel
theorem dX3_value_1 : decode cX3_value 1 = .ok (.ifCond .lt 19, 3) := by decide +kernel
theorem dX3_value_4 : decode cX3_value 4 = .ok (.iload_n 1, 1) := by decide +kernel
theorem dX3_value_5 : decode cX3_value 5 = .ok (.aload_n 0, 1) := by decide +kernel
theorem dX3_value_6 : decode cX3_value 6 = .ok (.getfield 45, 3) := by decide +kernel
theorem dX3_value_9 : decode cX3_value 9 = .ok (.if_icmp .ge 11, 3) := by decide +kernel
theorem dX3_value_12 : decode cX3_value 12 = .ok (.aload_n 0, 1) := by decide +kernel
theorem dX3_value_13 : decode cX3_value 13 = .ok (.iload_n 2, 1) := by decide +kernel
theorem dX3_value_14 : decode cX3_value 14 = .ok (.invokevirtual 64, 3) := by decide +kernel
theorem dX3_value_17 : decode cX3_value 17 = .ok (.ifCond .ne 5, 3) := by decide +kernel
theorem dX3_value_20 : decode cX3_value 20 = .ok (.lconst 0, 1) := by decide +kernel
theorem dX3_value_21 : decode cX3_value 21 = .ok (.lreturn, 1) := by decide +kernel
theorem dX3_value_22 : decode cX3_value 22 = .ok (.aload_n 0, 1) := by decide +kernel
theorem dX3_value_23 : decode cX3_value 23 = .ok (.getfield 11, 3) := by decide +kernel
theorem dX3_value_26 : decode cX3_value 26 = .ok (.iload_n 1, 1) := by decide +kernel
theorem dX3_value_27 : decode cX3_value 27 = .ok (.aaload, 1) := by decide +kernel
theorem dX3_value_28 : decode cX3_value 28 = .ok (.iload_n 2, 1) := by decide +kernel
theorem dX3_value_29 : decode cX3_value 29 = .ok (.laload, 1) := by decide +kernel
theorem dX3_value_30 : decode cX3_value 30 = .ok (.lreturn, 1) := by decide +kernel
theorem dX3_play_0 : decode cX3_play 0 = .ok (.iload_n 3, 1) := by decide +kernel
theorem dX3_play_1 : decode cX3_play 1 = .ok (.ifCond .lt 16, 3) := by decide +kernel
theorem dX3_play_4 : decode cX3_play 4 = .ok (.iload_n 3, 1) := by decide +kernel
theorem dX3_play_5 : decode cX3_play 5 = .ok (.bipush 50, 2) := by decide +kernel
theorem dX3_play_7 : decode cX3_play 7 = .ok (.if_icmp .gt 10, 3) := by decide +kernel
theorem dX3_play_10 : decode cX3_play 10 = .ok (.aload_n 0, 1) := by decide +kernel
theorem dX3_play_11 : decode cX3_play 11 = .ok (.getfield 41, 3) := by decide +kernel
theorem dX3_play_14 : decode cX3_play 14 = .ok (.ifCond .ne 5, 3) := by decide +kernel
theorem dX3_play_17 : decode cX3_play 17 = .ok (.iconst 0, 1) := by decide +kernel
theorem dX3_play_18 : decode cX3_play 18 = .ok (.ireturn, 1) := by decide +kernel
theorem dX3_play_19 : decode cX3_play 19 = .ok (.aload_n 0, 1) := by decide +kernel
theorem dX3_play_20 : decode cX3_play 20 = .ok (.getfield 54, 3) := by decide +kernel
theorem dX3_play_23 : decode cX3_play 23 = .ok (.istore 4, 2) := by decide +kernel
theorem dX3_play_25 : decode cX3_play 25 = .ok (.lload_n 1, 1) := by decide +kernel
theorem dX3_play_26 : decode cX3_play 26 = .ok (.lstore 5, 2) := by decide +kernel
theorem dX3_play_28 : decode cX3_play 28 = .ok (.iconst 0, 1) := by decide +kernel
theorem dX3_play_29 : decode cX3_play 29 = .ok (.istore 7, 2) := by decide +kernel
theorem dX3_play_31 : decode cX3_play 31 = .ok (.iload 7, 2) := by decide +kernel
theorem dX3_play_33 : decode cX3_play 33 = .ok (.iload_n 3, 1) := by decide +kernel
theorem dX3_play_34 : decode cX3_play 34 = .ok (.if_icmp .ge 57, 3) := by decide +kernel
theorem dX3_play_37 : decode cX3_play 37 = .ok (.lload 5, 2) := by decide +kernel
theorem dX3_play_39 : decode cX3_play 39 = .ok (.ldc2_w 179, 3) := by decide +kernel
theorem dX3_play_42 : decode cX3_play 42 = .ok (.lmul, 1) := by decide +kernel
theorem dX3_play_43 : decode cX3_play 43 = .ok (.ldc2_w 181, 3) := by decide +kernel
theorem dX3_play_46 : decode cX3_play 46 = .ok (.ladd, 1) := by decide +kernel
theorem dX3_play_47 : decode cX3_play 47 = .ok (.lstore 5, 2) := by decide +kernel
theorem dX3_play_49 : decode cX3_play 49 = .ok (.aload_n 0, 1) := by decide +kernel
theorem dX3_play_50 : decode cX3_play 50 = .ok (.lload 5, 2) := by decide +kernel
theorem dX3_play_52 : decode cX3_play 52 = .ok (.bipush 33, 2) := by decide +kernel
theorem dX3_play_54 : decode cX3_play 54 = .ok (.lushr, 1) := by decide +kernel
theorem dX3_play_55 : decode cX3_play 55 = .ok (.aload_n 0, 1) := by decide +kernel
theorem dX3_play_56 : decode cX3_play 56 = .ok (.getfield 41, 3) := by decide +kernel
theorem dX3_play_59 : decode cX3_play 59 = .ok (.i2l, 1) := by decide +kernel
theorem dX3_play_60 : decode cX3_play 60 = .ok (.lrem, 1) := by decide +kernel
theorem dX3_play_61 : decode cX3_play 61 = .ok (.l2i, 1) := by decide +kernel
theorem dX3_play_62 : decode cX3_play 62 = .ok (.lload 5, 2) := by decide +kernel
theorem dX3_play_64 : decode cX3_play 64 = .ok (.bipush 20, 2) := by decide +kernel
theorem dX3_play_66 : decode cX3_play 66 = .ok (.lushr, 1) := by decide +kernel
theorem dX3_play_67 : decode cX3_play 67 = .ok (.ldc2_w 183, 3) := by decide +kernel
theorem dX3_play_70 : decode cX3_play 70 = .ok (.land, 1) := by decide +kernel
theorem dX3_play_71 : decode cX3_play 71 = .ok (.invokevirtual 185, 3) := by decide +kernel
theorem dX3_play_74 : decode cX3_play 74 = .ok (.lload 5, 2) := by decide +kernel
theorem dX3_play_76 : decode cX3_play 76 = .ok (.lconst 0, 1) := by decide +kernel
theorem dX3_play_77 : decode cX3_play 77 = .ok (.lcmp, 1) := by decide +kernel
theorem dX3_play_78 : decode cX3_play 78 = .ok (.ifCond .ge 7, 3) := by decide +kernel
theorem dX3_play_81 : decode cX3_play 81 = .ok (.aload_n 0, 1) := by decide +kernel
theorem dX3_play_82 : decode cX3_play 82 = .ok (.invokevirtual 188, 3) := by decide +kernel
theorem dX3_play_85 : decode cX3_play 85 = .ok (.iinc 7 1, 3) := by decide +kernel
theorem dX3_play_88 : decode cX3_play 88 = .ok (.goto (-57), 3) := by decide +kernel
theorem dX3_play_91 : decode cX3_play 91 = .ok (.aload_n 0, 1) := by decide +kernel
theorem dX3_play_92 : decode cX3_play 92 = .ok (.getfield 54, 3) := by decide +kernel
theorem dX3_play_95 : decode cX3_play 95 = .ok (.iload 4, 2) := by decide +kernel
theorem dX3_play_97 : decode cX3_play 97 = .ok (.isub, 1) := by decide +kernel
theorem dX3_play_98 : decode cX3_play 98 = .ok (.ireturn, 1) := by decide +kernel
theorem dX3_isThing_0 : decode cX3_isThing 0 = .ok (.iload_n 1, 1) := by decide +kernel
theorem dX3_isThing_1 : decode cX3_isThing 1 = .ok (.ifCond .lt 15, 3) := by decide +kernel
theorem dX3_isThing_4 : decode cX3_isThing 4 = .ok (.iload_n 1, 1) := by decide +kernel
theorem dX3_isThing_5 : decode cX3_isThing 5 = .ok (.aload_n 0, 1) := by decide +kernel
theorem dX3_isThing_6 : decode cX3_isThing 6 = .ok (.getfield 41, 3) := by decide +kernel
theorem dX3_isThing_9 : decode cX3_isThing 9 = .ok (.if_icmp .ge 7, 3) := by decide +kernel
theorem dX3_isThing_12 : decode cX3_isThing 12 = .ok (.iconst 1, 1) := by decide +kernel
theorem dX3_isThing_13 : decode cX3_isThing 13 = .ok (.goto 4, 3) := by decide +kernel
theorem dX3_isThing_16 : decode cX3_isThing 16 = .ok (.iconst 0, 1) := by decide +kernel
theorem dX3_isThing_17 : decode cX3_isThing 17 = .ok (.ireturn, 1) := by decide +kernel
theorem dX3_isStep_0 : decode cX3_isStep 0 = .ok (.iload_n 1, 1) := by decide +kernel
theorem dX3_isStep_1 : decode cX3_isStep 1 = .ok (.ifCond .lt 15, 3) := by decide +kernel
theorem dX3_isStep_4 : decode cX3_isStep 4 = .ok (.iload_n 1, 1) := by decide +kernel
theorem dX3_isStep_5 : decode cX3_isStep 5 = .ok (.aload_n 0, 1) := by decide +kernel
theorem dX3_isStep_6 : decode cX3_isStep 6 = .ok (.getfield 48, 3) := by decide +kernel
theorem dX3_isStep_9 : decode cX3_isStep 9 = .ok (.if_icmp .ge 7, 3) := by decide +kernel
theorem dX3_isStep_12 : decode cX3_isStep 12 = .ok (.iconst 1, 1) := by decide +kernel
theorem dX3_isStep_13 : decode cX3_isStep 13 = .ok (.goto 4, 3) := by decide +kernel
theorem dX3_isStep_16 : decode cX3_isStep 16 = .ok (.iconst 0, 1) := by decide +kernel
theorem dX3_isStep_17 : decode cX3_isStep 17 = .ok (.ireturn, 1) := by decide +kernel
theorem dX3_isOpen_0 : decode cX3_isOpen 0 = .ok (.iload_n 1, 1) := by decide +kernel
theorem dX3_isOpen_1 : decode cX3_isOpen 1 = .ok (.ifCond .lt 27, 3) := by decide +kernel
theorem dX3_isOpen_4 : decode cX3_isOpen 4 = .ok (.iload_n 1, 1) := by decide +kernel
theorem dX3_isOpen_5 : decode cX3_isOpen 5 = .ok (.aload_n 0, 1) := by decide +kernel
theorem dX3_isOpen_6 : decode cX3_isOpen 6 = .ok (.getfield 51, 3) := by decide +kernel
theorem dX3_isOpen_9 : decode cX3_isOpen 9 = .ok (.if_icmp .ge 19, 3) := by decide +kernel
theorem dX3_isOpen_12 : decode cX3_isOpen 12 = .ok (.aload_n 0, 1) := by decide +kernel
theorem dX3_isOpen_13 : decode cX3_isOpen 13 = .ok (.getfield 30, 3) := by decide +kernel
theorem dX3_isOpen_16 : decode cX3_isOpen 16 = .ok (.iload_n 1, 1) := by decide +kernel
theorem dX3_isOpen_17 : decode cX3_isOpen 17 = .ok (.aaload, 1) := by decide +kernel
theorem dX3_isOpen_18 : decode cX3_isOpen 18 = .ok (.getfield 120, 3) := by decide +kernel
theorem dX3_isOpen_21 : decode cX3_isOpen 21 = .ok (.ifCond .eq 7, 3) := by decide +kernel
theorem dX3_isOpen_24 : decode cX3_isOpen 24 = .ok (.iconst 1, 1) := by decide +kernel
theorem dX3_isOpen_25 : decode cX3_isOpen 25 = .ok (.goto 4, 3) := by decide +kernel
theorem dX3_isOpen_28 : decode cX3_isOpen 28 = .ok (.iconst 0, 1) := by decide +kernel
theorem dX3_isOpen_29 : decode cX3_isOpen 29 = .ok (.ireturn, 1) := by decide +kernel
theorem dX3_give_0 : decode cX3_give 0 = .ok (.aload_n 0, 1) := by decide +kernel
theorem dX3_give_1 : decode cX3_give 1 = .ok (.getfield 14, 3) := by decide +kernel
theorem dX3_give_4 : decode cX3_give 4 = .ok (.iload_n 1, 1) := by decide +kernel
theorem dX3_give_5 : decode cX3_give 5 = .ok (.laload, 1) := by decide +kernel
theorem dX3_give_6 : decode cX3_give 6 = .ok (.lload_n 2, 1) := by decide +kernel
theorem dX3_give_7 : decode cX3_give 7 = .ok (.lcmp, 1) := by decide +kernel
theorem dX3_give_8 : decode cX3_give 8 = .ok (.ifCond .eq 20, 3) := by decide +kernel
theorem dX3_give_11 : decode cX3_give 11 = .ok (.aload_n 0, 1) := by decide +kernel
theorem dX3_give_12 : decode cX3_give 12 = .ok (.getfield 14, 3) := by decide +kernel
theorem dX3_give_15 : decode cX3_give 15 = .ok (.iload_n 1, 1) := by decide +kernel
theorem dX3_give_16 : decode cX3_give 16 = .ok (.lload_n 2, 1) := by decide +kernel
theorem dX3_give_17 : decode cX3_give 17 = .ok (.lastore, 1) := by decide +kernel
theorem dX3_give_18 : decode cX3_give 18 = .ok (.aload_n 0, 1) := by decide +kernel
theorem dX3_give_19 : decode cX3_give 19 = .ok (.dup, 1) := by decide +kernel
theorem dX3_give_20 : decode cX3_give 20 = .ok (.getfield 54, 3) := by decide +kernel
theorem dX3_give_23 : decode cX3_give 23 = .ok (.iconst 1, 1) := by decide +kernel
theorem dX3_give_24 : decode cX3_give 24 = .ok (.iadd, 1) := by decide +kernel
theorem dX3_give_25 : decode cX3_give 25 = .ok (.putfield 54, 3) := by decide +kernel
theorem dX3_give_28 : decode cX3_give 28 = .ok (.return_, 1) := by decide +kernel
theorem dX3_giveWritten_0 : decode cX3_giveWritten 0 = .ok (.iconst 0, 1) := by decide +kernel
theorem dX3_giveWritten_1 : decode cX3_giveWritten 1 = .ok (.istore_n 2, 1) := by decide +kernel
theorem dX3_giveWritten_2 : decode cX3_giveWritten 2 = .ok (.iload_n 2, 1) := by decide +kernel
theorem dX3_giveWritten_3 : decode cX3_giveWritten 3 = .ok (.aload_n 0, 1) := by decide +kernel
theorem dX3_giveWritten_4 : decode cX3_giveWritten 4 = .ok (.getfield 41, 3) := by decide +kernel
theorem dX3_giveWritten_7 : decode cX3_giveWritten 7 = .ok (.if_icmp .ge 29, 3) := by decide +kernel
theorem dX3_giveWritten_10 : decode cX3_giveWritten 10 = .ok (.aload_n 1, 1) := by decide +kernel
theorem dX3_giveWritten_11 : decode cX3_giveWritten 11 = .ok (.getfield 191, 3) := by decide +kernel
theorem dX3_giveWritten_14 : decode cX3_giveWritten 14 = .ok (.iload_n 2, 1) := by decide +kernel
theorem dX3_giveWritten_15 : decode cX3_giveWritten 15 = .ok (.baload, 1) := by decide +kernel
theorem dX3_giveWritten_16 : decode cX3_giveWritten 16 = .ok (.ifCond .eq 14, 3) := by decide +kernel
theorem dX3_giveWritten_19 : decode cX3_giveWritten 19 = .ok (.aload_n 0, 1) := by decide +kernel
theorem dX3_giveWritten_20 : decode cX3_giveWritten 20 = .ok (.iload_n 2, 1) := by decide +kernel
theorem dX3_giveWritten_21 : decode cX3_giveWritten 21 = .ok (.aload_n 1, 1) := by decide +kernel
theorem dX3_giveWritten_22 : decode cX3_giveWritten 22 = .ok (.getfield 194, 3) := by decide +kernel
theorem dX3_giveWritten_25 : decode cX3_giveWritten 25 = .ok (.iload_n 2, 1) := by decide +kernel
theorem dX3_giveWritten_26 : decode cX3_giveWritten 26 = .ok (.laload, 1) := by decide +kernel
theorem dX3_giveWritten_27 : decode cX3_giveWritten 27 = .ok (.invokevirtual 185, 3) := by decide +kernel
theorem dX3_giveWritten_30 : decode cX3_giveWritten 30 = .ok (.iinc 2 1, 3) := by decide +kernel
theorem dX3_giveWritten_33 : decode cX3_giveWritten 33 = .ok (.goto (-31), 3) := by decide +kernel
theorem dX3_giveWritten_36 : decode cX3_giveWritten 36 = .ok (.return_, 1) := by decide +kernel
theorem dX3_collectConflicts_0 : decode cX3_collectConflicts 0 = .ok (.iconst 0, 1) := by decide +kernel
theorem dX3_collectConflicts_1 : decode cX3_collectConflicts 1 = .ok (.istore_n 2, 1) := by decide +kernel
theorem dX3_collectConflicts_2 : decode cX3_collectConflicts 2 = .ok (.iconst 0, 1) := by decide +kernel
theorem dX3_collectConflicts_3 : decode cX3_collectConflicts 3 = .ok (.istore_n 3, 1) := by decide +kernel
theorem dX3_collectConflicts_4 : decode cX3_collectConflicts 4 = .ok (.iload_n 3, 1) := by decide +kernel
theorem dX3_collectConflicts_5 : decode cX3_collectConflicts 5 = .ok (.aload_n 0, 1) := by decide +kernel
theorem dX3_collectConflicts_6 : decode cX3_collectConflicts 6 = .ok (.getfield 41, 3) := by decide +kernel
theorem dX3_collectConflicts_9 : decode cX3_collectConflicts 9 = .ok (.if_icmp .ge 46, 3) := by decide +kernel
theorem dX3_collectConflicts_12 : decode cX3_collectConflicts 12 = .ok (.aload_n 1, 1) := by decide +kernel
theorem dX3_collectConflicts_13 : decode cX3_collectConflicts 13 = .ok (.iload_n 3, 1) := by decide +kernel
theorem dX3_collectConflicts_14 : decode cX3_collectConflicts 14 = .ok (.aload_n 0, 1) := by decide +kernel
theorem dX3_collectConflicts_15 : decode cX3_collectConflicts 15 = .ok (.getfield 14, 3) := by decide +kernel
theorem dX3_collectConflicts_18 : decode cX3_collectConflicts 18 = .ok (.iload_n 3, 1) := by decide +kernel
theorem dX3_collectConflicts_19 : decode cX3_collectConflicts 19 = .ok (.laload, 1) := by decide +kernel
theorem dX3_collectConflicts_20 : decode cX3_collectConflicts 20 = .ok (.invokevirtual 197, 3) := by decide +kernel
theorem dX3_collectConflicts_23 : decode cX3_collectConflicts 23 = .ok (.ifCond .eq 26, 3) := by decide +kernel
theorem dX3_collectConflicts_26 : decode cX3_collectConflicts 26 = .ok (.aload_n 0, 1) := by decide +kernel
theorem dX3_collectConflicts_27 : decode cX3_collectConflicts 27 = .ok (.getfield 37, 3) := by decide +kernel
theorem dX3_collectConflicts_30 : decode cX3_collectConflicts 30 = .ok (.iload_n 2, 1) := by decide +kernel
theorem dX3_collectConflicts_31 : decode cX3_collectConflicts 31 = .ok (.iload_n 3, 1) := by decide +kernel
theorem dX3_collectConflicts_32 : decode cX3_collectConflicts 32 = .ok (.aload_n 1, 1) := by decide +kernel
theorem dX3_collectConflicts_33 : decode cX3_collectConflicts 33 = .ok (.iload_n 3, 1) := by decide +kernel
theorem dX3_collectConflicts_34 : decode cX3_collectConflicts 34 = .ok (.invokevirtual 101, 3) := by decide +kernel
theorem dX3_collectConflicts_37 : decode cX3_collectConflicts 37 = .ok (.aload_n 0, 1) := by decide +kernel
theorem dX3_collectConflicts_38 : decode cX3_collectConflicts 38 = .ok (.getfield 14, 3) := by decide +kernel
theorem dX3_collectConflicts_41 : decode cX3_collectConflicts 41 = .ok (.iload_n 3, 1) := by decide +kernel
theorem dX3_collectConflicts_42 : decode cX3_collectConflicts 42 = .ok (.laload, 1) := by decide +kernel
theorem dX3_collectConflicts_43 : decode cX3_collectConflicts 43 = .ok (.invokevirtual 201, 3) := by decide +kernel
theorem dX3_collectConflicts_46 : decode cX3_collectConflicts 46 = .ok (.iinc 2 1, 3) := by decide +kernel
theorem dX3_collectConflicts_49 : decode cX3_collectConflicts 49 = .ok (.iinc 3 1, 3) := by decide +kernel
theorem dX3_collectConflicts_52 : decode cX3_collectConflicts 52 = .ok (.goto (-48), 3) := by decide +kernel
theorem dX3_collectConflicts_55 : decode cX3_collectConflicts 55 = .ok (.iload_n 2, 1) := by decide +kernel
theorem dX3_collectConflicts_56 : decode cX3_collectConflicts 56 = .ok (.ifCond .le 19, 3) := by decide +kernel
theorem dX3_collectConflicts_59 : decode cX3_collectConflicts 59 = .ok (.aload_n 0, 1) := by decide +kernel
theorem dX3_collectConflicts_60 : decode cX3_collectConflicts 60 = .ok (.getfield 37, 3) := by decide +kernel
theorem dX3_collectConflicts_63 : decode cX3_collectConflicts 63 = .ok (.aload_n 1, 1) := by decide +kernel
theorem dX3_collectConflicts_64 : decode cX3_collectConflicts 64 = .ok (.putfield 140, 3) := by decide +kernel
theorem dX3_collectConflicts_67 : decode cX3_collectConflicts 67 = .ok (.aload_n 0, 1) := by decide +kernel
theorem dX3_collectConflicts_68 : decode cX3_collectConflicts 68 = .ok (.getfield 37, 3) := by decide +kernel
theorem dX3_collectConflicts_71 : decode cX3_collectConflicts 71 = .ok (.iload_n 2, 1) := by decide +kernel
theorem dX3_collectConflicts_72 : decode cX3_collectConflicts 72 = .ok (.putfield 205, 3) := by decide +kernel
theorem dX3_collectConflicts_75 : decode cX3_collectConflicts 75 = .ok (.iload_n 2, 1) := by decide +kernel
theorem dX3_collectConflicts_76 : decode cX3_collectConflicts 76 = .ok (.ireturn, 1) := by decide +kernel
theorem dX3_isSameOrAbove_0 : decode cX3_isSameOrAbove 0 = .ok (.aload_n 0, 1) := by decide +kernel
theorem dX3_isSameOrAbove_1 : decode cX3_isSameOrAbove 1 = .ok (.getfield 24, 3) := by decide +kernel
theorem dX3_isSameOrAbove_4 : decode cX3_isSameOrAbove 4 = .ok (.iload_n 2, 1) := by decide +kernel
theorem dX3_isSameOrAbove_5 : decode cX3_isSameOrAbove 5 = .ok (.aaload, 1) := by decide +kernel
theorem dX3_isSameOrAbove_6 : decode cX3_isSameOrAbove 6 = .ok (.iload_n 2, 1) := by decide +kernel
theorem dX3_isSameOrAbove_7 : decode cX3_isSameOrAbove 7 = .ok (.invokevirtual 208, 3) := by decide +kernel
theorem dX3_isSameOrAbove_10 : decode cX3_isSameOrAbove 10 = .ok (.iload_n 1, 1) := by decide +kernel
theorem dX3_isSameOrAbove_11 : decode cX3_isSameOrAbove 11 = .ok (.iushr, 1) := by decide +kernel
theorem dX3_isSameOrAbove_12 : decode cX3_isSameOrAbove 12 = .ok (.iconst 1, 1) := by decide +kernel
theorem dX3_isSameOrAbove_13 : decode cX3_isSameOrAbove 13 = .ok (.iand, 1) := by decide +kernel
theorem dX3_isSameOrAbove_14 : decode cX3_isSameOrAbove 14 = .ok (.ifCond .eq 7, 3) := by decide +kernel
theorem dX3_isSameOrAbove_17 : decode cX3_isSameOrAbove 17 = .ok (.iconst 1, 1) := by decide +kernel
theorem dX3_isSameOrAbove_18 : decode cX3_isSameOrAbove 18 = .ok (.goto 4, 3) := by decide +kernel
theorem dX3_isSameOrAbove_21 : decode cX3_isSameOrAbove 21 = .ok (.iconst 0, 1) := by decide +kernel
theorem dX3_isSameOrAbove_22 : decode cX3_isSameOrAbove 22 = .ok (.ireturn, 1) := by decide +kernel
theorem dX3_hasUserAtOrAbove_0 : decode cX3_hasUserAtOrAbove 0 = .ok (.iconst 0, 1) := by decide +kernel
theorem dX3_hasUserAtOrAbove_1 : decode cX3_hasUserAtOrAbove 1 = .ok (.istore_n 3, 1) := by decide +kernel
theorem dX3_hasUserAtOrAbove_2 : decode cX3_hasUserAtOrAbove 2 = .ok (.iload_n 3, 1) := by decide +kernel
theorem dX3_hasUserAtOrAbove_3 : decode cX3_hasUserAtOrAbove 3 = .ok (.aload_n 0, 1) := by decide +kernel
theorem dX3_hasUserAtOrAbove_4 : decode cX3_hasUserAtOrAbove 4 = .ok (.getfield 48, 3) := by decide +kernel
theorem dX3_hasUserAtOrAbove_7 : decode cX3_hasUserAtOrAbove 7 = .ok (.if_icmp .ge 33, 3) := by decide +kernel
theorem dX3_hasUserAtOrAbove_10 : decode cX3_hasUserAtOrAbove 10 = .ok (.aload_n 0, 1) := by decide +kernel
theorem dX3_hasUserAtOrAbove_11 : decode cX3_hasUserAtOrAbove 11 = .ok (.getfield 24, 3) := by decide +kernel
theorem dX3_hasUserAtOrAbove_14 : decode cX3_hasUserAtOrAbove 14 = .ok (.iload_n 3, 1) := by decide +kernel
theorem dX3_hasUserAtOrAbove_15 : decode cX3_hasUserAtOrAbove 15 = .ok (.aaload, 1) := by decide +kernel
theorem dX3_hasUserAtOrAbove_16 : decode cX3_hasUserAtOrAbove 16 = .ok (.iload_n 1, 1) := by decide +kernel
theorem dX3_hasUserAtOrAbove_17 : decode cX3_hasUserAtOrAbove 17 = .ok (.invokevirtual 67, 3) := by decide +kernel
theorem dX3_hasUserAtOrAbove_20 : decode cX3_hasUserAtOrAbove 20 = .ok (.ifCond .eq 14, 3) := by decide +kernel
theorem dX3_hasUserAtOrAbove_23 : decode cX3_hasUserAtOrAbove 23 = .ok (.aload_n 0, 1) := by decide +kernel
theorem dX3_hasUserAtOrAbove_24 : decode cX3_hasUserAtOrAbove 24 = .ok (.iload_n 3, 1) := by decide +kernel
theorem dX3_hasUserAtOrAbove_25 : decode cX3_hasUserAtOrAbove 25 = .ok (.iload_n 2, 1) := by decide +kernel
theorem dX3_hasUserAtOrAbove_26 : decode cX3_hasUserAtOrAbove 26 = .ok (.invokevirtual 73, 3) := by decide +kernel
theorem dX3_hasUserAtOrAbove_29 : decode cX3_hasUserAtOrAbove 29 = .ok (.ifCond .eq 5, 3) := by decide +kernel
theorem dX3_hasUserAtOrAbove_32 : decode cX3_hasUserAtOrAbove 32 = .ok (.iconst 1, 1) := by decide +kernel
theorem dX3_hasUserAtOrAbove_33 : decode cX3_hasUserAtOrAbove 33 = .ok (.ireturn, 1) := by decide +kernel
theorem dX3_hasUserAtOrAbove_34 : decode cX3_hasUserAtOrAbove 34 = .ok (.iinc 3 1, 3) := by decide +kernel
theorem dX3_hasUserAtOrAbove_37 : decode cX3_hasUserAtOrAbove 37 = .ok (.goto (-35), 3) := by decide +kernel
theorem dX3_hasUserAtOrAbove_40 : decode cX3_hasUserAtOrAbove 40 = .ok (.iconst 0, 1) := by decide +kernel
theorem dX3_hasUserAtOrAbove_41 : decode cX3_hasUserAtOrAbove 41 = .ok (.ireturn, 1) := by decide +kernel
theorem dX3_putAbove_0 : decode cX3_putAbove 0 = .ok (.aload_n 0, 1) := by decide +kernel
theorem dX3_putAbove_1 : decode cX3_putAbove 1 = .ok (.getfield 24, 3) := by decide +kernel
theorem dX3_putAbove_4 : decode cX3_putAbove 4 = .ok (.iload_n 1, 1) := by decide +kernel
theorem dX3_putAbove_5 : decode cX3_putAbove 5 = .ok (.aaload, 1) := by decide +kernel
theorem dX3_putAbove_6 : decode cX3_putAbove 6 = .ok (.iload_n 1, 1) := by decide +kernel
theorem dX3_putAbove_7 : decode cX3_putAbove 7 = .ok (.invokevirtual 208, 3) := by decide +kernel
theorem dX3_putAbove_10 : decode cX3_putAbove 10 = .ok (.istore_n 3, 1) := by decide +kernel
theorem dX3_putAbove_11 : decode cX3_putAbove 11 = .ok (.iconst 0, 1) := by decide +kernel
theorem dX3_putAbove_12 : decode cX3_putAbove 12 = .ok (.istore 4, 2) := by decide +kernel
theorem dX3_putAbove_14 : decode cX3_putAbove 14 = .ok (.iload 4, 2) := by decide +kernel
theorem dX3_putAbove_16 : decode cX3_putAbove 16 = .ok (.aload_n 0, 1) := by decide +kernel
theorem dX3_putAbove_17 : decode cX3_putAbove 17 = .ok (.getfield 48, 3) := by decide +kernel
theorem dX3_putAbove_20 : decode cX3_putAbove 20 = .ok (.if_icmp .ge 35, 3) := by decide +kernel
theorem dX3_putAbove_23 : decode cX3_putAbove 23 = .ok (.aload_n 0, 1) := by decide +kernel
theorem dX3_putAbove_24 : decode cX3_putAbove 24 = .ok (.iload_n 2, 1) := by decide +kernel
theorem dX3_putAbove_25 : decode cX3_putAbove 25 = .ok (.iload 4, 2) := by decide +kernel
theorem dX3_putAbove_27 : decode cX3_putAbove 27 = .ok (.invokevirtual 73, 3) := by decide +kernel
theorem dX3_putAbove_30 : decode cX3_putAbove 30 = .ok (.ifCond .eq 19, 3) := by decide +kernel
theorem dX3_putAbove_33 : decode cX3_putAbove 33 = .ok (.aload_n 0, 1) := by decide +kernel
theorem dX3_putAbove_34 : decode cX3_putAbove 34 = .ok (.getfield 24, 3) := by decide +kernel
theorem dX3_putAbove_37 : decode cX3_putAbove 37 = .ok (.iload 4, 2) := by decide +kernel
theorem dX3_putAbove_39 : decode cX3_putAbove 39 = .ok (.aaload, 1) := by decide +kernel
theorem dX3_putAbove_40 : decode cX3_putAbove 40 = .ok (.dup, 1) := by decide +kernel
theorem dX3_putAbove_41 : decode cX3_putAbove 41 = .ok (.getfield 212, 3) := by decide +kernel
theorem dX3_putAbove_44 : decode cX3_putAbove 44 = .ok (.iload_n 3, 1) := by decide +kernel
theorem dX3_putAbove_45 : decode cX3_putAbove 45 = .ok (.ior, 1) := by decide +kernel
theorem dX3_putAbove_46 : decode cX3_putAbove 46 = .ok (.putfield 212, 3) := by decide +kernel
theorem dX3_putAbove_49 : decode cX3_putAbove 49 = .ok (.iinc 4 1, 3) := by decide +kernel
theorem dX3_putAbove_52 : decode cX3_putAbove 52 = .ok (.goto (-38), 3) := by decide +kernel
theorem dX3_putAbove_55 : decode cX3_putAbove 55 = .ok (.return_, 1) := by decide +kernel
theorem dX3_isStale_0 : decode cX3_isStale 0 = .ok (.aload_n 0, 1) := by decide +kernel
theorem dX3_isStale_1 : decode cX3_isStale 1 = .ok (.getfield 24, 3) := by decide +kernel
theorem dX3_isStale_4 : decode cX3_isStale 4 = .ok (.iload_n 1, 1) := by decide +kernel
theorem dX3_isStale_5 : decode cX3_isStale 5 = .ok (.aaload, 1) := by decide +kernel
theorem dX3_isStale_6 : decode cX3_isStale 6 = .ok (.iload_n 1, 1) := by decide +kernel
theorem dX3_isStale_7 : decode cX3_isStale 7 = .ok (.invokevirtual 208, 3) := by decide +kernel
theorem dX3_isStale_10 : decode cX3_isStale 10 = .ok (.istore_n 2, 1) := by decide +kernel
theorem dX3_isStale_11 : decode cX3_isStale 11 = .ok (.iconst 0, 1) := by decide +kernel
theorem dX3_isStale_12 : decode cX3_isStale 12 = .ok (.istore_n 3, 1) := by decide +kernel
theorem dX3_isStale_13 : decode cX3_isStale 13 = .ok (.iload_n 3, 1) := by decide +kernel
theorem dX3_isStale_14 : decode cX3_isStale 14 = .ok (.aload_n 0, 1) := by decide +kernel
theorem dX3_isStale_15 : decode cX3_isStale 15 = .ok (.getfield 48, 3) := by decide +kernel
theorem dX3_isStale_18 : decode cX3_isStale 18 = .ok (.if_icmp .ge 35, 3) := by decide +kernel
theorem dX3_isStale_21 : decode cX3_isStale 21 = .ok (.iload_n 2, 1) := by decide +kernel
theorem dX3_isStale_22 : decode cX3_isStale 22 = .ok (.iload_n 3, 1) := by decide +kernel
theorem dX3_isStale_23 : decode cX3_isStale 23 = .ok (.iushr, 1) := by decide +kernel
theorem dX3_isStale_24 : decode cX3_isStale 24 = .ok (.iconst 1, 1) := by decide +kernel
theorem dX3_isStale_25 : decode cX3_isStale 25 = .ok (.iand, 1) := by decide +kernel
theorem dX3_isStale_26 : decode cX3_isStale 26 = .ok (.ifCond .eq 21, 3) := by decide +kernel
theorem dX3_isStale_29 : decode cX3_isStale 29 = .ok (.aload_n 0, 1) := by decide +kernel
theorem dX3_isStale_30 : decode cX3_isStale 30 = .ok (.getfield 24, 3) := by decide +kernel
theorem dX3_isStale_33 : decode cX3_isStale 33 = .ok (.iload_n 3, 1) := by decide +kernel
theorem dX3_isStale_34 : decode cX3_isStale 34 = .ok (.aaload, 1) := by decide +kernel
theorem dX3_isStale_35 : decode cX3_isStale 35 = .ok (.aload_n 0, 1) := by decide +kernel
theorem dX3_isStale_36 : decode cX3_isStale 36 = .ok (.getfield 14, 3) := by decide +kernel
theorem dX3_isStale_39 : decode cX3_isStale 39 = .ok (.invokevirtual 215, 3) := by decide +kernel
theorem dX3_isStale_42 : decode cX3_isStale 42 = .ok (.ifCond .eq 5, 3) := by decide +kernel
theorem dX3_isStale_45 : decode cX3_isStale 45 = .ok (.iconst 1, 1) := by decide +kernel
theorem dX3_isStale_46 : decode cX3_isStale 46 = .ok (.ireturn, 1) := by decide +kernel
theorem dX3_isStale_47 : decode cX3_isStale 47 = .ok (.iinc 3 1, 3) := by decide +kernel
theorem dX3_isStale_50 : decode cX3_isStale 50 = .ok (.goto (-37), 3) := by decide +kernel
theorem dX3_isStale_53 : decode cX3_isStale 53 = .ok (.iconst 0, 1) := by decide +kernel
theorem dX3_isStale_54 : decode cX3_isStale 54 = .ok (.ireturn, 1) := by decide +kernel
theorem dX3_refresh_0 : decode cX3_refresh 0 = .ok (.iload_n 2, 1) := by decide +kernel
theorem dX3_refresh_1 : decode cX3_refresh 1 = .ok (.bipush 12, 2) := by decide +kernel
theorem dX3_refresh_3 : decode cX3_refresh 3 = .ok (.if_icmp .ge 11, 3) := by decide +kernel
theorem dX3_refresh_6 : decode cX3_refresh 6 = .ok (.aload_n 0, 1) := by decide +kernel
theorem dX3_refresh_7 : decode cX3_refresh 7 = .ok (.iload_n 1, 1) := by decide +kernel
theorem dX3_refresh_8 : decode cX3_refresh 8 = .ok (.invokevirtual 154, 3) := by decide +kernel
theorem dX3_refresh_11 : decode cX3_refresh 11 = .ok (.ifCond .ne 5, 3) := by decide +kernel
theorem dX3_refresh_14 : decode cX3_refresh 14 = .ok (.iconst 0, 1) := by decide +kernel
theorem dX3_refresh_15 : decode cX3_refresh 15 = .ok (.ireturn, 1) := by decide +kernel
theorem dX3_refresh_16 : decode cX3_refresh 16 = .ok (.aload_n 0, 1) := by decide +kernel
theorem dX3_refresh_17 : decode cX3_refresh 17 = .ok (.getfield 24, 3) := by decide +kernel
theorem dX3_refresh_20 : decode cX3_refresh 20 = .ok (.iload_n 1, 1) := by decide +kernel
theorem dX3_refresh_21 : decode cX3_refresh 21 = .ok (.aaload, 1) := by decide +kernel
theorem dX3_refresh_22 : decode cX3_refresh 22 = .ok (.astore_n 3, 1) := by decide +kernel
theorem dX3_refresh_23 : decode cX3_refresh 23 = .ok (.iconst 0, 1) := by decide +kernel
theorem dX3_refresh_24 : decode cX3_refresh 24 = .ok (.istore 4, 2) := by decide +kernel
theorem dX3_refresh_26 : decode cX3_refresh 26 = .ok (.iload 4, 2) := by decide +kernel
theorem dX3_refresh_28 : decode cX3_refresh 28 = .ok (.aload_n 3, 1) := by decide +kernel
theorem dX3_refresh_29 : decode cX3_refresh 29 = .ok (.getfield 70, 3) := by decide +kernel
theorem dX3_refresh_32 : decode cX3_refresh 32 = .ok (.if_icmp .ge 39, 3) := by decide +kernel
theorem dX3_refresh_35 : decode cX3_refresh 35 = .ok (.aload_n 0, 1) := by decide +kernel
theorem dX3_refresh_36 : decode cX3_refresh 36 = .ok (.getfield 18, 3) := by decide +kernel
theorem dX3_refresh_39 : decode cX3_refresh 39 = .ok (.aload_n 3, 1) := by decide +kernel
theorem dX3_refresh_40 : decode cX3_refresh 40 = .ok (.getfield 173, 3) := by decide +kernel
theorem dX3_refresh_43 : decode cX3_refresh 43 = .ok (.iload 4, 2) := by decide +kernel
theorem dX3_refresh_45 : decode cX3_refresh 45 = .ok (.iaload, 1) := by decide +kernel
theorem dX3_refresh_46 : decode cX3_refresh 46 = .ok (.iaload, 1) := by decide +kernel
theorem dX3_refresh_47 : decode cX3_refresh 47 = .ok (.istore 5, 2) := by decide +kernel
theorem dX3_refresh_49 : decode cX3_refresh 49 = .ok (.iload 5, 2) := by decide +kernel
theorem dX3_refresh_51 : decode cX3_refresh 51 = .ok (.iconst (-1), 1) := by decide +kernel
theorem dX3_refresh_52 : decode cX3_refresh 52 = .ok (.if_icmp .eq 13, 3) := by decide +kernel
theorem dX3_refresh_55 : decode cX3_refresh 55 = .ok (.aload_n 0, 1) := by decide +kernel
theorem dX3_refresh_56 : decode cX3_refresh 56 = .ok (.iload 5, 2) := by decide +kernel
theorem dX3_refresh_58 : decode cX3_refresh 58 = .ok (.iload_n 2, 1) := by decide +kernel
theorem dX3_refresh_59 : decode cX3_refresh 59 = .ok (.iconst 1, 1) := by decide +kernel
theorem dX3_refresh_60 : decode cX3_refresh 60 = .ok (.iadd, 1) := by decide +kernel
theorem dX3_refresh_61 : decode cX3_refresh 61 = .ok (.invokevirtual 176, 3) := by decide +kernel
theorem dX3_refresh_64 : decode cX3_refresh 64 = .ok (.pop, 1) := by decide +kernel
theorem dX3_refresh_65 : decode cX3_refresh 65 = .ok (.iinc 4 1, 3) := by decide +kernel
theorem dX3_refresh_68 : decode cX3_refresh 68 = .ok (.goto (-42), 3) := by decide +kernel
theorem dX3_refresh_71 : decode cX3_refresh 71 = .ok (.aload_n 0, 1) := by decide +kernel
theorem dX3_refresh_72 : decode cX3_refresh 72 = .ok (.iload_n 1, 1) := by decide +kernel
theorem dX3_refresh_73 : decode cX3_refresh 73 = .ok (.invokevirtual 154, 3) := by decide +kernel
theorem dX3_refresh_76 : decode cX3_refresh 76 = .ok (.ifCond .ne 5, 3) := by decide +kernel
theorem dX3_refresh_79 : decode cX3_refresh 79 = .ok (.iconst 0, 1) := by decide +kernel
theorem dX3_refresh_80 : decode cX3_refresh 80 = .ok (.ireturn, 1) := by decide +kernel
theorem dX3_refresh_81 : decode cX3_refresh 81 = .ok (.aload_n 3, 1) := by decide +kernel
theorem dX3_refresh_82 : decode cX3_refresh 82 = .ok (.aload_n 0, 1) := by decide +kernel
theorem dX3_refresh_83 : decode cX3_refresh 83 = .ok (.getfield 14, 3) := by decide +kernel
theorem dX3_refresh_86 : decode cX3_refresh 86 = .ok (.invokevirtual 219, 3) := by decide +kernel
theorem dX3_refresh_89 : decode cX3_refresh 89 = .ok (.iconst 0, 1) := by decide +kernel
theorem dX3_refresh_90 : decode cX3_refresh 90 = .ok (.istore 4, 2) := by decide +kernel
theorem dX3_refresh_92 : decode cX3_refresh 92 = .ok (.iload 4, 2) := by decide +kernel
theorem dX3_refresh_94 : decode cX3_refresh 94 = .ok (.aload_n 3, 1) := by decide +kernel
theorem dX3_refresh_95 : decode cX3_refresh 95 = .ok (.getfield 84, 3) := by decide +kernel
theorem dX3_refresh_98 : decode cX3_refresh 98 = .ok (.if_icmp .ge 24, 3) := by decide +kernel
theorem dX3_refresh_101 : decode cX3_refresh 101 = .ok (.aload_n 0, 1) := by decide +kernel
theorem dX3_refresh_102 : decode cX3_refresh 102 = .ok (.aload_n 3, 1) := by decide +kernel
theorem dX3_refresh_103 : decode cX3_refresh 103 = .ok (.getfield 223, 3) := by decide +kernel
theorem dX3_refresh_106 : decode cX3_refresh 106 = .ok (.iload 4, 2) := by decide +kernel
theorem dX3_refresh_108 : decode cX3_refresh 108 = .ok (.iaload, 1) := by decide +kernel
theorem dX3_refresh_109 : decode cX3_refresh 109 = .ok (.aload_n 3, 1) := by decide +kernel
theorem dX3_refresh_110 : decode cX3_refresh 110 = .ok (.getfield 166, 3) := by decide +kernel
theorem dX3_refresh_113 : decode cX3_refresh 113 = .ok (.invokevirtual 185, 3) := by decide +kernel
theorem dX3_refresh_116 : decode cX3_refresh 116 = .ok (.iinc 4 1, 3) := by decide +kernel
theorem dX3_refresh_119 : decode cX3_refresh 119 = .ok (.goto (-27), 3) := by decide +kernel
theorem dX3_refresh_122 : decode cX3_refresh 122 = .ok (.iconst 1, 1) := by decide +kernel
theorem dX3_refresh_123 : decode cX3_refresh 123 = .ok (.ireturn, 1) := by decide +kernel
theorem dX3_refreshAll_0 : decode cX3_refreshAll 0 = .ok (.iconst 0, 1) := by decide +kernel
theorem dX3_refreshAll_1 : decode cX3_refreshAll 1 = .ok (.istore_n 1, 1) := by decide +kernel
theorem dX3_refreshAll_2 : decode cX3_refreshAll 2 = .ok (.iload_n 1, 1) := by decide +kernel
theorem dX3_refreshAll_3 : decode cX3_refreshAll 3 = .ok (.aload_n 0, 1) := by decide +kernel
theorem dX3_refreshAll_4 : decode cX3_refreshAll 4 = .ok (.getfield 48, 3) := by decide +kernel
theorem dX3_refreshAll_7 : decode cX3_refreshAll 7 = .ok (.if_icmp .ge 16, 3) := by decide +kernel
theorem dX3_refreshAll_10 : decode cX3_refreshAll 10 = .ok (.aload_n 0, 1) := by decide +kernel
theorem dX3_refreshAll_11 : decode cX3_refreshAll 11 = .ok (.iload_n 1, 1) := by decide +kernel
theorem dX3_refreshAll_12 : decode cX3_refreshAll 12 = .ok (.iconst 0, 1) := by decide +kernel
theorem dX3_refreshAll_13 : decode cX3_refreshAll 13 = .ok (.invokevirtual 176, 3) := by decide +kernel
theorem dX3_refreshAll_16 : decode cX3_refreshAll 16 = .ok (.pop, 1) := by decide +kernel
theorem dX3_refreshAll_17 : decode cX3_refreshAll 17 = .ok (.iinc 1 1, 3) := by decide +kernel
theorem dX3_refreshAll_20 : decode cX3_refreshAll 20 = .ok (.goto (-18), 3) := by decide +kernel
theorem dX3_refreshAll_23 : decode cX3_refreshAll 23 = .ok (.return_, 1) := by decide +kernel
theorem dX4_init_0 : decode cX4_init 0 = .ok (.aload_n 0, 1) := by decide +kernel
theorem dX4_init_1 : decode cX4_init 1 = .ok (.invokespecial 1, 3) := by decide +kernel
theorem dX4_init_4 : decode cX4_init 4 = .ok (.aload_n 0, 1) := by decide +kernel
theorem dX4_init_5 : decode cX4_init 5 = .ok (.iconst 1, 1) := by decide +kernel
theorem dX4_init_6 : decode cX4_init 6 = .ok (.putfield 7, 3) := by decide +kernel
theorem dX4_init_9 : decode cX4_init 9 = .ok (.aload_n 0, 1) := by decide +kernel
theorem dX4_init_10 : decode cX4_init 10 = .ok (.sipush 144, 3) := by decide +kernel
theorem dX4_init_13 : decode cX4_init 13 = .ok (.newarray .long, 2) := by decide +kernel
theorem dX4_init_15 : decode cX4_init 15 = .ok (.putfield 13, 3) := by decide +kernel
theorem dX4_init_18 : decode cX4_init 18 = .ok (.aload_n 0, 1) := by decide +kernel
theorem dX4_init_19 : decode cX4_init 19 = .ok (.bipush 40, 2) := by decide +kernel
theorem dX4_init_21 : decode cX4_init 21 = .ok (.newarray .boolean, 2) := by decide +kernel
theorem dX4_init_23 : decode cX4_init 23 = .ok (.putfield 17, 3) := by decide +kernel
theorem dX4_init_26 : decode cX4_init 26 = .ok (.aload_n 0, 1) := by decide +kernel
theorem dX4_init_27 : decode cX4_init 27 = .ok (.sipush 960, 3) := by decide +kernel
theorem dX4_init_30 : decode cX4_init 30 = .ok (.newarray .boolean, 2) := by decide +kernel
theorem dX4_init_32 : decode cX4_init 32 = .ok (.putfield 21, 3) := by decide +kernel
theorem dX4_init_35 : decode cX4_init 35 = .ok (.aload_n 0, 1) := by decide +kernel
theorem dX4_init_36 : decode cX4_init 36 = .ok (.sipush 960, 3) := by decide +kernel
theorem dX4_init_39 : decode cX4_init 39 = .ok (.newarray .boolean, 2) := by decide +kernel
theorem dX4_init_41 : decode cX4_init 41 = .ok (.putfield 24, 3) := by decide +kernel
theorem dX4_init_44 : decode cX4_init 44 = .ok (.aload_n 0, 1) := by decide +kernel
theorem dX4_init_45 : decode cX4_init 45 = .ok (.sipush 960, 3) := by decide +kernel
theorem dX4_init_48 : decode cX4_init 48 = .ok (.newarray .long, 2) := by decide +kernel
theorem dX4_init_50 : decode cX4_init 50 = .ok (.putfield 27, 3) := by decide +kernel
theorem dX4_init_53 : decode cX4_init 53 = .ok (.aload_n 0, 1) := by decide +kernel
theorem dX4_init_54 : decode cX4_init 54 = .ok (.sipush 960, 3) := by decide +kernel
theorem dX4_init_57 : decode cX4_init 57 = .ok (.newarray .long, 2) := by decide +kernel
theorem dX4_init_59 : decode cX4_init 59 = .ok (.putfield 30, 3) := by decide +kernel
theorem dX4_init_62 : decode cX4_init 62 = .ok (.aload_n 0, 1) := by decide +kernel
theorem dX4_init_63 : decode cX4_init 63 = .ok (.bipush 24, 2) := by decide +kernel
theorem dX4_init_65 : decode cX4_init 65 = .ok (.newarray .int, 2) := by decide +kernel
theorem dX4_init_67 : decode cX4_init 67 = .ok (.putfield 33, 3) := by decide +kernel
theorem dX4_init_70 : decode cX4_init 70 = .ok (.aload_n 0, 1) := by decide +kernel
theorem dX4_init_71 : decode cX4_init 71 = .ok (.bipush 24, 2) := by decide +kernel
theorem dX4_init_73 : decode cX4_init 73 = .ok (.newarray .long, 2) := by decide +kernel
theorem dX4_init_75 : decode cX4_init 75 = .ok (.putfield 37, 3) := by decide +kernel
theorem dX4_init_78 : decode cX4_init 78 = .ok (.aload_n 0, 1) := by decide +kernel
theorem dX4_init_79 : decode cX4_init 79 = .ok (.bipush 24, 2) := by decide +kernel
theorem dX4_init_81 : decode cX4_init 81 = .ok (.newarray .long, 2) := by decide +kernel
theorem dX4_init_83 : decode cX4_init 83 = .ok (.putfield 40, 3) := by decide +kernel
theorem dX4_init_86 : decode cX4_init 86 = .ok (.aload_n 0, 1) := by decide +kernel
theorem dX4_init_87 : decode cX4_init 87 = .ok (.bipush 24, 2) := by decide +kernel
theorem dX4_init_89 : decode cX4_init 89 = .ok (.newarray .boolean, 2) := by decide +kernel
theorem dX4_init_91 : decode cX4_init 91 = .ok (.putfield 43, 3) := by decide +kernel
theorem dX4_init_94 : decode cX4_init 94 = .ok (.aload_n 0, 1) := by decide +kernel
theorem dX4_init_95 : decode cX4_init 95 = .ok (.bipush 12, 2) := by decide +kernel
theorem dX4_init_97 : decode cX4_init 97 = .ok (.newarray .int, 2) := by decide +kernel
theorem dX4_init_99 : decode cX4_init 99 = .ok (.putfield 46, 3) := by decide +kernel
theorem dX4_init_102 : decode cX4_init 102 = .ok (.aload_n 0, 1) := by decide +kernel
theorem dX4_init_103 : decode cX4_init 103 = .ok (.bipush 96, 2) := by decide +kernel
theorem dX4_init_105 : decode cX4_init 105 = .ok (.newarray .int, 2) := by decide +kernel
theorem dX4_init_107 : decode cX4_init 107 = .ok (.putfield 49, 3) := by decide +kernel
theorem dX4_init_110 : decode cX4_init 110 = .ok (.aload_n 0, 1) := by decide +kernel
theorem dX4_init_111 : decode cX4_init 111 = .ok (.bipush 12, 2) := by decide +kernel
theorem dX4_init_113 : decode cX4_init 113 = .ok (.newarray .int, 2) := by decide +kernel
theorem dX4_init_115 : decode cX4_init 115 = .ok (.putfield 52, 3) := by decide +kernel
theorem dX4_init_118 : decode cX4_init 118 = .ok (.aload_n 0, 1) := by decide +kernel
theorem dX4_init_119 : decode cX4_init 119 = .ok (.bipush 48, 2) := by decide +kernel
theorem dX4_init_121 : decode cX4_init 121 = .ok (.newarray .int, 2) := by decide +kernel
theorem dX4_init_123 : decode cX4_init 123 = .ok (.putfield 55, 3) := by decide +kernel
theorem dX4_init_126 : decode cX4_init 126 = .ok (.aload_n 0, 1) := by decide +kernel
theorem dX4_init_127 : decode cX4_init 127 = .ok (.bipush 12, 2) := by decide +kernel
theorem dX4_init_129 : decode cX4_init 129 = .ok (.newarray .int, 2) := by decide +kernel
theorem dX4_init_131 : decode cX4_init 131 = .ok (.putfield 58, 3) := by decide +kernel
theorem dX4_init_134 : decode cX4_init 134 = .ok (.aload_n 0, 1) := by decide +kernel
theorem dX4_init_135 : decode cX4_init 135 = .ok (.bipush 12, 2) := by decide +kernel
theorem dX4_init_137 : decode cX4_init 137 = .ok (.newarray .boolean, 2) := by decide +kernel
theorem dX4_init_139 : decode cX4_init 139 = .ok (.putfield 61, 3) := by decide +kernel
theorem dX4_init_142 : decode cX4_init 142 = .ok (.aload_n 0, 1) := by decide +kernel
theorem dX4_init_143 : decode cX4_init 143 = .ok (.bipush 12, 2) := by decide +kernel
theorem dX4_init_145 : decode cX4_init 145 = .ok (.newarray .int, 2) := by decide +kernel
theorem dX4_init_147 : decode cX4_init 147 = .ok (.putfield 64, 3) := by decide +kernel
theorem dX4_init_150 : decode cX4_init 150 = .ok (.aload_n 0, 1) := by decide +kernel
theorem dX4_init_151 : decode cX4_init 151 = .ok (.bipush 12, 2) := by decide +kernel
theorem dX4_init_153 : decode cX4_init 153 = .ok (.newarray .int, 2) := by decide +kernel
theorem dX4_init_155 : decode cX4_init 155 = .ok (.putfield 67, 3) := by decide +kernel
theorem dX4_init_158 : decode cX4_init 158 = .ok (.aload_n 0, 1) := by decide +kernel
theorem dX4_init_159 : decode cX4_init 159 = .ok (.bipush 96, 2) := by decide +kernel
theorem dX4_init_161 : decode cX4_init 161 = .ok (.newarray .long, 2) := by decide +kernel
theorem dX4_init_163 : decode cX4_init 163 = .ok (.putfield 70, 3) := by decide +kernel
theorem dX4_init_166 : decode cX4_init 166 = .ok (.aload_n 0, 1) := by decide +kernel
theorem dX4_init_167 : decode cX4_init 167 = .ok (.bipush 12, 2) := by decide +kernel
theorem dX4_init_169 : decode cX4_init 169 = .ok (.newarray .long, 2) := by decide +kernel
theorem dX4_init_171 : decode cX4_init 171 = .ok (.putfield 73, 3) := by decide +kernel
theorem dX4_init_174 : decode cX4_init 174 = .ok (.aload_n 0, 1) := by decide +kernel
theorem dX4_init_175 : decode cX4_init 175 = .ok (.bipush 12, 2) := by decide +kernel
