theorem dX4_init_177 : decode cX4_init 177 = .ok (.newarray .boolean, 2) := by decide +kernel
theorem dX4_init_179 : decode cX4_init 179 = .ok (.putfield 76, 3) := by decide +kernel
theorem dX4_init_182 : decode cX4_init 182 = .ok (.aload_n 0, 1) := by decide +kernel
theorem dX4_init_183 : decode cX4_init 183 = .ok (.bipush 12, 2) := by decide +kernel
theorem dX4_init_185 : decode cX4_init 185 = .ok (.newarray .boolean, 2) := by decide +kernel
theorem dX4_init_187 : decode cX4_init 187 = .ok (.putfield 79, 3) := by decide +kernel
theorem dX4_init_190 : decode cX4_init 190 = .ok (.return_, 1) := by decide +kernel
theorem dX4_isThing_0 : decode cX4_isThing 0 = .ok (.iload_n 1, 1) := by decide +kernel
theorem dX4_isThing_1 : decode cX4_isThing 1 = .ok (.ifCond .lt 15, 3) := by decide +kernel
theorem dX4_isThing_4 : decode cX4_isThing 4 = .ok (.iload_n 1, 1) := by decide +kernel
theorem dX4_isThing_5 : decode cX4_isThing 5 = .ok (.aload_n 0, 1) := by decide +kernel
theorem dX4_isThing_6 : decode cX4_isThing 6 = .ok (.getfield 82, 3) := by decide +kernel
theorem dX4_isThing_9 : decode cX4_isThing 9 = .ok (.if_icmp .ge 7, 3) := by decide +kernel
theorem dX4_isThing_12 : decode cX4_isThing 12 = .ok (.iconst 1, 1) := by decide +kernel
theorem dX4_isThing_13 : decode cX4_isThing 13 = .ok (.goto 4, 3) := by decide +kernel
theorem dX4_isThing_16 : decode cX4_isThing 16 = .ok (.iconst 0, 1) := by decide +kernel
theorem dX4_isThing_17 : decode cX4_isThing 17 = .ok (.ireturn, 1) := by decide +kernel
theorem dX4_isStep_0 : decode cX4_isStep 0 = .ok (.iload_n 1, 1) := by decide +kernel
theorem dX4_isStep_1 : decode cX4_isStep 1 = .ok (.ifCond .lt 15, 3) := by decide +kernel
theorem dX4_isStep_4 : decode cX4_isStep 4 = .ok (.iload_n 1, 1) := by decide +kernel
theorem dX4_isStep_5 : decode cX4_isStep 5 = .ok (.aload_n 0, 1) := by decide +kernel
theorem dX4_isStep_6 : decode cX4_isStep 6 = .ok (.getfield 85, 3) := by decide +kernel
theorem dX4_isStep_9 : decode cX4_isStep 9 = .ok (.if_icmp .ge 7, 3) := by decide +kernel
theorem dX4_isStep_12 : decode cX4_isStep 12 = .ok (.iconst 1, 1) := by decide +kernel
theorem dX4_isStep_13 : decode cX4_isStep 13 = .ok (.goto 4, 3) := by decide +kernel
theorem dX4_isStep_16 : decode cX4_isStep 16 = .ok (.iconst 0, 1) := by decide +kernel
theorem dX4_isStep_17 : decode cX4_isStep 17 = .ok (.ireturn, 1) := by decide +kernel
theorem dX4_thing_0 : decode cX4_thing 0 = .ok (.aload_n 0, 1) := by decide +kernel
theorem dX4_thing_1 : decode cX4_thing 1 = .ok (.getfield 82, 3) := by decide +kernel
theorem dX4_thing_4 : decode cX4_thing 4 = .ok (.bipush 24, 2) := by decide +kernel
theorem dX4_thing_6 : decode cX4_thing 6 = .ok (.if_icmp .ne 5, 3) := by decide +kernel
theorem dX4_thing_9 : decode cX4_thing 9 = .ok (.iconst (-1), 1) := by decide +kernel
theorem dX4_thing_10 : decode cX4_thing 10 = .ok (.ireturn, 1) := by decide +kernel
theorem dX4_thing_11 : decode cX4_thing 11 = .ok (.iconst 0, 1) := by decide +kernel
theorem dX4_thing_12 : decode cX4_thing 12 = .ok (.istore_n 3, 1) := by decide +kernel
theorem dX4_thing_13 : decode cX4_thing 13 = .ok (.iload_n 3, 1) := by decide +kernel
theorem dX4_thing_14 : decode cX4_thing 14 = .ok (.bipush 6, 2) := by decide +kernel
theorem dX4_thing_16 : decode cX4_thing 16 = .ok (.if_icmp .ge 24, 3) := by decide +kernel
theorem dX4_thing_19 : decode cX4_thing 19 = .ok (.aload_n 0, 1) := by decide +kernel
theorem dX4_thing_20 : decode cX4_thing 20 = .ok (.getfield 13, 3) := by decide +kernel
theorem dX4_thing_23 : decode cX4_thing 23 = .ok (.bipush 24, 2) := by decide +kernel
theorem dX4_thing_25 : decode cX4_thing 25 = .ok (.iload_n 3, 1) := by decide +kernel
theorem dX4_thing_26 : decode cX4_thing 26 = .ok (.imul, 1) := by decide +kernel
theorem dX4_thing_27 : decode cX4_thing 27 = .ok (.aload_n 0, 1) := by decide +kernel
theorem dX4_thing_28 : decode cX4_thing 28 = .ok (.getfield 82, 3) := by decide +kernel
theorem dX4_thing_31 : decode cX4_thing 31 = .ok (.iadd, 1) := by decide +kernel
theorem dX4_thing_32 : decode cX4_thing 32 = .ok (.lload_n 1, 1) := by decide +kernel
theorem dX4_thing_33 : decode cX4_thing 33 = .ok (.lastore, 1) := by decide +kernel
theorem dX4_thing_34 : decode cX4_thing 34 = .ok (.iinc 3 1, 3) := by decide +kernel
theorem dX4_thing_37 : decode cX4_thing 37 = .ok (.goto (-24), 3) := by decide +kernel
theorem dX4_thing_40 : decode cX4_thing 40 = .ok (.aload_n 0, 1) := by decide +kernel
theorem dX4_thing_41 : decode cX4_thing 41 = .ok (.dup, 1) := by decide +kernel
theorem dX4_thing_42 : decode cX4_thing 42 = .ok (.getfield 82, 3) := by decide +kernel
theorem dX4_thing_45 : decode cX4_thing 45 = .ok (.iconst 1, 1) := by decide +kernel
theorem dX4_thing_46 : decode cX4_thing 46 = .ok (.iadd, 1) := by decide +kernel
theorem dX4_thing_47 : decode cX4_thing 47 = .ok (.putfield 82, 3) := by decide +kernel
theorem dX4_thing_50 : decode cX4_thing 50 = .ok (.aload_n 0, 1) := by decide +kernel
theorem dX4_thing_51 : decode cX4_thing 51 = .ok (.getfield 82, 3) := by decide +kernel
theorem dX4_thing_54 : decode cX4_thing 54 = .ok (.iconst 1, 1) := by decide +kernel
theorem dX4_thing_55 : decode cX4_thing 55 = .ok (.isub, 1) := by decide +kernel
theorem dX4_thing_56 : decode cX4_thing 56 = .ok (.ireturn, 1) := by decide +kernel
theorem dX4_step_0 : decode cX4_step 0 = .ok (.iload_n 1, 1) := by decide +kernel
theorem dX4_step_1 : decode cX4_step 1 = .ok (.ifCond .lt 8, 3) := by decide +kernel
theorem dX4_step_4 : decode cX4_step 4 = .ok (.iload_n 1, 1) := by decide +kernel
theorem dX4_step_5 : decode cX4_step 5 = .ok (.iconst 3, 1) := by decide +kernel
theorem dX4_step_6 : decode cX4_step 6 = .ok (.if_icmp .le 6, 3) := by decide +kernel
theorem dX4_step_9 : decode cX4_step 9 = .ok (.bipush (-2), 2) := by decide +kernel
theorem dX4_step_11 : decode cX4_step 11 = .ok (.ireturn, 1) := by decide +kernel
theorem dX4_step_12 : decode cX4_step 12 = .ok (.aload_n 0, 1) := by decide +kernel
theorem dX4_step_13 : decode cX4_step 13 = .ok (.getfield 85, 3) := by decide +kernel
theorem dX4_step_16 : decode cX4_step 16 = .ok (.bipush 12, 2) := by decide +kernel
theorem dX4_step_18 : decode cX4_step 18 = .ok (.if_icmp .ne 5, 3) := by decide +kernel
theorem dX4_step_21 : decode cX4_step 21 = .ok (.iconst (-1), 1) := by decide +kernel
theorem dX4_step_22 : decode cX4_step 22 = .ok (.ireturn, 1) := by decide +kernel
theorem dX4_step_23 : decode cX4_step 23 = .ok (.aload_n 0, 1) := by decide +kernel
theorem dX4_step_24 : decode cX4_step 24 = .ok (.getfield 46, 3) := by decide +kernel
theorem dX4_step_27 : decode cX4_step 27 = .ok (.aload_n 0, 1) := by decide +kernel
theorem dX4_step_28 : decode cX4_step 28 = .ok (.getfield 85, 3) := by decide +kernel
theorem dX4_step_31 : decode cX4_step 31 = .ok (.iload_n 1, 1) := by decide +kernel
theorem dX4_step_32 : decode cX4_step 32 = .ok (.iastore, 1) := by decide +kernel
theorem dX4_step_33 : decode cX4_step 33 = .ok (.aload_n 0, 1) := by decide +kernel
theorem dX4_step_34 : decode cX4_step 34 = .ok (.dup, 1) := by decide +kernel
theorem dX4_step_35 : decode cX4_step 35 = .ok (.getfield 85, 3) := by decide +kernel
theorem dX4_step_38 : decode cX4_step 38 = .ok (.iconst 1, 1) := by decide +kernel
theorem dX4_step_39 : decode cX4_step 39 = .ok (.iadd, 1) := by decide +kernel
theorem dX4_step_40 : decode cX4_step 40 = .ok (.putfield 85, 3) := by decide +kernel
theorem dX4_step_43 : decode cX4_step 43 = .ok (.aload_n 0, 1) := by decide +kernel
theorem dX4_step_44 : decode cX4_step 44 = .ok (.getfield 85, 3) := by decide +kernel
theorem dX4_step_47 : decode cX4_step 47 = .ok (.iconst 1, 1) := by decide +kernel
theorem dX4_step_48 : decode cX4_step 48 = .ok (.isub, 1) := by decide +kernel
theorem dX4_step_49 : decode cX4_step 49 = .ok (.ireturn, 1) := by decide +kernel
theorem dX4_doesUse_0 : decode cX4_doesUse 0 = .ok (.iconst 0, 1) := by decide +kernel
theorem dX4_doesUse_1 : decode cX4_doesUse 1 = .ok (.istore_n 3, 1) := by decide +kernel
theorem dX4_doesUse_2 : decode cX4_doesUse 2 = .ok (.iconst 0, 1) := by decide +kernel
theorem dX4_doesUse_3 : decode cX4_doesUse 3 = .ok (.istore 4, 2) := by decide +kernel
theorem dX4_doesUse_5 : decode cX4_doesUse 5 = .ok (.iload 4, 2) := by decide +kernel
theorem dX4_doesUse_7 : decode cX4_doesUse 7 = .ok (.aload_n 0, 1) := by decide +kernel
theorem dX4_doesUse_8 : decode cX4_doesUse 8 = .ok (.getfield 52, 3) := by decide +kernel
theorem dX4_doesUse_11 : decode cX4_doesUse 11 = .ok (.iload_n 1, 1) := by decide +kernel
theorem dX4_doesUse_12 : decode cX4_doesUse 12 = .ok (.iaload, 1) := by decide +kernel
theorem dX4_doesUse_13 : decode cX4_doesUse 13 = .ok (.if_icmp .ge 35, 3) := by decide +kernel
theorem dX4_doesUse_16 : decode cX4_doesUse 16 = .ok (.iload_n 3, 1) := by decide +kernel
theorem dX4_doesUse_17 : decode cX4_doesUse 17 = .ok (.ifCond .ne 19, 3) := by decide +kernel
theorem dX4_doesUse_20 : decode cX4_doesUse 20 = .ok (.aload_n 0, 1) := by decide +kernel
theorem dX4_doesUse_21 : decode cX4_doesUse 21 = .ok (.getfield 49, 3) := by decide +kernel
theorem dX4_doesUse_24 : decode cX4_doesUse 24 = .ok (.bipush 8, 2) := by decide +kernel
theorem dX4_doesUse_26 : decode cX4_doesUse 26 = .ok (.iload_n 1, 1) := by decide +kernel
theorem dX4_doesUse_27 : decode cX4_doesUse 27 = .ok (.imul, 1) := by decide +kernel
theorem dX4_doesUse_28 : decode cX4_doesUse 28 = .ok (.iload 4, 2) := by decide +kernel
theorem dX4_doesUse_30 : decode cX4_doesUse 30 = .ok (.iadd, 1) := by decide +kernel
theorem dX4_doesUse_31 : decode cX4_doesUse 31 = .ok (.iaload, 1) := by decide +kernel
theorem dX4_doesUse_32 : decode cX4_doesUse 32 = .ok (.iload_n 2, 1) := by decide +kernel
theorem dX4_doesUse_33 : decode cX4_doesUse 33 = .ok (.if_icmp .ne 7, 3) := by decide +kernel
theorem dX4_doesUse_36 : decode cX4_doesUse 36 = .ok (.iconst 1, 1) := by decide +kernel
theorem dX4_doesUse_37 : decode cX4_doesUse 37 = .ok (.goto 4, 3) := by decide +kernel
theorem dX4_doesUse_40 : decode cX4_doesUse 40 = .ok (.iconst 0, 1) := by decide +kernel
theorem dX4_doesUse_41 : decode cX4_doesUse 41 = .ok (.istore_n 3, 1) := by decide +kernel
theorem dX4_doesUse_42 : decode cX4_doesUse 42 = .ok (.iinc 4 1, 3) := by decide +kernel
theorem dX4_doesUse_45 : decode cX4_doesUse 45 = .ok (.goto (-40), 3) := by decide +kernel
theorem dX4_doesUse_48 : decode cX4_doesUse 48 = .ok (.iload_n 3, 1) := by decide +kernel
theorem dX4_doesUse_49 : decode cX4_doesUse 49 = .ok (.ireturn, 1) := by decide +kernel
theorem dX4_doesMake_0 : decode cX4_doesMake 0 = .ok (.iconst 0, 1) := by decide +kernel
theorem dX4_doesMake_1 : decode cX4_doesMake 1 = .ok (.istore_n 3, 1) := by decide +kernel
theorem dX4_doesMake_2 : decode cX4_doesMake 2 = .ok (.iconst 0, 1) := by decide +kernel
theorem dX4_doesMake_3 : decode cX4_doesMake 3 = .ok (.istore 4, 2) := by decide +kernel
theorem dX4_doesMake_5 : decode cX4_doesMake 5 = .ok (.iload 4, 2) := by decide +kernel
theorem dX4_doesMake_7 : decode cX4_doesMake 7 = .ok (.aload_n 0, 1) := by decide +kernel
theorem dX4_doesMake_8 : decode cX4_doesMake 8 = .ok (.getfield 58, 3) := by decide +kernel
theorem dX4_doesMake_11 : decode cX4_doesMake 11 = .ok (.iload_n 1, 1) := by decide +kernel
theorem dX4_doesMake_12 : decode cX4_doesMake 12 = .ok (.iaload, 1) := by decide +kernel
theorem dX4_doesMake_13 : decode cX4_doesMake 13 = .ok (.if_icmp .ge 34, 3) := by decide +kernel
theorem dX4_doesMake_16 : decode cX4_doesMake 16 = .ok (.iload_n 3, 1) := by decide +kernel
theorem dX4_doesMake_17 : decode cX4_doesMake 17 = .ok (.ifCond .ne 18, 3) := by decide +kernel
theorem dX4_doesMake_20 : decode cX4_doesMake 20 = .ok (.aload_n 0, 1) := by decide +kernel
theorem dX4_doesMake_21 : decode cX4_doesMake 21 = .ok (.getfield 55, 3) := by decide +kernel
theorem dX4_doesMake_24 : decode cX4_doesMake 24 = .ok (.iconst 4, 1) := by decide +kernel
theorem dX4_doesMake_25 : decode cX4_doesMake 25 = .ok (.iload_n 1, 1) := by decide +kernel
theorem dX4_doesMake_26 : decode cX4_doesMake 26 = .ok (.imul, 1) := by decide +kernel
theorem dX4_doesMake_27 : decode cX4_doesMake 27 = .ok (.iload 4, 2) := by decide +kernel
theorem dX4_doesMake_29 : decode cX4_doesMake 29 = .ok (.iadd, 1) := by decide +kernel
theorem dX4_doesMake_30 : decode cX4_doesMake 30 = .ok (.iaload, 1) := by decide +kernel
theorem dX4_doesMake_31 : decode cX4_doesMake 31 = .ok (.iload_n 2, 1) := by decide +kernel
theorem dX4_doesMake_32 : decode cX4_doesMake 32 = .ok (.if_icmp .ne 7, 3) := by decide +kernel
theorem dX4_doesMake_35 : decode cX4_doesMake 35 = .ok (.iconst 1, 1) := by decide +kernel
theorem dX4_doesMake_36 : decode cX4_doesMake 36 = .ok (.goto 4, 3) := by decide +kernel
theorem dX4_doesMake_39 : decode cX4_doesMake 39 = .ok (.iconst 0, 1) := by decide +kernel
theorem dX4_doesMake_40 : decode cX4_doesMake 40 = .ok (.istore_n 3, 1) := by decide +kernel
theorem dX4_doesMake_41 : decode cX4_doesMake 41 = .ok (.iinc 4 1, 3) := by decide +kernel
theorem dX4_doesMake_44 : decode cX4_doesMake 44 = .ok (.goto (-39), 3) := by decide +kernel
theorem dX4_doesMake_47 : decode cX4_doesMake 47 = .ok (.iload_n 3, 1) := by decide +kernel
theorem dX4_doesMake_48 : decode cX4_doesMake 48 = .ok (.ireturn, 1) := by decide +kernel
theorem dX4_maker_0 : decode cX4_maker 0 = .ok (.iconst (-1), 1) := by decide +kernel
theorem dX4_maker_1 : decode cX4_maker 1 = .ok (.istore_n 2, 1) := by decide +kernel
theorem dX4_maker_2 : decode cX4_maker 2 = .ok (.iconst 0, 1) := by decide +kernel
theorem dX4_maker_3 : decode cX4_maker 3 = .ok (.istore_n 3, 1) := by decide +kernel
theorem dX4_maker_4 : decode cX4_maker 4 = .ok (.iload_n 3, 1) := by decide +kernel
theorem dX4_maker_5 : decode cX4_maker 5 = .ok (.aload_n 0, 1) := by decide +kernel
theorem dX4_maker_6 : decode cX4_maker 6 = .ok (.getfield 85, 3) := by decide +kernel
theorem dX4_maker_9 : decode cX4_maker 9 = .ok (.if_icmp .ge 24, 3) := by decide +kernel
theorem dX4_maker_12 : decode cX4_maker 12 = .ok (.aload_n 0, 1) := by decide +kernel
theorem dX4_maker_13 : decode cX4_maker 13 = .ok (.iload_n 3, 1) := by decide +kernel
theorem dX4_maker_14 : decode cX4_maker 14 = .ok (.iload_n 1, 1) := by decide +kernel
theorem dX4_maker_15 : decode cX4_maker 15 = .ok (.invokevirtual 88, 3) := by decide +kernel
theorem dX4_maker_18 : decode cX4_maker 18 = .ok (.ifCond .eq 7, 3) := by decide +kernel
theorem dX4_maker_21 : decode cX4_maker 21 = .ok (.iload_n 3, 1) := by decide +kernel
theorem dX4_maker_22 : decode cX4_maker 22 = .ok (.goto 4, 3) := by decide +kernel
theorem dX4_maker_25 : decode cX4_maker 25 = .ok (.iload_n 2, 1) := by decide +kernel
theorem dX4_maker_26 : decode cX4_maker 26 = .ok (.istore_n 2, 1) := by decide +kernel
theorem dX4_maker_27 : decode cX4_maker 27 = .ok (.iinc 3 1, 3) := by decide +kernel
theorem dX4_maker_30 : decode cX4_maker 30 = .ok (.goto (-26), 3) := by decide +kernel
theorem dX4_maker_33 : decode cX4_maker 33 = .ok (.iload_n 2, 1) := by decide +kernel
theorem dX4_maker_34 : decode cX4_maker 34 = .ok (.ireturn, 1) := by decide +kernel
theorem dX4_isBehind_0 : decode cX4_isBehind 0 = .ok (.iconst 0, 1) := by decide +kernel
theorem dX4_isBehind_1 : decode cX4_isBehind 1 = .ok (.istore_n 3, 1) := by decide +kernel
theorem dX4_isBehind_2 : decode cX4_isBehind 2 = .ok (.iconst 0, 1) := by decide +kernel
theorem dX4_isBehind_3 : decode cX4_isBehind 3 = .ok (.istore 4, 2) := by decide +kernel
theorem dX4_isBehind_5 : decode cX4_isBehind 5 = .ok (.iload 4, 2) := by decide +kernel
theorem dX4_isBehind_7 : decode cX4_isBehind 7 = .ok (.aload_n 0, 1) := by decide +kernel
theorem dX4_isBehind_8 : decode cX4_isBehind 8 = .ok (.getfield 58, 3) := by decide +kernel
theorem dX4_isBehind_11 : decode cX4_isBehind 11 = .ok (.iload_n 2, 1) := by decide +kernel
theorem dX4_isBehind_12 : decode cX4_isBehind 12 = .ok (.iaload, 1) := by decide +kernel
theorem dX4_isBehind_13 : decode cX4_isBehind 13 = .ok (.if_icmp .ge 38, 3) := by decide +kernel
theorem dX4_isBehind_16 : decode cX4_isBehind 16 = .ok (.iload_n 3, 1) := by decide +kernel
theorem dX4_isBehind_17 : decode cX4_isBehind 17 = .ok (.ifCond .ne 22, 3) := by decide +kernel
theorem dX4_isBehind_20 : decode cX4_isBehind 20 = .ok (.aload_n 0, 1) := by decide +kernel
theorem dX4_isBehind_21 : decode cX4_isBehind 21 = .ok (.iload_n 1, 1) := by decide +kernel
theorem dX4_isBehind_22 : decode cX4_isBehind 22 = .ok (.aload_n 0, 1) := by decide +kernel
theorem dX4_isBehind_23 : decode cX4_isBehind 23 = .ok (.getfield 55, 3) := by decide +kernel
theorem dX4_isBehind_26 : decode cX4_isBehind 26 = .ok (.iconst 4, 1) := by decide +kernel
theorem dX4_isBehind_27 : decode cX4_isBehind 27 = .ok (.iload_n 2, 1) := by decide +kernel
theorem dX4_isBehind_28 : decode cX4_isBehind 28 = .ok (.imul, 1) := by decide +kernel
theorem dX4_isBehind_29 : decode cX4_isBehind 29 = .ok (.iload 4, 2) := by decide +kernel
theorem dX4_isBehind_31 : decode cX4_isBehind 31 = .ok (.iadd, 1) := by decide +kernel
theorem dX4_isBehind_32 : decode cX4_isBehind 32 = .ok (.iaload, 1) := by decide +kernel
theorem dX4_isBehind_33 : decode cX4_isBehind 33 = .ok (.invokevirtual 92, 3) := by decide +kernel
theorem dX4_isBehind_36 : decode cX4_isBehind 36 = .ok (.ifCond .eq 7, 3) := by decide +kernel
theorem dX4_isBehind_39 : decode cX4_isBehind 39 = .ok (.iconst 1, 1) := by decide +kernel
theorem dX4_isBehind_40 : decode cX4_isBehind 40 = .ok (.goto 4, 3) := by decide +kernel
theorem dX4_isBehind_43 : decode cX4_isBehind 43 = .ok (.iconst 0, 1) := by decide +kernel
theorem dX4_isBehind_44 : decode cX4_isBehind 44 = .ok (.istore_n 3, 1) := by decide +kernel
theorem dX4_isBehind_45 : decode cX4_isBehind 45 = .ok (.iinc 4 1, 3) := by decide +kernel
theorem dX4_isBehind_48 : decode cX4_isBehind 48 = .ok (.goto (-43), 3) := by decide +kernel
theorem dX4_isBehind_51 : decode cX4_isBehind 51 = .ok (.iload_n 3, 1) := by decide +kernel
theorem dX4_isBehind_52 : decode cX4_isBehind 52 = .ok (.ireturn, 1) := by decide +kernel
theorem dX4_markBehind_0 : decode cX4_markBehind 0 = .ok (.iconst 0, 1) := by decide +kernel
theorem dX4_markBehind_1 : decode cX4_markBehind 1 = .ok (.istore_n 1, 1) := by decide +kernel
theorem dX4_markBehind_2 : decode cX4_markBehind 2 = .ok (.iload_n 1, 1) := by decide +kernel
theorem dX4_markBehind_3 : decode cX4_markBehind 3 = .ok (.bipush 12, 2) := by decide +kernel
theorem dX4_markBehind_5 : decode cX4_markBehind 5 = .ok (.if_icmp .ge 79, 3) := by decide +kernel
theorem dX4_markBehind_8 : decode cX4_markBehind 8 = .ok (.iconst 0, 1) := by decide +kernel
theorem dX4_markBehind_9 : decode cX4_markBehind 9 = .ok (.istore_n 2, 1) := by decide +kernel
theorem dX4_markBehind_10 : decode cX4_markBehind 10 = .ok (.iload_n 2, 1) := by decide +kernel
theorem dX4_markBehind_11 : decode cX4_markBehind 11 = .ok (.aload_n 0, 1) := by decide +kernel
theorem dX4_markBehind_12 : decode cX4_markBehind 12 = .ok (.getfield 85, 3) := by decide +kernel
theorem dX4_markBehind_15 : decode cX4_markBehind 15 = .ok (.if_icmp .ge 63, 3) := by decide +kernel
theorem dX4_markBehind_18 : decode cX4_markBehind 18 = .ok (.iconst 0, 1) := by decide +kernel
theorem dX4_markBehind_19 : decode cX4_markBehind 19 = .ok (.istore_n 3, 1) := by decide +kernel
theorem dX4_markBehind_20 : decode cX4_markBehind 20 = .ok (.iload_n 3, 1) := by decide +kernel
theorem dX4_markBehind_21 : decode cX4_markBehind 21 = .ok (.aload_n 0, 1) := by decide +kernel
theorem dX4_markBehind_22 : decode cX4_markBehind 22 = .ok (.getfield 85, 3) := by decide +kernel
theorem dX4_markBehind_25 : decode cX4_markBehind 25 = .ok (.if_icmp .ge 47, 3) := by decide +kernel
theorem dX4_markBehind_28 : decode cX4_markBehind 28 = .ok (.aload_n 0, 1) := by decide +kernel
theorem dX4_markBehind_29 : decode cX4_markBehind 29 = .ok (.getfield 76, 3) := by decide +kernel
theorem dX4_markBehind_32 : decode cX4_markBehind 32 = .ok (.iload_n 2, 1) := by decide +kernel
theorem dX4_markBehind_33 : decode cX4_markBehind 33 = .ok (.aload_n 0, 1) := by decide +kernel
theorem dX4_markBehind_34 : decode cX4_markBehind 34 = .ok (.getfield 76, 3) := by decide +kernel
theorem dX4_markBehind_37 : decode cX4_markBehind 37 = .ok (.iload_n 2, 1) := by decide +kernel
theorem dX4_markBehind_38 : decode cX4_markBehind 38 = .ok (.baload, 1) := by decide +kernel
theorem dX4_markBehind_39 : decode cX4_markBehind 39 = .ok (.ifCond .ne 21, 3) := by decide +kernel
theorem dX4_markBehind_42 : decode cX4_markBehind 42 = .ok (.aload_n 0, 1) := by decide +kernel
theorem dX4_markBehind_43 : decode cX4_markBehind 43 = .ok (.getfield 76, 3) := by decide +kernel
theorem dX4_markBehind_46 : decode cX4_markBehind 46 = .ok (.iload_n 3, 1) := by decide +kernel
theorem dX4_markBehind_47 : decode cX4_markBehind 47 = .ok (.baload, 1) := by decide +kernel
theorem dX4_markBehind_48 : decode cX4_markBehind 48 = .ok (.ifCond .eq 16, 3) := by decide +kernel
theorem dX4_markBehind_51 : decode cX4_markBehind 51 = .ok (.aload_n 0, 1) := by decide +kernel
theorem dX4_markBehind_52 : decode cX4_markBehind 52 = .ok (.iload_n 2, 1) := by decide +kernel
theorem dX4_markBehind_53 : decode cX4_markBehind 53 = .ok (.iload_n 3, 1) := by decide +kernel
theorem dX4_markBehind_54 : decode cX4_markBehind 54 = .ok (.invokevirtual 95, 3) := by decide +kernel
theorem dX4_markBehind_57 : decode cX4_markBehind 57 = .ok (.ifCond .eq 7, 3) := by decide +kernel
theorem dX4_markBehind_60 : decode cX4_markBehind 60 = .ok (.iconst 1, 1) := by decide +kernel
theorem dX4_markBehind_61 : decode cX4_markBehind 61 = .ok (.goto 4, 3) := by decide +kernel
theorem dX4_markBehind_64 : decode cX4_markBehind 64 = .ok (.iconst 0, 1) := by decide +kernel
theorem dX4_markBehind_65 : decode cX4_markBehind 65 = .ok (.bastore, 1) := by decide +kernel
theorem dX4_markBehind_66 : decode cX4_markBehind 66 = .ok (.iinc 3 1, 3) := by decide +kernel
theorem dX4_markBehind_69 : decode cX4_markBehind 69 = .ok (.goto (-49), 3) := by decide +kernel
theorem dX4_markBehind_72 : decode cX4_markBehind 72 = .ok (.iinc 2 1, 3) := by decide +kernel
theorem dX4_markBehind_75 : decode cX4_markBehind 75 = .ok (.goto (-65), 3) := by decide +kernel
theorem dX4_markBehind_78 : decode cX4_markBehind 78 = .ok (.iinc 1 1, 3) := by decide +kernel
theorem dX4_markBehind_81 : decode cX4_markBehind 81 = .ok (.goto (-79), 3) := by decide +kernel
theorem dX4_markBehind_84 : decode cX4_markBehind 84 = .ok (.return_, 1) := by decide +kernel
theorem dX4_unmark_0 : decode cX4_unmark 0 = .ok (.iconst 0, 1) := by decide +kernel
theorem dX4_unmark_1 : decode cX4_unmark 1 = .ok (.istore_n 1, 1) := by decide +kernel
theorem dX4_unmark_2 : decode cX4_unmark 2 = .ok (.iload_n 1, 1) := by decide +kernel
theorem dX4_unmark_3 : decode cX4_unmark 3 = .ok (.bipush 12, 2) := by decide +kernel
theorem dX4_unmark_5 : decode cX4_unmark 5 = .ok (.if_icmp .ge 16, 3) := by decide +kernel
theorem dX4_unmark_8 : decode cX4_unmark 8 = .ok (.aload_n 0, 1) := by decide +kernel
theorem dX4_unmark_9 : decode cX4_unmark 9 = .ok (.getfield 76, 3) := by decide +kernel
theorem dX4_unmark_12 : decode cX4_unmark 12 = .ok (.iload_n 1, 1) := by decide +kernel
theorem dX4_unmark_13 : decode cX4_unmark 13 = .ok (.iconst 0, 1) := by decide +kernel
theorem dX4_unmark_14 : decode cX4_unmark 14 = .ok (.bastore, 1) := by decide +kernel
theorem dX4_unmark_15 : decode cX4_unmark 15 = .ok (.iinc 1 1, 3) := by decide +kernel
theorem dX4_unmark_18 : decode cX4_unmark 18 = .ok (.goto (-16), 3) := by decide +kernel
theorem dX4_unmark_21 : decode cX4_unmark 21 = .ok (.return_, 1) := by decide +kernel
theorem dX4_uses_0 : decode cX4_uses 0 = .ok (.aload_n 0, 1) := by decide +kernel
theorem dX4_uses_1 : decode cX4_uses 1 = .ok (.iload_n 1, 1) := by decide +kernel
theorem dX4_uses_2 : decode cX4_uses 2 = .ok (.invokevirtual 98, 3) := by decide +kernel
theorem dX4_uses_5 : decode cX4_uses 5 = .ok (.ifCond .eq 31, 3) := by decide +kernel
theorem dX4_uses_8 : decode cX4_uses 8 = .ok (.aload_n 0, 1) := by decide +kernel
theorem dX4_uses_9 : decode cX4_uses 9 = .ok (.iload_n 2, 1) := by decide +kernel
theorem dX4_uses_10 : decode cX4_uses 10 = .ok (.invokevirtual 102, 3) := by decide +kernel
theorem dX4_uses_13 : decode cX4_uses 13 = .ok (.ifCond .eq 23, 3) := by decide +kernel
theorem dX4_uses_16 : decode cX4_uses 16 = .ok (.aload_n 0, 1) := by decide +kernel
theorem dX4_uses_17 : decode cX4_uses 17 = .ok (.iload_n 1, 1) := by decide +kernel
theorem dX4_uses_18 : decode cX4_uses 18 = .ok (.iload_n 2, 1) := by decide +kernel
theorem dX4_uses_19 : decode cX4_uses 19 = .ok (.invokevirtual 92, 3) := by decide +kernel
theorem dX4_uses_22 : decode cX4_uses 22 = .ok (.ifCond .ne 14, 3) := by decide +kernel
theorem dX4_uses_25 : decode cX4_uses 25 = .ok (.aload_n 0, 1) := by decide +kernel
theorem dX4_uses_26 : decode cX4_uses 26 = .ok (.getfield 52, 3) := by decide +kernel
theorem dX4_uses_29 : decode cX4_uses 29 = .ok (.iload_n 1, 1) := by decide +kernel
theorem dX4_uses_30 : decode cX4_uses 30 = .ok (.iaload, 1) := by decide +kernel
theorem dX4_uses_31 : decode cX4_uses 31 = .ok (.bipush 8, 2) := by decide +kernel
theorem dX4_uses_33 : decode cX4_uses 33 = .ok (.if_icmp .ne 5, 3) := by decide +kernel
theorem dX4_uses_36 : decode cX4_uses 36 = .ok (.iconst 0, 1) := by decide +kernel
theorem dX4_uses_37 : decode cX4_uses 37 = .ok (.ireturn, 1) := by decide +kernel
theorem dX4_uses_38 : decode cX4_uses 38 = .ok (.aload_n 0, 1) := by decide +kernel
theorem dX4_uses_39 : decode cX4_uses 39 = .ok (.invokevirtual 105, 3) := by decide +kernel
theorem dX4_uses_42 : decode cX4_uses 42 = .ok (.aload_n 0, 1) := by decide +kernel
theorem dX4_uses_43 : decode cX4_uses 43 = .ok (.getfield 76, 3) := by decide +kernel
theorem dX4_uses_46 : decode cX4_uses 46 = .ok (.iload_n 1, 1) := by decide +kernel
theorem dX4_uses_47 : decode cX4_uses 47 = .ok (.iconst 1, 1) := by decide +kernel
theorem dX4_uses_48 : decode cX4_uses 48 = .ok (.bastore, 1) := by decide +kernel
theorem dX4_uses_49 : decode cX4_uses 49 = .ok (.aload_n 0, 1) := by decide +kernel
theorem dX4_uses_50 : decode cX4_uses 50 = .ok (.invokevirtual 108, 3) := by decide +kernel
theorem dX4_uses_53 : decode cX4_uses 53 = .ok (.aload_n 0, 1) := by decide +kernel
theorem dX4_uses_54 : decode cX4_uses 54 = .ok (.iload_n 2, 1) := by decide +kernel
theorem dX4_uses_55 : decode cX4_uses 55 = .ok (.invokevirtual 111, 3) := by decide +kernel
theorem dX4_uses_58 : decode cX4_uses 58 = .ok (.istore_n 3, 1) := by decide +kernel
theorem dX4_uses_59 : decode cX4_uses 59 = .ok (.iload_n 3, 1) := by decide +kernel
theorem dX4_uses_60 : decode cX4_uses 60 = .ok (.ifCond .lt 14, 3) := by decide +kernel
theorem dX4_uses_63 : decode cX4_uses 63 = .ok (.aload_n 0, 1) := by decide +kernel
theorem dX4_uses_64 : decode cX4_uses 64 = .ok (.getfield 76, 3) := by decide +kernel
theorem dX4_uses_67 : decode cX4_uses 67 = .ok (.iload_n 3, 1) := by decide +kernel
theorem dX4_uses_68 : decode cX4_uses 68 = .ok (.baload, 1) := by decide +kernel
theorem dX4_uses_69 : decode cX4_uses 69 = .ok (.ifCond .eq 5, 3) := by decide +kernel
theorem dX4_uses_72 : decode cX4_uses 72 = .ok (.iconst 0, 1) := by decide +kernel
theorem dX4_uses_73 : decode cX4_uses 73 = .ok (.ireturn, 1) := by decide +kernel
theorem dX4_uses_74 : decode cX4_uses 74 = .ok (.aload_n 0, 1) := by decide +kernel
theorem dX4_uses_75 : decode cX4_uses 75 = .ok (.getfield 49, 3) := by decide +kernel
theorem dX4_uses_78 : decode cX4_uses 78 = .ok (.bipush 8, 2) := by decide +kernel
theorem dX4_uses_80 : decode cX4_uses 80 = .ok (.iload_n 1, 1) := by decide +kernel
theorem dX4_uses_81 : decode cX4_uses 81 = .ok (.imul, 1) := by decide +kernel
theorem dX4_uses_82 : decode cX4_uses 82 = .ok (.aload_n 0, 1) := by decide +kernel
theorem dX4_uses_83 : decode cX4_uses 83 = .ok (.getfield 52, 3) := by decide +kernel
theorem dX4_uses_86 : decode cX4_uses 86 = .ok (.iload_n 1, 1) := by decide +kernel
theorem dX4_uses_87 : decode cX4_uses 87 = .ok (.iaload, 1) := by decide +kernel
theorem dX4_uses_88 : decode cX4_uses 88 = .ok (.iadd, 1) := by decide +kernel
theorem dX4_uses_89 : decode cX4_uses 89 = .ok (.iload_n 2, 1) := by decide +kernel
theorem dX4_uses_90 : decode cX4_uses 90 = .ok (.iastore, 1) := by decide +kernel
theorem dX4_uses_91 : decode cX4_uses 91 = .ok (.aload_n 0, 1) := by decide +kernel
theorem dX4_uses_92 : decode cX4_uses 92 = .ok (.getfield 52, 3) := by decide +kernel
theorem dX4_uses_95 : decode cX4_uses 95 = .ok (.iload_n 1, 1) := by decide +kernel
theorem dX4_uses_96 : decode cX4_uses 96 = .ok (.dup2, 1) := by decide +kernel
theorem dX4_uses_97 : decode cX4_uses 97 = .ok (.iaload, 1) := by decide +kernel
theorem dX4_uses_98 : decode cX4_uses 98 = .ok (.iconst 1, 1) := by decide +kernel
theorem dX4_uses_99 : decode cX4_uses 99 = .ok (.iadd, 1) := by decide +kernel
theorem dX4_uses_100 : decode cX4_uses 100 = .ok (.iastore, 1) := by decide +kernel
theorem dX4_uses_101 : decode cX4_uses 101 = .ok (.iconst 1, 1) := by decide +kernel
theorem dX4_uses_102 : decode cX4_uses 102 = .ok (.ireturn, 1) := by decide +kernel
theorem dX4_makes_0 : decode cX4_makes 0 = .ok (.aload_n 0, 1) := by decide +kernel
theorem dX4_makes_1 : decode cX4_makes 1 = .ok (.iload_n 1, 1) := by decide +kernel
theorem dX4_makes_2 : decode cX4_makes 2 = .ok (.invokevirtual 98, 3) := by decide +kernel
theorem dX4_makes_5 : decode cX4_makes 5 = .ok (.ifCond .eq 29, 3) := by decide +kernel
theorem dX4_makes_8 : decode cX4_makes 8 = .ok (.aload_n 0, 1) := by decide +kernel
theorem dX4_makes_9 : decode cX4_makes 9 = .ok (.iload_n 2, 1) := by decide +kernel
theorem dX4_makes_10 : decode cX4_makes 10 = .ok (.invokevirtual 102, 3) := by decide +kernel
theorem dX4_makes_13 : decode cX4_makes 13 = .ok (.ifCond .eq 21, 3) := by decide +kernel
theorem dX4_makes_16 : decode cX4_makes 16 = .ok (.aload_n 0, 1) := by decide +kernel
theorem dX4_makes_17 : decode cX4_makes 17 = .ok (.iload_n 2, 1) := by decide +kernel
theorem dX4_makes_18 : decode cX4_makes 18 = .ok (.invokevirtual 111, 3) := by decide +kernel
theorem dX4_makes_21 : decode cX4_makes 21 = .ok (.ifCond .ge 13, 3) := by decide +kernel
theorem dX4_makes_24 : decode cX4_makes 24 = .ok (.aload_n 0, 1) := by decide +kernel
theorem dX4_makes_25 : decode cX4_makes 25 = .ok (.getfield 58, 3) := by decide +kernel
theorem dX4_makes_28 : decode cX4_makes 28 = .ok (.iload_n 1, 1) := by decide +kernel
theorem dX4_makes_29 : decode cX4_makes 29 = .ok (.iaload, 1) := by decide +kernel
theorem dX4_makes_30 : decode cX4_makes 30 = .ok (.iconst 4, 1) := by decide +kernel
theorem dX4_makes_31 : decode cX4_makes 31 = .ok (.if_icmp .ne 5, 3) := by decide +kernel
theorem dX4_makes_34 : decode cX4_makes 34 = .ok (.iconst 0, 1) := by decide +kernel
theorem dX4_makes_35 : decode cX4_makes 35 = .ok (.ireturn, 1) := by decide +kernel
theorem dX4_makes_36 : decode cX4_makes 36 = .ok (.aload_n 0, 1) := by decide +kernel
theorem dX4_makes_37 : decode cX4_makes 37 = .ok (.invokevirtual 105, 3) := by decide +kernel
theorem dX4_makes_40 : decode cX4_makes 40 = .ok (.iconst 0, 1) := by decide +kernel
theorem dX4_makes_41 : decode cX4_makes 41 = .ok (.istore_n 3, 1) := by decide +kernel
theorem dX4_makes_42 : decode cX4_makes 42 = .ok (.iload_n 3, 1) := by decide +kernel
theorem dX4_makes_43 : decode cX4_makes 43 = .ok (.aload_n 0, 1) := by decide +kernel
theorem dX4_makes_44 : decode cX4_makes 44 = .ok (.getfield 85, 3) := by decide +kernel
theorem dX4_makes_47 : decode cX4_makes 47 = .ok (.if_icmp .ge 21, 3) := by decide +kernel
theorem dX4_makes_50 : decode cX4_makes 50 = .ok (.aload_n 0, 1) := by decide +kernel
theorem dX4_makes_51 : decode cX4_makes 51 = .ok (.getfield 76, 3) := by decide +kernel
theorem dX4_makes_54 : decode cX4_makes 54 = .ok (.iload_n 3, 1) := by decide +kernel
theorem dX4_makes_55 : decode cX4_makes 55 = .ok (.aload_n 0, 1) := by decide +kernel
theorem dX4_makes_56 : decode cX4_makes 56 = .ok (.iload_n 3, 1) := by decide +kernel
theorem dX4_makes_57 : decode cX4_makes 57 = .ok (.iload_n 2, 1) := by decide +kernel
theorem dX4_makes_58 : decode cX4_makes 58 = .ok (.invokevirtual 92, 3) := by decide +kernel
theorem dX4_makes_61 : decode cX4_makes 61 = .ok (.bastore, 1) := by decide +kernel
theorem dX4_makes_62 : decode cX4_makes 62 = .ok (.iinc 3 1, 3) := by decide +kernel
theorem dX4_makes_65 : decode cX4_makes 65 = .ok (.goto (-23), 3) := by decide +kernel
theorem dX4_makes_68 : decode cX4_makes 68 = .ok (.aload_n 0, 1) := by decide +kernel
theorem dX4_makes_69 : decode cX4_makes 69 = .ok (.invokevirtual 108, 3) := by decide +kernel
theorem dX4_makes_72 : decode cX4_makes 72 = .ok (.aload_n 0, 1) := by decide +kernel
theorem dX4_makes_73 : decode cX4_makes 73 = .ok (.getfield 76, 3) := by decide +kernel
theorem dX4_makes_76 : decode cX4_makes 76 = .ok (.iload_n 1, 1) := by decide +kernel
theorem dX4_makes_77 : decode cX4_makes 77 = .ok (.baload, 1) := by decide +kernel
theorem dX4_makes_78 : decode cX4_makes 78 = .ok (.ifCond .eq 5, 3) := by decide +kernel
theorem dX4_makes_81 : decode cX4_makes 81 = .ok (.iconst 0, 1) := by decide +kernel
theorem dX4_makes_82 : decode cX4_makes 82 = .ok (.ireturn, 1) := by decide +kernel
theorem dX4_makes_83 : decode cX4_makes 83 = .ok (.aload_n 0, 1) := by decide +kernel
theorem dX4_makes_84 : decode cX4_makes 84 = .ok (.getfield 55, 3) := by decide +kernel
theorem dX4_makes_87 : decode cX4_makes 87 = .ok (.iconst 4, 1) := by decide +kernel
theorem dX4_makes_88 : decode cX4_makes 88 = .ok (.iload_n 1, 1) := by decide +kernel
theorem dX4_makes_89 : decode cX4_makes 89 = .ok (.imul, 1) := by decide +kernel
theorem dX4_makes_90 : decode cX4_makes 90 = .ok (.aload_n 0, 1) := by decide +kernel
theorem dX4_makes_91 : decode cX4_makes 91 = .ok (.getfield 58, 3) := by decide +kernel
theorem dX4_makes_94 : decode cX4_makes 94 = .ok (.iload_n 1, 1) := by decide +kernel
theorem dX4_makes_95 : decode cX4_makes 95 = .ok (.iaload, 1) := by decide +kernel
theorem dX4_makes_96 : decode cX4_makes 96 = .ok (.iadd, 1) := by decide +kernel
theorem dX4_makes_97 : decode cX4_makes 97 = .ok (.iload_n 2, 1) := by decide +kernel
theorem dX4_makes_98 : decode cX4_makes 98 = .ok (.iastore, 1) := by decide +kernel
theorem dX4_makes_99 : decode cX4_makes 99 = .ok (.aload_n 0, 1) := by decide +kernel
theorem dX4_makes_100 : decode cX4_makes 100 = .ok (.getfield 58, 3) := by decide +kernel
theorem dX4_makes_103 : decode cX4_makes 103 = .ok (.iload_n 1, 1) := by decide +kernel
theorem dX4_makes_104 : decode cX4_makes 104 = .ok (.dup2, 1) := by decide +kernel
theorem dX4_makes_105 : decode cX4_makes 105 = .ok (.iaload, 1) := by decide +kernel
theorem dX4_makes_106 : decode cX4_makes 106 = .ok (.iconst 1, 1) := by decide +kernel
theorem dX4_makes_107 : decode cX4_makes 107 = .ok (.iadd, 1) := by decide +kernel
theorem dX4_makes_108 : decode cX4_makes 108 = .ok (.iastore, 1) := by decide +kernel
theorem dX4_makes_109 : decode cX4_makes 109 = .ok (.iconst 1, 1) := by decide +kernel
theorem dX4_makes_110 : decode cX4_makes 110 = .ok (.ireturn, 1) := by decide +kernel
theorem dX4_session_0 : decode cX4_session 0 = .ok (.aload_n 0, 1) := by decide +kernel
theorem dX4_session_1 : decode cX4_session 1 = .ok (.getfield 115, 3) := by decide +kernel
theorem dX4_session_4 : decode cX4_session 4 = .ok (.bipush 40, 2) := by decide +kernel
theorem dX4_session_6 : decode cX4_session 6 = .ok (.if_icmp .ne 5, 3) := by decide +kernel
theorem dX4_session_9 : decode cX4_session 9 = .ok (.iconst (-1), 1) := by decide +kernel
theorem dX4_session_10 : decode cX4_session 10 = .ok (.ireturn, 1) := by decide +kernel
theorem dX4_session_11 : decode cX4_session 11 = .ok (.aload_n 0, 1) := by decide +kernel
theorem dX4_session_12 : decode cX4_session 12 = .ok (.getfield 17, 3) := by decide +kernel
theorem dX4_session_15 : decode cX4_session 15 = .ok (.aload_n 0, 1) := by decide +kernel
theorem dX4_session_16 : decode cX4_session 16 = .ok (.getfield 115, 3) := by decide +kernel
theorem dX4_session_19 : decode cX4_session 19 = .ok (.iconst 1, 1) := by decide +kernel
theorem dX4_session_20 : decode cX4_session 20 = .ok (.bastore, 1) := by decide +kernel
theorem dX4_session_21 : decode cX4_session 21 = .ok (.aload_n 0, 1) := by decide +kernel
theorem dX4_session_22 : decode cX4_session 22 = .ok (.dup, 1) := by decide +kernel
theorem dX4_session_23 : decode cX4_session 23 = .ok (.getfield 115, 3) := by decide +kernel
theorem dX4_session_26 : decode cX4_session 26 = .ok (.iconst 1, 1) := by decide +kernel
theorem dX4_session_27 : decode cX4_session 27 = .ok (.iadd, 1) := by decide +kernel
theorem dX4_session_28 : decode cX4_session 28 = .ok (.putfield 115, 3) := by decide +kernel
theorem dX4_session_31 : decode cX4_session 31 = .ok (.aload_n 0, 1) := by decide +kernel
theorem dX4_session_32 : decode cX4_session 32 = .ok (.getfield 115, 3) := by decide +kernel
theorem dX4_session_35 : decode cX4_session 35 = .ok (.iconst 1, 1) := by decide +kernel
theorem dX4_session_36 : decode cX4_session 36 = .ok (.isub, 1) := by decide +kernel
theorem dX4_session_37 : decode cX4_session 37 = .ok (.ireturn, 1) := by decide +kernel
theorem dX4_goes_0 : decode cX4_goes 0 = .ok (.iload_n 1, 1) := by decide +kernel
theorem dX4_goes_1 : decode cX4_goes 1 = .ok (.ifCond .lt 32, 3) := by decide +kernel
theorem dX4_goes_4 : decode cX4_goes 4 = .ok (.iload_n 1, 1) := by decide +kernel
theorem dX4_goes_5 : decode cX4_goes 5 = .ok (.aload_n 0, 1) := by decide +kernel
theorem dX4_goes_6 : decode cX4_goes 6 = .ok (.getfield 115, 3) := by decide +kernel
theorem dX4_goes_9 : decode cX4_goes 9 = .ok (.if_icmp .ge 24, 3) := by decide +kernel
theorem dX4_goes_12 : decode cX4_goes 12 = .ok (.aload_n 0, 1) := by decide +kernel
theorem dX4_goes_13 : decode cX4_goes 13 = .ok (.getfield 17, 3) := by decide +kernel
theorem dX4_goes_16 : decode cX4_goes 16 = .ok (.iload_n 1, 1) := by decide +kernel
theorem dX4_goes_17 : decode cX4_goes 17 = .ok (.baload, 1) := by decide +kernel
theorem dX4_goes_18 : decode cX4_goes 18 = .ok (.ifCond .eq 15, 3) := by decide +kernel
theorem dX4_goes_21 : decode cX4_goes 21 = .ok (.aload_n 0, 1) := by decide +kernel
theorem dX4_goes_22 : decode cX4_goes 22 = .ok (.iload_n 2, 1) := by decide +kernel
theorem dX4_goes_23 : decode cX4_goes 23 = .ok (.invokevirtual 102, 3) := by decide +kernel
theorem dX4_goes_26 : decode cX4_goes 26 = .ok (.ifCond .eq 7, 3) := by decide +kernel
theorem dX4_goes_29 : decode cX4_goes 29 = .ok (.iconst 1, 1) := by decide +kernel
theorem dX4_goes_30 : decode cX4_goes 30 = .ok (.goto 4, 3) := by decide +kernel
theorem dX4_goes_33 : decode cX4_goes 33 = .ok (.iconst 0, 1) := by decide +kernel
theorem dX4_goes_34 : decode cX4_goes 34 = .ok (.ireturn, 1) := by decide +kernel
theorem dX4_touch_0 : decode cX4_touch 0 = .ok (.aload_n 0, 1) := by decide +kernel
theorem dX4_touch_1 : decode cX4_touch 1 = .ok (.getfield 27, 3) := by decide +kernel
theorem dX4_touch_4 : decode cX4_touch 4 = .ok (.iload_n 1, 1) := by decide +kernel
theorem dX4_touch_5 : decode cX4_touch 5 = .ok (.aload_n 0, 1) := by decide +kernel
theorem dX4_touch_6 : decode cX4_touch 6 = .ok (.getfield 21, 3) := by decide +kernel
theorem dX4_touch_9 : decode cX4_touch 9 = .ok (.iload_n 1, 1) := by decide +kernel
theorem dX4_touch_10 : decode cX4_touch 10 = .ok (.baload, 1) := by decide +kernel
theorem dX4_touch_11 : decode cX4_touch 11 = .ok (.ifCond .eq 12, 3) := by decide +kernel
theorem dX4_touch_14 : decode cX4_touch 14 = .ok (.aload_n 0, 1) := by decide +kernel
theorem dX4_touch_15 : decode cX4_touch 15 = .ok (.getfield 27, 3) := by decide +kernel
theorem dX4_touch_18 : decode cX4_touch 18 = .ok (.iload_n 1, 1) := by decide +kernel
theorem dX4_touch_19 : decode cX4_touch 19 = .ok (.laload, 1) := by decide +kernel
theorem dX4_touch_20 : decode cX4_touch 20 = .ok (.goto 9, 3) := by decide +kernel
theorem dX4_touch_23 : decode cX4_touch 23 = .ok (.aload_n 0, 1) := by decide +kernel
theorem dX4_touch_24 : decode cX4_touch 24 = .ok (.getfield 13, 3) := by decide +kernel
theorem dX4_touch_27 : decode cX4_touch 27 = .ok (.iload_n 2, 1) := by decide +kernel
theorem dX4_touch_28 : decode cX4_touch 28 = .ok (.laload, 1) := by decide +kernel
theorem dX4_touch_29 : decode cX4_touch 29 = .ok (.lastore, 1) := by decide +kernel
theorem dX4_touch_30 : decode cX4_touch 30 = .ok (.aload_n 0, 1) := by decide +kernel
theorem dX4_touch_31 : decode cX4_touch 31 = .ok (.getfield 21, 3) := by decide +kernel
theorem dX4_touch_34 : decode cX4_touch 34 = .ok (.iload_n 1, 1) := by decide +kernel
theorem dX4_touch_35 : decode cX4_touch 35 = .ok (.iconst 1, 1) := by decide +kernel
theorem dX4_touch_36 : decode cX4_touch 36 = .ok (.bastore, 1) := by decide +kernel
theorem dX4_touch_37 : decode cX4_touch 37 = .ok (.return_, 1) := by decide +kernel
theorem dX4_own_0 : decode cX4_own 0 = .ok (.aload_n 0, 1) := by decide +kernel
theorem dX4_own_1 : decode cX4_own 1 = .ok (.getfield 24, 3) := by decide +kernel
theorem dX4_own_4 : decode cX4_own 4 = .ok (.iload_n 1, 1) := by decide +kernel
theorem dX4_own_5 : decode cX4_own 5 = .ok (.baload, 1) := by decide +kernel
theorem dX4_own_6 : decode cX4_own 6 = .ok (.ifCond .eq 12, 3) := by decide +kernel
theorem dX4_own_9 : decode cX4_own 9 = .ok (.aload_n 0, 1) := by decide +kernel
theorem dX4_own_10 : decode cX4_own 10 = .ok (.getfield 30, 3) := by decide +kernel
theorem dX4_own_13 : decode cX4_own 13 = .ok (.iload_n 1, 1) := by decide +kernel
theorem dX4_own_14 : decode cX4_own 14 = .ok (.laload, 1) := by decide +kernel
theorem dX4_own_15 : decode cX4_own 15 = .ok (.goto 9, 3) := by decide +kernel
theorem dX4_own_18 : decode cX4_own 18 = .ok (.aload_n 0, 1) := by decide +kernel
theorem dX4_own_19 : decode cX4_own 19 = .ok (.getfield 27, 3) := by decide +kernel
theorem dX4_own_22 : decode cX4_own 22 = .ok (.iload_n 1, 1) := by decide +kernel
theorem dX4_own_23 : decode cX4_own 23 = .ok (.laload, 1) := by decide +kernel
theorem dX4_own_24 : decode cX4_own 24 = .ok (.lreturn, 1) := by decide +kernel
theorem dX4_read_0 : decode cX4_read 0 = .ok (.aload_n 0, 1) := by decide +kernel
theorem dX4_read_1 : decode cX4_read 1 = .ok (.iload_n 1, 1) := by decide +kernel
theorem dX4_read_2 : decode cX4_read 2 = .ok (.iload_n 2, 1) := by decide +kernel
theorem dX4_read_3 : decode cX4_read 3 = .ok (.invokevirtual 118, 3) := by decide +kernel
theorem dX4_read_6 : decode cX4_read 6 = .ok (.ifCond .ne 5, 3) := by decide +kernel
theorem dX4_read_9 : decode cX4_read 9 = .ok (.lconst 0, 1) := by decide +kernel
theorem dX4_read_10 : decode cX4_read 10 = .ok (.lreturn, 1) := by decide +kernel
theorem dX4_read_11 : decode cX4_read 11 = .ok (.bipush 24, 2) := by decide +kernel
theorem dX4_read_13 : decode cX4_read 13 = .ok (.iload_n 1, 1) := by decide +kernel
theorem dX4_read_14 : decode cX4_read 14 = .ok (.imul, 1) := by decide +kernel
theorem dX4_read_15 : decode cX4_read 15 = .ok (.iload_n 2, 1) := by decide +kernel
theorem dX4_read_16 : decode cX4_read 16 = .ok (.iadd, 1) := by decide +kernel
theorem dX4_read_17 : decode cX4_read 17 = .ok (.istore_n 3, 1) := by decide +kernel
theorem dX4_read_18 : decode cX4_read 18 = .ok (.aload_n 0, 1) := by decide +kernel
theorem dX4_read_19 : decode cX4_read 19 = .ok (.iload_n 3, 1) := by decide +kernel
theorem dX4_read_20 : decode cX4_read 20 = .ok (.iload_n 2, 1) := by decide +kernel
theorem dX4_read_21 : decode cX4_read 21 = .ok (.invokevirtual 121, 3) := by decide +kernel
theorem dX4_read_24 : decode cX4_read 24 = .ok (.aload_n 0, 1) := by decide +kernel
theorem dX4_read_25 : decode cX4_read 25 = .ok (.iload_n 3, 1) := by decide +kernel
theorem dX4_read_26 : decode cX4_read 26 = .ok (.invokevirtual 125, 3) := by decide +kernel
theorem dX4_read_29 : decode cX4_read 29 = .ok (.lreturn, 1) := by decide +kernel
theorem dX4_write_0 : decode cX4_write 0 = .ok (.aload_n 0, 1) := by decide +kernel
