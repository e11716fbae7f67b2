theorem dX2_isFirstOfItsValue_13 : decode cX2_isFirstOfItsValue 13 = .ok (.aload_n 0, 1) := by decide +kernel
theorem dX2_isFirstOfItsValue_14 : decode cX2_isFirstOfItsValue 14 = .ok (.getfield 18, 3) := by decide +kernel
theorem dX2_isFirstOfItsValue_17 : decode cX2_isFirstOfItsValue 17 = .ok (.iload_n 1, 1) := by decide +kernel
theorem dX2_isFirstOfItsValue_18 : decode cX2_isFirstOfItsValue 18 = .ok (.laload, 1) := by decide +kernel
theorem dX2_isFirstOfItsValue_19 : decode cX2_isFirstOfItsValue 19 = .ok (.lcmp, 1) := by decide +kernel
theorem dX2_isFirstOfItsValue_20 : decode cX2_isFirstOfItsValue 20 = .ok (.ifCond .ne 5, 3) := by decide +kernel
theorem dX2_isFirstOfItsValue_23 : decode cX2_isFirstOfItsValue 23 = .ok (.iconst 0, 1) := by decide +kernel
theorem dX2_isFirstOfItsValue_24 : decode cX2_isFirstOfItsValue 24 = .ok (.ireturn, 1) := by decide +kernel
theorem dX2_isFirstOfItsValue_25 : decode cX2_isFirstOfItsValue 25 = .ok (.iinc 2 1, 3) := by decide +kernel
theorem dX2_isFirstOfItsValue_28 : decode cX2_isFirstOfItsValue 28 = .ok (.goto (-26), 3) := by decide +kernel
theorem dX2_isFirstOfItsValue_31 : decode cX2_isFirstOfItsValue 31 = .ok (.iconst 1, 1) := by decide +kernel
theorem dX2_isFirstOfItsValue_32 : decode cX2_isFirstOfItsValue 32 = .ok (.ireturn, 1) := by decide +kernel
theorem dX3_init_0 : decode cX3_init 0 = .ok (.aload_n 0, 1) := by decide +kernel
theorem dX3_init_1 : decode cX3_init 1 = .ok (.invokespecial 1, 3) := by decide +kernel
theorem dX3_init_4 : decode cX3_init 4 = .ok (.aload_n 0, 1) := by decide +kernel
theorem dX3_init_5 : decode cX3_init 5 = .ok (.bipush 6, 2) := by decide +kernel
theorem dX3_init_7 : decode cX3_init 7 = .ok (.bipush 24, 2) := by decide +kernel
theorem dX3_init_9 : decode cX3_init 9 = .ok (.multianewarray 9 2, 4) := by decide +kernel
theorem dX3_init_13 : decode cX3_init 13 = .ok (.putfield 11, 3) := by decide +kernel
theorem dX3_init_16 : decode cX3_init 16 = .ok (.aload_n 0, 1) := by decide +kernel
theorem dX3_init_17 : decode cX3_init 17 = .ok (.aload_n 0, 1) := by decide +kernel
theorem dX3_init_18 : decode cX3_init 18 = .ok (.getfield 11, 3) := by decide +kernel
theorem dX3_init_21 : decode cX3_init 21 = .ok (.iconst 0, 1) := by decide +kernel
theorem dX3_init_22 : decode cX3_init 22 = .ok (.aaload, 1) := by decide +kernel
theorem dX3_init_23 : decode cX3_init 23 = .ok (.putfield 14, 3) := by decide +kernel
theorem dX3_init_26 : decode cX3_init 26 = .ok (.aload_n 0, 1) := by decide +kernel
theorem dX3_init_27 : decode cX3_init 27 = .ok (.bipush 24, 2) := by decide +kernel
theorem dX3_init_29 : decode cX3_init 29 = .ok (.newarray .int, 2) := by decide +kernel
theorem dX3_init_31 : decode cX3_init 31 = .ok (.putfield 18, 3) := by decide +kernel
theorem dX3_init_34 : decode cX3_init 34 = .ok (.aload_n 0, 1) := by decide +kernel
theorem dX3_init_35 : decode cX3_init 35 = .ok (.bipush 12, 2) := by decide +kernel
theorem dX3_init_37 : decode cX3_init 37 = .ok (.anewarray 22, 3) := by decide +kernel
theorem dX3_init_40 : decode cX3_init 40 = .ok (.putfield 24, 3) := by decide +kernel
theorem dX3_init_43 : decode cX3_init 43 = .ok (.aload_n 0, 1) := by decide +kernel
theorem dX3_init_44 : decode cX3_init 44 = .ok (.bipush 40, 2) := by decide +kernel
theorem dX3_init_46 : decode cX3_init 46 = .ok (.anewarray 28, 3) := by decide +kernel
theorem dX3_init_49 : decode cX3_init 49 = .ok (.putfield 30, 3) := by decide +kernel
theorem dX3_init_52 : decode cX3_init 52 = .ok (.aload_n 0, 1) := by decide +kernel
theorem dX3_init_53 : decode cX3_init 53 = .ok (.new 34, 3) := by decide +kernel
theorem dX3_init_56 : decode cX3_init 56 = .ok (.dup, 1) := by decide +kernel
theorem dX3_init_57 : decode cX3_init 57 = .ok (.invokespecial 36, 3) := by decide +kernel
theorem dX3_init_60 : decode cX3_init 60 = .ok (.putfield 37, 3) := by decide +kernel
theorem dX3_init_63 : decode cX3_init 63 = .ok (.aload_n 0, 1) := by decide +kernel
theorem dX3_init_64 : decode cX3_init 64 = .ok (.iconst 0, 1) := by decide +kernel
theorem dX3_init_65 : decode cX3_init 65 = .ok (.putfield 41, 3) := by decide +kernel
theorem dX3_init_68 : decode cX3_init 68 = .ok (.aload_n 0, 1) := by decide +kernel
theorem dX3_init_69 : decode cX3_init 69 = .ok (.iconst 1, 1) := by decide +kernel
theorem dX3_init_70 : decode cX3_init 70 = .ok (.putfield 45, 3) := by decide +kernel
theorem dX3_init_73 : decode cX3_init 73 = .ok (.aload_n 0, 1) := by decide +kernel
theorem dX3_init_74 : decode cX3_init 74 = .ok (.iconst 0, 1) := by decide +kernel
theorem dX3_init_75 : decode cX3_init 75 = .ok (.putfield 48, 3) := by decide +kernel
theorem dX3_init_78 : decode cX3_init 78 = .ok (.aload_n 0, 1) := by decide +kernel
theorem dX3_init_79 : decode cX3_init 79 = .ok (.iconst 0, 1) := by decide +kernel
theorem dX3_init_80 : decode cX3_init 80 = .ok (.putfield 51, 3) := by decide +kernel
theorem dX3_init_83 : decode cX3_init 83 = .ok (.aload_n 0, 1) := by decide +kernel
theorem dX3_init_84 : decode cX3_init 84 = .ok (.iconst 0, 1) := by decide +kernel
theorem dX3_init_85 : decode cX3_init 85 = .ok (.putfield 54, 3) := by decide +kernel
theorem dX3_init_88 : decode cX3_init 88 = .ok (.return_, 1) := by decide +kernel
theorem dX3_thing_0 : decode cX3_thing 0 = .ok (.aload_n 0, 1) := by decide +kernel
theorem dX3_thing_1 : decode cX3_thing 1 = .ok (.getfield 41, 3) := by decide +kernel
theorem dX3_thing_4 : decode cX3_thing 4 = .ok (.bipush 24, 2) := by decide +kernel
theorem dX3_thing_6 : decode cX3_thing 6 = .ok (.if_icmp .lt 5, 3) := by decide +kernel
theorem dX3_thing_9 : decode cX3_thing 9 = .ok (.iconst (-1), 1) := by decide +kernel
theorem dX3_thing_10 : decode cX3_thing 10 = .ok (.ireturn, 1) := by decide +kernel
theorem dX3_thing_11 : decode cX3_thing 11 = .ok (.iconst 0, 1) := by decide +kernel
theorem dX3_thing_12 : decode cX3_thing 12 = .ok (.istore_n 3, 1) := by decide +kernel
theorem dX3_thing_13 : decode cX3_thing 13 = .ok (.iload_n 3, 1) := by decide +kernel
theorem dX3_thing_14 : decode cX3_thing 14 = .ok (.bipush 6, 2) := by decide +kernel
theorem dX3_thing_16 : decode cX3_thing 16 = .ok (.if_icmp .ge 21, 3) := by decide +kernel
theorem dX3_thing_19 : decode cX3_thing 19 = .ok (.aload_n 0, 1) := by decide +kernel
theorem dX3_thing_20 : decode cX3_thing 20 = .ok (.getfield 11, 3) := by decide +kernel
theorem dX3_thing_23 : decode cX3_thing 23 = .ok (.iload_n 3, 1) := by decide +kernel
theorem dX3_thing_24 : decode cX3_thing 24 = .ok (.aaload, 1) := by decide +kernel
theorem dX3_thing_25 : decode cX3_thing 25 = .ok (.aload_n 0, 1) := by decide +kernel
theorem dX3_thing_26 : decode cX3_thing 26 = .ok (.getfield 41, 3) := by decide +kernel
theorem dX3_thing_29 : decode cX3_thing 29 = .ok (.lload_n 1, 1) := by decide +kernel
theorem dX3_thing_30 : decode cX3_thing 30 = .ok (.lastore, 1) := by decide +kernel
theorem dX3_thing_31 : decode cX3_thing 31 = .ok (.iinc 3 1, 3) := by decide +kernel
theorem dX3_thing_34 : decode cX3_thing 34 = .ok (.goto (-21), 3) := by decide +kernel
theorem dX3_thing_37 : decode cX3_thing 37 = .ok (.aload_n 0, 1) := by decide +kernel
theorem dX3_thing_38 : decode cX3_thing 38 = .ok (.getfield 18, 3) := by decide +kernel
theorem dX3_thing_41 : decode cX3_thing 41 = .ok (.aload_n 0, 1) := by decide +kernel
theorem dX3_thing_42 : decode cX3_thing 42 = .ok (.getfield 41, 3) := by decide +kernel
theorem dX3_thing_45 : decode cX3_thing 45 = .ok (.iconst (-1), 1) := by decide +kernel
theorem dX3_thing_46 : decode cX3_thing 46 = .ok (.iastore, 1) := by decide +kernel
theorem dX3_thing_47 : decode cX3_thing 47 = .ok (.aload_n 0, 1) := by decide +kernel
theorem dX3_thing_48 : decode cX3_thing 48 = .ok (.dup, 1) := by decide +kernel
theorem dX3_thing_49 : decode cX3_thing 49 = .ok (.getfield 41, 3) := by decide +kernel
theorem dX3_thing_52 : decode cX3_thing 52 = .ok (.iconst 1, 1) := by decide +kernel
theorem dX3_thing_53 : decode cX3_thing 53 = .ok (.iadd, 1) := by decide +kernel
theorem dX3_thing_54 : decode cX3_thing 54 = .ok (.putfield 41, 3) := by decide +kernel
theorem dX3_thing_57 : decode cX3_thing 57 = .ok (.aload_n 0, 1) := by decide +kernel
theorem dX3_thing_58 : decode cX3_thing 58 = .ok (.getfield 41, 3) := by decide +kernel
theorem dX3_thing_61 : decode cX3_thing 61 = .ok (.iconst 1, 1) := by decide +kernel
theorem dX3_thing_62 : decode cX3_thing 62 = .ok (.isub, 1) := by decide +kernel
theorem dX3_thing_63 : decode cX3_thing 63 = .ok (.ireturn, 1) := by decide +kernel
theorem dX3_step_0 : decode cX3_step 0 = .ok (.iload_n 1, 1) := by decide +kernel
theorem dX3_step_1 : decode cX3_step 1 = .ok (.ifCond .lt 8, 3) := by decide +kernel
theorem dX3_step_4 : decode cX3_step 4 = .ok (.iload_n 1, 1) := by decide +kernel
theorem dX3_step_5 : decode cX3_step 5 = .ok (.iconst 3, 1) := by decide +kernel
theorem dX3_step_6 : decode cX3_step 6 = .ok (.if_icmp .le 6, 3) := by decide +kernel
theorem dX3_step_9 : decode cX3_step 9 = .ok (.bipush (-2), 2) := by decide +kernel
theorem dX3_step_11 : decode cX3_step 11 = .ok (.ireturn, 1) := by decide +kernel
theorem dX3_step_12 : decode cX3_step 12 = .ok (.aload_n 0, 1) := by decide +kernel
theorem dX3_step_13 : decode cX3_step 13 = .ok (.getfield 48, 3) := by decide +kernel
theorem dX3_step_16 : decode cX3_step 16 = .ok (.bipush 12, 2) := by decide +kernel
theorem dX3_step_18 : decode cX3_step 18 = .ok (.if_icmp .lt 5, 3) := by decide +kernel
theorem dX3_step_21 : decode cX3_step 21 = .ok (.iconst (-1), 1) := by decide +kernel
theorem dX3_step_22 : decode cX3_step 22 = .ok (.ireturn, 1) := by decide +kernel
theorem dX3_step_23 : decode cX3_step 23 = .ok (.aload_n 0, 1) := by decide +kernel
theorem dX3_step_24 : decode cX3_step 24 = .ok (.getfield 24, 3) := by decide +kernel
theorem dX3_step_27 : decode cX3_step 27 = .ok (.aload_n 0, 1) := by decide +kernel
theorem dX3_step_28 : decode cX3_step 28 = .ok (.getfield 48, 3) := by decide +kernel
theorem dX3_step_31 : decode cX3_step 31 = .ok (.new 22, 3) := by decide +kernel
theorem dX3_step_34 : decode cX3_step 34 = .ok (.dup, 1) := by decide +kernel
theorem dX3_step_35 : decode cX3_step 35 = .ok (.iload_n 1, 1) := by decide +kernel
theorem dX3_step_36 : decode cX3_step 36 = .ok (.invokespecial 57, 3) := by decide +kernel
theorem dX3_step_39 : decode cX3_step 39 = .ok (.aastore, 1) := by decide +kernel
theorem dX3_step_40 : decode cX3_step 40 = .ok (.aload_n 0, 1) := by decide +kernel
theorem dX3_step_41 : decode cX3_step 41 = .ok (.dup, 1) := by decide +kernel
theorem dX3_step_42 : decode cX3_step 42 = .ok (.getfield 48, 3) := by decide +kernel
theorem dX3_step_45 : decode cX3_step 45 = .ok (.iconst 1, 1) := by decide +kernel
theorem dX3_step_46 : decode cX3_step 46 = .ok (.iadd, 1) := by decide +kernel
theorem dX3_step_47 : decode cX3_step 47 = .ok (.putfield 48, 3) := by decide +kernel
theorem dX3_step_50 : decode cX3_step 50 = .ok (.aload_n 0, 1) := by decide +kernel
theorem dX3_step_51 : decode cX3_step 51 = .ok (.getfield 48, 3) := by decide +kernel
theorem dX3_step_54 : decode cX3_step 54 = .ok (.iconst 1, 1) := by decide +kernel
theorem dX3_step_55 : decode cX3_step 55 = .ok (.isub, 1) := by decide +kernel
theorem dX3_step_56 : decode cX3_step 56 = .ok (.ireturn, 1) := by decide +kernel
theorem dX3_uses_0 : decode cX3_uses 0 = .ok (.aload_n 0, 1) := by decide +kernel
theorem dX3_uses_1 : decode cX3_uses 1 = .ok (.iload_n 1, 1) := by decide +kernel
theorem dX3_uses_2 : decode cX3_uses 2 = .ok (.invokevirtual 60, 3) := by decide +kernel
theorem dX3_uses_5 : decode cX3_uses 5 = .ok (.ifCond .eq 11, 3) := by decide +kernel
theorem dX3_uses_8 : decode cX3_uses 8 = .ok (.aload_n 0, 1) := by decide +kernel
theorem dX3_uses_9 : decode cX3_uses 9 = .ok (.iload_n 2, 1) := by decide +kernel
theorem dX3_uses_10 : decode cX3_uses 10 = .ok (.invokevirtual 64, 3) := by decide +kernel
theorem dX3_uses_13 : decode cX3_uses 13 = .ok (.ifCond .ne 5, 3) := by decide +kernel
theorem dX3_uses_16 : decode cX3_uses 16 = .ok (.iconst 0, 1) := by decide +kernel
theorem dX3_uses_17 : decode cX3_uses 17 = .ok (.ireturn, 1) := by decide +kernel
theorem dX3_uses_18 : decode cX3_uses 18 = .ok (.aload_n 0, 1) := by decide +kernel
theorem dX3_uses_19 : decode cX3_uses 19 = .ok (.getfield 24, 3) := by decide +kernel
theorem dX3_uses_22 : decode cX3_uses 22 = .ok (.iload_n 1, 1) := by decide +kernel
theorem dX3_uses_23 : decode cX3_uses 23 = .ok (.aaload, 1) := by decide +kernel
theorem dX3_uses_24 : decode cX3_uses 24 = .ok (.astore_n 3, 1) := by decide +kernel
theorem dX3_uses_25 : decode cX3_uses 25 = .ok (.aload_n 3, 1) := by decide +kernel
theorem dX3_uses_26 : decode cX3_uses 26 = .ok (.iload_n 2, 1) := by decide +kernel
theorem dX3_uses_27 : decode cX3_uses 27 = .ok (.invokevirtual 67, 3) := by decide +kernel
theorem dX3_uses_30 : decode cX3_uses 30 = .ok (.ifCond .ne 12, 3) := by decide +kernel
theorem dX3_uses_33 : decode cX3_uses 33 = .ok (.aload_n 3, 1) := by decide +kernel
theorem dX3_uses_34 : decode cX3_uses 34 = .ok (.getfield 70, 3) := by decide +kernel
theorem dX3_uses_37 : decode cX3_uses 37 = .ok (.bipush 8, 2) := by decide +kernel
theorem dX3_uses_39 : decode cX3_uses 39 = .ok (.if_icmp .lt 5, 3) := by decide +kernel
theorem dX3_uses_42 : decode cX3_uses 42 = .ok (.iconst 0, 1) := by decide +kernel
theorem dX3_uses_43 : decode cX3_uses 43 = .ok (.ireturn, 1) := by decide +kernel
theorem dX3_uses_44 : decode cX3_uses 44 = .ok (.aload_n 0, 1) := by decide +kernel
theorem dX3_uses_45 : decode cX3_uses 45 = .ok (.getfield 18, 3) := by decide +kernel
theorem dX3_uses_48 : decode cX3_uses 48 = .ok (.iload_n 2, 1) := by decide +kernel
theorem dX3_uses_49 : decode cX3_uses 49 = .ok (.iaload, 1) := by decide +kernel
theorem dX3_uses_50 : decode cX3_uses 50 = .ok (.istore 4, 2) := by decide +kernel
theorem dX3_uses_52 : decode cX3_uses 52 = .ok (.iload 4, 2) := by decide +kernel
theorem dX3_uses_54 : decode cX3_uses 54 = .ok (.iconst (-1), 1) := by decide +kernel
theorem dX3_uses_55 : decode cX3_uses 55 = .ok (.if_icmp .eq 22, 3) := by decide +kernel
theorem dX3_uses_58 : decode cX3_uses 58 = .ok (.aload_n 0, 1) := by decide +kernel
theorem dX3_uses_59 : decode cX3_uses 59 = .ok (.iload_n 1, 1) := by decide +kernel
theorem dX3_uses_60 : decode cX3_uses 60 = .ok (.iload 4, 2) := by decide +kernel
theorem dX3_uses_62 : decode cX3_uses 62 = .ok (.invokevirtual 73, 3) := by decide +kernel
theorem dX3_uses_65 : decode cX3_uses 65 = .ok (.ifCond .eq 5, 3) := by decide +kernel
theorem dX3_uses_68 : decode cX3_uses 68 = .ok (.iconst 0, 1) := by decide +kernel
theorem dX3_uses_69 : decode cX3_uses 69 = .ok (.ireturn, 1) := by decide +kernel
theorem dX3_uses_70 : decode cX3_uses 70 = .ok (.aload_n 0, 1) := by decide +kernel
theorem dX3_uses_71 : decode cX3_uses 71 = .ok (.iload 4, 2) := by decide +kernel
theorem dX3_uses_73 : decode cX3_uses 73 = .ok (.iload_n 1, 1) := by decide +kernel
theorem dX3_uses_74 : decode cX3_uses 74 = .ok (.invokevirtual 77, 3) := by decide +kernel
theorem dX3_uses_77 : decode cX3_uses 77 = .ok (.aload_n 3, 1) := by decide +kernel
theorem dX3_uses_78 : decode cX3_uses 78 = .ok (.iload_n 2, 1) := by decide +kernel
theorem dX3_uses_79 : decode cX3_uses 79 = .ok (.invokevirtual 81, 3) := by decide +kernel
theorem dX3_uses_82 : decode cX3_uses 82 = .ok (.iconst 1, 1) := by decide +kernel
theorem dX3_uses_83 : decode cX3_uses 83 = .ok (.ireturn, 1) := by decide +kernel
theorem dX3_makes_0 : decode cX3_makes 0 = .ok (.aload_n 0, 1) := by decide +kernel
theorem dX3_makes_1 : decode cX3_makes 1 = .ok (.iload_n 1, 1) := by decide +kernel
theorem dX3_makes_2 : decode cX3_makes 2 = .ok (.invokevirtual 60, 3) := by decide +kernel
theorem dX3_makes_5 : decode cX3_makes 5 = .ok (.ifCond .eq 11, 3) := by decide +kernel
theorem dX3_makes_8 : decode cX3_makes 8 = .ok (.aload_n 0, 1) := by decide +kernel
theorem dX3_makes_9 : decode cX3_makes 9 = .ok (.iload_n 2, 1) := by decide +kernel
theorem dX3_makes_10 : decode cX3_makes 10 = .ok (.invokevirtual 64, 3) := by decide +kernel
theorem dX3_makes_13 : decode cX3_makes 13 = .ok (.ifCond .ne 5, 3) := by decide +kernel
theorem dX3_makes_16 : decode cX3_makes 16 = .ok (.iconst 0, 1) := by decide +kernel
theorem dX3_makes_17 : decode cX3_makes 17 = .ok (.ireturn, 1) := by decide +kernel
theorem dX3_makes_18 : decode cX3_makes 18 = .ok (.aload_n 0, 1) := by decide +kernel
theorem dX3_makes_19 : decode cX3_makes 19 = .ok (.getfield 24, 3) := by decide +kernel
theorem dX3_makes_22 : decode cX3_makes 22 = .ok (.iload_n 1, 1) := by decide +kernel
theorem dX3_makes_23 : decode cX3_makes 23 = .ok (.aaload, 1) := by decide +kernel
theorem dX3_makes_24 : decode cX3_makes 24 = .ok (.astore_n 3, 1) := by decide +kernel
theorem dX3_makes_25 : decode cX3_makes 25 = .ok (.aload_n 0, 1) := by decide +kernel
theorem dX3_makes_26 : decode cX3_makes 26 = .ok (.getfield 18, 3) := by decide +kernel
theorem dX3_makes_29 : decode cX3_makes 29 = .ok (.iload_n 2, 1) := by decide +kernel
theorem dX3_makes_30 : decode cX3_makes 30 = .ok (.iaload, 1) := by decide +kernel
theorem dX3_makes_31 : decode cX3_makes 31 = .ok (.iconst (-1), 1) := by decide +kernel
theorem dX3_makes_32 : decode cX3_makes 32 = .ok (.if_icmp .ne 20, 3) := by decide +kernel
theorem dX3_makes_35 : decode cX3_makes 35 = .ok (.aload_n 3, 1) := by decide +kernel
theorem dX3_makes_36 : decode cX3_makes 36 = .ok (.getfield 84, 3) := by decide +kernel
theorem dX3_makes_39 : decode cX3_makes 39 = .ok (.iconst 4, 1) := by decide +kernel
theorem dX3_makes_40 : decode cX3_makes 40 = .ok (.if_icmp .ge 12, 3) := by decide +kernel
theorem dX3_makes_43 : decode cX3_makes 43 = .ok (.aload_n 0, 1) := by decide +kernel
theorem dX3_makes_44 : decode cX3_makes 44 = .ok (.iload_n 2, 1) := by decide +kernel
theorem dX3_makes_45 : decode cX3_makes 45 = .ok (.iload_n 1, 1) := by decide +kernel
theorem dX3_makes_46 : decode cX3_makes 46 = .ok (.invokevirtual 87, 3) := by decide +kernel
theorem dX3_makes_49 : decode cX3_makes 49 = .ok (.ifCond .eq 5, 3) := by decide +kernel
theorem dX3_makes_52 : decode cX3_makes 52 = .ok (.iconst 0, 1) := by decide +kernel
theorem dX3_makes_53 : decode cX3_makes 53 = .ok (.ireturn, 1) := by decide +kernel
theorem dX3_makes_54 : decode cX3_makes 54 = .ok (.iconst 0, 1) := by decide +kernel
theorem dX3_makes_55 : decode cX3_makes 55 = .ok (.istore 4, 2) := by decide +kernel
theorem dX3_makes_57 : decode cX3_makes 57 = .ok (.iload 4, 2) := by decide +kernel
theorem dX3_makes_59 : decode cX3_makes 59 = .ok (.aload_n 0, 1) := by decide +kernel
theorem dX3_makes_60 : decode cX3_makes 60 = .ok (.getfield 48, 3) := by decide +kernel
theorem dX3_makes_63 : decode cX3_makes 63 = .ok (.if_icmp .ge 30, 3) := by decide +kernel
theorem dX3_makes_66 : decode cX3_makes 66 = .ok (.aload_n 0, 1) := by decide +kernel
theorem dX3_makes_67 : decode cX3_makes 67 = .ok (.getfield 24, 3) := by decide +kernel
theorem dX3_makes_70 : decode cX3_makes 70 = .ok (.iload 4, 2) := by decide +kernel
theorem dX3_makes_72 : decode cX3_makes 72 = .ok (.aaload, 1) := by decide +kernel
theorem dX3_makes_73 : decode cX3_makes 73 = .ok (.iload_n 2, 1) := by decide +kernel
theorem dX3_makes_74 : decode cX3_makes 74 = .ok (.invokevirtual 67, 3) := by decide +kernel
theorem dX3_makes_77 : decode cX3_makes 77 = .ok (.ifCond .eq 10, 3) := by decide +kernel
theorem dX3_makes_80 : decode cX3_makes 80 = .ok (.aload_n 0, 1) := by decide +kernel
theorem dX3_makes_81 : decode cX3_makes 81 = .ok (.iload_n 1, 1) := by decide +kernel
theorem dX3_makes_82 : decode cX3_makes 82 = .ok (.iload 4, 2) := by decide +kernel
theorem dX3_makes_84 : decode cX3_makes 84 = .ok (.invokevirtual 77, 3) := by decide +kernel
theorem dX3_makes_87 : decode cX3_makes 87 = .ok (.iinc 4 1, 3) := by decide +kernel
theorem dX3_makes_90 : decode cX3_makes 90 = .ok (.goto (-33), 3) := by decide +kernel
theorem dX3_makes_93 : decode cX3_makes 93 = .ok (.aload_n 3, 1) := by decide +kernel
theorem dX3_makes_94 : decode cX3_makes 94 = .ok (.iload_n 2, 1) := by decide +kernel
theorem dX3_makes_95 : decode cX3_makes 95 = .ok (.invokevirtual 90, 3) := by decide +kernel
theorem dX3_makes_98 : decode cX3_makes 98 = .ok (.aload_n 0, 1) := by decide +kernel
theorem dX3_makes_99 : decode cX3_makes 99 = .ok (.getfield 18, 3) := by decide +kernel
theorem dX3_makes_102 : decode cX3_makes 102 = .ok (.iload_n 2, 1) := by decide +kernel
theorem dX3_makes_103 : decode cX3_makes 103 = .ok (.iload_n 1, 1) := by decide +kernel
theorem dX3_makes_104 : decode cX3_makes 104 = .ok (.iastore, 1) := by decide +kernel
theorem dX3_makes_105 : decode cX3_makes 105 = .ok (.iconst 1, 1) := by decide +kernel
theorem dX3_makes_106 : decode cX3_makes 106 = .ok (.ireturn, 1) := by decide +kernel
theorem dX3_session_0 : decode cX3_session 0 = .ok (.aload_n 0, 1) := by decide +kernel
theorem dX3_session_1 : decode cX3_session 1 = .ok (.getfield 51, 3) := by decide +kernel
theorem dX3_session_4 : decode cX3_session 4 = .ok (.bipush 40, 2) := by decide +kernel
theorem dX3_session_6 : decode cX3_session 6 = .ok (.if_icmp .lt 5, 3) := by decide +kernel
theorem dX3_session_9 : decode cX3_session 9 = .ok (.iconst (-1), 1) := by decide +kernel
theorem dX3_session_10 : decode cX3_session 10 = .ok (.ireturn, 1) := by decide +kernel
theorem dX3_session_11 : decode cX3_session 11 = .ok (.aload_n 0, 1) := by decide +kernel
theorem dX3_session_12 : decode cX3_session 12 = .ok (.getfield 30, 3) := by decide +kernel
theorem dX3_session_15 : decode cX3_session 15 = .ok (.aload_n 0, 1) := by decide +kernel
theorem dX3_session_16 : decode cX3_session 16 = .ok (.getfield 51, 3) := by decide +kernel
theorem dX3_session_19 : decode cX3_session 19 = .ok (.new 28, 3) := by decide +kernel
theorem dX3_session_22 : decode cX3_session 22 = .ok (.dup, 1) := by decide +kernel
theorem dX3_session_23 : decode cX3_session 23 = .ok (.invokespecial 93, 3) := by decide +kernel
theorem dX3_session_26 : decode cX3_session 26 = .ok (.aastore, 1) := by decide +kernel
theorem dX3_session_27 : decode cX3_session 27 = .ok (.aload_n 0, 1) := by decide +kernel
theorem dX3_session_28 : decode cX3_session 28 = .ok (.dup, 1) := by decide +kernel
theorem dX3_session_29 : decode cX3_session 29 = .ok (.getfield 51, 3) := by decide +kernel
theorem dX3_session_32 : decode cX3_session 32 = .ok (.iconst 1, 1) := by decide +kernel
theorem dX3_session_33 : decode cX3_session 33 = .ok (.iadd, 1) := by decide +kernel
theorem dX3_session_34 : decode cX3_session 34 = .ok (.putfield 51, 3) := by decide +kernel
theorem dX3_session_37 : decode cX3_session 37 = .ok (.aload_n 0, 1) := by decide +kernel
theorem dX3_session_38 : decode cX3_session 38 = .ok (.getfield 51, 3) := by decide +kernel
theorem dX3_session_41 : decode cX3_session 41 = .ok (.iconst 1, 1) := by decide +kernel
theorem dX3_session_42 : decode cX3_session 42 = .ok (.isub, 1) := by decide +kernel
theorem dX3_session_43 : decode cX3_session 43 = .ok (.ireturn, 1) := by decide +kernel
theorem dX3_read_0 : decode cX3_read 0 = .ok (.aload_n 0, 1) := by decide +kernel
theorem dX3_read_1 : decode cX3_read 1 = .ok (.iload_n 1, 1) := by decide +kernel
theorem dX3_read_2 : decode cX3_read 2 = .ok (.invokevirtual 94, 3) := by decide +kernel
theorem dX3_read_5 : decode cX3_read 5 = .ok (.ifCond .eq 11, 3) := by decide +kernel
theorem dX3_read_8 : decode cX3_read 8 = .ok (.aload_n 0, 1) := by decide +kernel
theorem dX3_read_9 : decode cX3_read 9 = .ok (.iload_n 2, 1) := by decide +kernel
theorem dX3_read_10 : decode cX3_read 10 = .ok (.invokevirtual 64, 3) := by decide +kernel
theorem dX3_read_13 : decode cX3_read 13 = .ok (.ifCond .ne 5, 3) := by decide +kernel
theorem dX3_read_16 : decode cX3_read 16 = .ok (.lconst 0, 1) := by decide +kernel
theorem dX3_read_17 : decode cX3_read 17 = .ok (.lreturn, 1) := by decide +kernel
theorem dX3_read_18 : decode cX3_read 18 = .ok (.aload_n 0, 1) := by decide +kernel
theorem dX3_read_19 : decode cX3_read 19 = .ok (.getfield 30, 3) := by decide +kernel
theorem dX3_read_22 : decode cX3_read 22 = .ok (.iload_n 1, 1) := by decide +kernel
theorem dX3_read_23 : decode cX3_read 23 = .ok (.aaload, 1) := by decide +kernel
theorem dX3_read_24 : decode cX3_read 24 = .ok (.astore_n 3, 1) := by decide +kernel
theorem dX3_read_25 : decode cX3_read 25 = .ok (.aload_n 3, 1) := by decide +kernel
theorem dX3_read_26 : decode cX3_read 26 = .ok (.iload_n 2, 1) := by decide +kernel
theorem dX3_read_27 : decode cX3_read 27 = .ok (.aload_n 0, 1) := by decide +kernel
theorem dX3_read_28 : decode cX3_read 28 = .ok (.getfield 14, 3) := by decide +kernel
theorem dX3_read_31 : decode cX3_read 31 = .ok (.iload_n 2, 1) := by decide +kernel
theorem dX3_read_32 : decode cX3_read 32 = .ok (.laload, 1) := by decide +kernel
theorem dX3_read_33 : decode cX3_read 33 = .ok (.invokevirtual 97, 3) := by decide +kernel
theorem dX3_read_36 : decode cX3_read 36 = .ok (.aload_n 3, 1) := by decide +kernel
theorem dX3_read_37 : decode cX3_read 37 = .ok (.iload_n 2, 1) := by decide +kernel
theorem dX3_read_38 : decode cX3_read 38 = .ok (.invokevirtual 101, 3) := by decide +kernel
theorem dX3_read_41 : decode cX3_read 41 = .ok (.lreturn, 1) := by decide +kernel
theorem dX3_write_0 : decode cX3_write 0 = .ok (.aload_n 0, 1) := by decide +kernel
theorem dX3_write_1 : decode cX3_write 1 = .ok (.iload_n 1, 1) := by decide +kernel
theorem dX3_write_2 : decode cX3_write 2 = .ok (.invokevirtual 94, 3) := by decide +kernel
theorem dX3_write_5 : decode cX3_write 5 = .ok (.ifCond .eq 11, 3) := by decide +kernel
theorem dX3_write_8 : decode cX3_write 8 = .ok (.aload_n 0, 1) := by decide +kernel
theorem dX3_write_9 : decode cX3_write 9 = .ok (.iload_n 2, 1) := by decide +kernel
theorem dX3_write_10 : decode cX3_write 10 = .ok (.invokevirtual 64, 3) := by decide +kernel
theorem dX3_write_13 : decode cX3_write 13 = .ok (.ifCond .ne 5, 3) := by decide +kernel
theorem dX3_write_16 : decode cX3_write 16 = .ok (.iconst 0, 1) := by decide +kernel
theorem dX3_write_17 : decode cX3_write 17 = .ok (.ireturn, 1) := by decide +kernel
theorem dX3_write_18 : decode cX3_write 18 = .ok (.aload_n 0, 1) := by decide +kernel
theorem dX3_write_19 : decode cX3_write 19 = .ok (.getfield 30, 3) := by decide +kernel
theorem dX3_write_22 : decode cX3_write 22 = .ok (.iload_n 1, 1) := by decide +kernel
theorem dX3_write_23 : decode cX3_write 23 = .ok (.aaload, 1) := by decide +kernel
theorem dX3_write_24 : decode cX3_write 24 = .ok (.astore 5, 2) := by decide +kernel
theorem dX3_write_26 : decode cX3_write 26 = .ok (.aload 5, 2) := by decide +kernel
theorem dX3_write_28 : decode cX3_write 28 = .ok (.iload_n 2, 1) := by decide +kernel
theorem dX3_write_29 : decode cX3_write 29 = .ok (.aload_n 0, 1) := by decide +kernel
theorem dX3_write_30 : decode cX3_write 30 = .ok (.getfield 14, 3) := by decide +kernel
theorem dX3_write_33 : decode cX3_write 33 = .ok (.iload_n 2, 1) := by decide +kernel
theorem dX3_write_34 : decode cX3_write 34 = .ok (.laload, 1) := by decide +kernel
theorem dX3_write_35 : decode cX3_write 35 = .ok (.invokevirtual 97, 3) := by decide +kernel
theorem dX3_write_38 : decode cX3_write 38 = .ok (.aload 5, 2) := by decide +kernel
theorem dX3_write_40 : decode cX3_write 40 = .ok (.iload_n 2, 1) := by decide +kernel
theorem dX3_write_41 : decode cX3_write 41 = .ok (.lload_n 3, 1) := by decide +kernel
theorem dX3_write_42 : decode cX3_write 42 = .ok (.invokevirtual 105, 3) := by decide +kernel
theorem dX3_write_45 : decode cX3_write 45 = .ok (.iconst 1, 1) := by decide +kernel
theorem dX3_write_46 : decode cX3_write 46 = .ok (.ireturn, 1) := by decide +kernel
theorem dX3_join_0 : decode cX3_join 0 = .ok (.aload_n 0, 1) := by decide +kernel
theorem dX3_join_1 : decode cX3_join 1 = .ok (.iload_n 1, 1) := by decide +kernel
theorem dX3_join_2 : decode cX3_join 2 = .ok (.invokevirtual 94, 3) := by decide +kernel
theorem dX3_join_5 : decode cX3_join 5 = .ok (.ifCond .ne 6, 3) := by decide +kernel
theorem dX3_join_8 : decode cX3_join 8 = .ok (.bipush (-2), 2) := by decide +kernel
theorem dX3_join_10 : decode cX3_join 10 = .ok (.ireturn, 1) := by decide +kernel
theorem dX3_join_11 : decode cX3_join 11 = .ok (.aload_n 0, 1) := by decide +kernel
theorem dX3_join_12 : decode cX3_join 12 = .ok (.getfield 30, 3) := by decide +kernel
theorem dX3_join_15 : decode cX3_join 15 = .ok (.iload_n 1, 1) := by decide +kernel
theorem dX3_join_16 : decode cX3_join 16 = .ok (.aaload, 1) := by decide +kernel
theorem dX3_join_17 : decode cX3_join 17 = .ok (.astore_n 3, 1) := by decide +kernel
theorem dX3_join_18 : decode cX3_join 18 = .ok (.aload_n 0, 1) := by decide +kernel
theorem dX3_join_19 : decode cX3_join 19 = .ok (.aload_n 3, 1) := by decide +kernel
theorem dX3_join_20 : decode cX3_join 20 = .ok (.invokevirtual 108, 3) := by decide +kernel
theorem dX3_join_23 : decode cX3_join 23 = .ok (.istore 4, 2) := by decide +kernel
theorem dX3_join_25 : decode cX3_join 25 = .ok (.iload 4, 2) := by decide +kernel
theorem dX3_join_27 : decode cX3_join 27 = .ok (.ifCond .le 6, 3) := by decide +kernel
theorem dX3_join_30 : decode cX3_join 30 = .ok (.iload 4, 2) := by decide +kernel
theorem dX3_join_32 : decode cX3_join 32 = .ok (.ireturn, 1) := by decide +kernel
theorem dX3_join_33 : decode cX3_join 33 = .ok (.iload_n 2, 1) := by decide +kernel
theorem dX3_join_34 : decode cX3_join 34 = .ok (.ifCond .ne 10, 3) := by decide +kernel
theorem dX3_join_37 : decode cX3_join 37 = .ok (.aload_n 3, 1) := by decide +kernel
theorem dX3_join_38 : decode cX3_join 38 = .ok (.invokevirtual 112, 3) := by decide +kernel
theorem dX3_join_41 : decode cX3_join 41 = .ok (.ifCond .ne 5, 3) := by decide +kernel
theorem dX3_join_44 : decode cX3_join 44 = .ok (.iconst (-1), 1) := by decide +kernel
theorem dX3_join_45 : decode cX3_join 45 = .ok (.ireturn, 1) := by decide +kernel
theorem dX3_join_46 : decode cX3_join 46 = .ok (.aload_n 0, 1) := by decide +kernel
theorem dX3_join_47 : decode cX3_join 47 = .ok (.aload_n 3, 1) := by decide +kernel
theorem dX3_join_48 : decode cX3_join 48 = .ok (.invokevirtual 116, 3) := by decide +kernel
theorem dX3_join_51 : decode cX3_join 51 = .ok (.aload_n 3, 1) := by decide +kernel
theorem dX3_join_52 : decode cX3_join 52 = .ok (.iconst 0, 1) := by decide +kernel
theorem dX3_join_53 : decode cX3_join 53 = .ok (.putfield 120, 3) := by decide +kernel
theorem dX3_join_56 : decode cX3_join 56 = .ok (.iconst 0, 1) := by decide +kernel
theorem dX3_join_57 : decode cX3_join 57 = .ok (.ireturn, 1) := by decide +kernel
theorem dX3_conflict_0 : decode cX3_conflict 0 = .ok (.aload_n 0, 1) := by decide +kernel
theorem dX3_conflict_1 : decode cX3_conflict 1 = .ok (.getfield 37, 3) := by decide +kernel
theorem dX3_conflict_4 : decode cX3_conflict 4 = .ok (.iload_n 1, 1) := by decide +kernel
theorem dX3_conflict_5 : decode cX3_conflict 5 = .ok (.invokevirtual 124, 3) := by decide +kernel
theorem dX3_conflict_8 : decode cX3_conflict 8 = .ok (.ifCond .ne 7, 3) := by decide +kernel
theorem dX3_conflict_11 : decode cX3_conflict 11 = .ok (.ldc2_w 127, 3) := by decide +kernel
theorem dX3_conflict_14 : decode cX3_conflict 14 = .ok (.lreturn, 1) := by decide +kernel
theorem dX3_conflict_15 : decode cX3_conflict 15 = .ok (.iload_n 2, 1) := by decide +kernel
theorem dX3_conflict_16 : decode cX3_conflict 16 = .ok (.tableswitch 59 0 2 #[28, 39, 49], 28) := by decide +kernel
theorem dX3_conflict_44 : decode cX3_conflict 44 = .ok (.aload_n 0, 1) := by decide +kernel
theorem dX3_conflict_45 : decode cX3_conflict 45 = .ok (.getfield 37, 3) := by decide +kernel
theorem dX3_conflict_48 : decode cX3_conflict 48 = .ok (.getfield 129, 3) := by decide +kernel
theorem dX3_conflict_51 : decode cX3_conflict 51 = .ok (.iload_n 1, 1) := by decide +kernel
theorem dX3_conflict_52 : decode cX3_conflict 52 = .ok (.iaload, 1) := by decide +kernel
theorem dX3_conflict_53 : decode cX3_conflict 53 = .ok (.i2l, 1) := by decide +kernel
theorem dX3_conflict_54 : decode cX3_conflict 54 = .ok (.lreturn, 1) := by decide +kernel
theorem dX3_conflict_55 : decode cX3_conflict 55 = .ok (.aload_n 0, 1) := by decide +kernel
theorem dX3_conflict_56 : decode cX3_conflict 56 = .ok (.getfield 37, 3) := by decide +kernel
theorem dX3_conflict_59 : decode cX3_conflict 59 = .ok (.getfield 132, 3) := by decide +kernel
theorem dX3_conflict_62 : decode cX3_conflict 62 = .ok (.iload_n 1, 1) := by decide +kernel
theorem dX3_conflict_63 : decode cX3_conflict 63 = .ok (.laload, 1) := by decide +kernel
theorem dX3_conflict_64 : decode cX3_conflict 64 = .ok (.lreturn, 1) := by decide +kernel
theorem dX3_conflict_65 : decode cX3_conflict 65 = .ok (.aload_n 0, 1) := by decide +kernel
theorem dX3_conflict_66 : decode cX3_conflict 66 = .ok (.getfield 37, 3) := by decide +kernel
theorem dX3_conflict_69 : decode cX3_conflict 69 = .ok (.getfield 135, 3) := by decide +kernel
theorem dX3_conflict_72 : decode cX3_conflict 72 = .ok (.iload_n 1, 1) := by decide +kernel
theorem dX3_conflict_73 : decode cX3_conflict 73 = .ok (.laload, 1) := by decide +kernel
theorem dX3_conflict_74 : decode cX3_conflict 74 = .ok (.lreturn, 1) := by decide +kernel
theorem dX3_conflict_75 : decode cX3_conflict 75 = .ok (.ldc2_w 138, 3) := by decide +kernel
theorem dX3_conflict_78 : decode cX3_conflict 78 = .ok (.lreturn, 1) := by decide +kernel
theorem dX3_settle_0 : decode cX3_settle 0 = .ok (.aload_n 0, 1) := by decide +kernel
theorem dX3_settle_1 : decode cX3_settle 1 = .ok (.getfield 37, 3) := by decide +kernel
theorem dX3_settle_4 : decode cX3_settle 4 = .ok (.iload_n 1, 1) := by decide +kernel
theorem dX3_settle_5 : decode cX3_settle 5 = .ok (.invokevirtual 124, 3) := by decide +kernel
theorem dX3_settle_8 : decode cX3_settle 8 = .ok (.ifCond .eq 12, 3) := by decide +kernel
theorem dX3_settle_11 : decode cX3_settle 11 = .ok (.iload_n 2, 1) := by decide +kernel
theorem dX3_settle_12 : decode cX3_settle 12 = .ok (.ifCond .lt 8, 3) := by decide +kernel
theorem dX3_settle_15 : decode cX3_settle 15 = .ok (.iload_n 2, 1) := by decide +kernel
theorem dX3_settle_16 : decode cX3_settle 16 = .ok (.iconst 1, 1) := by decide +kernel
theorem dX3_settle_17 : decode cX3_settle 17 = .ok (.if_icmp .le 5, 3) := by decide +kernel
theorem dX3_settle_20 : decode cX3_settle 20 = .ok (.iconst 0, 1) := by decide +kernel
theorem dX3_settle_21 : decode cX3_settle 21 = .ok (.ireturn, 1) := by decide +kernel
theorem dX3_settle_22 : decode cX3_settle 22 = .ok (.aload_n 0, 1) := by decide +kernel
theorem dX3_settle_23 : decode cX3_settle 23 = .ok (.getfield 37, 3) := by decide +kernel
theorem dX3_settle_26 : decode cX3_settle 26 = .ok (.getfield 140, 3) := by decide +kernel
theorem dX3_settle_29 : decode cX3_settle 29 = .ok (.astore_n 3, 1) := by decide +kernel
theorem dX3_settle_30 : decode cX3_settle 30 = .ok (.aload_n 3, 1) := by decide +kernel
theorem dX3_settle_31 : decode cX3_settle 31 = .ok (.ifnull 22, 3) := by decide +kernel
theorem dX3_settle_34 : decode cX3_settle 34 = .ok (.aload_n 3, 1) := by decide +kernel
theorem dX3_settle_35 : decode cX3_settle 35 = .ok (.getfield 120, 3) := by decide +kernel
theorem dX3_settle_38 : decode cX3_settle 38 = .ok (.ifCond .eq 15, 3) := by decide +kernel
theorem dX3_settle_41 : decode cX3_settle 41 = .ok (.aload_n 0, 1) := by decide +kernel
theorem dX3_settle_42 : decode cX3_settle 42 = .ok (.getfield 37, 3) := by decide +kernel
theorem dX3_settle_45 : decode cX3_settle 45 = .ok (.getfield 144, 3) := by decide +kernel
theorem dX3_settle_48 : decode cX3_settle 48 = .ok (.iload_n 1, 1) := by decide +kernel
theorem dX3_settle_49 : decode cX3_settle 49 = .ok (.baload, 1) := by decide +kernel
theorem dX3_settle_50 : decode cX3_settle 50 = .ok (.ifCond .eq 5, 3) := by decide +kernel
theorem dX3_settle_53 : decode cX3_settle 53 = .ok (.iconst 0, 1) := by decide +kernel
theorem dX3_settle_54 : decode cX3_settle 54 = .ok (.ireturn, 1) := by decide +kernel
theorem dX3_settle_55 : decode cX3_settle 55 = .ok (.aload_n 0, 1) := by decide +kernel
theorem dX3_settle_56 : decode cX3_settle 56 = .ok (.getfield 37, 3) := by decide +kernel
theorem dX3_settle_59 : decode cX3_settle 59 = .ok (.getfield 144, 3) := by decide +kernel
theorem dX3_settle_62 : decode cX3_settle 62 = .ok (.iload_n 1, 1) := by decide +kernel
theorem dX3_settle_63 : decode cX3_settle 63 = .ok (.iconst 1, 1) := by decide +kernel
theorem dX3_settle_64 : decode cX3_settle 64 = .ok (.bastore, 1) := by decide +kernel
theorem dX3_settle_65 : decode cX3_settle 65 = .ok (.aload_n 0, 1) := by decide +kernel
theorem dX3_settle_66 : decode cX3_settle 66 = .ok (.getfield 37, 3) := by decide +kernel
theorem dX3_settle_69 : decode cX3_settle 69 = .ok (.getfield 129, 3) := by decide +kernel
theorem dX3_settle_72 : decode cX3_settle 72 = .ok (.iload_n 1, 1) := by decide +kernel
theorem dX3_settle_73 : decode cX3_settle 73 = .ok (.iaload, 1) := by decide +kernel
theorem dX3_settle_74 : decode cX3_settle 74 = .ok (.istore 4, 2) := by decide +kernel
theorem dX3_settle_76 : decode cX3_settle 76 = .ok (.aload_n 3, 1) := by decide +kernel
theorem dX3_settle_77 : decode cX3_settle 77 = .ok (.iload 4, 2) := by decide +kernel
theorem dX3_settle_79 : decode cX3_settle 79 = .ok (.aload_n 0, 1) := by decide +kernel
theorem dX3_settle_80 : decode cX3_settle 80 = .ok (.getfield 37, 3) := by decide +kernel
theorem dX3_settle_83 : decode cX3_settle 83 = .ok (.getfield 135, 3) := by decide +kernel
theorem dX3_settle_86 : decode cX3_settle 86 = .ok (.iload_n 1, 1) := by decide +kernel
theorem dX3_settle_87 : decode cX3_settle 87 = .ok (.laload, 1) := by decide +kernel
theorem dX3_settle_88 : decode cX3_settle 88 = .ok (.invokevirtual 148, 3) := by decide +kernel
theorem dX3_settle_91 : decode cX3_settle 91 = .ok (.iload_n 2, 1) := by decide +kernel
theorem dX3_settle_92 : decode cX3_settle 92 = .ok (.iconst 1, 1) := by decide +kernel
theorem dX3_settle_93 : decode cX3_settle 93 = .ok (.if_icmp .ne 9, 3) := by decide +kernel
theorem dX3_settle_96 : decode cX3_settle 96 = .ok (.aload_n 3, 1) := by decide +kernel
theorem dX3_settle_97 : decode cX3_settle 97 = .ok (.iload 4, 2) := by decide +kernel
theorem dX3_settle_99 : decode cX3_settle 99 = .ok (.invokevirtual 151, 3) := by decide +kernel
theorem dX3_settle_102 : decode cX3_settle 102 = .ok (.iconst 1, 1) := by decide +kernel
theorem dX3_settle_103 : decode cX3_settle 103 = .ok (.ireturn, 1) := by decide +kernel
theorem dX3_stale_0 : decode cX3_stale 0 = .ok (.aload_n 0, 1) := by decide +kernel
theorem dX3_stale_1 : decode cX3_stale 1 = .ok (.iload_n 1, 1) := by decide +kernel
theorem dX3_stale_2 : decode cX3_stale 2 = .ok (.invokevirtual 60, 3) := by decide +kernel
theorem dX3_stale_5 : decode cX3_stale 5 = .ok (.ifCond .eq 15, 3) := by decide +kernel
theorem dX3_stale_8 : decode cX3_stale 8 = .ok (.aload_n 0, 1) := by decide +kernel
theorem dX3_stale_9 : decode cX3_stale 9 = .ok (.iload_n 1, 1) := by decide +kernel
theorem dX3_stale_10 : decode cX3_stale 10 = .ok (.invokevirtual 154, 3) := by decide +kernel
theorem dX3_stale_13 : decode cX3_stale 13 = .ok (.ifCond .eq 7, 3) := by decide +kernel
theorem dX3_stale_16 : decode cX3_stale 16 = .ok (.iconst 1, 1) := by decide +kernel
theorem dX3_stale_17 : decode cX3_stale 17 = .ok (.goto 4, 3) := by decide +kernel
theorem dX3_stale_20 : decode cX3_stale 20 = .ok (.iconst 0, 1) := by decide +kernel
theorem dX3_stale_21 : decode cX3_stale 21 = .ok (.ireturn, 1) := by decide +kernel
theorem dX3_branch_0 : decode cX3_branch 0 = .ok (.aload_n 0, 1) := by decide +kernel
theorem dX3_branch_1 : decode cX3_branch 1 = .ok (.getfield 45, 3) := by decide +kernel
theorem dX3_branch_4 : decode cX3_branch 4 = .ok (.bipush 6, 2) := by decide +kernel
theorem dX3_branch_6 : decode cX3_branch 6 = .ok (.if_icmp .lt 5, 3) := by decide +kernel
theorem dX3_branch_9 : decode cX3_branch 9 = .ok (.iconst (-1), 1) := by decide +kernel
theorem dX3_branch_10 : decode cX3_branch 10 = .ok (.ireturn, 1) := by decide +kernel
theorem dX3_branch_11 : decode cX3_branch 11 = .ok (.aload_n 0, 1) := by decide +kernel
theorem dX3_branch_12 : decode cX3_branch 12 = .ok (.getfield 14, 3) := by decide +kernel
theorem dX3_branch_15 : decode cX3_branch 15 = .ok (.iconst 0, 1) := by decide +kernel
theorem dX3_branch_16 : decode cX3_branch 16 = .ok (.aload_n 0, 1) := by decide +kernel
theorem dX3_branch_17 : decode cX3_branch 17 = .ok (.getfield 11, 3) := by decide +kernel
theorem dX3_branch_20 : decode cX3_branch 20 = .ok (.aload_n 0, 1) := by decide +kernel
theorem dX3_branch_21 : decode cX3_branch 21 = .ok (.getfield 45, 3) := by decide +kernel
theorem dX3_branch_24 : decode cX3_branch 24 = .ok (.aaload, 1) := by decide +kernel
theorem dX3_branch_25 : decode cX3_branch 25 = .ok (.iconst 0, 1) := by decide +kernel
theorem dX3_branch_26 : decode cX3_branch 26 = .ok (.bipush 24, 2) := by decide +kernel
theorem dX3_branch_28 : decode cX3_branch 28 = .ok (.invokestatic 157, 3) := by decide +kernel
theorem dX3_branch_31 : decode cX3_branch 31 = .ok (.aload_n 0, 1) := by decide +kernel
theorem dX3_branch_32 : decode cX3_branch 32 = .ok (.dup, 1) := by decide +kernel
theorem dX3_branch_33 : decode cX3_branch 33 = .ok (.getfield 45, 3) := by decide +kernel
theorem dX3_branch_36 : decode cX3_branch 36 = .ok (.iconst 1, 1) := by decide +kernel
theorem dX3_branch_37 : decode cX3_branch 37 = .ok (.iadd, 1) := by decide +kernel
theorem dX3_branch_38 : decode cX3_branch 38 = .ok (.putfield 45, 3) := by decide +kernel
theorem dX3_branch_41 : decode cX3_branch 41 = .ok (.aload_n 0, 1) := by decide +kernel
theorem dX3_branch_42 : decode cX3_branch 42 = .ok (.getfield 45, 3) := by decide +kernel
theorem dX3_branch_45 : decode cX3_branch 45 = .ok (.iconst 1, 1) := by decide +kernel
theorem dX3_branch_46 : decode cX3_branch 46 = .ok (.isub, 1) := by decide +kernel
theorem dX3_branch_47 : decode cX3_branch 47 = .ok (.ireturn, 1) := by decide +kernel
theorem dX3_from_0 : decode cX3_from 0 = .ok (.aload_n 0, 1) := by decide +kernel
theorem dX3_from_1 : decode cX3_from 1 = .ok (.iload_n 1, 1) := by decide +kernel
theorem dX3_from_2 : decode cX3_from 2 = .ok (.invokevirtual 64, 3) := by decide +kernel
theorem dX3_from_5 : decode cX3_from 5 = .ok (.ifCond .eq 13, 3) := by decide +kernel
theorem dX3_from_8 : decode cX3_from 8 = .ok (.aload_n 0, 1) := by decide +kernel
theorem dX3_from_9 : decode cX3_from 9 = .ok (.getfield 18, 3) := by decide +kernel
theorem dX3_from_12 : decode cX3_from 12 = .ok (.iload_n 1, 1) := by decide +kernel
theorem dX3_from_13 : decode cX3_from 13 = .ok (.iaload, 1) := by decide +kernel
theorem dX3_from_14 : decode cX3_from 14 = .ok (.iconst (-1), 1) := by decide +kernel
theorem dX3_from_15 : decode cX3_from 15 = .ok (.if_icmp .ne 5, 3) := by decide +kernel
theorem dX3_from_18 : decode cX3_from 18 = .ok (.iconst (-1), 1) := by decide +kernel
theorem dX3_from_19 : decode cX3_from 19 = .ok (.ireturn, 1) := by decide +kernel
theorem dX3_from_20 : decode cX3_from 20 = .ok (.aload_n 0, 1) := by decide +kernel
theorem dX3_from_21 : decode cX3_from 21 = .ok (.getfield 24, 3) := by decide +kernel
theorem dX3_from_24 : decode cX3_from 24 = .ok (.aload_n 0, 1) := by decide +kernel
theorem dX3_from_25 : decode cX3_from 25 = .ok (.getfield 18, 3) := by decide +kernel
theorem dX3_from_28 : decode cX3_from 28 = .ok (.iload_n 1, 1) := by decide +kernel
theorem dX3_from_29 : decode cX3_from 29 = .ok (.iaload, 1) := by decide +kernel
theorem dX3_from_30 : decode cX3_from 30 = .ok (.aaload, 1) := by decide +kernel
theorem dX3_from_31 : decode cX3_from 31 = .ok (.astore_n 3, 1) := by decide +kernel
theorem dX3_from_32 : decode cX3_from 32 = .ok (.aload_n 3, 1) := by decide +kernel
