theorem dX0_init_0 : decode cX0_init 0 = .ok (.aload_n 0, 1) := by decide +kernel
theorem dX0_init_1 : decode cX0_init 1 = .ok (.invokespecial 3, 3) := by decide +kernel
theorem dX0_init_4 : decode cX0_init 4 = .ok (.aload_n 0, 1) := by decide +kernel
theorem dX0_init_5 : decode cX0_init 5 = .ok (.bipush 24, 2) := by decide +kernel
theorem dX0_init_7 : decode cX0_init 7 = .ok (.newarray .int, 2) := by decide +kernel
theorem dX0_init_9 : decode cX0_init 9 = .ok (.putfield 9, 3) := by decide +kernel
theorem dX0_init_12 : decode cX0_init 12 = .ok (.aload_n 0, 1) := by decide +kernel
theorem dX0_init_13 : decode cX0_init 13 = .ok (.bipush 24, 2) := by decide +kernel
theorem dX0_init_15 : decode cX0_init 15 = .ok (.newarray .long, 2) := by decide +kernel
theorem dX0_init_17 : decode cX0_init 17 = .ok (.putfield 15, 3) := by decide +kernel
theorem dX0_init_20 : decode cX0_init 20 = .ok (.aload_n 0, 1) := by decide +kernel
theorem dX0_init_21 : decode cX0_init 21 = .ok (.bipush 24, 2) := by decide +kernel
theorem dX0_init_23 : decode cX0_init 23 = .ok (.newarray .long, 2) := by decide +kernel
theorem dX0_init_25 : decode cX0_init 25 = .ok (.putfield 19, 3) := by decide +kernel
theorem dX0_init_28 : decode cX0_init 28 = .ok (.aload_n 0, 1) := by decide +kernel
theorem dX0_init_29 : decode cX0_init 29 = .ok (.bipush 24, 2) := by decide +kernel
theorem dX0_init_31 : decode cX0_init 31 = .ok (.newarray .boolean, 2) := by decide +kernel
theorem dX0_init_33 : decode cX0_init 33 = .ok (.putfield 22, 3) := by decide +kernel
theorem dX0_init_36 : decode cX0_init 36 = .ok (.aload_n 0, 1) := by decide +kernel
theorem dX0_init_37 : decode cX0_init 37 = .ok (.aconst_null, 1) := by decide +kernel
theorem dX0_init_38 : decode cX0_init 38 = .ok (.putfield 26, 3) := by decide +kernel
theorem dX0_init_41 : decode cX0_init 41 = .ok (.aload_n 0, 1) := by decide +kernel
theorem dX0_init_42 : decode cX0_init 42 = .ok (.iconst 0, 1) := by decide +kernel
theorem dX0_init_43 : decode cX0_init 43 = .ok (.putfield 30, 3) := by decide +kernel
theorem dX0_init_46 : decode cX0_init 46 = .ok (.return_, 1) := by decide +kernel
theorem dX0_has_0 : decode cX0_has 0 = .ok (.iload_n 1, 1) := by decide +kernel
theorem dX0_has_1 : decode cX0_has 1 = .ok (.ifCond .lt 15, 3) := by decide +kernel
theorem dX0_has_4 : decode cX0_has 4 = .ok (.iload_n 1, 1) := by decide +kernel
theorem dX0_has_5 : decode cX0_has 5 = .ok (.aload_n 0, 1) := by decide +kernel
theorem dX0_has_6 : decode cX0_has 6 = .ok (.getfield 30, 3) := by decide +kernel
theorem dX0_has_9 : decode cX0_has 9 = .ok (.if_icmp .ge 7, 3) := by decide +kernel
theorem dX0_has_12 : decode cX0_has 12 = .ok (.iconst 1, 1) := by decide +kernel
theorem dX0_has_13 : decode cX0_has 13 = .ok (.goto 4, 3) := by decide +kernel
theorem dX0_has_16 : decode cX0_has 16 = .ok (.iconst 0, 1) := by decide +kernel
theorem dX0_has_17 : decode cX0_has 17 = .ok (.ireturn, 1) := by decide +kernel
theorem dX0_put_0 : decode cX0_put 0 = .ok (.aload_n 0, 1) := by decide +kernel
theorem dX0_put_1 : decode cX0_put 1 = .ok (.getfield 9, 3) := by decide +kernel
theorem dX0_put_4 : decode cX0_put 4 = .ok (.iload_n 1, 1) := by decide +kernel
theorem dX0_put_5 : decode cX0_put 5 = .ok (.iload_n 2, 1) := by decide +kernel
theorem dX0_put_6 : decode cX0_put 6 = .ok (.iastore, 1) := by decide +kernel
theorem dX0_put_7 : decode cX0_put 7 = .ok (.aload_n 0, 1) := by decide +kernel
theorem dX0_put_8 : decode cX0_put 8 = .ok (.getfield 15, 3) := by decide +kernel
theorem dX0_put_11 : decode cX0_put 11 = .ok (.iload_n 1, 1) := by decide +kernel
theorem dX0_put_12 : decode cX0_put 12 = .ok (.lload_n 3, 1) := by decide +kernel
theorem dX0_put_13 : decode cX0_put 13 = .ok (.lastore, 1) := by decide +kernel
theorem dX0_put_14 : decode cX0_put 14 = .ok (.aload_n 0, 1) := by decide +kernel
theorem dX0_put_15 : decode cX0_put 15 = .ok (.getfield 19, 3) := by decide +kernel
theorem dX0_put_18 : decode cX0_put 18 = .ok (.iload_n 1, 1) := by decide +kernel
theorem dX0_put_19 : decode cX0_put 19 = .ok (.lload 5, 2) := by decide +kernel
theorem dX0_put_21 : decode cX0_put 21 = .ok (.lastore, 1) := by decide +kernel
theorem dX0_put_22 : decode cX0_put 22 = .ok (.aload_n 0, 1) := by decide +kernel
theorem dX0_put_23 : decode cX0_put 23 = .ok (.getfield 22, 3) := by decide +kernel
theorem dX0_put_26 : decode cX0_put 26 = .ok (.iload_n 1, 1) := by decide +kernel
theorem dX0_put_27 : decode cX0_put 27 = .ok (.iconst 0, 1) := by decide +kernel
theorem dX0_put_28 : decode cX0_put 28 = .ok (.bastore, 1) := by decide +kernel
theorem dX0_put_29 : decode cX0_put 29 = .ok (.return_, 1) := by decide +kernel
theorem dX1_init_0 : decode cX1_init 0 = .ok (.aload_n 0, 1) := by decide +kernel
theorem dX1_init_1 : decode cX1_init 1 = .ok (.invokespecial 3, 3) := by decide +kernel
theorem dX1_init_4 : decode cX1_init 4 = .ok (.aload_n 0, 1) := by decide +kernel
theorem dX1_init_5 : decode cX1_init 5 = .ok (.bipush 24, 2) := by decide +kernel
theorem dX1_init_7 : decode cX1_init 7 = .ok (.newarray .boolean, 2) := by decide +kernel
theorem dX1_init_9 : decode cX1_init 9 = .ok (.putfield 9, 3) := by decide +kernel
theorem dX1_init_12 : decode cX1_init 12 = .ok (.aload_n 0, 1) := by decide +kernel
theorem dX1_init_13 : decode cX1_init 13 = .ok (.bipush 24, 2) := by decide +kernel
theorem dX1_init_15 : decode cX1_init 15 = .ok (.newarray .long, 2) := by decide +kernel
theorem dX1_init_17 : decode cX1_init 17 = .ok (.putfield 15, 3) := by decide +kernel
theorem dX1_init_20 : decode cX1_init 20 = .ok (.aload_n 0, 1) := by decide +kernel
theorem dX1_init_21 : decode cX1_init 21 = .ok (.bipush 24, 2) := by decide +kernel
theorem dX1_init_23 : decode cX1_init 23 = .ok (.newarray .boolean, 2) := by decide +kernel
theorem dX1_init_25 : decode cX1_init 25 = .ok (.putfield 19, 3) := by decide +kernel
theorem dX1_init_28 : decode cX1_init 28 = .ok (.aload_n 0, 1) := by decide +kernel
theorem dX1_init_29 : decode cX1_init 29 = .ok (.bipush 24, 2) := by decide +kernel
theorem dX1_init_31 : decode cX1_init 31 = .ok (.newarray .long, 2) := by decide +kernel
theorem dX1_init_33 : decode cX1_init 33 = .ok (.putfield 22, 3) := by decide +kernel
theorem dX1_init_36 : decode cX1_init 36 = .ok (.aload_n 0, 1) := by decide +kernel
theorem dX1_init_37 : decode cX1_init 37 = .ok (.iconst 1, 1) := by decide +kernel
theorem dX1_init_38 : decode cX1_init 38 = .ok (.putfield 25, 3) := by decide +kernel
theorem dX1_init_41 : decode cX1_init 41 = .ok (.return_, 1) := by decide +kernel
theorem dX1_touch_0 : decode cX1_touch 0 = .ok (.aload_n 0, 1) := by decide +kernel
theorem dX1_touch_1 : decode cX1_touch 1 = .ok (.getfield 9, 3) := by decide +kernel
theorem dX1_touch_4 : decode cX1_touch 4 = .ok (.iload_n 1, 1) := by decide +kernel
theorem dX1_touch_5 : decode cX1_touch 5 = .ok (.baload, 1) := by decide +kernel
theorem dX1_touch_6 : decode cX1_touch 6 = .ok (.ifCond .ne 17, 3) := by decide +kernel
theorem dX1_touch_9 : decode cX1_touch 9 = .ok (.aload_n 0, 1) := by decide +kernel
theorem dX1_touch_10 : decode cX1_touch 10 = .ok (.getfield 9, 3) := by decide +kernel
theorem dX1_touch_13 : decode cX1_touch 13 = .ok (.iload_n 1, 1) := by decide +kernel
theorem dX1_touch_14 : decode cX1_touch 14 = .ok (.iconst 1, 1) := by decide +kernel
theorem dX1_touch_15 : decode cX1_touch 15 = .ok (.bastore, 1) := by decide +kernel
theorem dX1_touch_16 : decode cX1_touch 16 = .ok (.aload_n 0, 1) := by decide +kernel
theorem dX1_touch_17 : decode cX1_touch 17 = .ok (.getfield 15, 3) := by decide +kernel
theorem dX1_touch_20 : decode cX1_touch 20 = .ok (.iload_n 1, 1) := by decide +kernel
theorem dX1_touch_21 : decode cX1_touch 21 = .ok (.lload_n 2, 1) := by decide +kernel
theorem dX1_touch_22 : decode cX1_touch 22 = .ok (.lastore, 1) := by decide +kernel
theorem dX1_touch_23 : decode cX1_touch 23 = .ok (.return_, 1) := by decide +kernel
theorem dX1_keepWritten_0 : decode cX1_keepWritten 0 = .ok (.aload_n 0, 1) := by decide +kernel
theorem dX1_keepWritten_1 : decode cX1_keepWritten 1 = .ok (.getfield 19, 3) := by decide +kernel
theorem dX1_keepWritten_4 : decode cX1_keepWritten 4 = .ok (.iload_n 1, 1) := by decide +kernel
theorem dX1_keepWritten_5 : decode cX1_keepWritten 5 = .ok (.iconst 1, 1) := by decide +kernel
theorem dX1_keepWritten_6 : decode cX1_keepWritten 6 = .ok (.bastore, 1) := by decide +kernel
theorem dX1_keepWritten_7 : decode cX1_keepWritten 7 = .ok (.aload_n 0, 1) := by decide +kernel
theorem dX1_keepWritten_8 : decode cX1_keepWritten 8 = .ok (.getfield 22, 3) := by decide +kernel
theorem dX1_keepWritten_11 : decode cX1_keepWritten 11 = .ok (.iload_n 1, 1) := by decide +kernel
theorem dX1_keepWritten_12 : decode cX1_keepWritten 12 = .ok (.lload_n 2, 1) := by decide +kernel
theorem dX1_keepWritten_13 : decode cX1_keepWritten 13 = .ok (.lastore, 1) := by decide +kernel
theorem dX1_keepWritten_14 : decode cX1_keepWritten 14 = .ok (.return_, 1) := by decide +kernel
theorem dX1_dropWritten_0 : decode cX1_dropWritten 0 = .ok (.aload_n 0, 1) := by decide +kernel
theorem dX1_dropWritten_1 : decode cX1_dropWritten 1 = .ok (.getfield 19, 3) := by decide +kernel
theorem dX1_dropWritten_4 : decode cX1_dropWritten 4 = .ok (.iload_n 1, 1) := by decide +kernel
theorem dX1_dropWritten_5 : decode cX1_dropWritten 5 = .ok (.iconst 0, 1) := by decide +kernel
theorem dX1_dropWritten_6 : decode cX1_dropWritten 6 = .ok (.bastore, 1) := by decide +kernel
theorem dX1_dropWritten_7 : decode cX1_dropWritten 7 = .ok (.return_, 1) := by decide +kernel
theorem dX1_rebase_0 : decode cX1_rebase 0 = .ok (.aload_n 0, 1) := by decide +kernel
theorem dX1_rebase_1 : decode cX1_rebase 1 = .ok (.getfield 15, 3) := by decide +kernel
theorem dX1_rebase_4 : decode cX1_rebase 4 = .ok (.iload_n 1, 1) := by decide +kernel
theorem dX1_rebase_5 : decode cX1_rebase 5 = .ok (.lload_n 2, 1) := by decide +kernel
theorem dX1_rebase_6 : decode cX1_rebase 6 = .ok (.lastore, 1) := by decide +kernel
theorem dX1_rebase_7 : decode cX1_rebase 7 = .ok (.return_, 1) := by decide +kernel
theorem dX1_view_0 : decode cX1_view 0 = .ok (.aload_n 0, 1) := by decide +kernel
theorem dX1_view_1 : decode cX1_view 1 = .ok (.getfield 19, 3) := by decide +kernel
theorem dX1_view_4 : decode cX1_view 4 = .ok (.iload_n 1, 1) := by decide +kernel
theorem dX1_view_5 : decode cX1_view 5 = .ok (.baload, 1) := by decide +kernel
theorem dX1_view_6 : decode cX1_view 6 = .ok (.ifCond .eq 12, 3) := by decide +kernel
theorem dX1_view_9 : decode cX1_view 9 = .ok (.aload_n 0, 1) := by decide +kernel
theorem dX1_view_10 : decode cX1_view 10 = .ok (.getfield 22, 3) := by decide +kernel
theorem dX1_view_13 : decode cX1_view 13 = .ok (.iload_n 1, 1) := by decide +kernel
theorem dX1_view_14 : decode cX1_view 14 = .ok (.laload, 1) := by decide +kernel
theorem dX1_view_15 : decode cX1_view 15 = .ok (.goto 9, 3) := by decide +kernel
theorem dX1_view_18 : decode cX1_view 18 = .ok (.aload_n 0, 1) := by decide +kernel
theorem dX1_view_19 : decode cX1_view 19 = .ok (.getfield 15, 3) := by decide +kernel
theorem dX1_view_22 : decode cX1_view 22 = .ok (.iload_n 1, 1) := by decide +kernel
theorem dX1_view_23 : decode cX1_view 23 = .ok (.laload, 1) := by decide +kernel
theorem dX1_view_24 : decode cX1_view 24 = .ok (.lreturn, 1) := by decide +kernel
theorem dX1_isConflict_0 : decode cX1_isConflict 0 = .ok (.aload_n 0, 1) := by decide +kernel
theorem dX1_isConflict_1 : decode cX1_isConflict 1 = .ok (.getfield 9, 3) := by decide +kernel
theorem dX1_isConflict_4 : decode cX1_isConflict 4 = .ok (.iload_n 1, 1) := by decide +kernel
theorem dX1_isConflict_5 : decode cX1_isConflict 5 = .ok (.baload, 1) := by decide +kernel
theorem dX1_isConflict_6 : decode cX1_isConflict 6 = .ok (.ifCond .eq 38, 3) := by decide +kernel
theorem dX1_isConflict_9 : decode cX1_isConflict 9 = .ok (.aload_n 0, 1) := by decide +kernel
theorem dX1_isConflict_10 : decode cX1_isConflict 10 = .ok (.getfield 15, 3) := by decide +kernel
theorem dX1_isConflict_13 : decode cX1_isConflict 13 = .ok (.iload_n 1, 1) := by decide +kernel
theorem dX1_isConflict_14 : decode cX1_isConflict 14 = .ok (.laload, 1) := by decide +kernel
theorem dX1_isConflict_15 : decode cX1_isConflict 15 = .ok (.lload_n 2, 1) := by decide +kernel
theorem dX1_isConflict_16 : decode cX1_isConflict 16 = .ok (.lcmp, 1) := by decide +kernel
theorem dX1_isConflict_17 : decode cX1_isConflict 17 = .ok (.ifCond .eq 27, 3) := by decide +kernel
theorem dX1_isConflict_20 : decode cX1_isConflict 20 = .ok (.aload_n 0, 1) := by decide +kernel
theorem dX1_isConflict_21 : decode cX1_isConflict 21 = .ok (.getfield 19, 3) := by decide +kernel
theorem dX1_isConflict_24 : decode cX1_isConflict 24 = .ok (.iload_n 1, 1) := by decide +kernel
theorem dX1_isConflict_25 : decode cX1_isConflict 25 = .ok (.baload, 1) := by decide +kernel
theorem dX1_isConflict_26 : decode cX1_isConflict 26 = .ok (.ifCond .eq 14, 3) := by decide +kernel
theorem dX1_isConflict_29 : decode cX1_isConflict 29 = .ok (.aload_n 0, 1) := by decide +kernel
theorem dX1_isConflict_30 : decode cX1_isConflict 30 = .ok (.getfield 22, 3) := by decide +kernel
theorem dX1_isConflict_33 : decode cX1_isConflict 33 = .ok (.iload_n 1, 1) := by decide +kernel
theorem dX1_isConflict_34 : decode cX1_isConflict 34 = .ok (.laload, 1) := by decide +kernel
theorem dX1_isConflict_35 : decode cX1_isConflict 35 = .ok (.lload_n 2, 1) := by decide +kernel
theorem dX1_isConflict_36 : decode cX1_isConflict 36 = .ok (.lcmp, 1) := by decide +kernel
theorem dX1_isConflict_37 : decode cX1_isConflict 37 = .ok (.ifCond .eq 7, 3) := by decide +kernel
theorem dX1_isConflict_40 : decode cX1_isConflict 40 = .ok (.iconst 1, 1) := by decide +kernel
theorem dX1_isConflict_41 : decode cX1_isConflict 41 = .ok (.goto 4, 3) := by decide +kernel
theorem dX1_isConflict_44 : decode cX1_isConflict 44 = .ok (.iconst 0, 1) := by decide +kernel
theorem dX1_isConflict_45 : decode cX1_isConflict 45 = .ok (.ireturn, 1) := by decide +kernel
theorem dX1_isWithinBounds_0 : decode cX1_isWithinBounds 0 = .ok (.iconst 0, 1) := by decide +kernel
theorem dX1_isWithinBounds_1 : decode cX1_isWithinBounds 1 = .ok (.istore_n 1, 1) := by decide +kernel
theorem dX1_isWithinBounds_2 : decode cX1_isWithinBounds 2 = .ok (.iload_n 1, 1) := by decide +kernel
theorem dX1_isWithinBounds_3 : decode cX1_isWithinBounds 3 = .ok (.bipush 24, 2) := by decide +kernel
theorem dX1_isWithinBounds_5 : decode cX1_isWithinBounds 5 = .ok (.if_icmp .ge 46, 3) := by decide +kernel
theorem dX1_isWithinBounds_8 : decode cX1_isWithinBounds 8 = .ok (.aload_n 0, 1) := by decide +kernel
theorem dX1_isWithinBounds_9 : decode cX1_isWithinBounds 9 = .ok (.getfield 19, 3) := by decide +kernel
theorem dX1_isWithinBounds_12 : decode cX1_isWithinBounds 12 = .ok (.iload_n 1, 1) := by decide +kernel
theorem dX1_isWithinBounds_13 : decode cX1_isWithinBounds 13 = .ok (.baload, 1) := by decide +kernel
theorem dX1_isWithinBounds_14 : decode cX1_isWithinBounds 14 = .ok (.ifCond .eq 31, 3) := by decide +kernel
theorem dX1_isWithinBounds_17 : decode cX1_isWithinBounds 17 = .ok (.aload_n 0, 1) := by decide +kernel
theorem dX1_isWithinBounds_18 : decode cX1_isWithinBounds 18 = .ok (.getfield 22, 3) := by decide +kernel
theorem dX1_isWithinBounds_21 : decode cX1_isWithinBounds 21 = .ok (.iload_n 1, 1) := by decide +kernel
theorem dX1_isWithinBounds_22 : decode cX1_isWithinBounds 22 = .ok (.laload, 1) := by decide +kernel
theorem dX1_isWithinBounds_23 : decode cX1_isWithinBounds 23 = .ok (.ldc2_w 29, 3) := by decide +kernel
theorem dX1_isWithinBounds_26 : decode cX1_isWithinBounds 26 = .ok (.lcmp, 1) := by decide +kernel
theorem dX1_isWithinBounds_27 : decode cX1_isWithinBounds 27 = .ok (.ifCond .gt 16, 3) := by decide +kernel
theorem dX1_isWithinBounds_30 : decode cX1_isWithinBounds 30 = .ok (.aload_n 0, 1) := by decide +kernel
theorem dX1_isWithinBounds_31 : decode cX1_isWithinBounds 31 = .ok (.getfield 22, 3) := by decide +kernel
theorem dX1_isWithinBounds_34 : decode cX1_isWithinBounds 34 = .ok (.iload_n 1, 1) := by decide +kernel
theorem dX1_isWithinBounds_35 : decode cX1_isWithinBounds 35 = .ok (.laload, 1) := by decide +kernel
theorem dX1_isWithinBounds_36 : decode cX1_isWithinBounds 36 = .ok (.ldc2_w 31, 3) := by decide +kernel
theorem dX1_isWithinBounds_39 : decode cX1_isWithinBounds 39 = .ok (.lcmp, 1) := by decide +kernel
theorem dX1_isWithinBounds_40 : decode cX1_isWithinBounds 40 = .ok (.ifCond .ge 5, 3) := by decide +kernel
theorem dX1_isWithinBounds_43 : decode cX1_isWithinBounds 43 = .ok (.iconst 0, 1) := by decide +kernel
theorem dX1_isWithinBounds_44 : decode cX1_isWithinBounds 44 = .ok (.ireturn, 1) := by decide +kernel
theorem dX1_isWithinBounds_45 : decode cX1_isWithinBounds 45 = .ok (.iinc 1 1, 3) := by decide +kernel
theorem dX1_isWithinBounds_48 : decode cX1_isWithinBounds 48 = .ok (.goto (-46), 3) := by decide +kernel
theorem dX1_isWithinBounds_51 : decode cX1_isWithinBounds 51 = .ok (.iconst 1, 1) := by decide +kernel
theorem dX1_isWithinBounds_52 : decode cX1_isWithinBounds 52 = .ok (.ireturn, 1) := by decide +kernel
theorem dX2_init_0 : decode cX2_init 0 = .ok (.aload_n 0, 1) := by decide +kernel
theorem dX2_init_1 : decode cX2_init 1 = .ok (.invokespecial 3, 3) := by decide +kernel
theorem dX2_init_4 : decode cX2_init 4 = .ok (.aload_n 0, 1) := by decide +kernel
theorem dX2_init_5 : decode cX2_init 5 = .ok (.bipush 8, 2) := by decide +kernel
theorem dX2_init_7 : decode cX2_init 7 = .ok (.newarray .int, 2) := by decide +kernel
theorem dX2_init_9 : decode cX2_init 9 = .ok (.putfield 9, 3) := by decide +kernel
theorem dX2_init_12 : decode cX2_init 12 = .ok (.aload_n 0, 1) := by decide +kernel
theorem dX2_init_13 : decode cX2_init 13 = .ok (.iconst 4, 1) := by decide +kernel
theorem dX2_init_14 : decode cX2_init 14 = .ok (.newarray .int, 2) := by decide +kernel
theorem dX2_init_16 : decode cX2_init 16 = .ok (.putfield 15, 3) := by decide +kernel
theorem dX2_init_19 : decode cX2_init 19 = .ok (.aload_n 0, 1) := by decide +kernel
theorem dX2_init_20 : decode cX2_init 20 = .ok (.bipush 8, 2) := by decide +kernel
theorem dX2_init_22 : decode cX2_init 22 = .ok (.newarray .long, 2) := by decide +kernel
theorem dX2_init_24 : decode cX2_init 24 = .ok (.putfield 18, 3) := by decide +kernel
theorem dX2_init_27 : decode cX2_init 27 = .ok (.aload_n 0, 1) := by decide +kernel
theorem dX2_init_28 : decode cX2_init 28 = .ok (.iconst 0, 1) := by decide +kernel
theorem dX2_init_29 : decode cX2_init 29 = .ok (.putfield 22, 3) := by decide +kernel
theorem dX2_init_32 : decode cX2_init 32 = .ok (.aload_n 0, 1) := by decide +kernel
theorem dX2_init_33 : decode cX2_init 33 = .ok (.iconst 0, 1) := by decide +kernel
theorem dX2_init_34 : decode cX2_init 34 = .ok (.putfield 26, 3) := by decide +kernel
theorem dX2_init_37 : decode cX2_init 37 = .ok (.aload_n 0, 1) := by decide +kernel
theorem dX2_init_38 : decode cX2_init 38 = .ok (.iconst 0, 1) := by decide +kernel
theorem dX2_init_39 : decode cX2_init 39 = .ok (.putfield 29, 3) := by decide +kernel
theorem dX2_init_42 : decode cX2_init 42 = .ok (.aload_n 0, 1) := by decide +kernel
theorem dX2_init_43 : decode cX2_init 43 = .ok (.iconst 0, 1) := by decide +kernel
theorem dX2_init_44 : decode cX2_init 44 = .ok (.putfield 32, 3) := by decide +kernel
theorem dX2_init_47 : decode cX2_init 47 = .ok (.aload_n 0, 1) := by decide +kernel
theorem dX2_init_48 : decode cX2_init 48 = .ok (.iconst 0, 1) := by decide +kernel
theorem dX2_init_49 : decode cX2_init 49 = .ok (.putfield 36, 3) := by decide +kernel
theorem dX2_init_52 : decode cX2_init 52 = .ok (.aload_n 0, 1) := by decide +kernel
theorem dX2_init_53 : decode cX2_init 53 = .ok (.iconst 0, 1) := by decide +kernel
theorem dX2_init_54 : decode cX2_init 54 = .ok (.putfield 39, 3) := by decide +kernel
theorem dX2_init_57 : decode cX2_init 57 = .ok (.aload_n 0, 1) := by decide +kernel
theorem dX2_init_58 : decode cX2_init 58 = .ok (.lconst 0, 1) := by decide +kernel
theorem dX2_init_59 : decode cX2_init 59 = .ok (.putfield 42, 3) := by decide +kernel
theorem dX2_init_62 : decode cX2_init 62 = .ok (.aload_n 0, 1) := by decide +kernel
theorem dX2_init_63 : decode cX2_init 63 = .ok (.iload_n 1, 1) := by decide +kernel
theorem dX2_init_64 : decode cX2_init 64 = .ok (.putfield 46, 3) := by decide +kernel
theorem dX2_init_67 : decode cX2_init 67 = .ok (.return_, 1) := by decide +kernel
theorem dX2_withAbove_0 : decode cX2_withAbove 0 = .ok (.aload_n 0, 1) := by decide +kernel
theorem dX2_withAbove_1 : decode cX2_withAbove 1 = .ok (.getfield 29, 3) := by decide +kernel
theorem dX2_withAbove_4 : decode cX2_withAbove 4 = .ok (.iconst 1, 1) := by decide +kernel
theorem dX2_withAbove_5 : decode cX2_withAbove 5 = .ok (.iload_n 1, 1) := by decide +kernel
theorem dX2_withAbove_6 : decode cX2_withAbove 6 = .ok (.ishl, 1) := by decide +kernel
theorem dX2_withAbove_7 : decode cX2_withAbove 7 = .ok (.ior, 1) := by decide +kernel
theorem dX2_withAbove_8 : decode cX2_withAbove 8 = .ok (.ireturn, 1) := by decide +kernel
theorem dX2_isUsing_0 : decode cX2_isUsing 0 = .ok (.iconst 0, 1) := by decide +kernel
theorem dX2_isUsing_1 : decode cX2_isUsing 1 = .ok (.istore_n 2, 1) := by decide +kernel
theorem dX2_isUsing_2 : decode cX2_isUsing 2 = .ok (.iload_n 2, 1) := by decide +kernel
theorem dX2_isUsing_3 : decode cX2_isUsing 3 = .ok (.aload_n 0, 1) := by decide +kernel
theorem dX2_isUsing_4 : decode cX2_isUsing 4 = .ok (.getfield 22, 3) := by decide +kernel
theorem dX2_isUsing_7 : decode cX2_isUsing 7 = .ok (.if_icmp .ge 21, 3) := by decide +kernel
theorem dX2_isUsing_10 : decode cX2_isUsing 10 = .ok (.aload_n 0, 1) := by decide +kernel
theorem dX2_isUsing_11 : decode cX2_isUsing 11 = .ok (.getfield 9, 3) := by decide +kernel
theorem dX2_isUsing_14 : decode cX2_isUsing 14 = .ok (.iload_n 2, 1) := by decide +kernel
theorem dX2_isUsing_15 : decode cX2_isUsing 15 = .ok (.iaload, 1) := by decide +kernel
theorem dX2_isUsing_16 : decode cX2_isUsing 16 = .ok (.iload_n 1, 1) := by decide +kernel
theorem dX2_isUsing_17 : decode cX2_isUsing 17 = .ok (.if_icmp .ne 5, 3) := by decide +kernel
theorem dX2_isUsing_20 : decode cX2_isUsing 20 = .ok (.iconst 1, 1) := by decide +kernel
theorem dX2_isUsing_21 : decode cX2_isUsing 21 = .ok (.ireturn, 1) := by decide +kernel
theorem dX2_isUsing_22 : decode cX2_isUsing 22 = .ok (.iinc 2 1, 3) := by decide +kernel
theorem dX2_isUsing_25 : decode cX2_isUsing 25 = .ok (.goto (-23), 3) := by decide +kernel
theorem dX2_isUsing_28 : decode cX2_isUsing 28 = .ok (.iconst 0, 1) := by decide +kernel
theorem dX2_isUsing_29 : decode cX2_isUsing 29 = .ok (.ireturn, 1) := by decide +kernel
theorem dX2_hasMade_0 : decode cX2_hasMade 0 = .ok (.iconst 0, 1) := by decide +kernel
theorem dX2_hasMade_1 : decode cX2_hasMade 1 = .ok (.istore_n 2, 1) := by decide +kernel
theorem dX2_hasMade_2 : decode cX2_hasMade 2 = .ok (.iload_n 2, 1) := by decide +kernel
theorem dX2_hasMade_3 : decode cX2_hasMade 3 = .ok (.aload_n 0, 1) := by decide +kernel
theorem dX2_hasMade_4 : decode cX2_hasMade 4 = .ok (.getfield 39, 3) := by decide +kernel
theorem dX2_hasMade_7 : decode cX2_hasMade 7 = .ok (.if_icmp .ge 21, 3) := by decide +kernel
theorem dX2_hasMade_10 : decode cX2_hasMade 10 = .ok (.aload_n 0, 1) := by decide +kernel
theorem dX2_hasMade_11 : decode cX2_hasMade 11 = .ok (.getfield 15, 3) := by decide +kernel
theorem dX2_hasMade_14 : decode cX2_hasMade 14 = .ok (.iload_n 2, 1) := by decide +kernel
theorem dX2_hasMade_15 : decode cX2_hasMade 15 = .ok (.iaload, 1) := by decide +kernel
theorem dX2_hasMade_16 : decode cX2_hasMade 16 = .ok (.iload_n 1, 1) := by decide +kernel
theorem dX2_hasMade_17 : decode cX2_hasMade 17 = .ok (.if_icmp .ne 5, 3) := by decide +kernel
theorem dX2_hasMade_20 : decode cX2_hasMade 20 = .ok (.iconst 1, 1) := by decide +kernel
theorem dX2_hasMade_21 : decode cX2_hasMade 21 = .ok (.ireturn, 1) := by decide +kernel
theorem dX2_hasMade_22 : decode cX2_hasMade 22 = .ok (.iinc 2 1, 3) := by decide +kernel
theorem dX2_hasMade_25 : decode cX2_hasMade 25 = .ok (.goto (-23), 3) := by decide +kernel
theorem dX2_hasMade_28 : decode cX2_hasMade 28 = .ok (.iconst 0, 1) := by decide +kernel
theorem dX2_hasMade_29 : decode cX2_hasMade 29 = .ok (.ireturn, 1) := by decide +kernel
theorem dX2_addUsed_0 : decode cX2_addUsed 0 = .ok (.aload_n 0, 1) := by decide +kernel
theorem dX2_addUsed_1 : decode cX2_addUsed 1 = .ok (.getfield 9, 3) := by decide +kernel
theorem dX2_addUsed_4 : decode cX2_addUsed 4 = .ok (.aload_n 0, 1) := by decide +kernel
theorem dX2_addUsed_5 : decode cX2_addUsed 5 = .ok (.getfield 22, 3) := by decide +kernel
theorem dX2_addUsed_8 : decode cX2_addUsed 8 = .ok (.iload_n 1, 1) := by decide +kernel
theorem dX2_addUsed_9 : decode cX2_addUsed 9 = .ok (.iastore, 1) := by decide +kernel
theorem dX2_addUsed_10 : decode cX2_addUsed 10 = .ok (.aload_n 0, 1) := by decide +kernel
theorem dX2_addUsed_11 : decode cX2_addUsed 11 = .ok (.dup, 1) := by decide +kernel
theorem dX2_addUsed_12 : decode cX2_addUsed 12 = .ok (.getfield 22, 3) := by decide +kernel
theorem dX2_addUsed_15 : decode cX2_addUsed 15 = .ok (.iconst 1, 1) := by decide +kernel
theorem dX2_addUsed_16 : decode cX2_addUsed 16 = .ok (.iadd, 1) := by decide +kernel
theorem dX2_addUsed_17 : decode cX2_addUsed 17 = .ok (.putfield 22, 3) := by decide +kernel
theorem dX2_addUsed_20 : decode cX2_addUsed 20 = .ok (.return_, 1) := by decide +kernel
theorem dX2_addMade_0 : decode cX2_addMade 0 = .ok (.aload_n 0, 1) := by decide +kernel
theorem dX2_addMade_1 : decode cX2_addMade 1 = .ok (.getfield 15, 3) := by decide +kernel
theorem dX2_addMade_4 : decode cX2_addMade 4 = .ok (.aload_n 0, 1) := by decide +kernel
theorem dX2_addMade_5 : decode cX2_addMade 5 = .ok (.getfield 26, 3) := by decide +kernel
theorem dX2_addMade_8 : decode cX2_addMade 8 = .ok (.iload_n 1, 1) := by decide +kernel
theorem dX2_addMade_9 : decode cX2_addMade 9 = .ok (.iastore, 1) := by decide +kernel
theorem dX2_addMade_10 : decode cX2_addMade 10 = .ok (.aload_n 0, 1) := by decide +kernel
theorem dX2_addMade_11 : decode cX2_addMade 11 = .ok (.dup, 1) := by decide +kernel
theorem dX2_addMade_12 : decode cX2_addMade 12 = .ok (.getfield 26, 3) := by decide +kernel
theorem dX2_addMade_15 : decode cX2_addMade 15 = .ok (.iconst 1, 1) := by decide +kernel
theorem dX2_addMade_16 : decode cX2_addMade 16 = .ok (.iadd, 1) := by decide +kernel
theorem dX2_addMade_17 : decode cX2_addMade 17 = .ok (.putfield 26, 3) := by decide +kernel
theorem dX2_addMade_20 : decode cX2_addMade 20 = .ok (.return_, 1) := by decide +kernel
theorem dX2_isOutdated_0 : decode cX2_isOutdated 0 = .ok (.aload_n 0, 1) := by decide +kernel
theorem dX2_isOutdated_1 : decode cX2_isOutdated 1 = .ok (.getfield 32, 3) := by decide +kernel
theorem dX2_isOutdated_4 : decode cX2_isOutdated 4 = .ok (.ifCond .eq 25, 3) := by decide +kernel
theorem dX2_isOutdated_7 : decode cX2_isOutdated 7 = .ok (.aload_n 0, 1) := by decide +kernel
theorem dX2_isOutdated_8 : decode cX2_isOutdated 8 = .ok (.getfield 22, 3) := by decide +kernel
theorem dX2_isOutdated_11 : decode cX2_isOutdated 11 = .ok (.aload_n 0, 1) := by decide +kernel
theorem dX2_isOutdated_12 : decode cX2_isOutdated 12 = .ok (.getfield 36, 3) := by decide +kernel
theorem dX2_isOutdated_15 : decode cX2_isOutdated 15 = .ok (.if_icmp .ne 14, 3) := by decide +kernel
theorem dX2_isOutdated_18 : decode cX2_isOutdated 18 = .ok (.aload_n 0, 1) := by decide +kernel
theorem dX2_isOutdated_19 : decode cX2_isOutdated 19 = .ok (.getfield 26, 3) := by decide +kernel
theorem dX2_isOutdated_22 : decode cX2_isOutdated 22 = .ok (.aload_n 0, 1) := by decide +kernel
theorem dX2_isOutdated_23 : decode cX2_isOutdated 23 = .ok (.getfield 39, 3) := by decide +kernel
theorem dX2_isOutdated_26 : decode cX2_isOutdated 26 = .ok (.if_icmp .eq 5, 3) := by decide +kernel
theorem dX2_isOutdated_29 : decode cX2_isOutdated 29 = .ok (.iconst 1, 1) := by decide +kernel
theorem dX2_isOutdated_30 : decode cX2_isOutdated 30 = .ok (.ireturn, 1) := by decide +kernel
theorem dX2_isOutdated_31 : decode cX2_isOutdated 31 = .ok (.iconst 0, 1) := by decide +kernel
theorem dX2_isOutdated_32 : decode cX2_isOutdated 32 = .ok (.istore_n 2, 1) := by decide +kernel
theorem dX2_isOutdated_33 : decode cX2_isOutdated 33 = .ok (.iload_n 2, 1) := by decide +kernel
theorem dX2_isOutdated_34 : decode cX2_isOutdated 34 = .ok (.aload_n 0, 1) := by decide +kernel
theorem dX2_isOutdated_35 : decode cX2_isOutdated 35 = .ok (.getfield 22, 3) := by decide +kernel
theorem dX2_isOutdated_38 : decode cX2_isOutdated 38 = .ok (.if_icmp .ge 29, 3) := by decide +kernel
theorem dX2_isOutdated_41 : decode cX2_isOutdated 41 = .ok (.aload_n 1, 1) := by decide +kernel
theorem dX2_isOutdated_42 : decode cX2_isOutdated 42 = .ok (.aload_n 0, 1) := by decide +kernel
theorem dX2_isOutdated_43 : decode cX2_isOutdated 43 = .ok (.getfield 9, 3) := by decide +kernel
theorem dX2_isOutdated_46 : decode cX2_isOutdated 46 = .ok (.iload_n 2, 1) := by decide +kernel
theorem dX2_isOutdated_47 : decode cX2_isOutdated 47 = .ok (.iaload, 1) := by decide +kernel
theorem dX2_isOutdated_48 : decode cX2_isOutdated 48 = .ok (.laload, 1) := by decide +kernel
theorem dX2_isOutdated_49 : decode cX2_isOutdated 49 = .ok (.aload_n 0, 1) := by decide +kernel
theorem dX2_isOutdated_50 : decode cX2_isOutdated 50 = .ok (.getfield 18, 3) := by decide +kernel
theorem dX2_isOutdated_53 : decode cX2_isOutdated 53 = .ok (.iload_n 2, 1) := by decide +kernel
theorem dX2_isOutdated_54 : decode cX2_isOutdated 54 = .ok (.laload, 1) := by decide +kernel
theorem dX2_isOutdated_55 : decode cX2_isOutdated 55 = .ok (.lcmp, 1) := by decide +kernel
theorem dX2_isOutdated_56 : decode cX2_isOutdated 56 = .ok (.ifCond .eq 5, 3) := by decide +kernel
theorem dX2_isOutdated_59 : decode cX2_isOutdated 59 = .ok (.iconst 1, 1) := by decide +kernel
theorem dX2_isOutdated_60 : decode cX2_isOutdated 60 = .ok (.ireturn, 1) := by decide +kernel
theorem dX2_isOutdated_61 : decode cX2_isOutdated 61 = .ok (.iinc 2 1, 3) := by decide +kernel
theorem dX2_isOutdated_64 : decode cX2_isOutdated 64 = .ok (.goto (-31), 3) := by decide +kernel
theorem dX2_isOutdated_67 : decode cX2_isOutdated 67 = .ok (.iconst 0, 1) := by decide +kernel
theorem dX2_isOutdated_68 : decode cX2_isOutdated 68 = .ok (.istore_n 2, 1) := by decide +kernel
theorem dX2_isOutdated_69 : decode cX2_isOutdated 69 = .ok (.iload_n 2, 1) := by decide +kernel
theorem dX2_isOutdated_70 : decode cX2_isOutdated 70 = .ok (.aload_n 0, 1) := by decide +kernel
theorem dX2_isOutdated_71 : decode cX2_isOutdated 71 = .ok (.getfield 26, 3) := by decide +kernel
theorem dX2_isOutdated_74 : decode cX2_isOutdated 74 = .ok (.if_icmp .ge 27, 3) := by decide +kernel
theorem dX2_isOutdated_77 : decode cX2_isOutdated 77 = .ok (.aload_n 1, 1) := by decide +kernel
theorem dX2_isOutdated_78 : decode cX2_isOutdated 78 = .ok (.aload_n 0, 1) := by decide +kernel
theorem dX2_isOutdated_79 : decode cX2_isOutdated 79 = .ok (.getfield 15, 3) := by decide +kernel
theorem dX2_isOutdated_82 : decode cX2_isOutdated 82 = .ok (.iload_n 2, 1) := by decide +kernel
theorem dX2_isOutdated_83 : decode cX2_isOutdated 83 = .ok (.iaload, 1) := by decide +kernel
theorem dX2_isOutdated_84 : decode cX2_isOutdated 84 = .ok (.laload, 1) := by decide +kernel
theorem dX2_isOutdated_85 : decode cX2_isOutdated 85 = .ok (.aload_n 0, 1) := by decide +kernel
theorem dX2_isOutdated_86 : decode cX2_isOutdated 86 = .ok (.getfield 42, 3) := by decide +kernel
theorem dX2_isOutdated_89 : decode cX2_isOutdated 89 = .ok (.lcmp, 1) := by decide +kernel
theorem dX2_isOutdated_90 : decode cX2_isOutdated 90 = .ok (.ifCond .eq 5, 3) := by decide +kernel
theorem dX2_isOutdated_93 : decode cX2_isOutdated 93 = .ok (.iconst 1, 1) := by decide +kernel
theorem dX2_isOutdated_94 : decode cX2_isOutdated 94 = .ok (.ireturn, 1) := by decide +kernel
theorem dX2_isOutdated_95 : decode cX2_isOutdated 95 = .ok (.iinc 2 1, 3) := by decide +kernel
theorem dX2_isOutdated_98 : decode cX2_isOutdated 98 = .ok (.goto (-29), 3) := by decide +kernel
theorem dX2_isOutdated_101 : decode cX2_isOutdated 101 = .ok (.iconst 0, 1) := by decide +kernel
theorem dX2_isOutdated_102 : decode cX2_isOutdated 102 = .ok (.ireturn, 1) := by decide +kernel
theorem dX2_work_0 : decode cX2_work 0 = .ok (.iconst 0, 1) := by decide +kernel
theorem dX2_work_1 : decode cX2_work 1 = .ok (.istore_n 2, 1) := by decide +kernel
theorem dX2_work_2 : decode cX2_work 2 = .ok (.iload_n 2, 1) := by decide +kernel
theorem dX2_work_3 : decode cX2_work 3 = .ok (.aload_n 0, 1) := by decide +kernel
theorem dX2_work_4 : decode cX2_work 4 = .ok (.getfield 22, 3) := by decide +kernel
theorem dX2_work_7 : decode cX2_work 7 = .ok (.if_icmp .ge 23, 3) := by decide +kernel
theorem dX2_work_10 : decode cX2_work 10 = .ok (.aload_n 0, 1) := by decide +kernel
theorem dX2_work_11 : decode cX2_work 11 = .ok (.getfield 18, 3) := by decide +kernel
theorem dX2_work_14 : decode cX2_work 14 = .ok (.iload_n 2, 1) := by decide +kernel
theorem dX2_work_15 : decode cX2_work 15 = .ok (.aload_n 1, 1) := by decide +kernel
theorem dX2_work_16 : decode cX2_work 16 = .ok (.aload_n 0, 1) := by decide +kernel
theorem dX2_work_17 : decode cX2_work 17 = .ok (.getfield 9, 3) := by decide +kernel
theorem dX2_work_20 : decode cX2_work 20 = .ok (.iload_n 2, 1) := by decide +kernel
theorem dX2_work_21 : decode cX2_work 21 = .ok (.iaload, 1) := by decide +kernel
theorem dX2_work_22 : decode cX2_work 22 = .ok (.laload, 1) := by decide +kernel
theorem dX2_work_23 : decode cX2_work 23 = .ok (.lastore, 1) := by decide +kernel
theorem dX2_work_24 : decode cX2_work 24 = .ok (.iinc 2 1, 3) := by decide +kernel
theorem dX2_work_27 : decode cX2_work 27 = .ok (.goto (-25), 3) := by decide +kernel
theorem dX2_work_30 : decode cX2_work 30 = .ok (.aload_n 0, 1) := by decide +kernel
theorem dX2_work_31 : decode cX2_work 31 = .ok (.iconst 1, 1) := by decide +kernel
theorem dX2_work_32 : decode cX2_work 32 = .ok (.putfield 32, 3) := by decide +kernel
theorem dX2_work_35 : decode cX2_work 35 = .ok (.aload_n 0, 1) := by decide +kernel
theorem dX2_work_36 : decode cX2_work 36 = .ok (.aload_n 0, 1) := by decide +kernel
theorem dX2_work_37 : decode cX2_work 37 = .ok (.getfield 22, 3) := by decide +kernel
theorem dX2_work_40 : decode cX2_work 40 = .ok (.putfield 36, 3) := by decide +kernel
theorem dX2_work_43 : decode cX2_work 43 = .ok (.aload_n 0, 1) := by decide +kernel
theorem dX2_work_44 : decode cX2_work 44 = .ok (.aload_n 0, 1) := by decide +kernel
theorem dX2_work_45 : decode cX2_work 45 = .ok (.getfield 26, 3) := by decide +kernel
theorem dX2_work_48 : decode cX2_work 48 = .ok (.putfield 39, 3) := by decide +kernel
theorem dX2_work_51 : decode cX2_work 51 = .ok (.aload_n 0, 1) := by decide +kernel
theorem dX2_work_52 : decode cX2_work 52 = .ok (.aload_n 0, 1) := by decide +kernel
theorem dX2_work_53 : decode cX2_work 53 = .ok (.invokevirtual 49, 3) := by decide +kernel
theorem dX2_work_56 : decode cX2_work 56 = .ok (.putfield 42, 3) := by decide +kernel
theorem dX2_work_59 : decode cX2_work 59 = .ok (.return_, 1) := by decide +kernel
theorem dX2_resultOfKind_0 : decode cX2_resultOfKind 0 = .ok (.aload_n 0, 1) := by decide +kernel
theorem dX2_resultOfKind_1 : decode cX2_resultOfKind 1 = .ok (.getfield 46, 3) := by decide +kernel
theorem dX2_resultOfKind_4 : decode cX2_resultOfKind 4 = .ok (.tableswitch 43 0 2 #[28, 33, 38], 28) := by decide +kernel
theorem dX2_resultOfKind_32 : decode cX2_resultOfKind 32 = .ok (.aload_n 0, 1) := by decide +kernel
theorem dX2_resultOfKind_33 : decode cX2_resultOfKind 33 = .ok (.invokevirtual 53, 3) := by decide +kernel
theorem dX2_resultOfKind_36 : decode cX2_resultOfKind 36 = .ok (.lreturn, 1) := by decide +kernel
theorem dX2_resultOfKind_37 : decode cX2_resultOfKind 37 = .ok (.aload_n 0, 1) := by decide +kernel
theorem dX2_resultOfKind_38 : decode cX2_resultOfKind 38 = .ok (.invokevirtual 56, 3) := by decide +kernel
theorem dX2_resultOfKind_41 : decode cX2_resultOfKind 41 = .ok (.lreturn, 1) := by decide +kernel
theorem dX2_resultOfKind_42 : decode cX2_resultOfKind 42 = .ok (.aload_n 0, 1) := by decide +kernel
theorem dX2_resultOfKind_43 : decode cX2_resultOfKind 43 = .ok (.invokevirtual 59, 3) := by decide +kernel
theorem dX2_resultOfKind_46 : decode cX2_resultOfKind 46 = .ok (.lreturn, 1) := by decide +kernel
theorem dX2_resultOfKind_47 : decode cX2_resultOfKind 47 = .ok (.aload_n 0, 1) := by decide +kernel
theorem dX2_resultOfKind_48 : decode cX2_resultOfKind 48 = .ok (.invokevirtual 62, 3) := by decide +kernel
theorem dX2_resultOfKind_51 : decode cX2_resultOfKind 51 = .ok (.lreturn, 1) := by decide +kernel
theorem dX2_sum_0 : decode cX2_sum 0 = .ok (.lconst 0, 1) := by decide +kernel
theorem dX2_sum_1 : decode cX2_sum 1 = .ok (.lstore_n 1, 1) := by decide +kernel
theorem dX2_sum_2 : decode cX2_sum 2 = .ok (.iconst 0, 1) := by decide +kernel
theorem dX2_sum_3 : decode cX2_sum 3 = .ok (.istore_n 3, 1) := by decide +kernel
theorem dX2_sum_4 : decode cX2_sum 4 = .ok (.iload_n 3, 1) := by decide +kernel
theorem dX2_sum_5 : decode cX2_sum 5 = .ok (.aload_n 0, 1) := by decide +kernel
theorem dX2_sum_6 : decode cX2_sum 6 = .ok (.getfield 36, 3) := by decide +kernel
theorem dX2_sum_9 : decode cX2_sum 9 = .ok (.if_icmp .ge 18, 3) := by decide +kernel
theorem dX2_sum_12 : decode cX2_sum 12 = .ok (.lload_n 1, 1) := by decide +kernel
theorem dX2_sum_13 : decode cX2_sum 13 = .ok (.aload_n 0, 1) := by decide +kernel
theorem dX2_sum_14 : decode cX2_sum 14 = .ok (.getfield 18, 3) := by decide +kernel
theorem dX2_sum_17 : decode cX2_sum 17 = .ok (.iload_n 3, 1) := by decide +kernel
theorem dX2_sum_18 : decode cX2_sum 18 = .ok (.laload, 1) := by decide +kernel
theorem dX2_sum_19 : decode cX2_sum 19 = .ok (.ladd, 1) := by decide +kernel
theorem dX2_sum_20 : decode cX2_sum 20 = .ok (.lstore_n 1, 1) := by decide +kernel
theorem dX2_sum_21 : decode cX2_sum 21 = .ok (.iinc 3 1, 3) := by decide +kernel
theorem dX2_sum_24 : decode cX2_sum 24 = .ok (.goto (-20), 3) := by decide +kernel
theorem dX2_sum_27 : decode cX2_sum 27 = .ok (.lload_n 1, 1) := by decide +kernel
theorem dX2_sum_28 : decode cX2_sum 28 = .ok (.lreturn, 1) := by decide +kernel
theorem dX2_greatest_0 : decode cX2_greatest 0 = .ok (.aload_n 0, 1) := by decide +kernel
theorem dX2_greatest_1 : decode cX2_greatest 1 = .ok (.getfield 36, 3) := by decide +kernel
theorem dX2_greatest_4 : decode cX2_greatest 4 = .ok (.ifCond .le 12, 3) := by decide +kernel
theorem dX2_greatest_7 : decode cX2_greatest 7 = .ok (.aload_n 0, 1) := by decide +kernel
theorem dX2_greatest_8 : decode cX2_greatest 8 = .ok (.getfield 18, 3) := by decide +kernel
theorem dX2_greatest_11 : decode cX2_greatest 11 = .ok (.iconst 0, 1) := by decide +kernel
theorem dX2_greatest_12 : decode cX2_greatest 12 = .ok (.laload, 1) := by decide +kernel
theorem dX2_greatest_13 : decode cX2_greatest 13 = .ok (.goto 4, 3) := by decide +kernel
theorem dX2_greatest_16 : decode cX2_greatest 16 = .ok (.lconst 0, 1) := by decide +kernel
theorem dX2_greatest_17 : decode cX2_greatest 17 = .ok (.lstore_n 1, 1) := by decide +kernel
theorem dX2_greatest_18 : decode cX2_greatest 18 = .ok (.iconst 1, 1) := by decide +kernel
theorem dX2_greatest_19 : decode cX2_greatest 19 = .ok (.istore_n 3, 1) := by decide +kernel
theorem dX2_greatest_20 : decode cX2_greatest 20 = .ok (.iload_n 3, 1) := by decide +kernel
theorem dX2_greatest_21 : decode cX2_greatest 21 = .ok (.aload_n 0, 1) := by decide +kernel
theorem dX2_greatest_22 : decode cX2_greatest 22 = .ok (.getfield 36, 3) := by decide +kernel
theorem dX2_greatest_25 : decode cX2_greatest 25 = .ok (.if_icmp .ge 20, 3) := by decide +kernel
theorem dX2_greatest_28 : decode cX2_greatest 28 = .ok (.lload_n 1, 1) := by decide +kernel
theorem dX2_greatest_29 : decode cX2_greatest 29 = .ok (.aload_n 0, 1) := by decide +kernel
theorem dX2_greatest_30 : decode cX2_greatest 30 = .ok (.getfield 18, 3) := by decide +kernel
theorem dX2_greatest_33 : decode cX2_greatest 33 = .ok (.iload_n 3, 1) := by decide +kernel
theorem dX2_greatest_34 : decode cX2_greatest 34 = .ok (.laload, 1) := by decide +kernel
theorem dX2_greatest_35 : decode cX2_greatest 35 = .ok (.invokestatic 65, 3) := by decide +kernel
theorem dX2_greatest_38 : decode cX2_greatest 38 = .ok (.lstore_n 1, 1) := by decide +kernel
theorem dX2_greatest_39 : decode cX2_greatest 39 = .ok (.iinc 3 1, 3) := by decide +kernel
theorem dX2_greatest_42 : decode cX2_greatest 42 = .ok (.goto (-22), 3) := by decide +kernel
theorem dX2_greatest_45 : decode cX2_greatest 45 = .ok (.lload_n 1, 1) := by decide +kernel
theorem dX2_greatest_46 : decode cX2_greatest 46 = .ok (.lreturn, 1) := by decide +kernel
theorem dX2_exclusiveOr_0 : decode cX2_exclusiveOr 0 = .ok (.lconst 0, 1) := by decide +kernel
theorem dX2_exclusiveOr_1 : decode cX2_exclusiveOr 1 = .ok (.lstore_n 1, 1) := by decide +kernel
theorem dX2_exclusiveOr_2 : decode cX2_exclusiveOr 2 = .ok (.iconst 0, 1) := by decide +kernel
theorem dX2_exclusiveOr_3 : decode cX2_exclusiveOr 3 = .ok (.istore_n 3, 1) := by decide +kernel
theorem dX2_exclusiveOr_4 : decode cX2_exclusiveOr 4 = .ok (.iload_n 3, 1) := by decide +kernel
theorem dX2_exclusiveOr_5 : decode cX2_exclusiveOr 5 = .ok (.aload_n 0, 1) := by decide +kernel
theorem dX2_exclusiveOr_6 : decode cX2_exclusiveOr 6 = .ok (.getfield 36, 3) := by decide +kernel
theorem dX2_exclusiveOr_9 : decode cX2_exclusiveOr 9 = .ok (.if_icmp .ge 18, 3) := by decide +kernel
theorem dX2_exclusiveOr_12 : decode cX2_exclusiveOr 12 = .ok (.lload_n 1, 1) := by decide +kernel
theorem dX2_exclusiveOr_13 : decode cX2_exclusiveOr 13 = .ok (.aload_n 0, 1) := by decide +kernel
theorem dX2_exclusiveOr_14 : decode cX2_exclusiveOr 14 = .ok (.getfield 18, 3) := by decide +kernel
theorem dX2_exclusiveOr_17 : decode cX2_exclusiveOr 17 = .ok (.iload_n 3, 1) := by decide +kernel
theorem dX2_exclusiveOr_18 : decode cX2_exclusiveOr 18 = .ok (.laload, 1) := by decide +kernel
theorem dX2_exclusiveOr_19 : decode cX2_exclusiveOr 19 = .ok (.lxor, 1) := by decide +kernel
theorem dX2_exclusiveOr_20 : decode cX2_exclusiveOr 20 = .ok (.lstore_n 1, 1) := by decide +kernel
theorem dX2_exclusiveOr_21 : decode cX2_exclusiveOr 21 = .ok (.iinc 3 1, 3) := by decide +kernel
theorem dX2_exclusiveOr_24 : decode cX2_exclusiveOr 24 = .ok (.goto (-20), 3) := by decide +kernel
theorem dX2_exclusiveOr_27 : decode cX2_exclusiveOr 27 = .ok (.lload_n 1, 1) := by decide +kernel
theorem dX2_exclusiveOr_28 : decode cX2_exclusiveOr 28 = .ok (.lreturn, 1) := by decide +kernel
theorem dX2_differentOnes_0 : decode cX2_differentOnes 0 = .ok (.lconst 0, 1) := by decide +kernel
theorem dX2_differentOnes_1 : decode cX2_differentOnes 1 = .ok (.lstore_n 1, 1) := by decide +kernel
theorem dX2_differentOnes_2 : decode cX2_differentOnes 2 = .ok (.iconst 0, 1) := by decide +kernel
theorem dX2_differentOnes_3 : decode cX2_differentOnes 3 = .ok (.istore_n 3, 1) := by decide +kernel
theorem dX2_differentOnes_4 : decode cX2_differentOnes 4 = .ok (.iload_n 3, 1) := by decide +kernel
theorem dX2_differentOnes_5 : decode cX2_differentOnes 5 = .ok (.aload_n 0, 1) := by decide +kernel
theorem dX2_differentOnes_6 : decode cX2_differentOnes 6 = .ok (.getfield 36, 3) := by decide +kernel
theorem dX2_differentOnes_9 : decode cX2_differentOnes 9 = .ok (.if_icmp .ge 21, 3) := by decide +kernel
theorem dX2_differentOnes_12 : decode cX2_differentOnes 12 = .ok (.aload_n 0, 1) := by decide +kernel
theorem dX2_differentOnes_13 : decode cX2_differentOnes 13 = .ok (.iload_n 3, 1) := by decide +kernel
theorem dX2_differentOnes_14 : decode cX2_differentOnes 14 = .ok (.invokevirtual 71, 3) := by decide +kernel
theorem dX2_differentOnes_17 : decode cX2_differentOnes 17 = .ok (.ifCond .eq 7, 3) := by decide +kernel
theorem dX2_differentOnes_20 : decode cX2_differentOnes 20 = .ok (.lload_n 1, 1) := by decide +kernel
theorem dX2_differentOnes_21 : decode cX2_differentOnes 21 = .ok (.lconst 1, 1) := by decide +kernel
theorem dX2_differentOnes_22 : decode cX2_differentOnes 22 = .ok (.ladd, 1) := by decide +kernel
theorem dX2_differentOnes_23 : decode cX2_differentOnes 23 = .ok (.lstore_n 1, 1) := by decide +kernel
theorem dX2_differentOnes_24 : decode cX2_differentOnes 24 = .ok (.iinc 3 1, 3) := by decide +kernel
theorem dX2_differentOnes_27 : decode cX2_differentOnes 27 = .ok (.goto (-23), 3) := by decide +kernel
theorem dX2_differentOnes_30 : decode cX2_differentOnes 30 = .ok (.lload_n 1, 1) := by decide +kernel
theorem dX2_differentOnes_31 : decode cX2_differentOnes 31 = .ok (.lreturn, 1) := by decide +kernel
theorem dX2_isFirstOfItsValue_0 : decode cX2_isFirstOfItsValue 0 = .ok (.iconst 0, 1) := by decide +kernel
theorem dX2_isFirstOfItsValue_1 : decode cX2_isFirstOfItsValue 1 = .ok (.istore_n 2, 1) := by decide +kernel
theorem dX2_isFirstOfItsValue_2 : decode cX2_isFirstOfItsValue 2 = .ok (.iload_n 2, 1) := by decide +kernel
theorem dX2_isFirstOfItsValue_3 : decode cX2_isFirstOfItsValue 3 = .ok (.iload_n 1, 1) := by decide +kernel
theorem dX2_isFirstOfItsValue_4 : decode cX2_isFirstOfItsValue 4 = .ok (.if_icmp .ge 27, 3) := by decide +kernel
theorem dX2_isFirstOfItsValue_7 : decode cX2_isFirstOfItsValue 7 = .ok (.aload_n 0, 1) := by decide +kernel
theorem dX2_isFirstOfItsValue_8 : decode cX2_isFirstOfItsValue 8 = .ok (.getfield 18, 3) := by decide +kernel
theorem dX2_isFirstOfItsValue_11 : decode cX2_isFirstOfItsValue 11 = .ok (.iload_n 2, 1) := by decide +kernel
theorem dX2_isFirstOfItsValue_12 : decode cX2_isFirstOfItsValue 12 = .ok (.laload, 1) := by decide +kernel
