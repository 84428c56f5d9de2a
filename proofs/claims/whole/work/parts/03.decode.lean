theorem d_M_isRegister_0 : decode c_M_isRegister 0 = .ok (.iload_n 0, 1) := by decide +kernel
theorem d_M_isRegister_1 : decode c_M_isRegister 1 = .ok (.ifCond .lt 13, 3) := by decide +kernel
theorem d_M_isRegister_4 : decode c_M_isRegister 4 = .ok (.iload_n 0, 1) := by decide +kernel
theorem d_M_isRegister_5 : decode c_M_isRegister 5 = .ok (.bipush 8, 2) := by decide +kernel
theorem d_M_isRegister_7 : decode c_M_isRegister 7 = .ok (.if_icmp .ge 7, 3) := by decide +kernel
theorem d_M_isRegister_10 : decode c_M_isRegister 10 = .ok (.iconst 1, 1) := by decide +kernel
theorem d_M_isRegister_11 : decode c_M_isRegister 11 = .ok (.goto 4, 3) := by decide +kernel
theorem d_M_isRegister_14 : decode c_M_isRegister 14 = .ok (.iconst 0, 1) := by decide +kernel
theorem d_M_isRegister_15 : decode c_M_isRegister 15 = .ok (.ireturn, 1) := by decide +kernel
theorem d_M_isObject_0 : decode c_M_isObject 0 = .ok (.lload_n 0, 1) := by decide +kernel
theorem d_M_isObject_1 : decode c_M_isObject 1 = .ok (.bipush 32, 2) := by decide +kernel
theorem d_M_isObject_3 : decode c_M_isObject 3 = .ok (.lshr, 1) := by decide +kernel
theorem d_M_isObject_4 : decode c_M_isObject 4 = .ok (.ldc2_w 60, 3) := by decide +kernel
theorem d_M_isObject_7 : decode c_M_isObject 7 = .ok (.lcmp, 1) := by decide +kernel
theorem d_M_isObject_8 : decode c_M_isObject 8 = .ok (.ifCond .ne 7, 3) := by decide +kernel
theorem d_M_isObject_11 : decode c_M_isObject 11 = .ok (.iconst 1, 1) := by decide +kernel
theorem d_M_isObject_12 : decode c_M_isObject 12 = .ok (.goto 4, 3) := by decide +kernel
theorem d_M_isObject_15 : decode c_M_isObject 15 = .ok (.iconst 0, 1) := by decide +kernel
theorem d_M_isObject_16 : decode c_M_isObject 16 = .ok (.ireturn, 1) := by decide +kernel
theorem d_M_is_0 : decode c_M_is 0 = .ok (.lload_n 1, 1) := by decide +kernel
theorem d_M_is_1 : decode c_M_is 1 = .ok (.invokestatic 62, 3) := by decide +kernel
theorem d_M_is_4 : decode c_M_is 4 = .ok (.ifCond .eq 18, 3) := by decide +kernel
theorem d_M_is_7 : decode c_M_is 7 = .ok (.aload_n 0, 1) := by decide +kernel
theorem d_M_is_8 : decode c_M_is 8 = .ok (.getfield 13, 3) := by decide +kernel
theorem d_M_is_11 : decode c_M_is 11 = .ok (.lload_n 1, 1) := by decide +kernel
theorem d_M_is_12 : decode c_M_is 12 = .ok (.l2i, 1) := by decide +kernel
theorem d_M_is_13 : decode c_M_is 13 = .ok (.iaload, 1) := by decide +kernel
theorem d_M_is_14 : decode c_M_is 14 = .ok (.iload_n 3, 1) := by decide +kernel
theorem d_M_is_15 : decode c_M_is 15 = .ok (.if_icmp .ne 7, 3) := by decide +kernel
theorem d_M_is_18 : decode c_M_is 18 = .ok (.iconst 1, 1) := by decide +kernel
theorem d_M_is_19 : decode c_M_is 19 = .ok (.goto 4, 3) := by decide +kernel
theorem d_M_is_22 : decode c_M_is 22 = .ok (.iconst 0, 1) := by decide +kernel
theorem d_M_is_23 : decode c_M_is 23 = .ok (.ireturn, 1) := by decide +kernel
theorem d_M_cellsOf_0 : decode c_M_cellsOf 0 = .ok (.iload_n 0, 1) := by decide +kernel
theorem d_M_cellsOf_1 : decode c_M_cellsOf 1 = .ok (.iconst 1, 1) := by decide +kernel
theorem d_M_cellsOf_2 : decode c_M_cellsOf 2 = .ok (.if_icmp .ne 9, 3) := by decide +kernel
theorem d_M_cellsOf_5 : decode c_M_cellsOf 5 = .ok (.iconst 3, 1) := by decide +kernel
theorem d_M_cellsOf_6 : decode c_M_cellsOf 6 = .ok (.iload_n 1, 1) := by decide +kernel
theorem d_M_cellsOf_7 : decode c_M_cellsOf 7 = .ok (.iadd, 1) := by decide +kernel
theorem d_M_cellsOf_8 : decode c_M_cellsOf 8 = .ok (.goto 27, 3) := by decide +kernel
theorem d_M_cellsOf_11 : decode c_M_cellsOf 11 = .ok (.iload_n 0, 1) := by decide +kernel
theorem d_M_cellsOf_12 : decode c_M_cellsOf 12 = .ok (.iconst 2, 1) := by decide +kernel
theorem d_M_cellsOf_13 : decode c_M_cellsOf 13 = .ok (.if_icmp .eq 8, 3) := by decide +kernel
theorem d_M_cellsOf_16 : decode c_M_cellsOf 16 = .ok (.iload_n 0, 1) := by decide +kernel
theorem d_M_cellsOf_17 : decode c_M_cellsOf 17 = .ok (.iconst 4, 1) := by decide +kernel
theorem d_M_cellsOf_18 : decode c_M_cellsOf 18 = .ok (.if_icmp .ne 7, 3) := by decide +kernel
theorem d_M_cellsOf_21 : decode c_M_cellsOf 21 = .ok (.iconst 3, 1) := by decide +kernel
theorem d_M_cellsOf_22 : decode c_M_cellsOf 22 = .ok (.goto 13, 3) := by decide +kernel
theorem d_M_cellsOf_25 : decode c_M_cellsOf 25 = .ok (.iload_n 0, 1) := by decide +kernel
theorem d_M_cellsOf_26 : decode c_M_cellsOf 26 = .ok (.iconst 5, 1) := by decide +kernel
theorem d_M_cellsOf_27 : decode c_M_cellsOf 27 = .ok (.if_icmp .ne 7, 3) := by decide +kernel
theorem d_M_cellsOf_30 : decode c_M_cellsOf 30 = .ok (.iconst 5, 1) := by decide +kernel
theorem d_M_cellsOf_31 : decode c_M_cellsOf 31 = .ok (.goto 4, 3) := by decide +kernel
theorem d_M_cellsOf_34 : decode c_M_cellsOf 34 = .ok (.iconst 4, 1) := by decide +kernel
theorem d_M_cellsOf_35 : decode c_M_cellsOf 35 = .ok (.ireturn, 1) := by decide +kernel
theorem d_M_cellAt_0 : decode c_M_cellAt 0 = .ok (.aload_n 0, 1) := by decide +kernel
theorem d_M_cellAt_1 : decode c_M_cellAt 1 = .ok (.getfield 20, 3) := by decide +kernel
theorem d_M_cellAt_4 : decode c_M_cellAt 4 = .ok (.lload_n 1, 1) := by decide +kernel
theorem d_M_cellAt_5 : decode c_M_cellAt 5 = .ok (.l2i, 1) := by decide +kernel
theorem d_M_cellAt_6 : decode c_M_cellAt 6 = .ok (.iaload, 1) := by decide +kernel
theorem d_M_cellAt_7 : decode c_M_cellAt 7 = .ok (.istore 4, 2) := by decide +kernel
theorem d_M_cellAt_9 : decode c_M_cellAt 9 = .ok (.iconst 0, 1) := by decide +kernel
theorem d_M_cellAt_10 : decode c_M_cellAt 10 = .ok (.istore 5, 2) := by decide +kernel
theorem d_M_cellAt_12 : decode c_M_cellAt 12 = .ok (.iload 5, 2) := by decide +kernel
theorem d_M_cellAt_14 : decode c_M_cellAt 14 = .ok (.iload_n 3, 1) := by decide +kernel
theorem d_M_cellAt_15 : decode c_M_cellAt 15 = .ok (.if_icmp .ge 18, 3) := by decide +kernel
theorem d_M_cellAt_18 : decode c_M_cellAt 18 = .ok (.aload_n 0, 1) := by decide +kernel
theorem d_M_cellAt_19 : decode c_M_cellAt 19 = .ok (.getfield 39, 3) := by decide +kernel
theorem d_M_cellAt_22 : decode c_M_cellAt 22 = .ok (.iload 4, 2) := by decide +kernel
theorem d_M_cellAt_24 : decode c_M_cellAt 24 = .ok (.iaload, 1) := by decide +kernel
theorem d_M_cellAt_25 : decode c_M_cellAt 25 = .ok (.istore 4, 2) := by decide +kernel
theorem d_M_cellAt_27 : decode c_M_cellAt 27 = .ok (.iinc 5 1, 3) := by decide +kernel
theorem d_M_cellAt_30 : decode c_M_cellAt 30 = .ok (.goto (-18), 3) := by decide +kernel
theorem d_M_cellAt_33 : decode c_M_cellAt 33 = .ok (.iload 4, 2) := by decide +kernel
theorem d_M_cellAt_35 : decode c_M_cellAt 35 = .ok (.ireturn, 1) := by decide +kernel
theorem d_M_field_0 : decode c_M_field 0 = .ok (.aload_n 0, 1) := by decide +kernel
theorem d_M_field_1 : decode c_M_field 1 = .ok (.getfield 36, 3) := by decide +kernel
theorem d_M_field_4 : decode c_M_field 4 = .ok (.aload_n 0, 1) := by decide +kernel
theorem d_M_field_5 : decode c_M_field 5 = .ok (.lload_n 1, 1) := by decide +kernel
theorem d_M_field_6 : decode c_M_field 6 = .ok (.iload_n 3, 1) := by decide +kernel
theorem d_M_field_7 : decode c_M_field 7 = .ok (.invokevirtual 66, 3) := by decide +kernel
theorem d_M_field_10 : decode c_M_field 10 = .ok (.laload, 1) := by decide +kernel
theorem d_M_field_11 : decode c_M_field 11 = .ok (.lreturn, 1) := by decide +kernel
theorem d_M_setField_0 : decode c_M_setField 0 = .ok (.aload_n 0, 1) := by decide +kernel
theorem d_M_setField_1 : decode c_M_setField 1 = .ok (.getfield 36, 3) := by decide +kernel
theorem d_M_setField_4 : decode c_M_setField 4 = .ok (.aload_n 0, 1) := by decide +kernel
theorem d_M_setField_5 : decode c_M_setField 5 = .ok (.lload_n 1, 1) := by decide +kernel
theorem d_M_setField_6 : decode c_M_setField 6 = .ok (.iload_n 3, 1) := by decide +kernel
theorem d_M_setField_7 : decode c_M_setField 7 = .ok (.invokevirtual 66, 3) := by decide +kernel
theorem d_M_setField_10 : decode c_M_setField 10 = .ok (.lload 4, 2) := by decide +kernel
theorem d_M_setField_12 : decode c_M_setField 12 = .ok (.lastore, 1) := by decide +kernel
theorem d_M_setField_13 : decode c_M_setField 13 = .ok (.return_, 1) := by decide +kernel
theorem d_M_isLive_0 : decode c_M_isLive 0 = .ok (.lload_n 1, 1) := by decide +kernel
theorem d_M_isLive_1 : decode c_M_isLive 1 = .ok (.invokestatic 62, 3) := by decide +kernel
theorem d_M_isLive_4 : decode c_M_isLive 4 = .ok (.ifCond .eq 13, 3) := by decide +kernel
theorem d_M_isLive_7 : decode c_M_isLive 7 = .ok (.aload_n 0, 1) := by decide +kernel
theorem d_M_isLive_8 : decode c_M_isLive 8 = .ok (.getfield 30, 3) := by decide +kernel
theorem d_M_isLive_11 : decode c_M_isLive 11 = .ok (.lload_n 1, 1) := by decide +kernel
theorem d_M_isLive_12 : decode c_M_isLive 12 = .ok (.l2i, 1) := by decide +kernel
theorem d_M_isLive_13 : decode c_M_isLive 13 = .ok (.baload, 1) := by decide +kernel
theorem d_M_isLive_14 : decode c_M_isLive 14 = .ok (.ifCond .eq 7, 3) := by decide +kernel
theorem d_M_isLive_17 : decode c_M_isLive 17 = .ok (.iconst 1, 1) := by decide +kernel
theorem d_M_isLive_18 : decode c_M_isLive 18 = .ok (.goto 4, 3) := by decide +kernel
theorem d_M_isLive_21 : decode c_M_isLive 21 = .ok (.iconst 0, 1) := by decide +kernel
theorem d_M_isLive_22 : decode c_M_isLive 22 = .ok (.ireturn, 1) := by decide +kernel
theorem d_M_mark_0 : decode c_M_mark 0 = .ok (.aload_n 0, 1) := by decide +kernel
theorem d_M_mark_1 : decode c_M_mark 1 = .ok (.lload_n 1, 1) := by decide +kernel
theorem d_M_mark_2 : decode c_M_mark 2 = .ok (.invokevirtual 88, 3) := by decide +kernel
theorem d_M_mark_5 : decode c_M_mark 5 = .ok (.ifCond .eq 4, 3) := by decide +kernel
theorem d_M_mark_8 : decode c_M_mark 8 = .ok (.return_, 1) := by decide +kernel
theorem d_M_mark_9 : decode c_M_mark 9 = .ok (.aload_n 0, 1) := by decide +kernel
theorem d_M_mark_10 : decode c_M_mark 10 = .ok (.getfield 30, 3) := by decide +kernel
theorem d_M_mark_13 : decode c_M_mark 13 = .ok (.lload_n 1, 1) := by decide +kernel
theorem d_M_mark_14 : decode c_M_mark 14 = .ok (.l2i, 1) := by decide +kernel
theorem d_M_mark_15 : decode c_M_mark 15 = .ok (.iconst 1, 1) := by decide +kernel
theorem d_M_mark_16 : decode c_M_mark 16 = .ok (.bastore, 1) := by decide +kernel
theorem d_M_mark_17 : decode c_M_mark 17 = .ok (.aload_n 0, 1) := by decide +kernel
theorem d_M_mark_18 : decode c_M_mark 18 = .ok (.getfield 33, 3) := by decide +kernel
theorem d_M_mark_21 : decode c_M_mark 21 = .ok (.aload_n 0, 1) := by decide +kernel
theorem d_M_mark_22 : decode c_M_mark 22 = .ok (.getfield 91, 3) := by decide +kernel
theorem d_M_mark_25 : decode c_M_mark 25 = .ok (.lload_n 1, 1) := by decide +kernel
theorem d_M_mark_26 : decode c_M_mark 26 = .ok (.l2i, 1) := by decide +kernel
theorem d_M_mark_27 : decode c_M_mark 27 = .ok (.iastore, 1) := by decide +kernel
theorem d_M_mark_28 : decode c_M_mark 28 = .ok (.aload_n 0, 1) := by decide +kernel
theorem d_M_mark_29 : decode c_M_mark 29 = .ok (.aload_n 0, 1) := by decide +kernel
theorem d_M_mark_30 : decode c_M_mark 30 = .ok (.getfield 91, 3) := by decide +kernel
theorem d_M_mark_33 : decode c_M_mark 33 = .ok (.iconst 1, 1) := by decide +kernel
theorem d_M_mark_34 : decode c_M_mark 34 = .ok (.iadd, 1) := by decide +kernel
theorem d_M_mark_35 : decode c_M_mark 35 = .ok (.putfield 91, 3) := by decide +kernel
theorem d_M_mark_38 : decode c_M_mark 38 = .ok (.return_, 1) := by decide +kernel
theorem d_M_shown_0 : decode c_M_shown 0 = .ok (.aload_n 0, 1) := by decide +kernel
theorem d_M_shown_1 : decode c_M_shown 1 = .ok (.getfield 13, 3) := by decide +kernel
theorem d_M_shown_4 : decode c_M_shown 4 = .ok (.lload_n 1, 1) := by decide +kernel
theorem d_M_shown_5 : decode c_M_shown 5 = .ok (.l2i, 1) := by decide +kernel
theorem d_M_shown_6 : decode c_M_shown 6 = .ok (.iaload, 1) := by decide +kernel
theorem d_M_shown_7 : decode c_M_shown 7 = .ok (.iconst 4, 1) := by decide +kernel
theorem d_M_shown_8 : decode c_M_shown 8 = .ok (.if_icmp .ne 7, 3) := by decide +kernel
theorem d_M_shown_11 : decode c_M_shown 11 = .ok (.iconst 0, 1) := by decide +kernel
theorem d_M_shown_12 : decode c_M_shown 12 = .ok (.goto 10, 3) := by decide +kernel
theorem d_M_shown_15 : decode c_M_shown 15 = .ok (.aload_n 0, 1) := by decide +kernel
theorem d_M_shown_16 : decode c_M_shown 16 = .ok (.getfield 17, 3) := by decide +kernel
theorem d_M_shown_19 : decode c_M_shown 19 = .ok (.lload_n 1, 1) := by decide +kernel
theorem d_M_shown_20 : decode c_M_shown 20 = .ok (.l2i, 1) := by decide +kernel
theorem d_M_shown_21 : decode c_M_shown 21 = .ok (.iaload, 1) := by decide +kernel
theorem d_M_shown_22 : decode c_M_shown 22 = .ok (.ireturn, 1) := by decide +kernel
