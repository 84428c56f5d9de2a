theorem d_M_isRegister_0 : decode c_M_isRegister 0 = .ok (.iload_n 0, 1) := by decide +kernel
theorem d_M_isRegister_1 : decode c_M_isRegister 1 = .ok (.ifCond .lt 13, 3) := by decide +kernel
theorem d_M_isRegister_4 : decode c_M_isRegister 4 = .ok (.iload_n 0, 1) := by decide +kernel
theorem d_M_isRegister_5 : decode c_M_isRegister 5 = .ok (.bipush 8, 2) := by decide +kernel
theorem d_M_isRegister_7 : decode c_M_isRegister 7 = .ok (.if_icmp .ge 7, 3) := by decide +kernel
theorem d_M_isRegister_10 : decode c_M_isRegister 10 = .ok (.iconst 1, 1) := by decide +kernel
theorem d_M_isRegister_11 : decode c_M_isRegister 11 = .ok (.goto 4, 3) := by decide +kernel
theorem d_M_isRegister_14 : decode c_M_isRegister 14 = .ok (.iconst 0, 1) := by decide +kernel
theorem d_M_isRegister_15 : decode c_M_isRegister 15 = .ok (.ireturn, 1) := by decide +kernel
theorem d_M_isObject_0 : decode c_M_isObject 0 = .ok (.lload_n 0, 1) := by decide +kernel
theorem d_M_isObject_1 : decode c_M_isObject 1 = .ok (.bipush 32, 2) := by decide +kernel
theorem d_M_isObject_3 : decode c_M_isObject 3 = .ok (.lshr, 1) := by decide +kernel
theorem d_M_isObject_4 : decode c_M_isObject 4 = .ok (.ldc2_w 60, 3) := by decide +kernel
theorem d_M_isObject_7 : decode c_M_isObject 7 = .ok (.lcmp, 1) := by decide +kernel
theorem d_M_isObject_8 : decode c_M_isObject 8 = .ok (.ifCond .ne 7, 3) := by decide +kernel
theorem d_M_isObject_11 : decode c_M_isObject 11 = .ok (.iconst 1, 1) := by decide +kernel
theorem d_M_isObject_12 : decode c_M_isObject 12 = .ok (.goto 4, 3) := by decide +kernel
theorem d_M_isObject_15 : decode c_M_isObject 15 = .ok (.iconst 0, 1) := by decide +kernel
theorem d_M_isObject_16 : decode c_M_isObject 16 = .ok (.ireturn, 1) := by decide +kernel
theorem d_M_is_0 : decode c_M_is 0 = .ok (.lload_n 1, 1) := by decide +kernel
theorem d_M_is_1 : decode c_M_is 1 = .ok (.invokestatic 62, 3) := by decide +kernel
theorem d_M_is_4 : decode c_M_is 4 = .ok (.ifCond .eq 18, 3) := by decide +kernel
theorem d_M_is_7 : decode c_M_is 7 = .ok (.aload_n 0, 1) := by decide +kernel
theorem d_M_is_8 : decode c_M_is 8 = .ok (.getfield 13, 3) := by decide +kernel
theorem d_M_is_11 : decode c_M_is 11 = .ok (.lload_n 1, 1) := by decide +kernel
theorem d_M_is_12 : decode c_M_is 12 = .ok (.l2i, 1) := by decide +kernel
theorem d_M_is_13 : decode c_M_is 13 = .ok (.iaload, 1) := by decide +kernel
theorem d_M_is_14 : decode c_M_is 14 = .ok (.iload_n 3, 1) := by decide +kernel
theorem d_M_is_15 : decode c_M_is 15 = .ok (.if_icmp .ne 7, 3) := by decide +kernel
theorem d_M_is_18 : decode c_M_is 18 = .ok (.iconst 1, 1) := by decide +kernel
theorem d_M_is_19 : decode c_M_is 19 = .ok (.goto 4, 3) := by decide +kernel
theorem d_M_is_22 : decode c_M_is 22 = .ok (.iconst 0, 1) := by decide +kernel
theorem d_M_is_23 : decode c_M_is 23 = .ok (.ireturn, 1) := by decide +kernel
theorem d_M_cellsOf_0 : decode c_M_cellsOf 0 = .ok (.iload_n 0, 1) := by decide +kernel
theorem d_M_cellsOf_1 : decode c_M_cellsOf 1 = .ok (.iconst 1, 1) := by decide +kernel
theorem d_M_cellsOf_2 : decode c_M_cellsOf 2 = .ok (.if_icmp .ne 9, 3) := by decide +kernel
theorem d_M_cellsOf_5 : decode c_M_cellsOf 5 = .ok (.iconst 3, 1) := by decide +kernel
theorem d_M_cellsOf_6 : decode c_M_cellsOf 6 = .ok (.iload_n 1, 1) := by decide +kernel
theorem d_M_cellsOf_7 : decode c_M_cellsOf 7 = .ok (.iadd, 1) := by decide +kernel
theorem d_M_cellsOf_8 : decode c_M_cellsOf 8 = .ok (.goto 27, 3) := by decide +kernel
theorem d_M_cellsOf_11 : decode c_M_cellsOf 11 = .ok (.iload_n 0, 1) := by decide +kernel
theorem d_M_cellsOf_12 : decode c_M_cellsOf 12 = .ok (.iconst 2, 1) := by decide +kernel
theorem d_M_cellsOf_13 : decode c_M_cellsOf 13 = .ok (.if_icmp .eq 8, 3) := by decide +kernel
theorem d_M_cellsOf_16 : decode c_M_cellsOf 16 = .ok (.iload_n 0, 1) := by decide +kernel
theorem d_M_cellsOf_17 : decode c_M_cellsOf 17 = .ok (.iconst 4, 1) := by decide +kernel
theorem d_M_cellsOf_18 : decode c_M_cellsOf 18 = .ok (.if_icmp .ne 7, 3) := by decide +kernel
theorem d_M_cellsOf_21 : decode c_M_cellsOf 21 = .ok (.iconst 3, 1) := by decide +kernel
theorem d_M_cellsOf_22 : decode c_M_cellsOf 22 = .ok (.goto 13, 3) := by decide +kernel
theorem d_M_cellsOf_25 : decode c_M_cellsOf 25 = .ok (.iload_n 0, 1) := by decide +kernel
theorem d_M_cellsOf_26 : decode c_M_cellsOf 26 = .ok (.iconst 5, 1) := by decide +kernel
theorem d_M_cellsOf_27 : decode c_M_cellsOf 27 = .ok (.if_icmp .ne 7, 3) := by decide +kernel
theorem d_M_cellsOf_30 : decode c_M_cellsOf 30 = .ok (.iconst 5, 1) := by decide +kernel
theorem d_M_cellsOf_31 : decode c_M_cellsOf 31 = .ok (.goto 4, 3) := by decide +kernel
theorem d_M_cellsOf_34 : decode c_M_cellsOf 34 = .ok (.iconst 4, 1) := by decide +kernel
theorem d_M_cellsOf_35 : decode c_M_cellsOf 35 = .ok (.ireturn, 1) := by decide +kernel
theorem d_M_cellAt_0 : decode c_M_cellAt 0 = .ok (.aload_n 0, 1) := by decide +kernel
theorem d_M_cellAt_1 : decode c_M_cellAt 1 = .ok (.getfield 20, 3) := by decide +kernel
theorem d_M_cellAt_4 : decode c_M_cellAt 4 = .ok (.lload_n 1, 1) := by decide +kernel
theorem d_M_cellAt_5 : decode c_M_cellAt 5 = .ok (.l2i, 1) := by decide +kernel
theorem d_M_cellAt_6 : decode c_M_cellAt 6 = .ok (.iaload, 1) := by decide +kernel
theorem d_M_cellAt_7 : decode c_M_cellAt 7 = .ok (.istore 4, 2) := by decide +kernel
theorem d_M_cellAt_9 : decode c_M_cellAt 9 = .ok (.iconst 0, 1) := by decide +kernel
theorem d_M_cellAt_10 : decode c_M_cellAt 10 = .ok (.istore 5, 2) := by decide +kernel
theorem d_M_cellAt_12 : decode c_M_cellAt 12 = .ok (.iload 5, 2) := by decide +kernel
theorem d_M_cellAt_14 : decode c_M_cellAt 14 = .ok (.iload_n 3, 1) := by decide +kernel
theorem d_M_cellAt_15 : decode c_M_cellAt 15 = .ok (.if_icmp .ge 18, 3) := by decide +kernel
theorem d_M_cellAt_18 : decode c_M_cellAt 18 = .ok (.aload_n 0, 1) := by decide +kernel
theorem d_M_cellAt_19 : decode c_M_cellAt 19 = .ok (.getfield 39, 3) := by decide +kernel
theorem d_M_cellAt_22 : decode c_M_cellAt 22 = .ok (.iload 4, 2) := by decide +kernel
theorem d_M_cellAt_24 : decode c_M_cellAt 24 = .ok (.iaload, 1) := by decide +kernel
theorem d_M_cellAt_25 : decode c_M_cellAt 25 = .ok (.istore 4, 2) := by decide +kernel
theorem d_M_cellAt_27 : decode c_M_cellAt 27 = .ok (.iinc 5 1, 3) := by decide +kernel
theorem d_M_cellAt_30 : decode c_M_cellAt 30 = .ok (.goto (-18), 3) := by decide +kernel
theorem d_M_cellAt_33 : decode c_M_cellAt 33 = .ok (.iload 4, 2) := by decide +kernel
theorem d_M_cellAt_35 : decode c_M_cellAt 35 = .ok (.ireturn, 1) := by decide +kernel
theorem d_M_field_0 : decode c_M_field 0 = .ok (.aload_n 0, 1) := by decide +kernel
theorem d_M_field_1 : decode c_M_field 1 = .ok (.getfield 36, 3) := by decide +kernel
theorem d_M_field_4 : decode c_M_field 4 = .ok (.aload_n 0, 1) := by decide +kernel
theorem d_M_field_5 : decode c_M_field 5 = .ok (.lload_n 1, 1) := by decide +kernel
theorem d_M_field_6 : decode c_M_field 6 = .ok (.iload_n 3, 1) := by decide +kernel
theorem d_M_field_7 : decode c_M_field 7 = .ok (.invokevirtual 66, 3) := by decide +kernel
theorem d_M_field_10 : decode c_M_field 10 = .ok (.laload, 1) := by decide +kernel
theorem d_M_field_11 : decode c_M_field 11 = .ok (.lreturn, 1) := by decide +kernel
theorem d_M_setField_0 : decode c_M_setField 0 = .ok (.aload_n 0, 1) := by decide +kernel
theorem d_M_setField_1 : decode c_M_setField 1 = .ok (.getfield 36, 3) := by decide +kernel
theorem d_M_setField_4 : decode c_M_setField 4 = .ok (.aload_n 0, 1) := by decide +kernel
theorem d_M_setField_5 : decode c_M_setField 5 = .ok (.lload_n 1, 1) := by decide +kernel
theorem d_M_setField_6 : decode c_M_setField 6 = .ok (.iload_n 3, 1) := by decide +kernel
theorem d_M_setField_7 : decode c_M_setField 7 = .ok (.invokevirtual 66, 3) := by decide +kernel
theorem d_M_setField_10 : decode c_M_setField 10 = .ok (.lload 4, 2) := by decide +kernel
theorem d_M_setField_12 : decode c_M_setField 12 = .ok (.lastore, 1) := by decide +kernel
theorem d_M_setField_13 : decode c_M_setField 13 = .ok (.return_, 1) := by decide +kernel
theorem d_M_add_0 : decode c_M_add 0 = .ok (.iconst 0, 1) := by decide +kernel
theorem d_M_add_1 : decode c_M_add 1 = .ok (.istore 5, 2) := by decide +kernel
theorem d_M_add_3 : decode c_M_add 3 = .ok (.aload_n 0, 1) := by decide +kernel
theorem d_M_add_4 : decode c_M_add 4 = .ok (.getfield 26, 3) := by decide +kernel
theorem d_M_add_7 : decode c_M_add 7 = .ok (.iload 5, 2) := by decide +kernel
theorem d_M_add_9 : decode c_M_add 9 = .ok (.baload, 1) := by decide +kernel
theorem d_M_add_10 : decode c_M_add 10 = .ok (.ifCond .eq 12, 3) := by decide +kernel
theorem d_M_add_13 : decode c_M_add 13 = .ok (.iload 5, 2) := by decide +kernel
theorem d_M_add_15 : decode c_M_add 15 = .ok (.iconst 1, 1) := by decide +kernel
theorem d_M_add_16 : decode c_M_add 16 = .ok (.iadd, 1) := by decide +kernel
theorem d_M_add_17 : decode c_M_add 17 = .ok (.istore 5, 2) := by decide +kernel
theorem d_M_add_19 : decode c_M_add 19 = .ok (.goto (-16), 3) := by decide +kernel
theorem d_M_add_22 : decode c_M_add 22 = .ok (.aload_n 0, 1) := by decide +kernel
theorem d_M_add_23 : decode c_M_add 23 = .ok (.getfield 13, 3) := by decide +kernel
theorem d_M_add_26 : decode c_M_add 26 = .ok (.iload 5, 2) := by decide +kernel
theorem d_M_add_28 : decode c_M_add 28 = .ok (.iload_n 1, 1) := by decide +kernel
theorem d_M_add_29 : decode c_M_add 29 = .ok (.iastore, 1) := by decide +kernel
theorem d_M_add_30 : decode c_M_add 30 = .ok (.aload_n 0, 1) := by decide +kernel
theorem d_M_add_31 : decode c_M_add 31 = .ok (.getfield 17, 3) := by decide +kernel
theorem d_M_add_34 : decode c_M_add 34 = .ok (.iload 5, 2) := by decide +kernel
theorem d_M_add_36 : decode c_M_add 36 = .ok (.iload_n 2, 1) := by decide +kernel
theorem d_M_add_37 : decode c_M_add 37 = .ok (.iastore, 1) := by decide +kernel
theorem d_M_add_38 : decode c_M_add 38 = .ok (.aload_n 0, 1) := by decide +kernel
theorem d_M_add_39 : decode c_M_add 39 = .ok (.getfield 23, 3) := by decide +kernel
theorem d_M_add_42 : decode c_M_add 42 = .ok (.iload 5, 2) := by decide +kernel
theorem d_M_add_44 : decode c_M_add 44 = .ok (.iconst 0, 1) := by decide +kernel
theorem d_M_add_45 : decode c_M_add 45 = .ok (.iastore, 1) := by decide +kernel
theorem d_M_add_46 : decode c_M_add 46 = .ok (.aload_n 0, 1) := by decide +kernel
theorem d_M_add_47 : decode c_M_add 47 = .ok (.getfield 26, 3) := by decide +kernel
theorem d_M_add_50 : decode c_M_add 50 = .ok (.iload 5, 2) := by decide +kernel
theorem d_M_add_52 : decode c_M_add 52 = .ok (.iconst 1, 1) := by decide +kernel
theorem d_M_add_53 : decode c_M_add 53 = .ok (.bastore, 1) := by decide +kernel
theorem d_M_add_54 : decode c_M_add 54 = .ok (.aload_n 0, 1) := by decide +kernel
theorem d_M_add_55 : decode c_M_add 55 = .ok (.getfield 20, 3) := by decide +kernel
theorem d_M_add_58 : decode c_M_add 58 = .ok (.iload 5, 2) := by decide +kernel
theorem d_M_add_60 : decode c_M_add 60 = .ok (.iconst (-1), 1) := by decide +kernel
theorem d_M_add_61 : decode c_M_add 61 = .ok (.iastore, 1) := by decide +kernel
theorem d_M_add_62 : decode c_M_add 62 = .ok (.iconst 0, 1) := by decide +kernel
theorem d_M_add_63 : decode c_M_add 63 = .ok (.istore 6, 2) := by decide +kernel
theorem d_M_add_65 : decode c_M_add 65 = .ok (.iload 6, 2) := by decide +kernel
theorem d_M_add_67 : decode c_M_add 67 = .ok (.iload_n 2, 1) := by decide +kernel
theorem d_M_add_68 : decode c_M_add 68 = .ok (.if_icmp .ge 57, 3) := by decide +kernel
theorem d_M_add_71 : decode c_M_add 71 = .ok (.aload_n 0, 1) := by decide +kernel
theorem d_M_add_72 : decode c_M_add 72 = .ok (.getfield 76, 3) := by decide +kernel
theorem d_M_add_75 : decode c_M_add 75 = .ok (.istore 7, 2) := by decide +kernel
theorem d_M_add_77 : decode c_M_add 77 = .ok (.aload_n 0, 1) := by decide +kernel
theorem d_M_add_78 : decode c_M_add 78 = .ok (.aload_n 0, 1) := by decide +kernel
theorem d_M_add_79 : decode c_M_add 79 = .ok (.getfield 39, 3) := by decide +kernel
theorem d_M_add_82 : decode c_M_add 82 = .ok (.iload 7, 2) := by decide +kernel
theorem d_M_add_84 : decode c_M_add 84 = .ok (.iaload, 1) := by decide +kernel
theorem d_M_add_85 : decode c_M_add 85 = .ok (.putfield 76, 3) := by decide +kernel
theorem d_M_add_88 : decode c_M_add 88 = .ok (.aload_n 0, 1) := by decide +kernel
theorem d_M_add_89 : decode c_M_add 89 = .ok (.getfield 36, 3) := by decide +kernel
theorem d_M_add_92 : decode c_M_add 92 = .ok (.iload 7, 2) := by decide +kernel
theorem d_M_add_94 : decode c_M_add 94 = .ok (.lload_n 3, 1) := by decide +kernel
theorem d_M_add_95 : decode c_M_add 95 = .ok (.lastore, 1) := by decide +kernel
theorem d_M_add_96 : decode c_M_add 96 = .ok (.aload_n 0, 1) := by decide +kernel
theorem d_M_add_97 : decode c_M_add 97 = .ok (.getfield 39, 3) := by decide +kernel
theorem d_M_add_100 : decode c_M_add 100 = .ok (.iload 7, 2) := by decide +kernel
theorem d_M_add_102 : decode c_M_add 102 = .ok (.aload_n 0, 1) := by decide +kernel
theorem d_M_add_103 : decode c_M_add 103 = .ok (.getfield 20, 3) := by decide +kernel
theorem d_M_add_106 : decode c_M_add 106 = .ok (.iload 5, 2) := by decide +kernel
theorem d_M_add_108 : decode c_M_add 108 = .ok (.iaload, 1) := by decide +kernel
theorem d_M_add_109 : decode c_M_add 109 = .ok (.iastore, 1) := by decide +kernel
theorem d_M_add_110 : decode c_M_add 110 = .ok (.aload_n 0, 1) := by decide +kernel
theorem d_M_add_111 : decode c_M_add 111 = .ok (.getfield 20, 3) := by decide +kernel
theorem d_M_add_114 : decode c_M_add 114 = .ok (.iload 5, 2) := by decide +kernel
theorem d_M_add_116 : decode c_M_add 116 = .ok (.iload 7, 2) := by decide +kernel
theorem d_M_add_118 : decode c_M_add 118 = .ok (.iastore, 1) := by decide +kernel
theorem d_M_add_119 : decode c_M_add 119 = .ok (.iinc 6 1, 3) := by decide +kernel
theorem d_M_add_122 : decode c_M_add 122 = .ok (.goto (-57), 3) := by decide +kernel
theorem d_M_add_125 : decode c_M_add 125 = .ok (.aload_n 0, 1) := by decide +kernel
theorem d_M_add_126 : decode c_M_add 126 = .ok (.aload_n 0, 1) := by decide +kernel
theorem d_M_add_127 : decode c_M_add 127 = .ok (.getfield 70, 3) := by decide +kernel
theorem d_M_add_130 : decode c_M_add 130 = .ok (.iload_n 1, 1) := by decide +kernel
theorem d_M_add_131 : decode c_M_add 131 = .ok (.iload_n 2, 1) := by decide +kernel
theorem d_M_add_132 : decode c_M_add 132 = .ok (.invokestatic 79, 3) := by decide +kernel
theorem d_M_add_135 : decode c_M_add 135 = .ok (.iadd, 1) := by decide +kernel
theorem d_M_add_136 : decode c_M_add 136 = .ok (.putfield 70, 3) := by decide +kernel
theorem d_M_add_139 : decode c_M_add 139 = .ok (.aload_n 0, 1) := by decide +kernel
theorem d_M_add_140 : decode c_M_add 140 = .ok (.aload_n 0, 1) := by decide +kernel
theorem d_M_add_141 : decode c_M_add 141 = .ok (.getfield 83, 3) := by decide +kernel
theorem d_M_add_144 : decode c_M_add 144 = .ok (.iconst 1, 1) := by decide +kernel
theorem d_M_add_145 : decode c_M_add 145 = .ok (.iadd, 1) := by decide +kernel
theorem d_M_add_146 : decode c_M_add 146 = .ok (.putfield 83, 3) := by decide +kernel
theorem d_M_add_149 : decode c_M_add 149 = .ok (.ldc2_w 86, 3) := by decide +kernel
theorem d_M_add_152 : decode c_M_add 152 = .ok (.iload 5, 2) := by decide +kernel
theorem d_M_add_154 : decode c_M_add 154 = .ok (.i2l, 1) := by decide +kernel
theorem d_M_add_155 : decode c_M_add 155 = .ok (.lor, 1) := by decide +kernel
theorem d_M_add_156 : decode c_M_add 156 = .ok (.lreturn, 1) := by decide +kernel
theorem d_M_drop_0 : decode c_M_drop 0 = .ok (.aload_n 0, 1) := by decide +kernel
theorem d_M_drop_1 : decode c_M_drop 1 = .ok (.getfield 20, 3) := by decide +kernel
theorem d_M_drop_4 : decode c_M_drop 4 = .ok (.iload_n 1, 1) := by decide +kernel
theorem d_M_drop_5 : decode c_M_drop 5 = .ok (.iaload, 1) := by decide +kernel
theorem d_M_drop_6 : decode c_M_drop 6 = .ok (.ifCond .lt 40, 3) := by decide +kernel
theorem d_M_drop_9 : decode c_M_drop 9 = .ok (.aload_n 0, 1) := by decide +kernel
theorem d_M_drop_10 : decode c_M_drop 10 = .ok (.getfield 20, 3) := by decide +kernel
theorem d_M_drop_13 : decode c_M_drop 13 = .ok (.iload_n 1, 1) := by decide +kernel
theorem d_M_drop_14 : decode c_M_drop 14 = .ok (.iaload, 1) := by decide +kernel
theorem d_M_drop_15 : decode c_M_drop 15 = .ok (.istore_n 2, 1) := by decide +kernel
theorem d_M_drop_16 : decode c_M_drop 16 = .ok (.aload_n 0, 1) := by decide +kernel
theorem d_M_drop_17 : decode c_M_drop 17 = .ok (.getfield 20, 3) := by decide +kernel
theorem d_M_drop_20 : decode c_M_drop 20 = .ok (.iload_n 1, 1) := by decide +kernel
theorem d_M_drop_21 : decode c_M_drop 21 = .ok (.aload_n 0, 1) := by decide +kernel
theorem d_M_drop_22 : decode c_M_drop 22 = .ok (.getfield 39, 3) := by decide +kernel
theorem d_M_drop_25 : decode c_M_drop 25 = .ok (.iload_n 2, 1) := by decide +kernel
theorem d_M_drop_26 : decode c_M_drop 26 = .ok (.iaload, 1) := by decide +kernel
theorem d_M_drop_27 : decode c_M_drop 27 = .ok (.iastore, 1) := by decide +kernel
theorem d_M_drop_28 : decode c_M_drop 28 = .ok (.aload_n 0, 1) := by decide +kernel
theorem d_M_drop_29 : decode c_M_drop 29 = .ok (.getfield 39, 3) := by decide +kernel
theorem d_M_drop_32 : decode c_M_drop 32 = .ok (.iload_n 2, 1) := by decide +kernel
theorem d_M_drop_33 : decode c_M_drop 33 = .ok (.aload_n 0, 1) := by decide +kernel
theorem d_M_drop_34 : decode c_M_drop 34 = .ok (.getfield 76, 3) := by decide +kernel
theorem d_M_drop_37 : decode c_M_drop 37 = .ok (.iastore, 1) := by decide +kernel
theorem d_M_drop_38 : decode c_M_drop 38 = .ok (.aload_n 0, 1) := by decide +kernel
theorem d_M_drop_39 : decode c_M_drop 39 = .ok (.iload_n 2, 1) := by decide +kernel
theorem d_M_drop_40 : decode c_M_drop 40 = .ok (.putfield 76, 3) := by decide +kernel
theorem d_M_drop_43 : decode c_M_drop 43 = .ok (.goto (-43), 3) := by decide +kernel
theorem d_M_drop_46 : decode c_M_drop 46 = .ok (.aload_n 0, 1) := by decide +kernel
theorem d_M_drop_47 : decode c_M_drop 47 = .ok (.getfield 26, 3) := by decide +kernel
theorem d_M_drop_50 : decode c_M_drop 50 = .ok (.iload_n 1, 1) := by decide +kernel
theorem d_M_drop_51 : decode c_M_drop 51 = .ok (.iconst 0, 1) := by decide +kernel
theorem d_M_drop_52 : decode c_M_drop 52 = .ok (.bastore, 1) := by decide +kernel
theorem d_M_drop_53 : decode c_M_drop 53 = .ok (.aload_n 0, 1) := by decide +kernel
theorem d_M_drop_54 : decode c_M_drop 54 = .ok (.aload_n 0, 1) := by decide +kernel
theorem d_M_drop_55 : decode c_M_drop 55 = .ok (.getfield 70, 3) := by decide +kernel
theorem d_M_drop_58 : decode c_M_drop 58 = .ok (.aload_n 0, 1) := by decide +kernel
theorem d_M_drop_59 : decode c_M_drop 59 = .ok (.getfield 13, 3) := by decide +kernel
theorem d_M_drop_62 : decode c_M_drop 62 = .ok (.iload_n 1, 1) := by decide +kernel
theorem d_M_drop_63 : decode c_M_drop 63 = .ok (.iaload, 1) := by decide +kernel
theorem d_M_drop_64 : decode c_M_drop 64 = .ok (.aload_n 0, 1) := by decide +kernel
theorem d_M_drop_65 : decode c_M_drop 65 = .ok (.getfield 17, 3) := by decide +kernel
theorem d_M_drop_68 : decode c_M_drop 68 = .ok (.iload_n 1, 1) := by decide +kernel
theorem d_M_drop_69 : decode c_M_drop 69 = .ok (.iaload, 1) := by decide +kernel
theorem d_M_drop_70 : decode c_M_drop 70 = .ok (.invokestatic 79, 3) := by decide +kernel
theorem d_M_drop_73 : decode c_M_drop 73 = .ok (.isub, 1) := by decide +kernel
theorem d_M_drop_74 : decode c_M_drop 74 = .ok (.putfield 70, 3) := by decide +kernel
theorem d_M_drop_77 : decode c_M_drop 77 = .ok (.aload_n 0, 1) := by decide +kernel
theorem d_M_drop_78 : decode c_M_drop 78 = .ok (.aload_n 0, 1) := by decide +kernel
theorem d_M_drop_79 : decode c_M_drop 79 = .ok (.getfield 83, 3) := by decide +kernel
theorem d_M_drop_82 : decode c_M_drop 82 = .ok (.iconst 1, 1) := by decide +kernel
theorem d_M_drop_83 : decode c_M_drop 83 = .ok (.isub, 1) := by decide +kernel
theorem d_M_drop_84 : decode c_M_drop 84 = .ok (.putfield 83, 3) := by decide +kernel
theorem d_M_drop_87 : decode c_M_drop 87 = .ok (.return_, 1) := by decide +kernel
theorem d_M_isLive_0 : decode c_M_isLive 0 = .ok (.lload_n 1, 1) := by decide +kernel
theorem d_M_isLive_1 : decode c_M_isLive 1 = .ok (.invokestatic 62, 3) := by decide +kernel
theorem d_M_isLive_4 : decode c_M_isLive 4 = .ok (.ifCond .eq 13, 3) := by decide +kernel
theorem d_M_isLive_7 : decode c_M_isLive 7 = .ok (.aload_n 0, 1) := by decide +kernel
theorem d_M_isLive_8 : decode c_M_isLive 8 = .ok (.getfield 30, 3) := by decide +kernel
theorem d_M_isLive_11 : decode c_M_isLive 11 = .ok (.lload_n 1, 1) := by decide +kernel
theorem d_M_isLive_12 : decode c_M_isLive 12 = .ok (.l2i, 1) := by decide +kernel
theorem d_M_isLive_13 : decode c_M_isLive 13 = .ok (.baload, 1) := by decide +kernel
theorem d_M_isLive_14 : decode c_M_isLive 14 = .ok (.ifCond .eq 7, 3) := by decide +kernel
theorem d_M_isLive_17 : decode c_M_isLive 17 = .ok (.iconst 1, 1) := by decide +kernel
theorem d_M_isLive_18 : decode c_M_isLive 18 = .ok (.goto 4, 3) := by decide +kernel
theorem d_M_isLive_21 : decode c_M_isLive 21 = .ok (.iconst 0, 1) := by decide +kernel
theorem d_M_isLive_22 : decode c_M_isLive 22 = .ok (.ireturn, 1) := by decide +kernel
theorem d_M_mark_0 : decode c_M_mark 0 = .ok (.aload_n 0, 1) := by decide +kernel
theorem d_M_mark_1 : decode c_M_mark 1 = .ok (.lload_n 1, 1) := by decide +kernel
theorem d_M_mark_2 : decode c_M_mark 2 = .ok (.invokevirtual 88, 3) := by decide +kernel
theorem d_M_mark_5 : decode c_M_mark 5 = .ok (.ifCond .eq 4, 3) := by decide +kernel
theorem d_M_mark_8 : decode c_M_mark 8 = .ok (.return_, 1) := by decide +kernel
theorem d_M_mark_9 : decode c_M_mark 9 = .ok (.aload_n 0, 1) := by decide +kernel
theorem d_M_mark_10 : decode c_M_mark 10 = .ok (.getfield 30, 3) := by decide +kernel
theorem d_M_mark_13 : decode c_M_mark 13 = .ok (.lload_n 1, 1) := by decide +kernel
theorem d_M_mark_14 : decode c_M_mark 14 = .ok (.l2i, 1) := by decide +kernel
theorem d_M_mark_15 : decode c_M_mark 15 = .ok (.iconst 1, 1) := by decide +kernel
theorem d_M_mark_16 : decode c_M_mark 16 = .ok (.bastore, 1) := by decide +kernel
theorem d_M_mark_17 : decode c_M_mark 17 = .ok (.aload_n 0, 1) := by decide +kernel
theorem d_M_mark_18 : decode c_M_mark 18 = .ok (.getfield 33, 3) := by decide +kernel
theorem d_M_mark_21 : decode c_M_mark 21 = .ok (.aload_n 0, 1) := by decide +kernel
theorem d_M_mark_22 : decode c_M_mark 22 = .ok (.getfield 91, 3) := by decide +kernel
theorem d_M_mark_25 : decode c_M_mark 25 = .ok (.lload_n 1, 1) := by decide +kernel
theorem d_M_mark_26 : decode c_M_mark 26 = .ok (.l2i, 1) := by decide +kernel
theorem d_M_mark_27 : decode c_M_mark 27 = .ok (.iastore, 1) := by decide +kernel
theorem d_M_mark_28 : decode c_M_mark 28 = .ok (.aload_n 0, 1) := by decide +kernel
theorem d_M_mark_29 : decode c_M_mark 29 = .ok (.aload_n 0, 1) := by decide +kernel
theorem d_M_mark_30 : decode c_M_mark 30 = .ok (.getfield 91, 3) := by decide +kernel
theorem d_M_mark_33 : decode c_M_mark 33 = .ok (.iconst 1, 1) := by decide +kernel
theorem d_M_mark_34 : decode c_M_mark 34 = .ok (.iadd, 1) := by decide +kernel
theorem d_M_mark_35 : decode c_M_mark 35 = .ok (.putfield 91, 3) := by decide +kernel
theorem d_M_mark_38 : decode c_M_mark 38 = .ok (.return_, 1) := by decide +kernel
theorem d_M_number_0 : decode c_M_number 0 = .ok (.iload_n 1, 1) := by decide +kernel
theorem d_M_number_1 : decode c_M_number 1 = .ok (.invokestatic 137, 3) := by decide +kernel
theorem d_M_number_4 : decode c_M_number 4 = .ok (.ifCond .ne 5, 3) := by decide +kernel
theorem d_M_number_7 : decode c_M_number 7 = .ok (.iconst 0, 1) := by decide +kernel
theorem d_M_number_8 : decode c_M_number 8 = .ok (.ireturn, 1) := by decide +kernel
theorem d_M_number_9 : decode c_M_number 9 = .ok (.aload_n 0, 1) := by decide +kernel
theorem d_M_number_10 : decode c_M_number 10 = .ok (.getfield 7, 3) := by decide +kernel
theorem d_M_number_13 : decode c_M_number 13 = .ok (.iload_n 1, 1) := by decide +kernel
theorem d_M_number_14 : decode c_M_number 14 = .ok (.iload_n 2, 1) := by decide +kernel
theorem d_M_number_15 : decode c_M_number 15 = .ok (.i2l, 1) := by decide +kernel
theorem d_M_number_16 : decode c_M_number 16 = .ok (.ldc2_w 141, 3) := by decide +kernel
theorem d_M_number_19 : decode c_M_number 19 = .ok (.land, 1) := by decide +kernel
theorem d_M_number_20 : decode c_M_number 20 = .ok (.lastore, 1) := by decide +kernel
theorem d_M_number_21 : decode c_M_number 21 = .ok (.iconst 1, 1) := by decide +kernel
theorem d_M_number_22 : decode c_M_number 22 = .ok (.ireturn, 1) := by decide +kernel
theorem d_M_copy_0 : decode c_M_copy 0 = .ok (.iload_n 1, 1) := by decide +kernel
theorem d_M_copy_1 : decode c_M_copy 1 = .ok (.invokestatic 137, 3) := by decide +kernel
theorem d_M_copy_4 : decode c_M_copy 4 = .ok (.ifCond .eq 15, 3) := by decide +kernel
theorem d_M_copy_7 : decode c_M_copy 7 = .ok (.iload_n 2, 1) := by decide +kernel
theorem d_M_copy_8 : decode c_M_copy 8 = .ok (.iconst (-1), 1) := by decide +kernel
theorem d_M_copy_9 : decode c_M_copy 9 = .ok (.if_icmp .eq 12, 3) := by decide +kernel
theorem d_M_copy_12 : decode c_M_copy 12 = .ok (.iload_n 2, 1) := by decide +kernel
theorem d_M_copy_13 : decode c_M_copy 13 = .ok (.invokestatic 137, 3) := by decide +kernel
theorem d_M_copy_16 : decode c_M_copy 16 = .ok (.ifCond .ne 5, 3) := by decide +kernel
theorem d_M_copy_19 : decode c_M_copy 19 = .ok (.iconst 0, 1) := by decide +kernel
theorem d_M_copy_20 : decode c_M_copy 20 = .ok (.ireturn, 1) := by decide +kernel
theorem d_M_copy_21 : decode c_M_copy 21 = .ok (.aload_n 0, 1) := by decide +kernel
theorem d_M_copy_22 : decode c_M_copy 22 = .ok (.getfield 7, 3) := by decide +kernel
theorem d_M_copy_25 : decode c_M_copy 25 = .ok (.iload_n 1, 1) := by decide +kernel
theorem d_M_copy_26 : decode c_M_copy 26 = .ok (.iload_n 2, 1) := by decide +kernel
theorem d_M_copy_27 : decode c_M_copy 27 = .ok (.iconst (-1), 1) := by decide +kernel
theorem d_M_copy_28 : decode c_M_copy 28 = .ok (.if_icmp .ne 9, 3) := by decide +kernel
theorem d_M_copy_31 : decode c_M_copy 31 = .ok (.ldc2_w 58, 3) := by decide +kernel
theorem d_M_copy_34 : decode c_M_copy 34 = .ok (.goto 9, 3) := by decide +kernel
theorem d_M_copy_37 : decode c_M_copy 37 = .ok (.aload_n 0, 1) := by decide +kernel
theorem d_M_copy_38 : decode c_M_copy 38 = .ok (.getfield 7, 3) := by decide +kernel
theorem d_M_copy_41 : decode c_M_copy 41 = .ok (.iload_n 2, 1) := by decide +kernel
theorem d_M_copy_42 : decode c_M_copy 42 = .ok (.laload, 1) := by decide +kernel
theorem d_M_copy_43 : decode c_M_copy 43 = .ok (.lastore, 1) := by decide +kernel
theorem d_M_copy_44 : decode c_M_copy 44 = .ok (.iconst 1, 1) := by decide +kernel
theorem d_M_copy_45 : decode c_M_copy 45 = .ok (.ireturn, 1) := by decide +kernel
theorem d_M_shown_0 : decode c_M_shown 0 = .ok (.aload_n 0, 1) := by decide +kernel
theorem d_M_shown_1 : decode c_M_shown 1 = .ok (.getfield 13, 3) := by decide +kernel
theorem d_M_shown_4 : decode c_M_shown 4 = .ok (.lload_n 1, 1) := by decide +kernel
theorem d_M_shown_5 : decode c_M_shown 5 = .ok (.l2i, 1) := by decide +kernel
theorem d_M_shown_6 : decode c_M_shown 6 = .ok (.iaload, 1) := by decide +kernel
theorem d_M_shown_7 : decode c_M_shown 7 = .ok (.iconst 4, 1) := by decide +kernel
theorem d_M_shown_8 : decode c_M_shown 8 = .ok (.if_icmp .ne 7, 3) := by decide +kernel
theorem d_M_shown_11 : decode c_M_shown 11 = .ok (.iconst 0, 1) := by decide +kernel
theorem d_M_shown_12 : decode c_M_shown 12 = .ok (.goto 10, 3) := by decide +kernel
theorem d_M_shown_15 : decode c_M_shown 15 = .ok (.aload_n 0, 1) := by decide +kernel
theorem d_M_shown_16 : decode c_M_shown 16 = .ok (.getfield 17, 3) := by decide +kernel
theorem d_M_shown_19 : decode c_M_shown 19 = .ok (.lload_n 1, 1) := by decide +kernel
theorem d_M_shown_20 : decode c_M_shown 20 = .ok (.l2i, 1) := by decide +kernel
theorem d_M_shown_21 : decode c_M_shown 21 = .ok (.iaload, 1) := by decide +kernel
theorem d_M_shown_22 : decode c_M_shown 22 = .ok (.ireturn, 1) := by decide +kernel
theorem d_M_get_0 : decode c_M_get 0 = .ok (.iload_n 1, 1) := by decide +kernel
theorem d_M_get_1 : decode c_M_get 1 = .ok (.invokestatic 137, 3) := by decide +kernel
theorem d_M_get_4 : decode c_M_get 4 = .ok (.ifCond .eq 40, 3) := by decide +kernel
theorem d_M_get_7 : decode c_M_get 7 = .ok (.iload_n 2, 1) := by decide +kernel
theorem d_M_get_8 : decode c_M_get 8 = .ok (.invokestatic 137, 3) := by decide +kernel
theorem d_M_get_11 : decode c_M_get 11 = .ok (.ifCond .eq 33, 3) := by decide +kernel
theorem d_M_get_14 : decode c_M_get 14 = .ok (.aload_n 0, 1) := by decide +kernel
theorem d_M_get_15 : decode c_M_get 15 = .ok (.getfield 7, 3) := by decide +kernel
theorem d_M_get_18 : decode c_M_get 18 = .ok (.iload_n 2, 1) := by decide +kernel
theorem d_M_get_19 : decode c_M_get 19 = .ok (.laload, 1) := by decide +kernel
theorem d_M_get_20 : decode c_M_get 20 = .ok (.invokestatic 62, 3) := by decide +kernel
theorem d_M_get_23 : decode c_M_get 23 = .ok (.ifCond .eq 21, 3) := by decide +kernel
theorem d_M_get_26 : decode c_M_get 26 = .ok (.iload_n 3, 1) := by decide +kernel
theorem d_M_get_27 : decode c_M_get 27 = .ok (.ifCond .lt 17, 3) := by decide +kernel
theorem d_M_get_30 : decode c_M_get 30 = .ok (.iload_n 3, 1) := by decide +kernel
theorem d_M_get_31 : decode c_M_get 31 = .ok (.aload_n 0, 1) := by decide +kernel
theorem d_M_get_32 : decode c_M_get 32 = .ok (.aload_n 0, 1) := by decide +kernel
theorem d_M_get_33 : decode c_M_get 33 = .ok (.getfield 7, 3) := by decide +kernel
theorem d_M_get_36 : decode c_M_get 36 = .ok (.iload_n 2, 1) := by decide +kernel
theorem d_M_get_37 : decode c_M_get 37 = .ok (.laload, 1) := by decide +kernel
theorem d_M_get_38 : decode c_M_get 38 = .ok (.invokevirtual 150, 3) := by decide +kernel
theorem d_M_get_41 : decode c_M_get 41 = .ok (.if_icmp .lt 5, 3) := by decide +kernel
theorem d_M_get_44 : decode c_M_get 44 = .ok (.iconst 0, 1) := by decide +kernel
theorem d_M_get_45 : decode c_M_get 45 = .ok (.ireturn, 1) := by decide +kernel
theorem d_M_get_46 : decode c_M_get 46 = .ok (.aload_n 0, 1) := by decide +kernel
theorem d_M_get_47 : decode c_M_get 47 = .ok (.getfield 7, 3) := by decide +kernel
theorem d_M_get_50 : decode c_M_get 50 = .ok (.iload_n 1, 1) := by decide +kernel
theorem d_M_get_51 : decode c_M_get 51 = .ok (.aload_n 0, 1) := by decide +kernel
theorem d_M_get_52 : decode c_M_get 52 = .ok (.aload_n 0, 1) := by decide +kernel
theorem d_M_get_53 : decode c_M_get 53 = .ok (.getfield 7, 3) := by decide +kernel
theorem d_M_get_56 : decode c_M_get 56 = .ok (.iload_n 2, 1) := by decide +kernel
theorem d_M_get_57 : decode c_M_get 57 = .ok (.laload, 1) := by decide +kernel
theorem d_M_get_58 : decode c_M_get 58 = .ok (.iload_n 3, 1) := by decide +kernel
theorem d_M_get_59 : decode c_M_get 59 = .ok (.invokevirtual 98, 3) := by decide +kernel
theorem d_M_get_62 : decode c_M_get 62 = .ok (.lastore, 1) := by decide +kernel
theorem d_M_get_63 : decode c_M_get 63 = .ok (.iconst 1, 1) := by decide +kernel
theorem d_M_get_64 : decode c_M_get 64 = .ok (.ireturn, 1) := by decide +kernel
theorem d_M_set_0 : decode c_M_set 0 = .ok (.iload_n 1, 1) := by decide +kernel
theorem d_M_set_1 : decode c_M_set 1 = .ok (.invokestatic 137, 3) := by decide +kernel
theorem d_M_set_4 : decode c_M_set 4 = .ok (.ifCond .eq 58, 3) := by decide +kernel
theorem d_M_set_7 : decode c_M_set 7 = .ok (.iload_n 3, 1) := by decide +kernel
theorem d_M_set_8 : decode c_M_set 8 = .ok (.invokestatic 137, 3) := by decide +kernel
theorem d_M_set_11 : decode c_M_set 11 = .ok (.ifCond .eq 51, 3) := by decide +kernel
theorem d_M_set_14 : decode c_M_set 14 = .ok (.aload_n 0, 1) := by decide +kernel
theorem d_M_set_15 : decode c_M_set 15 = .ok (.aload_n 0, 1) := by decide +kernel
theorem d_M_set_16 : decode c_M_set 16 = .ok (.getfield 7, 3) := by decide +kernel
theorem d_M_set_19 : decode c_M_set 19 = .ok (.iload_n 1, 1) := by decide +kernel
theorem d_M_set_20 : decode c_M_set 20 = .ok (.laload, 1) := by decide +kernel
theorem d_M_set_21 : decode c_M_set 21 = .ok (.iconst 0, 1) := by decide +kernel
theorem d_M_set_22 : decode c_M_set 22 = .ok (.invokevirtual 154, 3) := by decide +kernel
theorem d_M_set_25 : decode c_M_set 25 = .ok (.ifCond .ne 17, 3) := by decide +kernel
theorem d_M_set_28 : decode c_M_set 28 = .ok (.aload_n 0, 1) := by decide +kernel
theorem d_M_set_29 : decode c_M_set 29 = .ok (.aload_n 0, 1) := by decide +kernel
theorem d_M_set_30 : decode c_M_set 30 = .ok (.getfield 7, 3) := by decide +kernel
theorem d_M_set_33 : decode c_M_set 33 = .ok (.iload_n 1, 1) := by decide +kernel
theorem d_M_set_34 : decode c_M_set 34 = .ok (.laload, 1) := by decide +kernel
theorem d_M_set_35 : decode c_M_set 35 = .ok (.iconst 1, 1) := by decide +kernel
theorem d_M_set_36 : decode c_M_set 36 = .ok (.invokevirtual 154, 3) := by decide +kernel
theorem d_M_set_39 : decode c_M_set 39 = .ok (.ifCond .eq 23, 3) := by decide +kernel
theorem d_M_set_42 : decode c_M_set 42 = .ok (.iload_n 2, 1) := by decide +kernel
theorem d_M_set_43 : decode c_M_set 43 = .ok (.ifCond .lt 19, 3) := by decide +kernel
theorem d_M_set_46 : decode c_M_set 46 = .ok (.iload_n 2, 1) := by decide +kernel
theorem d_M_set_47 : decode c_M_set 47 = .ok (.aload_n 0, 1) := by decide +kernel
theorem d_M_set_48 : decode c_M_set 48 = .ok (.getfield 17, 3) := by decide +kernel
theorem d_M_set_51 : decode c_M_set 51 = .ok (.aload_n 0, 1) := by decide +kernel
theorem d_M_set_52 : decode c_M_set 52 = .ok (.getfield 7, 3) := by decide +kernel
theorem d_M_set_55 : decode c_M_set 55 = .ok (.iload_n 1, 1) := by decide +kernel
theorem d_M_set_56 : decode c_M_set 56 = .ok (.laload, 1) := by decide +kernel
theorem d_M_set_57 : decode c_M_set 57 = .ok (.l2i, 1) := by decide +kernel
theorem d_M_set_58 : decode c_M_set 58 = .ok (.iaload, 1) := by decide +kernel
theorem d_M_set_59 : decode c_M_set 59 = .ok (.if_icmp .lt 5, 3) := by decide +kernel
theorem d_M_set_62 : decode c_M_set 62 = .ok (.iconst 0, 1) := by decide +kernel
theorem d_M_set_63 : decode c_M_set 63 = .ok (.ireturn, 1) := by decide +kernel
theorem d_M_set_64 : decode c_M_set 64 = .ok (.aload_n 0, 1) := by decide +kernel
theorem d_M_set_65 : decode c_M_set 65 = .ok (.aload_n 0, 1) := by decide +kernel
theorem d_M_set_66 : decode c_M_set 66 = .ok (.getfield 7, 3) := by decide +kernel
theorem d_M_set_69 : decode c_M_set 69 = .ok (.iload_n 1, 1) := by decide +kernel
theorem d_M_set_70 : decode c_M_set 70 = .ok (.laload, 1) := by decide +kernel
theorem d_M_set_71 : decode c_M_set 71 = .ok (.iload_n 2, 1) := by decide +kernel
theorem d_M_set_72 : decode c_M_set 72 = .ok (.aload_n 0, 1) := by decide +kernel
theorem d_M_set_73 : decode c_M_set 73 = .ok (.getfield 7, 3) := by decide +kernel
theorem d_M_set_76 : decode c_M_set 76 = .ok (.iload_n 3, 1) := by decide +kernel
theorem d_M_set_77 : decode c_M_set 77 = .ok (.laload, 1) := by decide +kernel
theorem d_M_set_78 : decode c_M_set 78 = .ok (.invokevirtual 120, 3) := by decide +kernel
theorem d_M_set_81 : decode c_M_set 81 = .ok (.iconst 1, 1) := by decide +kernel
theorem d_M_set_82 : decode c_M_set 82 = .ok (.ireturn, 1) := by decide +kernel
theorem d_M_entryOf_0 : decode c_M_entryOf 0 = .ok (.aload_n 0, 1) := by decide +kernel
theorem d_M_entryOf_1 : decode c_M_entryOf 1 = .ok (.lload_n 1, 1) := by decide +kernel
theorem d_M_entryOf_2 : decode c_M_entryOf 2 = .ok (.iconst 0, 1) := by decide +kernel
theorem d_M_entryOf_3 : decode c_M_entryOf 3 = .ok (.invokevirtual 98, 3) := by decide +kernel
theorem d_M_entryOf_6 : decode c_M_entryOf 6 = .ok (.lstore 5, 2) := by decide +kernel
theorem d_M_entryOf_8 : decode c_M_entryOf 8 = .ok (.lload 5, 2) := by decide +kernel
theorem d_M_entryOf_10 : decode c_M_entryOf 10 = .ok (.ldc2_w 102, 3) := by decide +kernel
theorem d_M_entryOf_13 : decode c_M_entryOf 13 = .ok (.lcmp, 1) := by decide +kernel
theorem d_M_entryOf_14 : decode c_M_entryOf 14 = .ok (.ifCond .eq 27, 3) := by decide +kernel
theorem d_M_entryOf_17 : decode c_M_entryOf 17 = .ok (.aload_n 0, 1) := by decide +kernel
theorem d_M_entryOf_18 : decode c_M_entryOf 18 = .ok (.lload 5, 2) := by decide +kernel
theorem d_M_entryOf_20 : decode c_M_entryOf 20 = .ok (.iconst 0, 1) := by decide +kernel
theorem d_M_entryOf_21 : decode c_M_entryOf 21 = .ok (.invokevirtual 98, 3) := by decide +kernel
theorem d_M_entryOf_24 : decode c_M_entryOf 24 = .ok (.lload_n 3, 1) := by decide +kernel
theorem d_M_entryOf_25 : decode c_M_entryOf 25 = .ok (.lcmp, 1) := by decide +kernel
theorem d_M_entryOf_26 : decode c_M_entryOf 26 = .ok (.ifCond .eq 15, 3) := by decide +kernel
theorem d_M_entryOf_29 : decode c_M_entryOf 29 = .ok (.aload_n 0, 1) := by decide +kernel
theorem d_M_entryOf_30 : decode c_M_entryOf 30 = .ok (.lload 5, 2) := by decide +kernel
theorem d_M_entryOf_32 : decode c_M_entryOf 32 = .ok (.iconst 2, 1) := by decide +kernel
theorem d_M_entryOf_33 : decode c_M_entryOf 33 = .ok (.invokevirtual 98, 3) := by decide +kernel
theorem d_M_entryOf_36 : decode c_M_entryOf 36 = .ok (.lstore 5, 2) := by decide +kernel
theorem d_M_entryOf_38 : decode c_M_entryOf 38 = .ok (.goto (-30), 3) := by decide +kernel
theorem d_M_entryOf_41 : decode c_M_entryOf 41 = .ok (.lload 5, 2) := by decide +kernel
theorem d_M_entryOf_43 : decode c_M_entryOf 43 = .ok (.lreturn, 1) := by decide +kernel
theorem d_M_find_0 : decode c_M_find 0 = .ok (.iload_n 1, 1) := by decide +kernel
theorem d_M_find_1 : decode c_M_find 1 = .ok (.invokestatic 137, 3) := by decide +kernel
theorem d_M_find_4 : decode c_M_find 4 = .ok (.ifCond .eq 31, 3) := by decide +kernel
theorem d_M_find_7 : decode c_M_find 7 = .ok (.iload_n 2, 1) := by decide +kernel
theorem d_M_find_8 : decode c_M_find 8 = .ok (.invokestatic 137, 3) := by decide +kernel
theorem d_M_find_11 : decode c_M_find 11 = .ok (.ifCond .eq 24, 3) := by decide +kernel
theorem d_M_find_14 : decode c_M_find 14 = .ok (.iload_n 3, 1) := by decide +kernel
theorem d_M_find_15 : decode c_M_find 15 = .ok (.invokestatic 137, 3) := by decide +kernel
theorem d_M_find_18 : decode c_M_find 18 = .ok (.ifCond .eq 17, 3) := by decide +kernel
theorem d_M_find_21 : decode c_M_find 21 = .ok (.aload_n 0, 1) := by decide +kernel
theorem d_M_find_22 : decode c_M_find 22 = .ok (.aload_n 0, 1) := by decide +kernel
theorem d_M_find_23 : decode c_M_find 23 = .ok (.getfield 7, 3) := by decide +kernel
theorem d_M_find_26 : decode c_M_find 26 = .ok (.iload_n 2, 1) := by decide +kernel
theorem d_M_find_27 : decode c_M_find 27 = .ok (.laload, 1) := by decide +kernel
theorem d_M_find_28 : decode c_M_find 28 = .ok (.iconst 4, 1) := by decide +kernel
theorem d_M_find_29 : decode c_M_find 29 = .ok (.invokevirtual 154, 3) := by decide +kernel
theorem d_M_find_32 : decode c_M_find 32 = .ok (.ifCond .ne 5, 3) := by decide +kernel
theorem d_M_find_35 : decode c_M_find 35 = .ok (.iconst (-1), 1) := by decide +kernel
theorem d_M_find_36 : decode c_M_find 36 = .ok (.ireturn, 1) := by decide +kernel
theorem d_M_find_37 : decode c_M_find 37 = .ok (.aload_n 0, 1) := by decide +kernel
theorem d_M_find_38 : decode c_M_find 38 = .ok (.aload_n 0, 1) := by decide +kernel
theorem d_M_find_39 : decode c_M_find 39 = .ok (.getfield 7, 3) := by decide +kernel
theorem d_M_find_42 : decode c_M_find 42 = .ok (.iload_n 2, 1) := by decide +kernel
theorem d_M_find_43 : decode c_M_find 43 = .ok (.laload, 1) := by decide +kernel
theorem d_M_find_44 : decode c_M_find 44 = .ok (.aload_n 0, 1) := by decide +kernel
theorem d_M_find_45 : decode c_M_find 45 = .ok (.getfield 7, 3) := by decide +kernel
theorem d_M_find_48 : decode c_M_find 48 = .ok (.iload_n 3, 1) := by decide +kernel
theorem d_M_find_49 : decode c_M_find 49 = .ok (.laload, 1) := by decide +kernel
theorem d_M_find_50 : decode c_M_find 50 = .ok (.invokevirtual 158, 3) := by decide +kernel
theorem d_M_find_53 : decode c_M_find 53 = .ok (.lstore 4, 2) := by decide +kernel
theorem d_M_find_55 : decode c_M_find 55 = .ok (.lload 4, 2) := by decide +kernel
theorem d_M_find_57 : decode c_M_find 57 = .ok (.ldc2_w 102, 3) := by decide +kernel
theorem d_M_find_60 : decode c_M_find 60 = .ok (.lcmp, 1) := by decide +kernel
theorem d_M_find_61 : decode c_M_find 61 = .ok (.ifCond .ne 5, 3) := by decide +kernel
theorem d_M_find_64 : decode c_M_find 64 = .ok (.iconst 0, 1) := by decide +kernel
theorem d_M_find_65 : decode c_M_find 65 = .ok (.ireturn, 1) := by decide +kernel
theorem d_M_find_66 : decode c_M_find 66 = .ok (.aload_n 0, 1) := by decide +kernel
theorem d_M_find_67 : decode c_M_find 67 = .ok (.getfield 7, 3) := by decide +kernel
theorem d_M_find_70 : decode c_M_find 70 = .ok (.iload_n 1, 1) := by decide +kernel
theorem d_M_find_71 : decode c_M_find 71 = .ok (.aload_n 0, 1) := by decide +kernel
theorem d_M_find_72 : decode c_M_find 72 = .ok (.lload 4, 2) := by decide +kernel
theorem d_M_find_74 : decode c_M_find 74 = .ok (.iconst 1, 1) := by decide +kernel
theorem d_M_find_75 : decode c_M_find 75 = .ok (.invokevirtual 98, 3) := by decide +kernel
theorem d_M_find_78 : decode c_M_find 78 = .ok (.lastore, 1) := by decide +kernel
theorem d_M_find_79 : decode c_M_find 79 = .ok (.iconst 1, 1) := by decide +kernel
theorem d_M_find_80 : decode c_M_find 80 = .ok (.ireturn, 1) := by decide +kernel
theorem d_M_register_0 : decode c_M_register 0 = .ok (.iload_n 1, 1) := by decide +kernel
theorem d_M_register_1 : decode c_M_register 1 = .ok (.invokestatic 137, 3) := by decide +kernel
theorem d_M_register_4 : decode c_M_register 4 = .ok (.ifCond .eq 36, 3) := by decide +kernel
theorem d_M_register_7 : decode c_M_register 7 = .ok (.iload_n 2, 1) := by decide +kernel
theorem d_M_register_8 : decode c_M_register 8 = .ok (.invokestatic 137, 3) := by decide +kernel
theorem d_M_register_11 : decode c_M_register 11 = .ok (.ifCond .eq 29, 3) := by decide +kernel
theorem d_M_register_14 : decode c_M_register 14 = .ok (.aload_n 0, 1) := by decide +kernel
theorem d_M_register_15 : decode c_M_register 15 = .ok (.getfield 7, 3) := by decide +kernel
theorem d_M_register_18 : decode c_M_register 18 = .ok (.iload_n 1, 1) := by decide +kernel
theorem d_M_register_19 : decode c_M_register 19 = .ok (.laload, 1) := by decide +kernel
theorem d_M_register_20 : decode c_M_register 20 = .ok (.invokestatic 62, 3) := by decide +kernel
theorem d_M_register_23 : decode c_M_register 23 = .ok (.ifCond .eq 17, 3) := by decide +kernel
theorem d_M_register_26 : decode c_M_register 26 = .ok (.aload_n 0, 1) := by decide +kernel
theorem d_M_register_27 : decode c_M_register 27 = .ok (.getfield 107, 3) := by decide +kernel
theorem d_M_register_30 : decode c_M_register 30 = .ok (.aload_n 0, 1) := by decide +kernel
theorem d_M_register_31 : decode c_M_register 31 = .ok (.getfield 113, 3) := by decide +kernel
theorem d_M_register_34 : decode c_M_register 34 = .ok (.iadd, 1) := by decide +kernel
theorem d_M_register_35 : decode c_M_register 35 = .ok (.bipush 60, 2) := by decide +kernel
theorem d_M_register_37 : decode c_M_register 37 = .ok (.if_icmp .ne 5, 3) := by decide +kernel
theorem d_M_register_40 : decode c_M_register 40 = .ok (.iconst 0, 1) := by decide +kernel
theorem d_M_register_41 : decode c_M_register 41 = .ok (.ireturn, 1) := by decide +kernel
theorem d_M_register_42 : decode c_M_register 42 = .ok (.aload_n 0, 1) := by decide +kernel
theorem d_M_register_43 : decode c_M_register 43 = .ok (.getfield 42, 3) := by decide +kernel
theorem d_M_register_46 : decode c_M_register 46 = .ok (.aload_n 0, 1) := by decide +kernel
theorem d_M_register_47 : decode c_M_register 47 = .ok (.getfield 107, 3) := by decide +kernel
theorem d_M_register_50 : decode c_M_register 50 = .ok (.aload_n 0, 1) := by decide +kernel
theorem d_M_register_51 : decode c_M_register 51 = .ok (.getfield 7, 3) := by decide +kernel
theorem d_M_register_54 : decode c_M_register 54 = .ok (.iload_n 1, 1) := by decide +kernel
theorem d_M_register_55 : decode c_M_register 55 = .ok (.laload, 1) := by decide +kernel
theorem d_M_register_56 : decode c_M_register 56 = .ok (.lastore, 1) := by decide +kernel
theorem d_M_register_57 : decode c_M_register 57 = .ok (.aload_n 0, 1) := by decide +kernel
theorem d_M_register_58 : decode c_M_register 58 = .ok (.getfield 45, 3) := by decide +kernel
theorem d_M_register_61 : decode c_M_register 61 = .ok (.aload_n 0, 1) := by decide +kernel
theorem d_M_register_62 : decode c_M_register 62 = .ok (.getfield 107, 3) := by decide +kernel
theorem d_M_register_65 : decode c_M_register 65 = .ok (.aload_n 0, 1) := by decide +kernel
theorem d_M_register_66 : decode c_M_register 66 = .ok (.getfield 7, 3) := by decide +kernel
theorem d_M_register_69 : decode c_M_register 69 = .ok (.iload_n 2, 1) := by decide +kernel
theorem d_M_register_70 : decode c_M_register 70 = .ok (.laload, 1) := by decide +kernel
theorem d_M_register_71 : decode c_M_register 71 = .ok (.lastore, 1) := by decide +kernel
theorem d_M_register_72 : decode c_M_register 72 = .ok (.aload_n 0, 1) := by decide +kernel
theorem d_M_register_73 : decode c_M_register 73 = .ok (.aload_n 0, 1) := by decide +kernel
theorem d_M_register_74 : decode c_M_register 74 = .ok (.getfield 107, 3) := by decide +kernel
theorem d_M_register_77 : decode c_M_register 77 = .ok (.iconst 1, 1) := by decide +kernel
theorem d_M_register_78 : decode c_M_register 78 = .ok (.iadd, 1) := by decide +kernel
theorem d_M_register_79 : decode c_M_register 79 = .ok (.putfield 107, 3) := by decide +kernel
theorem d_M_register_82 : decode c_M_register 82 = .ok (.iconst 1, 1) := by decide +kernel
theorem d_M_register_83 : decode c_M_register 83 = .ok (.ireturn, 1) := by decide +kernel
theorem d_M_next_0 : decode c_M_next 0 = .ok (.aload_n 0, 1) := by decide +kernel
theorem d_M_next_1 : decode c_M_next 1 = .ok (.getfield 113, 3) := by decide +kernel
theorem d_M_next_4 : decode c_M_next 4 = .ok (.ifCond .eq 22, 3) := by decide +kernel
theorem d_M_next_7 : decode c_M_next 7 = .ok (.iload_n 1, 1) := by decide +kernel
theorem d_M_next_8 : decode c_M_next 8 = .ok (.invokestatic 137, 3) := by decide +kernel
theorem d_M_next_11 : decode c_M_next 11 = .ok (.ifCond .eq 15, 3) := by decide +kernel
theorem d_M_next_14 : decode c_M_next 14 = .ok (.iload_n 2, 1) := by decide +kernel
theorem d_M_next_15 : decode c_M_next 15 = .ok (.invokestatic 137, 3) := by decide +kernel
theorem d_M_next_18 : decode c_M_next 18 = .ok (.ifCond .eq 8, 3) := by decide +kernel
theorem d_M_next_21 : decode c_M_next 21 = .ok (.iload_n 1, 1) := by decide +kernel
theorem d_M_next_22 : decode c_M_next 22 = .ok (.iload_n 2, 1) := by decide +kernel
theorem d_M_next_23 : decode c_M_next 23 = .ok (.if_icmp .ne 5, 3) := by decide +kernel
theorem d_M_next_26 : decode c_M_next 26 = .ok (.iconst 0, 1) := by decide +kernel
theorem d_M_next_27 : decode c_M_next 27 = .ok (.ireturn, 1) := by decide +kernel
theorem d_M_next_28 : decode c_M_next 28 = .ok (.aload_n 0, 1) := by decide +kernel
theorem d_M_next_29 : decode c_M_next 29 = .ok (.getfield 7, 3) := by decide +kernel
theorem d_M_next_32 : decode c_M_next 32 = .ok (.iload_n 1, 1) := by decide +kernel
theorem d_M_next_33 : decode c_M_next 33 = .ok (.aload_n 0, 1) := by decide +kernel
theorem d_M_next_34 : decode c_M_next 34 = .ok (.getfield 48, 3) := by decide +kernel
theorem d_M_next_37 : decode c_M_next 37 = .ok (.iconst 0, 1) := by decide +kernel
theorem d_M_next_38 : decode c_M_next 38 = .ok (.laload, 1) := by decide +kernel
theorem d_M_next_39 : decode c_M_next 39 = .ok (.lastore, 1) := by decide +kernel
theorem d_M_next_40 : decode c_M_next 40 = .ok (.aload_n 0, 1) := by decide +kernel
theorem d_M_next_41 : decode c_M_next 41 = .ok (.getfield 7, 3) := by decide +kernel
theorem d_M_next_44 : decode c_M_next 44 = .ok (.iload_n 2, 1) := by decide +kernel
theorem d_M_next_45 : decode c_M_next 45 = .ok (.aload_n 0, 1) := by decide +kernel
theorem d_M_next_46 : decode c_M_next 46 = .ok (.getfield 51, 3) := by decide +kernel
theorem d_M_next_49 : decode c_M_next 49 = .ok (.iconst 0, 1) := by decide +kernel
theorem d_M_next_50 : decode c_M_next 50 = .ok (.laload, 1) := by decide +kernel
theorem d_M_next_51 : decode c_M_next 51 = .ok (.lastore, 1) := by decide +kernel
theorem d_M_next_52 : decode c_M_next 52 = .ok (.aload_n 0, 1) := by decide +kernel
theorem d_M_next_53 : decode c_M_next 53 = .ok (.aload_n 0, 1) := by decide +kernel
theorem d_M_next_54 : decode c_M_next 54 = .ok (.getfield 113, 3) := by decide +kernel
theorem d_M_next_57 : decode c_M_next 57 = .ok (.iconst 1, 1) := by decide +kernel
theorem d_M_next_58 : decode c_M_next 58 = .ok (.isub, 1) := by decide +kernel
theorem d_M_next_59 : decode c_M_next 59 = .ok (.putfield 113, 3) := by decide +kernel
theorem d_M_next_62 : decode c_M_next 62 = .ok (.iconst 0, 1) := by decide +kernel
theorem d_M_next_63 : decode c_M_next 63 = .ok (.istore_n 3, 1) := by decide +kernel
theorem d_M_next_64 : decode c_M_next 64 = .ok (.iload_n 3, 1) := by decide +kernel
theorem d_M_next_65 : decode c_M_next 65 = .ok (.aload_n 0, 1) := by decide +kernel
theorem d_M_next_66 : decode c_M_next 66 = .ok (.getfield 113, 3) := by decide +kernel
theorem d_M_next_69 : decode c_M_next 69 = .ok (.if_icmp .ge 37, 3) := by decide +kernel
theorem d_M_next_72 : decode c_M_next 72 = .ok (.aload_n 0, 1) := by decide +kernel
theorem d_M_next_73 : decode c_M_next 73 = .ok (.getfield 48, 3) := by decide +kernel
theorem d_M_next_76 : decode c_M_next 76 = .ok (.iload_n 3, 1) := by decide +kernel
theorem d_M_next_77 : decode c_M_next 77 = .ok (.aload_n 0, 1) := by decide +kernel
theorem d_M_next_78 : decode c_M_next 78 = .ok (.getfield 48, 3) := by decide +kernel
theorem d_M_next_81 : decode c_M_next 81 = .ok (.iload_n 3, 1) := by decide +kernel
theorem d_M_next_82 : decode c_M_next 82 = .ok (.iconst 1, 1) := by decide +kernel
theorem d_M_next_83 : decode c_M_next 83 = .ok (.iadd, 1) := by decide +kernel
theorem d_M_next_84 : decode c_M_next 84 = .ok (.laload, 1) := by decide +kernel
theorem d_M_next_85 : decode c_M_next 85 = .ok (.lastore, 1) := by decide +kernel
theorem d_M_next_86 : decode c_M_next 86 = .ok (.aload_n 0, 1) := by decide +kernel
theorem d_M_next_87 : decode c_M_next 87 = .ok (.getfield 51, 3) := by decide +kernel
theorem d_M_next_90 : decode c_M_next 90 = .ok (.iload_n 3, 1) := by decide +kernel
theorem d_M_next_91 : decode c_M_next 91 = .ok (.aload_n 0, 1) := by decide +kernel
theorem d_M_next_92 : decode c_M_next 92 = .ok (.getfield 51, 3) := by decide +kernel
theorem d_M_next_95 : decode c_M_next 95 = .ok (.iload_n 3, 1) := by decide +kernel
theorem d_M_next_96 : decode c_M_next 96 = .ok (.iconst 1, 1) := by decide +kernel
theorem d_M_next_97 : decode c_M_next 97 = .ok (.iadd, 1) := by decide +kernel
theorem d_M_next_98 : decode c_M_next 98 = .ok (.laload, 1) := by decide +kernel
theorem d_M_next_99 : decode c_M_next 99 = .ok (.lastore, 1) := by decide +kernel
theorem d_M_next_100 : decode c_M_next 100 = .ok (.iinc 3 1, 3) := by decide +kernel
theorem d_M_next_103 : decode c_M_next 103 = .ok (.goto (-39), 3) := by decide +kernel
theorem d_M_next_106 : decode c_M_next 106 = .ok (.iconst 1, 1) := by decide +kernel
theorem d_M_next_107 : decode c_M_next 107 = .ok (.ireturn, 1) := by decide +kernel
theorem d_M_entryCount_0 : decode c_M_entryCount 0 = .ok (.iconst 0, 1) := by decide +kernel
theorem d_M_entryCount_1 : decode c_M_entryCount 1 = .ok (.istore_n 3, 1) := by decide +kernel
theorem d_M_entryCount_2 : decode c_M_entryCount 2 = .ok (.aload_n 0, 1) := by decide +kernel
theorem d_M_entryCount_3 : decode c_M_entryCount 3 = .ok (.lload_n 1, 1) := by decide +kernel
theorem d_M_entryCount_4 : decode c_M_entryCount 4 = .ok (.iconst 0, 1) := by decide +kernel
theorem d_M_entryCount_5 : decode c_M_entryCount 5 = .ok (.invokevirtual 98, 3) := by decide +kernel
theorem d_M_entryCount_8 : decode c_M_entryCount 8 = .ok (.lstore 4, 2) := by decide +kernel
theorem d_M_entryCount_10 : decode c_M_entryCount 10 = .ok (.lload 4, 2) := by decide +kernel
theorem d_M_entryCount_12 : decode c_M_entryCount 12 = .ok (.ldc2_w 102, 3) := by decide +kernel
theorem d_M_entryCount_15 : decode c_M_entryCount 15 = .ok (.lcmp, 1) := by decide +kernel
theorem d_M_entryCount_16 : decode c_M_entryCount 16 = .ok (.ifCond .eq 19, 3) := by decide +kernel
theorem d_M_entryCount_19 : decode c_M_entryCount 19 = .ok (.iload_n 3, 1) := by decide +kernel
theorem d_M_entryCount_20 : decode c_M_entryCount 20 = .ok (.iconst 1, 1) := by decide +kernel
theorem d_M_entryCount_21 : decode c_M_entryCount 21 = .ok (.iadd, 1) := by decide +kernel
theorem d_M_entryCount_22 : decode c_M_entryCount 22 = .ok (.istore_n 3, 1) := by decide +kernel
theorem d_M_entryCount_23 : decode c_M_entryCount 23 = .ok (.aload_n 0, 1) := by decide +kernel
theorem d_M_entryCount_24 : decode c_M_entryCount 24 = .ok (.lload 4, 2) := by decide +kernel
theorem d_M_entryCount_26 : decode c_M_entryCount 26 = .ok (.iconst 2, 1) := by decide +kernel
theorem d_M_entryCount_27 : decode c_M_entryCount 27 = .ok (.invokevirtual 98, 3) := by decide +kernel
theorem d_M_entryCount_30 : decode c_M_entryCount 30 = .ok (.lstore 4, 2) := by decide +kernel
theorem d_M_entryCount_32 : decode c_M_entryCount 32 = .ok (.goto (-22), 3) := by decide +kernel
theorem d_M_entryCount_35 : decode c_M_entryCount 35 = .ok (.iload_n 3, 1) := by decide +kernel
theorem d_M_entryCount_36 : decode c_M_entryCount 36 = .ok (.ireturn, 1) := by decide +kernel
theorem d_M_look_0 : decode c_M_look 0 = .ok (.iload_n 1, 1) := by decide +kernel
theorem d_M_look_1 : decode c_M_look 1 = .ok (.invokestatic 137, 3) := by decide +kernel
theorem d_M_look_4 : decode c_M_look 4 = .ok (.ifCond .eq 12, 3) := by decide +kernel
theorem d_M_look_7 : decode c_M_look 7 = .ok (.iload_n 2, 1) := by decide +kernel
theorem d_M_look_8 : decode c_M_look 8 = .ok (.ifCond .lt 8, 3) := by decide +kernel
theorem d_M_look_11 : decode c_M_look 11 = .ok (.iload_n 2, 1) := by decide +kernel
theorem d_M_look_12 : decode c_M_look 12 = .ok (.iconst 2, 1) := by decide +kernel
theorem d_M_look_13 : decode c_M_look 13 = .ok (.if_icmp .le 5, 3) := by decide +kernel
theorem d_M_look_16 : decode c_M_look 16 = .ok (.iconst (-1), 1) := by decide +kernel
theorem d_M_look_17 : decode c_M_look 17 = .ok (.ireturn, 1) := by decide +kernel
theorem d_M_look_18 : decode c_M_look 18 = .ok (.aload_n 0, 1) := by decide +kernel
theorem d_M_look_19 : decode c_M_look 19 = .ok (.getfield 7, 3) := by decide +kernel
theorem d_M_look_22 : decode c_M_look 22 = .ok (.iload_n 1, 1) := by decide +kernel
theorem d_M_look_23 : decode c_M_look 23 = .ok (.laload, 1) := by decide +kernel
theorem d_M_look_24 : decode c_M_look 24 = .ok (.lstore_n 3, 1) := by decide +kernel
theorem d_M_look_25 : decode c_M_look 25 = .ok (.lload_n 3, 1) := by decide +kernel
theorem d_M_look_26 : decode c_M_look 26 = .ok (.invokestatic 62, 3) := by decide +kernel
theorem d_M_look_29 : decode c_M_look 29 = .ok (.ifCond .ne 44, 3) := by decide +kernel
theorem d_M_look_32 : decode c_M_look 32 = .ok (.iload_n 2, 1) := by decide +kernel
theorem d_M_look_33 : decode c_M_look 33 = .ok (.ifCond .ne 20, 3) := by decide +kernel
theorem d_M_look_36 : decode c_M_look 36 = .ok (.lload_n 3, 1) := by decide +kernel
theorem d_M_look_37 : decode c_M_look 37 = .ok (.ldc2_w 58, 3) := by decide +kernel
theorem d_M_look_40 : decode c_M_look 40 = .ok (.lcmp, 1) := by decide +kernel
theorem d_M_look_41 : decode c_M_look 41 = .ok (.ifCond .ne 8, 3) := by decide +kernel
theorem d_M_look_44 : decode c_M_look 44 = .ok (.bipush 6, 2) := by decide +kernel
theorem d_M_look_46 : decode c_M_look 46 = .ok (.goto 26, 3) := by decide +kernel
theorem d_M_look_49 : decode c_M_look 49 = .ok (.iconst 5, 1) := by decide +kernel
theorem d_M_look_50 : decode c_M_look 50 = .ok (.goto 22, 3) := by decide +kernel
theorem d_M_look_53 : decode c_M_look 53 = .ok (.iload_n 2, 1) := by decide +kernel
theorem d_M_look_54 : decode c_M_look 54 = .ok (.iconst 1, 1) := by decide +kernel
theorem d_M_look_55 : decode c_M_look 55 = .ok (.if_icmp .ne 16, 3) := by decide +kernel
theorem d_M_look_58 : decode c_M_look 58 = .ok (.lload_n 3, 1) := by decide +kernel
theorem d_M_look_59 : decode c_M_look 59 = .ok (.ldc2_w 58, 3) := by decide +kernel
theorem d_M_look_62 : decode c_M_look 62 = .ok (.lcmp, 1) := by decide +kernel
theorem d_M_look_63 : decode c_M_look 63 = .ok (.ifCond .eq 8, 3) := by decide +kernel
theorem d_M_look_66 : decode c_M_look 66 = .ok (.lload_n 3, 1) := by decide +kernel
theorem d_M_look_67 : decode c_M_look 67 = .ok (.l2i, 1) := by decide +kernel
theorem d_M_look_68 : decode c_M_look 68 = .ok (.goto 4, 3) := by decide +kernel
theorem d_M_look_71 : decode c_M_look 71 = .ok (.iconst 0, 1) := by decide +kernel
theorem d_M_look_72 : decode c_M_look 72 = .ok (.ireturn, 1) := by decide +kernel
theorem d_M_look_73 : decode c_M_look 73 = .ok (.lload_n 3, 1) := by decide +kernel
theorem d_M_look_74 : decode c_M_look 74 = .ok (.l2i, 1) := by decide +kernel
theorem d_M_look_75 : decode c_M_look 75 = .ok (.istore 5, 2) := by decide +kernel
theorem d_M_look_77 : decode c_M_look 77 = .ok (.iload_n 2, 1) := by decide +kernel
theorem d_M_look_78 : decode c_M_look 78 = .ok (.ifCond .ne 11, 3) := by decide +kernel
theorem d_M_look_81 : decode c_M_look 81 = .ok (.aload_n 0, 1) := by decide +kernel
theorem d_M_look_82 : decode c_M_look 82 = .ok (.getfield 13, 3) := by decide +kernel
theorem d_M_look_85 : decode c_M_look 85 = .ok (.iload 5, 2) := by decide +kernel
theorem d_M_look_87 : decode c_M_look 87 = .ok (.iaload, 1) := by decide +kernel
theorem d_M_look_88 : decode c_M_look 88 = .ok (.ireturn, 1) := by decide +kernel
theorem d_M_look_89 : decode c_M_look 89 = .ok (.iload_n 2, 1) := by decide +kernel
theorem d_M_look_90 : decode c_M_look 90 = .ok (.iconst 2, 1) := by decide +kernel
theorem d_M_look_91 : decode c_M_look 91 = .ok (.if_icmp .ne 30, 3) := by decide +kernel
theorem d_M_look_94 : decode c_M_look 94 = .ok (.aload_n 0, 1) := by decide +kernel
theorem d_M_look_95 : decode c_M_look 95 = .ok (.getfield 13, 3) := by decide +kernel
theorem d_M_look_98 : decode c_M_look 98 = .ok (.iload 5, 2) := by decide +kernel
theorem d_M_look_100 : decode c_M_look 100 = .ok (.iaload, 1) := by decide +kernel
theorem d_M_look_101 : decode c_M_look 101 = .ok (.iconst 4, 1) := by decide +kernel
theorem d_M_look_102 : decode c_M_look 102 = .ok (.if_icmp .ne 11, 3) := by decide +kernel
theorem d_M_look_105 : decode c_M_look 105 = .ok (.aload_n 0, 1) := by decide +kernel
theorem d_M_look_106 : decode c_M_look 106 = .ok (.lload_n 3, 1) := by decide +kernel
theorem d_M_look_107 : decode c_M_look 107 = .ok (.invokevirtual 162, 3) := by decide +kernel
theorem d_M_look_110 : decode c_M_look 110 = .ok (.goto 10, 3) := by decide +kernel
theorem d_M_look_113 : decode c_M_look 113 = .ok (.aload_n 0, 1) := by decide +kernel
theorem d_M_look_114 : decode c_M_look 114 = .ok (.getfield 17, 3) := by decide +kernel
theorem d_M_look_117 : decode c_M_look 117 = .ok (.iload 5, 2) := by decide +kernel
theorem d_M_look_119 : decode c_M_look 119 = .ok (.iaload, 1) := by decide +kernel
theorem d_M_look_120 : decode c_M_look 120 = .ok (.ireturn, 1) := by decide +kernel
theorem d_M_look_121 : decode c_M_look 121 = .ok (.aload_n 0, 1) := by decide +kernel
theorem d_M_look_122 : decode c_M_look 122 = .ok (.getfield 23, 3) := by decide +kernel
theorem d_M_look_125 : decode c_M_look 125 = .ok (.iload 5, 2) := by decide +kernel
theorem d_M_look_127 : decode c_M_look 127 = .ok (.iaload, 1) := by decide +kernel
theorem d_M_look_128 : decode c_M_look 128 = .ok (.ifCond .ne 24, 3) := by decide +kernel
theorem d_M_look_131 : decode c_M_look 131 = .ok (.aload_n 0, 1) := by decide +kernel
theorem d_M_look_132 : decode c_M_look 132 = .ok (.aload_n 0, 1) := by decide +kernel
theorem d_M_look_133 : decode c_M_look 133 = .ok (.getfield 165, 3) := by decide +kernel
theorem d_M_look_136 : decode c_M_look 136 = .ok (.iconst 1, 1) := by decide +kernel
theorem d_M_look_137 : decode c_M_look 137 = .ok (.iadd, 1) := by decide +kernel
theorem d_M_look_138 : decode c_M_look 138 = .ok (.putfield 165, 3) := by decide +kernel
theorem d_M_look_141 : decode c_M_look 141 = .ok (.aload_n 0, 1) := by decide +kernel
theorem d_M_look_142 : decode c_M_look 142 = .ok (.getfield 23, 3) := by decide +kernel
theorem d_M_look_145 : decode c_M_look 145 = .ok (.iload 5, 2) := by decide +kernel
theorem d_M_look_147 : decode c_M_look 147 = .ok (.aload_n 0, 1) := by decide +kernel
theorem d_M_look_148 : decode c_M_look 148 = .ok (.getfield 165, 3) := by decide +kernel
theorem d_M_look_151 : decode c_M_look 151 = .ok (.iastore, 1) := by decide +kernel
theorem d_M_look_152 : decode c_M_look 152 = .ok (.aload_n 0, 1) := by decide +kernel
theorem d_M_look_153 : decode c_M_look 153 = .ok (.getfield 23, 3) := by decide +kernel
theorem d_M_look_156 : decode c_M_look 156 = .ok (.iload 5, 2) := by decide +kernel
theorem d_M_look_158 : decode c_M_look 158 = .ok (.iaload, 1) := by decide +kernel
theorem d_M_look_159 : decode c_M_look 159 = .ok (.ireturn, 1) := by decide +kernel
theorem d_M_same_0 : decode c_M_same 0 = .ok (.iload_n 1, 1) := by decide +kernel
theorem d_M_same_1 : decode c_M_same 1 = .ok (.invokestatic 137, 3) := by decide +kernel
theorem d_M_same_4 : decode c_M_same 4 = .ok (.ifCond .eq 10, 3) := by decide +kernel
theorem d_M_same_7 : decode c_M_same 7 = .ok (.iload_n 2, 1) := by decide +kernel
theorem d_M_same_8 : decode c_M_same 8 = .ok (.invokestatic 137, 3) := by decide +kernel
theorem d_M_same_11 : decode c_M_same 11 = .ok (.ifCond .ne 7, 3) := by decide +kernel
theorem d_M_same_14 : decode c_M_same 14 = .ok (.iconst (-1), 1) := by decide +kernel
theorem d_M_same_15 : decode c_M_same 15 = .ok (.goto 24, 3) := by decide +kernel
theorem d_M_same_18 : decode c_M_same 18 = .ok (.aload_n 0, 1) := by decide +kernel
theorem d_M_same_19 : decode c_M_same 19 = .ok (.getfield 7, 3) := by decide +kernel
theorem d_M_same_22 : decode c_M_same 22 = .ok (.iload_n 1, 1) := by decide +kernel
theorem d_M_same_23 : decode c_M_same 23 = .ok (.laload, 1) := by decide +kernel
theorem d_M_same_24 : decode c_M_same 24 = .ok (.aload_n 0, 1) := by decide +kernel
theorem d_M_same_25 : decode c_M_same 25 = .ok (.getfield 7, 3) := by decide +kernel
theorem d_M_same_28 : decode c_M_same 28 = .ok (.iload_n 2, 1) := by decide +kernel
theorem d_M_same_29 : decode c_M_same 29 = .ok (.laload, 1) := by decide +kernel
theorem d_M_same_30 : decode c_M_same 30 = .ok (.lcmp, 1) := by decide +kernel
theorem d_M_same_31 : decode c_M_same 31 = .ok (.ifCond .ne 7, 3) := by decide +kernel
theorem d_M_same_34 : decode c_M_same 34 = .ok (.iconst 1, 1) := by decide +kernel
theorem d_M_same_35 : decode c_M_same 35 = .ok (.goto 4, 3) := by decide +kernel
theorem d_M_same_38 : decode c_M_same 38 = .ok (.iconst 0, 1) := by decide +kernel
theorem d_M_same_39 : decode c_M_same 39 = .ok (.ireturn, 1) := by decide +kernel
theorem d_M_count_0 : decode c_M_count 0 = .ok (.iload_n 1, 1) := by decide +kernel
theorem d_M_count_1 : decode c_M_count 1 = .ok (.tableswitch 69 0 5 #[39, 44, 49, 54, 59, 64], 39) := by decide +kernel
theorem d_M_count_40 : decode c_M_count 40 = .ok (.aload_n 0, 1) := by decide +kernel
theorem d_M_count_41 : decode c_M_count 41 = .ok (.getfield 70, 3) := by decide +kernel
theorem d_M_count_44 : decode c_M_count 44 = .ok (.ireturn, 1) := by decide +kernel
theorem d_M_count_45 : decode c_M_count 45 = .ok (.aload_n 0, 1) := by decide +kernel
theorem d_M_count_46 : decode c_M_count 46 = .ok (.getfield 83, 3) := by decide +kernel
theorem d_M_count_49 : decode c_M_count 49 = .ok (.ireturn, 1) := by decide +kernel
theorem d_M_count_50 : decode c_M_count 50 = .ok (.aload_n 0, 1) := by decide +kernel
theorem d_M_count_51 : decode c_M_count 51 = .ok (.getfield 124, 3) := by decide +kernel
theorem d_M_count_54 : decode c_M_count 54 = .ok (.ireturn, 1) := by decide +kernel
theorem d_M_count_55 : decode c_M_count 55 = .ok (.aload_n 0, 1) := by decide +kernel
theorem d_M_count_56 : decode c_M_count 56 = .ok (.getfield 113, 3) := by decide +kernel
theorem d_M_count_59 : decode c_M_count 59 = .ok (.ireturn, 1) := by decide +kernel
theorem d_M_count_60 : decode c_M_count 60 = .ok (.aload_n 0, 1) := by decide +kernel
theorem d_M_count_61 : decode c_M_count 61 = .ok (.getfield 107, 3) := by decide +kernel
theorem d_M_count_64 : decode c_M_count 64 = .ok (.ireturn, 1) := by decide +kernel
theorem d_M_count_65 : decode c_M_count 65 = .ok (.aload_n 0, 1) := by decide +kernel
theorem d_M_count_66 : decode c_M_count 66 = .ok (.getfield 165, 3) := by decide +kernel
theorem d_M_count_69 : decode c_M_count 69 = .ok (.ireturn, 1) := by decide +kernel
theorem d_M_count_70 : decode c_M_count 70 = .ok (.iconst (-1), 1) := by decide +kernel
theorem d_M_count_71 : decode c_M_count 71 = .ok (.ireturn, 1) := by decide +kernel
