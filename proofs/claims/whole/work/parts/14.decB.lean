theorem dX0_init_0 : decode cX0_init 0 = .ok (.aload_n 0, 1) := by decide +kernel
theorem dX0_init_1 : decode cX0_init 1 = .ok (.invokespecial 1, 3) := by decide +kernel
theorem dX0_init_4 : decode cX0_init 4 = .ok (.aload_n 0, 1) := by decide +kernel
theorem dX0_init_5 : decode cX0_init 5 = .ok (.new 7, 3) := by decide +kernel
theorem dX0_init_8 : decode cX0_init 8 = .ok (.dup, 1) := by decide +kernel
theorem dX0_init_9 : decode cX0_init 9 = .ok (.bipush 36, 2) := by decide +kernel
theorem dX0_init_11 : decode cX0_init 11 = .ok (.invokespecial 11, 3) := by decide +kernel
theorem dX0_init_14 : decode cX0_init 14 = .ok (.putfield 14, 3) := by decide +kernel
theorem dX0_init_17 : decode cX0_init 17 = .ok (.aload_n 0, 1) := by decide +kernel
theorem dX0_init_18 : decode cX0_init 18 = .ok (.new 7, 3) := by decide +kernel
theorem dX0_init_21 : decode cX0_init 21 = .ok (.dup, 1) := by decide +kernel
theorem dX0_init_22 : decode cX0_init 22 = .ok (.bipush 36, 2) := by decide +kernel
theorem dX0_init_24 : decode cX0_init 24 = .ok (.invokespecial 11, 3) := by decide +kernel
theorem dX0_init_27 : decode cX0_init 27 = .ok (.putfield 18, 3) := by decide +kernel
theorem dX0_init_30 : decode cX0_init 30 = .ok (.aload_n 0, 1) := by decide +kernel
theorem dX0_init_31 : decode cX0_init 31 = .ok (.iconst 4, 1) := by decide +kernel
theorem dX0_init_32 : decode cX0_init 32 = .ok (.putfield 21, 3) := by decide +kernel
theorem dX0_init_35 : decode cX0_init 35 = .ok (.aload_n 0, 1) := by decide +kernel
theorem dX0_init_36 : decode cX0_init 36 = .ok (.iconst 4, 1) := by decide +kernel
theorem dX0_init_37 : decode cX0_init 37 = .ok (.putfield 25, 3) := by decide +kernel
theorem dX0_init_40 : decode cX0_init 40 = .ok (.aload_n 0, 1) := by decide +kernel
theorem dX0_init_41 : decode cX0_init 41 = .ok (.iconst 0, 1) := by decide +kernel
theorem dX0_init_42 : decode cX0_init 42 = .ok (.putfield 28, 3) := by decide +kernel
theorem dX0_init_45 : decode cX0_init 45 = .ok (.aload_n 0, 1) := by decide +kernel
theorem dX0_init_46 : decode cX0_init 46 = .ok (.iconst 3, 1) := by decide +kernel
theorem dX0_init_47 : decode cX0_init 47 = .ok (.putfield 31, 3) := by decide +kernel
theorem dX0_init_50 : decode cX0_init 50 = .ok (.aload_n 0, 1) := by decide +kernel
theorem dX0_init_51 : decode cX0_init 51 = .ok (.bipush 20, 2) := by decide +kernel
theorem dX0_init_53 : decode cX0_init 53 = .ok (.putfield 34, 3) := by decide +kernel
theorem dX0_init_56 : decode cX0_init 56 = .ok (.aload_n 0, 1) := by decide +kernel
theorem dX0_init_57 : decode cX0_init 57 = .ok (.iconst 0, 1) := by decide +kernel
theorem dX0_init_58 : decode cX0_init 58 = .ok (.putfield 37, 3) := by decide +kernel
theorem dX0_init_61 : decode cX0_init 61 = .ok (.aload_n 0, 1) := by decide +kernel
theorem dX0_init_62 : decode cX0_init 62 = .ok (.bipush 20, 2) := by decide +kernel
theorem dX0_init_64 : decode cX0_init 64 = .ok (.putfield 40, 3) := by decide +kernel
theorem dX0_init_67 : decode cX0_init 67 = .ok (.aload_n 0, 1) := by decide +kernel
theorem dX0_init_68 : decode cX0_init 68 = .ok (.iconst 0, 1) := by decide +kernel
theorem dX0_init_69 : decode cX0_init 69 = .ok (.putfield 43, 3) := by decide +kernel
theorem dX0_init_72 : decode cX0_init 72 = .ok (.aload_n 0, 1) := by decide +kernel
theorem dX0_init_73 : decode cX0_init 73 = .ok (.getfield 14, 3) := by decide +kernel
theorem dX0_init_76 : decode cX0_init 76 = .ok (.aload_n 0, 1) := by decide +kernel
theorem dX0_init_77 : decode cX0_init 77 = .ok (.getfield 21, 3) := by decide +kernel
theorem dX0_init_80 : decode cX0_init 80 = .ok (.aload_n 0, 1) := by decide +kernel
theorem dX0_init_81 : decode cX0_init 81 = .ok (.getfield 25, 3) := by decide +kernel
theorem dX0_init_84 : decode cX0_init 84 = .ok (.imul, 1) := by decide +kernel
theorem dX0_init_85 : decode cX0_init 85 = .ok (.iconst (-1), 1) := by decide +kernel
theorem dX0_init_86 : decode cX0_init 86 = .ok (.invokevirtual 46, 3) := by decide +kernel
theorem dX0_init_89 : decode cX0_init 89 = .ok (.aload_n 0, 1) := by decide +kernel
theorem dX0_init_90 : decode cX0_init 90 = .ok (.getfield 18, 3) := by decide +kernel
theorem dX0_init_93 : decode cX0_init 93 = .ok (.aload_n 0, 1) := by decide +kernel
theorem dX0_init_94 : decode cX0_init 94 = .ok (.getfield 21, 3) := by decide +kernel
theorem dX0_init_97 : decode cX0_init 97 = .ok (.aload_n 0, 1) := by decide +kernel
theorem dX0_init_98 : decode cX0_init 98 = .ok (.getfield 25, 3) := by decide +kernel
theorem dX0_init_101 : decode cX0_init 101 = .ok (.imul, 1) := by decide +kernel
theorem dX0_init_102 : decode cX0_init 102 = .ok (.iconst 0, 1) := by decide +kernel
theorem dX0_init_103 : decode cX0_init 103 = .ok (.invokevirtual 46, 3) := by decide +kernel
theorem dX0_init_106 : decode cX0_init 106 = .ok (.return_, 1) := by decide +kernel
theorem dX0_build_0 : decode cX0_build 0 = .ok (.aload_n 0, 1) := by decide +kernel
theorem dX0_build_1 : decode cX0_build 1 = .ok (.iload_n 1, 1) := by decide +kernel
theorem dX0_build_2 : decode cX0_build 2 = .ok (.putfield 21, 3) := by decide +kernel
theorem dX0_build_5 : decode cX0_build 5 = .ok (.aload_n 0, 1) := by decide +kernel
theorem dX0_build_6 : decode cX0_build 6 = .ok (.iload_n 2, 1) := by decide +kernel
theorem dX0_build_7 : decode cX0_build 7 = .ok (.putfield 25, 3) := by decide +kernel
theorem dX0_build_10 : decode cX0_build 10 = .ok (.aload_n 0, 1) := by decide +kernel
theorem dX0_build_11 : decode cX0_build 11 = .ok (.getfield 14, 3) := by decide +kernel
theorem dX0_build_14 : decode cX0_build 14 = .ok (.aload_n 0, 1) := by decide +kernel
theorem dX0_build_15 : decode cX0_build 15 = .ok (.getfield 21, 3) := by decide +kernel
theorem dX0_build_18 : decode cX0_build 18 = .ok (.aload_n 0, 1) := by decide +kernel
theorem dX0_build_19 : decode cX0_build 19 = .ok (.getfield 25, 3) := by decide +kernel
theorem dX0_build_22 : decode cX0_build 22 = .ok (.imul, 1) := by decide +kernel
theorem dX0_build_23 : decode cX0_build 23 = .ok (.iconst (-1), 1) := by decide +kernel
theorem dX0_build_24 : decode cX0_build 24 = .ok (.invokevirtual 46, 3) := by decide +kernel
theorem dX0_build_27 : decode cX0_build 27 = .ok (.aload_n 0, 1) := by decide +kernel
theorem dX0_build_28 : decode cX0_build 28 = .ok (.getfield 18, 3) := by decide +kernel
theorem dX0_build_31 : decode cX0_build 31 = .ok (.aload_n 0, 1) := by decide +kernel
theorem dX0_build_32 : decode cX0_build 32 = .ok (.getfield 21, 3) := by decide +kernel
theorem dX0_build_35 : decode cX0_build 35 = .ok (.aload_n 0, 1) := by decide +kernel
theorem dX0_build_36 : decode cX0_build 36 = .ok (.getfield 25, 3) := by decide +kernel
theorem dX0_build_39 : decode cX0_build 39 = .ok (.imul, 1) := by decide +kernel
theorem dX0_build_40 : decode cX0_build 40 = .ok (.iconst 0, 1) := by decide +kernel
theorem dX0_build_41 : decode cX0_build 41 = .ok (.invokevirtual 46, 3) := by decide +kernel
theorem dX0_build_44 : decode cX0_build 44 = .ok (.return_, 1) := by decide +kernel
theorem dX0_rows_0 : decode cX0_rows 0 = .ok (.aload_n 0, 1) := by decide +kernel
theorem dX0_rows_1 : decode cX0_rows 1 = .ok (.getfield 21, 3) := by decide +kernel
theorem dX0_rows_4 : decode cX0_rows 4 = .ok (.ireturn, 1) := by decide +kernel
theorem dX0_strips_0 : decode cX0_strips 0 = .ok (.aload_n 0, 1) := by decide +kernel
theorem dX0_strips_1 : decode cX0_strips 1 = .ok (.getfield 25, 3) := by decide +kernel
theorem dX0_strips_4 : decode cX0_strips 4 = .ok (.ireturn, 1) := by decide +kernel
theorem dX0_cells_0 : decode cX0_cells 0 = .ok (.aload_n 0, 1) := by decide +kernel
theorem dX0_cells_1 : decode cX0_cells 1 = .ok (.getfield 14, 3) := by decide +kernel
theorem dX0_cells_4 : decode cX0_cells 4 = .ok (.invokevirtual 50, 3) := by decide +kernel
theorem dX0_cells_7 : decode cX0_cells 7 = .ok (.ireturn, 1) := by decide +kernel
theorem dX0_minute_0 : decode cX0_minute 0 = .ok (.aload_n 0, 1) := by decide +kernel
theorem dX0_minute_1 : decode cX0_minute 1 = .ok (.getfield 28, 3) := by decide +kernel
theorem dX0_minute_4 : decode cX0_minute 4 = .ok (.ireturn, 1) := by decide +kernel
theorem dX0_heat_0 : decode cX0_heat 0 = .ok (.aload_n 0, 1) := by decide +kernel
theorem dX0_heat_1 : decode cX0_heat 1 = .ok (.getfield 31, 3) := by decide +kernel
theorem dX0_heat_4 : decode cX0_heat 4 = .ok (.ireturn, 1) := by decide +kernel
theorem dX0_left_0 : decode cX0_left 0 = .ok (.aload_n 0, 1) := by decide +kernel
theorem dX0_left_1 : decode cX0_left 1 = .ok (.getfield 34, 3) := by decide +kernel
theorem dX0_left_4 : decode cX0_left 4 = .ok (.ireturn, 1) := by decide +kernel
theorem dX0_canWhite_0 : decode cX0_canWhite 0 = .ok (.aload_n 0, 1) := by decide +kernel
theorem dX0_canWhite_1 : decode cX0_canWhite 1 = .ok (.getfield 37, 3) := by decide +kernel
theorem dX0_canWhite_4 : decode cX0_canWhite 4 = .ok (.ireturn, 1) := by decide +kernel
theorem dX0_canSize_0 : decode cX0_canSize 0 = .ok (.aload_n 0, 1) := by decide +kernel
theorem dX0_canSize_1 : decode cX0_canSize 1 = .ok (.getfield 40, 3) := by decide +kernel
theorem dX0_canSize_4 : decode cX0_canSize 4 = .ok (.ireturn, 1) := by decide +kernel
theorem dX0_cansBegun_0 : decode cX0_cansBegun 0 = .ok (.aload_n 0, 1) := by decide +kernel
theorem dX0_cansBegun_1 : decode cX0_cansBegun 1 = .ok (.getfield 43, 3) := by decide +kernel
theorem dX0_cansBegun_4 : decode cX0_cansBegun 4 = .ok (.ireturn, 1) := by decide +kernel
theorem dX0_isCell_0 : decode cX0_isCell 0 = .ok (.aload_n 0, 1) := by decide +kernel
theorem dX0_isCell_1 : decode cX0_isCell 1 = .ok (.getfield 14, 3) := by decide +kernel
theorem dX0_isCell_4 : decode cX0_isCell 4 = .ok (.iload_n 1, 1) := by decide +kernel
theorem dX0_isCell_5 : decode cX0_isCell 5 = .ok (.invokevirtual 54, 3) := by decide +kernel
theorem dX0_isCell_8 : decode cX0_isCell 8 = .ok (.ireturn, 1) := by decide +kernel
theorem dX0_isStrip_0 : decode cX0_isStrip 0 = .ok (.iload_n 1, 1) := by decide +kernel
theorem dX0_isStrip_1 : decode cX0_isStrip 1 = .ok (.ifCond .lt 15, 3) := by decide +kernel
theorem dX0_isStrip_4 : decode cX0_isStrip 4 = .ok (.iload_n 1, 1) := by decide +kernel
theorem dX0_isStrip_5 : decode cX0_isStrip 5 = .ok (.aload_n 0, 1) := by decide +kernel
theorem dX0_isStrip_6 : decode cX0_isStrip 6 = .ok (.getfield 25, 3) := by decide +kernel
theorem dX0_isStrip_9 : decode cX0_isStrip 9 = .ok (.if_icmp .ge 7, 3) := by decide +kernel
theorem dX0_isStrip_12 : decode cX0_isStrip 12 = .ok (.iconst 1, 1) := by decide +kernel
theorem dX0_isStrip_13 : decode cX0_isStrip 13 = .ok (.goto 4, 3) := by decide +kernel
theorem dX0_isStrip_16 : decode cX0_isStrip 16 = .ok (.iconst 0, 1) := by decide +kernel
theorem dX0_isStrip_17 : decode cX0_isStrip 17 = .ok (.ireturn, 1) := by decide +kernel
theorem dX0_rowOf_0 : decode cX0_rowOf 0 = .ok (.aload_n 0, 1) := by decide +kernel
theorem dX0_rowOf_1 : decode cX0_rowOf 1 = .ok (.getfield 25, 3) := by decide +kernel
theorem dX0_rowOf_4 : decode cX0_rowOf 4 = .ok (.ifCond .le 12, 3) := by decide +kernel
theorem dX0_rowOf_7 : decode cX0_rowOf 7 = .ok (.iload_n 1, 1) := by decide +kernel
theorem dX0_rowOf_8 : decode cX0_rowOf 8 = .ok (.aload_n 0, 1) := by decide +kernel
theorem dX0_rowOf_9 : decode cX0_rowOf 9 = .ok (.getfield 25, 3) := by decide +kernel
theorem dX0_rowOf_12 : decode cX0_rowOf 12 = .ok (.idiv, 1) := by decide +kernel
theorem dX0_rowOf_13 : decode cX0_rowOf 13 = .ok (.goto 4, 3) := by decide +kernel
theorem dX0_rowOf_16 : decode cX0_rowOf 16 = .ok (.iconst 0, 1) := by decide +kernel
theorem dX0_rowOf_17 : decode cX0_rowOf 17 = .ok (.ireturn, 1) := by decide +kernel
theorem dX0_stripOf_0 : decode cX0_stripOf 0 = .ok (.aload_n 0, 1) := by decide +kernel
theorem dX0_stripOf_1 : decode cX0_stripOf 1 = .ok (.getfield 25, 3) := by decide +kernel
theorem dX0_stripOf_4 : decode cX0_stripOf 4 = .ok (.ifCond .le 12, 3) := by decide +kernel
theorem dX0_stripOf_7 : decode cX0_stripOf 7 = .ok (.iload_n 1, 1) := by decide +kernel
theorem dX0_stripOf_8 : decode cX0_stripOf 8 = .ok (.aload_n 0, 1) := by decide +kernel
theorem dX0_stripOf_9 : decode cX0_stripOf 9 = .ok (.getfield 25, 3) := by decide +kernel
theorem dX0_stripOf_12 : decode cX0_stripOf 12 = .ok (.irem, 1) := by decide +kernel
theorem dX0_stripOf_13 : decode cX0_stripOf 13 = .ok (.goto 4, 3) := by decide +kernel
theorem dX0_stripOf_16 : decode cX0_stripOf 16 = .ok (.iconst 0, 1) := by decide +kernel
theorem dX0_stripOf_17 : decode cX0_stripOf 17 = .ok (.ireturn, 1) := by decide +kernel
theorem dX0_whenAt_0 : decode cX0_whenAt 0 = .ok (.aload_n 0, 1) := by decide +kernel
theorem dX0_whenAt_1 : decode cX0_whenAt 1 = .ok (.iload_n 2, 1) := by decide +kernel
theorem dX0_whenAt_2 : decode cX0_whenAt 2 = .ok (.invokevirtual 58, 3) := by decide +kernel
theorem dX0_whenAt_5 : decode cX0_whenAt 5 = .ok (.ifCond .eq 21, 3) := by decide +kernel
theorem dX0_whenAt_8 : decode cX0_whenAt 8 = .ok (.aload_n 0, 1) := by decide +kernel
theorem dX0_whenAt_9 : decode cX0_whenAt 9 = .ok (.getfield 14, 3) := by decide +kernel
theorem dX0_whenAt_12 : decode cX0_whenAt 12 = .ok (.iload_n 1, 1) := by decide +kernel
theorem dX0_whenAt_13 : decode cX0_whenAt 13 = .ok (.aload_n 0, 1) := by decide +kernel
theorem dX0_whenAt_14 : decode cX0_whenAt 14 = .ok (.getfield 25, 3) := by decide +kernel
theorem dX0_whenAt_17 : decode cX0_whenAt 17 = .ok (.imul, 1) := by decide +kernel
theorem dX0_whenAt_18 : decode cX0_whenAt 18 = .ok (.iload_n 2, 1) := by decide +kernel
theorem dX0_whenAt_19 : decode cX0_whenAt 19 = .ok (.iadd, 1) := by decide +kernel
theorem dX0_whenAt_20 : decode cX0_whenAt 20 = .ok (.invokevirtual 61, 3) := by decide +kernel
theorem dX0_whenAt_23 : decode cX0_whenAt 23 = .ok (.goto 4, 3) := by decide +kernel
theorem dX0_whenAt_26 : decode cX0_whenAt 26 = .ok (.iconst (-1), 1) := by decide +kernel
theorem dX0_whenAt_27 : decode cX0_whenAt 27 = .ok (.ireturn, 1) := by decide +kernel
theorem dX0_whiteAt_0 : decode cX0_whiteAt 0 = .ok (.aload_n 0, 1) := by decide +kernel
theorem dX0_whiteAt_1 : decode cX0_whiteAt 1 = .ok (.iload_n 2, 1) := by decide +kernel
theorem dX0_whiteAt_2 : decode cX0_whiteAt 2 = .ok (.invokevirtual 58, 3) := by decide +kernel
theorem dX0_whiteAt_5 : decode cX0_whiteAt 5 = .ok (.ifCond .eq 21, 3) := by decide +kernel
theorem dX0_whiteAt_8 : decode cX0_whiteAt 8 = .ok (.aload_n 0, 1) := by decide +kernel
theorem dX0_whiteAt_9 : decode cX0_whiteAt 9 = .ok (.getfield 18, 3) := by decide +kernel
theorem dX0_whiteAt_12 : decode cX0_whiteAt 12 = .ok (.iload_n 1, 1) := by decide +kernel
theorem dX0_whiteAt_13 : decode cX0_whiteAt 13 = .ok (.aload_n 0, 1) := by decide +kernel
theorem dX0_whiteAt_14 : decode cX0_whiteAt 14 = .ok (.getfield 25, 3) := by decide +kernel
theorem dX0_whiteAt_17 : decode cX0_whiteAt 17 = .ok (.imul, 1) := by decide +kernel
theorem dX0_whiteAt_18 : decode cX0_whiteAt 18 = .ok (.iload_n 2, 1) := by decide +kernel
theorem dX0_whiteAt_19 : decode cX0_whiteAt 19 = .ok (.iadd, 1) := by decide +kernel
theorem dX0_whiteAt_20 : decode cX0_whiteAt 20 = .ok (.invokevirtual 61, 3) := by decide +kernel
theorem dX0_whiteAt_23 : decode cX0_whiteAt 23 = .ok (.goto 4, 3) := by decide +kernel
theorem dX0_whiteAt_26 : decode cX0_whiteAt 26 = .ok (.iconst 0, 1) := by decide +kernel
theorem dX0_whiteAt_27 : decode cX0_whiteAt 27 = .ok (.ireturn, 1) := by decide +kernel
theorem dX0_rolledCells_0 : decode cX0_rolledCells 0 = .ok (.iconst 0, 1) := by decide +kernel
theorem dX0_rolledCells_1 : decode cX0_rolledCells 1 = .ok (.istore_n 1, 1) := by decide +kernel
theorem dX0_rolledCells_2 : decode cX0_rolledCells 2 = .ok (.iconst 0, 1) := by decide +kernel
theorem dX0_rolledCells_3 : decode cX0_rolledCells 3 = .ok (.istore_n 2, 1) := by decide +kernel
theorem dX0_rolledCells_4 : decode cX0_rolledCells 4 = .ok (.iload_n 2, 1) := by decide +kernel
theorem dX0_rolledCells_5 : decode cX0_rolledCells 5 = .ok (.aload_n 0, 1) := by decide +kernel
theorem dX0_rolledCells_6 : decode cX0_rolledCells 6 = .ok (.getfield 14, 3) := by decide +kernel
theorem dX0_rolledCells_9 : decode cX0_rolledCells 9 = .ok (.invokevirtual 50, 3) := by decide +kernel
theorem dX0_rolledCells_12 : decode cX0_rolledCells 12 = .ok (.if_icmp .ge 24, 3) := by decide +kernel
theorem dX0_rolledCells_15 : decode cX0_rolledCells 15 = .ok (.aload_n 0, 1) := by decide +kernel
theorem dX0_rolledCells_16 : decode cX0_rolledCells 16 = .ok (.getfield 14, 3) := by decide +kernel
theorem dX0_rolledCells_19 : decode cX0_rolledCells 19 = .ok (.iload_n 2, 1) := by decide +kernel
theorem dX0_rolledCells_20 : decode cX0_rolledCells 20 = .ok (.invokevirtual 61, 3) := by decide +kernel
theorem dX0_rolledCells_23 : decode cX0_rolledCells 23 = .ok (.iconst (-1), 1) := by decide +kernel
theorem dX0_rolledCells_24 : decode cX0_rolledCells 24 = .ok (.if_icmp .eq 6, 3) := by decide +kernel
theorem dX0_rolledCells_27 : decode cX0_rolledCells 27 = .ok (.iinc 1 1, 3) := by decide +kernel
theorem dX0_rolledCells_30 : decode cX0_rolledCells 30 = .ok (.iinc 2 1, 3) := by decide +kernel
theorem dX0_rolledCells_33 : decode cX0_rolledCells 33 = .ok (.goto (-29), 3) := by decide +kernel
theorem dX0_rolledCells_36 : decode cX0_rolledCells 36 = .ok (.iload_n 1, 1) := by decide +kernel
theorem dX0_rolledCells_37 : decode cX0_rolledCells 37 = .ok (.ireturn, 1) := by decide +kernel
theorem dX0_isSetting_0 : decode cX0_isSetting 0 = .ok (.iload_n 0, 1) := by decide +kernel
theorem dX0_isSetting_1 : decode cX0_isSetting 1 = .ok (.tableswitch 96 0 3 #[31, 47, 63, 79], 31) := by decide +kernel
theorem dX0_isSetting_32 : decode cX0_isSetting 32 = .ok (.iload_n 1, 1) := by decide +kernel
theorem dX0_isSetting_33 : decode cX0_isSetting 33 = .ok (.ifCond .lt 13, 3) := by decide +kernel
theorem dX0_isSetting_36 : decode cX0_isSetting 36 = .ok (.iload_n 1, 1) := by decide +kernel
theorem dX0_isSetting_37 : decode cX0_isSetting 37 = .ok (.bipush 9, 2) := by decide +kernel
theorem dX0_isSetting_39 : decode cX0_isSetting 39 = .ok (.if_icmp .gt 7, 3) := by decide +kernel
theorem dX0_isSetting_42 : decode cX0_isSetting 42 = .ok (.iconst 1, 1) := by decide +kernel
theorem dX0_isSetting_43 : decode cX0_isSetting 43 = .ok (.goto 4, 3) := by decide +kernel
theorem dX0_isSetting_46 : decode cX0_isSetting 46 = .ok (.iconst 0, 1) := by decide +kernel
theorem dX0_isSetting_47 : decode cX0_isSetting 47 = .ok (.ireturn, 1) := by decide +kernel
theorem dX0_isSetting_48 : decode cX0_isSetting 48 = .ok (.iload_n 1, 1) := by decide +kernel
theorem dX0_isSetting_49 : decode cX0_isSetting 49 = .ok (.ifCond .lt 13, 3) := by decide +kernel
theorem dX0_isSetting_52 : decode cX0_isSetting 52 = .ok (.iload_n 1, 1) := by decide +kernel
theorem dX0_isSetting_53 : decode cX0_isSetting 53 = .ok (.bipush 99, 2) := by decide +kernel
theorem dX0_isSetting_55 : decode cX0_isSetting 55 = .ok (.if_icmp .gt 7, 3) := by decide +kernel
theorem dX0_isSetting_58 : decode cX0_isSetting 58 = .ok (.iconst 1, 1) := by decide +kernel
theorem dX0_isSetting_59 : decode cX0_isSetting 59 = .ok (.goto 4, 3) := by decide +kernel
theorem dX0_isSetting_62 : decode cX0_isSetting 62 = .ok (.iconst 0, 1) := by decide +kernel
theorem dX0_isSetting_63 : decode cX0_isSetting 63 = .ok (.ireturn, 1) := by decide +kernel
theorem dX0_isSetting_64 : decode cX0_isSetting 64 = .ok (.iload_n 1, 1) := by decide +kernel
theorem dX0_isSetting_65 : decode cX0_isSetting 65 = .ok (.ifCond .lt 13, 3) := by decide +kernel
theorem dX0_isSetting_68 : decode cX0_isSetting 68 = .ok (.iload_n 1, 1) := by decide +kernel
theorem dX0_isSetting_69 : decode cX0_isSetting 69 = .ok (.bipush 99, 2) := by decide +kernel
theorem dX0_isSetting_71 : decode cX0_isSetting 71 = .ok (.if_icmp .gt 7, 3) := by decide +kernel
theorem dX0_isSetting_74 : decode cX0_isSetting 74 = .ok (.iconst 1, 1) := by decide +kernel
theorem dX0_isSetting_75 : decode cX0_isSetting 75 = .ok (.goto 4, 3) := by decide +kernel
theorem dX0_isSetting_78 : decode cX0_isSetting 78 = .ok (.iconst 0, 1) := by decide +kernel
theorem dX0_isSetting_79 : decode cX0_isSetting 79 = .ok (.ireturn, 1) := by decide +kernel
theorem dX0_isSetting_80 : decode cX0_isSetting 80 = .ok (.iload_n 1, 1) := by decide +kernel
theorem dX0_isSetting_81 : decode cX0_isSetting 81 = .ok (.iconst 1, 1) := by decide +kernel
theorem dX0_isSetting_82 : decode cX0_isSetting 82 = .ok (.if_icmp .lt 13, 3) := by decide +kernel
theorem dX0_isSetting_85 : decode cX0_isSetting 85 = .ok (.iload_n 1, 1) := by decide +kernel
theorem dX0_isSetting_86 : decode cX0_isSetting 86 = .ok (.bipush 99, 2) := by decide +kernel
theorem dX0_isSetting_88 : decode cX0_isSetting 88 = .ok (.if_icmp .gt 7, 3) := by decide +kernel
theorem dX0_isSetting_91 : decode cX0_isSetting 91 = .ok (.iconst 1, 1) := by decide +kernel
theorem dX0_isSetting_92 : decode cX0_isSetting 92 = .ok (.goto 4, 3) := by decide +kernel
theorem dX0_isSetting_95 : decode cX0_isSetting 95 = .ok (.iconst 0, 1) := by decide +kernel
theorem dX0_isSetting_96 : decode cX0_isSetting 96 = .ok (.ireturn, 1) := by decide +kernel
theorem dX0_isSetting_97 : decode cX0_isSetting 97 = .ok (.iconst 0, 1) := by decide +kernel
theorem dX0_isSetting_98 : decode cX0_isSetting 98 = .ok (.ireturn, 1) := by decide +kernel
theorem dX0_change_0 : decode cX0_change 0 = .ok (.iload_n 1, 1) := by decide +kernel
theorem dX0_change_1 : decode cX0_change 1 = .ok (.tableswitch 63 0 2 #[27, 39, 51], 27) := by decide +kernel
theorem dX0_change_28 : decode cX0_change 28 = .ok (.aload_n 0, 1) := by decide +kernel
theorem dX0_change_29 : decode cX0_change 29 = .ok (.getfield 31, 3) := by decide +kernel
theorem dX0_change_32 : decode cX0_change 32 = .ok (.istore_n 3, 1) := by decide +kernel
theorem dX0_change_33 : decode cX0_change 33 = .ok (.aload_n 0, 1) := by decide +kernel
theorem dX0_change_34 : decode cX0_change 34 = .ok (.iload_n 2, 1) := by decide +kernel
theorem dX0_change_35 : decode cX0_change 35 = .ok (.putfield 31, 3) := by decide +kernel
theorem dX0_change_38 : decode cX0_change 38 = .ok (.iload_n 3, 1) := by decide +kernel
theorem dX0_change_39 : decode cX0_change 39 = .ok (.ireturn, 1) := by decide +kernel
theorem dX0_change_40 : decode cX0_change 40 = .ok (.aload_n 0, 1) := by decide +kernel
theorem dX0_change_41 : decode cX0_change 41 = .ok (.getfield 34, 3) := by decide +kernel
theorem dX0_change_44 : decode cX0_change 44 = .ok (.istore_n 3, 1) := by decide +kernel
theorem dX0_change_45 : decode cX0_change 45 = .ok (.aload_n 0, 1) := by decide +kernel
theorem dX0_change_46 : decode cX0_change 46 = .ok (.iload_n 2, 1) := by decide +kernel
theorem dX0_change_47 : decode cX0_change 47 = .ok (.putfield 34, 3) := by decide +kernel
theorem dX0_change_50 : decode cX0_change 50 = .ok (.iload_n 3, 1) := by decide +kernel
theorem dX0_change_51 : decode cX0_change 51 = .ok (.ireturn, 1) := by decide +kernel
theorem dX0_change_52 : decode cX0_change 52 = .ok (.aload_n 0, 1) := by decide +kernel
theorem dX0_change_53 : decode cX0_change 53 = .ok (.getfield 37, 3) := by decide +kernel
theorem dX0_change_56 : decode cX0_change 56 = .ok (.istore_n 3, 1) := by decide +kernel
theorem dX0_change_57 : decode cX0_change 57 = .ok (.aload_n 0, 1) := by decide +kernel
theorem dX0_change_58 : decode cX0_change 58 = .ok (.iload_n 2, 1) := by decide +kernel
theorem dX0_change_59 : decode cX0_change 59 = .ok (.putfield 37, 3) := by decide +kernel
theorem dX0_change_62 : decode cX0_change 62 = .ok (.iload_n 3, 1) := by decide +kernel
theorem dX0_change_63 : decode cX0_change 63 = .ok (.ireturn, 1) := by decide +kernel
theorem dX0_change_64 : decode cX0_change 64 = .ok (.aload_n 0, 1) := by decide +kernel
theorem dX0_change_65 : decode cX0_change 65 = .ok (.getfield 40, 3) := by decide +kernel
theorem dX0_change_68 : decode cX0_change 68 = .ok (.istore_n 3, 1) := by decide +kernel
theorem dX0_change_69 : decode cX0_change 69 = .ok (.aload_n 0, 1) := by decide +kernel
theorem dX0_change_70 : decode cX0_change 70 = .ok (.iload_n 2, 1) := by decide +kernel
theorem dX0_change_71 : decode cX0_change 71 = .ok (.putfield 40, 3) := by decide +kernel
theorem dX0_change_74 : decode cX0_change 74 = .ok (.iload_n 3, 1) := by decide +kernel
theorem dX0_change_75 : decode cX0_change 75 = .ok (.ireturn, 1) := by decide +kernel
theorem dX0_warmTo_0 : decode cX0_warmTo 0 = .ok (.aload_n 0, 1) := by decide +kernel
theorem dX0_warmTo_1 : decode cX0_warmTo 1 = .ok (.iload_n 1, 1) := by decide +kernel
theorem dX0_warmTo_2 : decode cX0_warmTo 2 = .ok (.putfield 31, 3) := by decide +kernel
theorem dX0_warmTo_5 : decode cX0_warmTo 5 = .ok (.return_, 1) := by decide +kernel
theorem dX0_mayBeRolled_0 : decode cX0_mayBeRolled 0 = .ok (.aload_n 0, 1) := by decide +kernel
theorem dX0_mayBeRolled_1 : decode cX0_mayBeRolled 1 = .ok (.getfield 28, 3) := by decide +kernel
theorem dX0_mayBeRolled_4 : decode cX0_mayBeRolled 4 = .ok (.sipush 9900, 3) := by decide +kernel
theorem dX0_mayBeRolled_7 : decode cX0_mayBeRolled 7 = .ok (.if_icmp .gt 7, 3) := by decide +kernel
theorem dX0_mayBeRolled_10 : decode cX0_mayBeRolled 10 = .ok (.iconst 1, 1) := by decide +kernel
theorem dX0_mayBeRolled_11 : decode cX0_mayBeRolled 11 = .ok (.goto 4, 3) := by decide +kernel
theorem dX0_mayBeRolled_14 : decode cX0_mayBeRolled 14 = .ok (.iconst 0, 1) := by decide +kernel
theorem dX0_mayBeRolled_15 : decode cX0_mayBeRolled 15 = .ok (.ireturn, 1) := by decide +kernel
theorem dX0_letPass_0 : decode cX0_letPass 0 = .ok (.aload_n 0, 1) := by decide +kernel
theorem dX0_letPass_1 : decode cX0_letPass 1 = .ok (.dup, 1) := by decide +kernel
theorem dX0_letPass_2 : decode cX0_letPass 2 = .ok (.getfield 28, 3) := by decide +kernel
theorem dX0_letPass_5 : decode cX0_letPass 5 = .ok (.iload_n 1, 1) := by decide +kernel
theorem dX0_letPass_6 : decode cX0_letPass 6 = .ok (.iadd, 1) := by decide +kernel
theorem dX0_letPass_7 : decode cX0_letPass 7 = .ok (.putfield 28, 3) := by decide +kernel
theorem dX0_letPass_10 : decode cX0_letPass 10 = .ok (.return_, 1) := by decide +kernel
theorem dX0_letPassWithinBounds_0 : decode cX0_letPassWithinBounds 0 = .ok (.aload_n 0, 1) := by decide +kernel
theorem dX0_letPassWithinBounds_1 : decode cX0_letPassWithinBounds 1 = .ok (.sipush 9999, 3) := by decide +kernel
theorem dX0_letPassWithinBounds_4 : decode cX0_letPassWithinBounds 4 = .ok (.aload_n 0, 1) := by decide +kernel
theorem dX0_letPassWithinBounds_5 : decode cX0_letPassWithinBounds 5 = .ok (.getfield 28, 3) := by decide +kernel
theorem dX0_letPassWithinBounds_8 : decode cX0_letPassWithinBounds 8 = .ok (.iload_n 1, 1) := by decide +kernel
theorem dX0_letPassWithinBounds_9 : decode cX0_letPassWithinBounds 9 = .ok (.iadd, 1) := by decide +kernel
theorem dX0_letPassWithinBounds_10 : decode cX0_letPassWithinBounds 10 = .ok (.invokestatic 65, 3) := by decide +kernel
theorem dX0_letPassWithinBounds_13 : decode cX0_letPassWithinBounds 13 = .ok (.putfield 28, 3) := by decide +kernel
theorem dX0_letPassWithinBounds_16 : decode cX0_letPassWithinBounds 16 = .ok (.return_, 1) := by decide +kernel
theorem dX0_paint_0 : decode cX0_paint 0 = .ok (.iload_n 1, 1) := by decide +kernel
theorem dX0_paint_1 : decode cX0_paint 1 = .ok (.iload_n 2, 1) := by decide +kernel
theorem dX0_paint_2 : decode cX0_paint 2 = .ok (.invokestatic 71, 3) := by decide +kernel
theorem dX0_paint_5 : decode cX0_paint 5 = .ok (.istore 5, 2) := by decide +kernel
theorem dX0_paint_7 : decode cX0_paint 7 = .ok (.iconst 0, 1) := by decide +kernel
theorem dX0_paint_8 : decode cX0_paint 8 = .ok (.istore 6, 2) := by decide +kernel
theorem dX0_paint_10 : decode cX0_paint 10 = .ok (.iload 6, 2) := by decide +kernel
theorem dX0_paint_12 : decode cX0_paint 12 = .ok (.aload_n 0, 1) := by decide +kernel
theorem dX0_paint_13 : decode cX0_paint 13 = .ok (.getfield 21, 3) := by decide +kernel
theorem dX0_paint_16 : decode cX0_paint 16 = .ok (.if_icmp .ge 107, 3) := by decide +kernel
theorem dX0_paint_19 : decode cX0_paint 19 = .ok (.aload_n 0, 1) := by decide +kernel
theorem dX0_paint_20 : decode cX0_paint 20 = .ok (.getfield 34, 3) := by decide +kernel
theorem dX0_paint_23 : decode cX0_paint 23 = .ok (.iload 5, 2) := by decide +kernel
theorem dX0_paint_25 : decode cX0_paint 25 = .ok (.if_icmp .ge 7, 3) := by decide +kernel
theorem dX0_paint_28 : decode cX0_paint 28 = .ok (.aload_n 0, 1) := by decide +kernel
theorem dX0_paint_29 : decode cX0_paint 29 = .ok (.invokevirtual 76, 3) := by decide +kernel
theorem dX0_paint_32 : decode cX0_paint 32 = .ok (.aload_n 0, 1) := by decide +kernel
theorem dX0_paint_33 : decode cX0_paint 33 = .ok (.iconst 0, 1) := by decide +kernel
theorem dX0_paint_34 : decode cX0_paint 34 = .ok (.aload_n 0, 1) := by decide +kernel
theorem dX0_paint_35 : decode cX0_paint 35 = .ok (.getfield 34, 3) := by decide +kernel
theorem dX0_paint_38 : decode cX0_paint 38 = .ok (.iload 5, 2) := by decide +kernel
theorem dX0_paint_40 : decode cX0_paint 40 = .ok (.isub, 1) := by decide +kernel
theorem dX0_paint_41 : decode cX0_paint 41 = .ok (.invokestatic 79, 3) := by decide +kernel
theorem dX0_paint_44 : decode cX0_paint 44 = .ok (.putfield 34, 3) := by decide +kernel
theorem dX0_paint_47 : decode cX0_paint 47 = .ok (.aload_n 0, 1) := by decide +kernel
theorem dX0_paint_48 : decode cX0_paint 48 = .ok (.dup, 1) := by decide +kernel
theorem dX0_paint_49 : decode cX0_paint 49 = .ok (.getfield 28, 3) := by decide +kernel
theorem dX0_paint_52 : decode cX0_paint 52 = .ok (.iload_n 1, 1) := by decide +kernel
theorem dX0_paint_53 : decode cX0_paint 53 = .ok (.iload_n 2, 1) := by decide +kernel
theorem dX0_paint_54 : decode cX0_paint 54 = .ok (.iload 6, 2) := by decide +kernel
theorem dX0_paint_56 : decode cX0_paint 56 = .ok (.invokestatic 82, 3) := by decide +kernel
theorem dX0_paint_59 : decode cX0_paint 59 = .ok (.iadd, 1) := by decide +kernel
theorem dX0_paint_60 : decode cX0_paint 60 = .ok (.putfield 28, 3) := by decide +kernel
theorem dX0_paint_63 : decode cX0_paint 63 = .ok (.iload 4, 2) := by decide +kernel
theorem dX0_paint_65 : decode cX0_paint 65 = .ok (.ifCond .eq 15, 3) := by decide +kernel
theorem dX0_paint_68 : decode cX0_paint 68 = .ok (.aload_n 0, 1) := by decide +kernel
theorem dX0_paint_69 : decode cX0_paint 69 = .ok (.getfield 21, 3) := by decide +kernel
theorem dX0_paint_72 : decode cX0_paint 72 = .ok (.iconst 1, 1) := by decide +kernel
theorem dX0_paint_73 : decode cX0_paint 73 = .ok (.isub, 1) := by decide +kernel
theorem dX0_paint_74 : decode cX0_paint 74 = .ok (.iload 6, 2) := by decide +kernel
theorem dX0_paint_76 : decode cX0_paint 76 = .ok (.isub, 1) := by decide +kernel
theorem dX0_paint_77 : decode cX0_paint 77 = .ok (.goto 5, 3) := by decide +kernel
theorem dX0_paint_80 : decode cX0_paint 80 = .ok (.iload 6, 2) := by decide +kernel
theorem dX0_paint_82 : decode cX0_paint 82 = .ok (.aload_n 0, 1) := by decide +kernel
theorem dX0_paint_83 : decode cX0_paint 83 = .ok (.getfield 25, 3) := by decide +kernel
theorem dX0_paint_86 : decode cX0_paint 86 = .ok (.imul, 1) := by decide +kernel
theorem dX0_paint_87 : decode cX0_paint 87 = .ok (.iload_n 3, 1) := by decide +kernel
theorem dX0_paint_88 : decode cX0_paint 88 = .ok (.iadd, 1) := by decide +kernel
theorem dX0_paint_89 : decode cX0_paint 89 = .ok (.istore 7, 2) := by decide +kernel
theorem dX0_paint_91 : decode cX0_paint 91 = .ok (.aload_n 0, 1) := by decide +kernel
theorem dX0_paint_92 : decode cX0_paint 92 = .ok (.getfield 14, 3) := by decide +kernel
theorem dX0_paint_95 : decode cX0_paint 95 = .ok (.iload 7, 2) := by decide +kernel
theorem dX0_paint_97 : decode cX0_paint 97 = .ok (.aload_n 0, 1) := by decide +kernel
theorem dX0_paint_98 : decode cX0_paint 98 = .ok (.getfield 28, 3) := by decide +kernel
theorem dX0_paint_101 : decode cX0_paint 101 = .ok (.invokevirtual 86, 3) := by decide +kernel
theorem dX0_paint_104 : decode cX0_paint 104 = .ok (.aload_n 0, 1) := by decide +kernel
theorem dX0_paint_105 : decode cX0_paint 105 = .ok (.getfield 18, 3) := by decide +kernel
theorem dX0_paint_108 : decode cX0_paint 108 = .ok (.iload 7, 2) := by decide +kernel
theorem dX0_paint_110 : decode cX0_paint 110 = .ok (.aload_n 0, 1) := by decide +kernel
theorem dX0_paint_111 : decode cX0_paint 111 = .ok (.getfield 37, 3) := by decide +kernel
theorem dX0_paint_114 : decode cX0_paint 114 = .ok (.invokevirtual 86, 3) := by decide +kernel
theorem dX0_paint_117 : decode cX0_paint 117 = .ok (.iinc 6 1, 3) := by decide +kernel
theorem dX0_paint_120 : decode cX0_paint 120 = .ok (.goto (-110), 3) := by decide +kernel
theorem dX0_paint_123 : decode cX0_paint 123 = .ok (.return_, 1) := by decide +kernel
theorem dX0_openCan_0 : decode cX0_openCan 0 = .ok (.aload_n 0, 1) := by decide +kernel
theorem dX0_openCan_1 : decode cX0_openCan 1 = .ok (.aload_n 0, 1) := by decide +kernel
theorem dX0_openCan_2 : decode cX0_openCan 2 = .ok (.getfield 40, 3) := by decide +kernel
theorem dX0_openCan_5 : decode cX0_openCan 5 = .ok (.putfield 34, 3) := by decide +kernel
theorem dX0_openCan_8 : decode cX0_openCan 8 = .ok (.aload_n 0, 1) := by decide +kernel
theorem dX0_openCan_9 : decode cX0_openCan 9 = .ok (.aload_n 0, 1) := by decide +kernel
theorem dX0_openCan_10 : decode cX0_openCan 10 = .ok (.getfield 37, 3) := by decide +kernel
theorem dX0_openCan_13 : decode cX0_openCan 13 = .ok (.bipush 99, 2) := by decide +kernel
theorem dX0_openCan_15 : decode cX0_openCan 15 = .ok (.if_icmp .lt 7, 3) := by decide +kernel
theorem dX0_openCan_18 : decode cX0_openCan 18 = .ok (.iconst 0, 1) := by decide +kernel
theorem dX0_openCan_19 : decode cX0_openCan 19 = .ok (.goto 9, 3) := by decide +kernel
theorem dX0_openCan_22 : decode cX0_openCan 22 = .ok (.aload_n 0, 1) := by decide +kernel
theorem dX0_openCan_23 : decode cX0_openCan 23 = .ok (.getfield 37, 3) := by decide +kernel
theorem dX0_openCan_26 : decode cX0_openCan 26 = .ok (.iconst 1, 1) := by decide +kernel
theorem dX0_openCan_27 : decode cX0_openCan 27 = .ok (.iadd, 1) := by decide +kernel
theorem dX0_openCan_28 : decode cX0_openCan 28 = .ok (.putfield 37, 3) := by decide +kernel
theorem dX0_openCan_31 : decode cX0_openCan 31 = .ok (.aload_n 0, 1) := by decide +kernel
theorem dX0_openCan_32 : decode cX0_openCan 32 = .ok (.dup, 1) := by decide +kernel
theorem dX0_openCan_33 : decode cX0_openCan 33 = .ok (.getfield 43, 3) := by decide +kernel
theorem dX0_openCan_36 : decode cX0_openCan 36 = .ok (.iconst 1, 1) := by decide +kernel
theorem dX0_openCan_37 : decode cX0_openCan 37 = .ok (.iadd, 1) := by decide +kernel
theorem dX0_openCan_38 : decode cX0_openCan 38 = .ok (.putfield 43, 3) := by decide +kernel
theorem dX0_openCan_41 : decode cX0_openCan 41 = .ok (.return_, 1) := by decide +kernel
theorem dX0_whiten_0 : decode cX0_whiten 0 = .ok (.aload_n 1, 1) := by decide +kernel
theorem dX0_whiten_1 : decode cX0_whiten 1 = .ok (.invokevirtual 50, 3) := by decide +kernel
theorem dX0_whiten_4 : decode cX0_whiten 4 = .ok (.aload_n 0, 1) := by decide +kernel
theorem dX0_whiten_5 : decode cX0_whiten 5 = .ok (.getfield 18, 3) := by decide +kernel
theorem dX0_whiten_8 : decode cX0_whiten 8 = .ok (.invokevirtual 50, 3) := by decide +kernel
theorem dX0_whiten_11 : decode cX0_whiten 11 = .ok (.invokestatic 65, 3) := by decide +kernel
theorem dX0_whiten_14 : decode cX0_whiten 14 = .ok (.istore_n 2, 1) := by decide +kernel
theorem dX0_whiten_15 : decode cX0_whiten 15 = .ok (.iconst 0, 1) := by decide +kernel
theorem dX0_whiten_16 : decode cX0_whiten 16 = .ok (.istore_n 3, 1) := by decide +kernel
theorem dX0_whiten_17 : decode cX0_whiten 17 = .ok (.iload_n 3, 1) := by decide +kernel
theorem dX0_whiten_18 : decode cX0_whiten 18 = .ok (.iload_n 2, 1) := by decide +kernel
theorem dX0_whiten_19 : decode cX0_whiten 19 = .ok (.if_icmp .ge 40, 3) := by decide +kernel
theorem dX0_whiten_22 : decode cX0_whiten 22 = .ok (.aload_n 1, 1) := by decide +kernel
theorem dX0_whiten_23 : decode cX0_whiten 23 = .ok (.iload_n 3, 1) := by decide +kernel
theorem dX0_whiten_24 : decode cX0_whiten 24 = .ok (.invokevirtual 61, 3) := by decide +kernel
theorem dX0_whiten_27 : decode cX0_whiten 27 = .ok (.istore 4, 2) := by decide +kernel
theorem dX0_whiten_29 : decode cX0_whiten 29 = .ok (.iload 4, 2) := by decide +kernel
theorem dX0_whiten_31 : decode cX0_whiten 31 = .ok (.ifCond .lt 10, 3) := by decide +kernel
theorem dX0_whiten_34 : decode cX0_whiten 34 = .ok (.iload 4, 2) := by decide +kernel
theorem dX0_whiten_36 : decode cX0_whiten 36 = .ok (.bipush 99, 2) := by decide +kernel
theorem dX0_whiten_38 : decode cX0_whiten 38 = .ok (.if_icmp .le 5, 3) := by decide +kernel
theorem dX0_whiten_41 : decode cX0_whiten 41 = .ok (.iload_n 3, 1) := by decide +kernel
theorem dX0_whiten_42 : decode cX0_whiten 42 = .ok (.ireturn, 1) := by decide +kernel
theorem dX0_whiten_43 : decode cX0_whiten 43 = .ok (.aload_n 0, 1) := by decide +kernel
theorem dX0_whiten_44 : decode cX0_whiten 44 = .ok (.getfield 18, 3) := by decide +kernel
theorem dX0_whiten_47 : decode cX0_whiten 47 = .ok (.iload_n 3, 1) := by decide +kernel
theorem dX0_whiten_48 : decode cX0_whiten 48 = .ok (.iload 4, 2) := by decide +kernel
theorem dX0_whiten_50 : decode cX0_whiten 50 = .ok (.invokevirtual 86, 3) := by decide +kernel
theorem dX0_whiten_53 : decode cX0_whiten 53 = .ok (.iinc 3 1, 3) := by decide +kernel
theorem dX0_whiten_56 : decode cX0_whiten 56 = .ok (.goto (-39), 3) := by decide +kernel
theorem dX0_whiten_59 : decode cX0_whiten 59 = .ok (.iload_n 2, 1) := by decide +kernel
theorem dX0_whiten_60 : decode cX0_whiten 60 = .ok (.ireturn, 1) := by decide +kernel
theorem dX0_firstOtherWhen_0 : decode cX0_firstOtherWhen 0 = .ok (.aload_n 1, 1) := by decide +kernel
theorem dX0_firstOtherWhen_1 : decode cX0_firstOtherWhen 1 = .ok (.invokevirtual 50, 3) := by decide +kernel
theorem dX0_firstOtherWhen_4 : decode cX0_firstOtherWhen 4 = .ok (.aload_n 0, 1) := by decide +kernel
theorem dX0_firstOtherWhen_5 : decode cX0_firstOtherWhen 5 = .ok (.getfield 14, 3) := by decide +kernel
theorem dX0_firstOtherWhen_8 : decode cX0_firstOtherWhen 8 = .ok (.invokevirtual 50, 3) := by decide +kernel
theorem dX0_firstOtherWhen_11 : decode cX0_firstOtherWhen 11 = .ok (.invokestatic 65, 3) := by decide +kernel
theorem dX0_firstOtherWhen_14 : decode cX0_firstOtherWhen 14 = .ok (.istore_n 2, 1) := by decide +kernel
theorem dX0_firstOtherWhen_15 : decode cX0_firstOtherWhen 15 = .ok (.iconst 0, 1) := by decide +kernel
theorem dX0_firstOtherWhen_16 : decode cX0_firstOtherWhen 16 = .ok (.istore_n 3, 1) := by decide +kernel
theorem dX0_firstOtherWhen_17 : decode cX0_firstOtherWhen 17 = .ok (.iload_n 3, 1) := by decide +kernel
theorem dX0_firstOtherWhen_18 : decode cX0_firstOtherWhen 18 = .ok (.iload_n 2, 1) := by decide +kernel
theorem dX0_firstOtherWhen_19 : decode cX0_firstOtherWhen 19 = .ok (.if_icmp .ge 27, 3) := by decide +kernel
theorem dX0_firstOtherWhen_22 : decode cX0_firstOtherWhen 22 = .ok (.aload_n 1, 1) := by decide +kernel
theorem dX0_firstOtherWhen_23 : decode cX0_firstOtherWhen 23 = .ok (.iload_n 3, 1) := by decide +kernel
theorem dX0_firstOtherWhen_24 : decode cX0_firstOtherWhen 24 = .ok (.invokevirtual 61, 3) := by decide +kernel
theorem dX0_firstOtherWhen_27 : decode cX0_firstOtherWhen 27 = .ok (.aload_n 0, 1) := by decide +kernel
theorem dX0_firstOtherWhen_28 : decode cX0_firstOtherWhen 28 = .ok (.getfield 14, 3) := by decide +kernel
theorem dX0_firstOtherWhen_31 : decode cX0_firstOtherWhen 31 = .ok (.iload_n 3, 1) := by decide +kernel
theorem dX0_firstOtherWhen_32 : decode cX0_firstOtherWhen 32 = .ok (.invokevirtual 61, 3) := by decide +kernel
theorem dX0_firstOtherWhen_35 : decode cX0_firstOtherWhen 35 = .ok (.if_icmp .eq 5, 3) := by decide +kernel
theorem dX0_firstOtherWhen_38 : decode cX0_firstOtherWhen 38 = .ok (.iload_n 3, 1) := by decide +kernel
theorem dX0_firstOtherWhen_39 : decode cX0_firstOtherWhen 39 = .ok (.ireturn, 1) := by decide +kernel
theorem dX0_firstOtherWhen_40 : decode cX0_firstOtherWhen 40 = .ok (.iinc 3 1, 3) := by decide +kernel
theorem dX0_firstOtherWhen_43 : decode cX0_firstOtherWhen 43 = .ok (.goto (-26), 3) := by decide +kernel
theorem dX0_firstOtherWhen_46 : decode cX0_firstOtherWhen 46 = .ok (.aload_n 1, 1) := by decide +kernel
theorem dX0_firstOtherWhen_47 : decode cX0_firstOtherWhen 47 = .ok (.invokevirtual 50, 3) := by decide +kernel
theorem dX0_firstOtherWhen_50 : decode cX0_firstOtherWhen 50 = .ok (.aload_n 0, 1) := by decide +kernel
theorem dX0_firstOtherWhen_51 : decode cX0_firstOtherWhen 51 = .ok (.getfield 14, 3) := by decide +kernel
theorem dX0_firstOtherWhen_54 : decode cX0_firstOtherWhen 54 = .ok (.invokevirtual 50, 3) := by decide +kernel
theorem dX0_firstOtherWhen_57 : decode cX0_firstOtherWhen 57 = .ok (.if_icmp .ne 7, 3) := by decide +kernel
theorem dX0_firstOtherWhen_60 : decode cX0_firstOtherWhen 60 = .ok (.iconst (-1), 1) := by decide +kernel
theorem dX0_firstOtherWhen_61 : decode cX0_firstOtherWhen 61 = .ok (.goto 4, 3) := by decide +kernel
theorem dX0_firstOtherWhen_64 : decode cX0_firstOtherWhen 64 = .ok (.iload_n 2, 1) := by decide +kernel
theorem dX0_firstOtherWhen_65 : decode cX0_firstOtherWhen 65 = .ok (.ireturn, 1) := by decide +kernel
theorem dX0_take_0 : decode cX0_take 0 = .ok (.aload_n 0, 1) := by decide +kernel
theorem dX0_take_1 : decode cX0_take 1 = .ok (.getfield 14, 3) := by decide +kernel
theorem dX0_take_4 : decode cX0_take 4 = .ok (.aload_n 1, 1) := by decide +kernel
theorem dX0_take_5 : decode cX0_take 5 = .ok (.getfield 14, 3) := by decide +kernel
theorem dX0_take_8 : decode cX0_take 8 = .ok (.invokevirtual 89, 3) := by decide +kernel
theorem dX0_take_11 : decode cX0_take 11 = .ok (.aload_n 0, 1) := by decide +kernel
theorem dX0_take_12 : decode cX0_take 12 = .ok (.getfield 18, 3) := by decide +kernel
theorem dX0_take_15 : decode cX0_take 15 = .ok (.aload_n 1, 1) := by decide +kernel
theorem dX0_take_16 : decode cX0_take 16 = .ok (.getfield 18, 3) := by decide +kernel
theorem dX0_take_19 : decode cX0_take 19 = .ok (.invokevirtual 89, 3) := by decide +kernel
theorem dX0_take_22 : decode cX0_take 22 = .ok (.aload_n 0, 1) := by decide +kernel
theorem dX0_take_23 : decode cX0_take 23 = .ok (.aload_n 1, 1) := by decide +kernel
theorem dX0_take_24 : decode cX0_take 24 = .ok (.getfield 21, 3) := by decide +kernel
theorem dX0_take_27 : decode cX0_take 27 = .ok (.putfield 21, 3) := by decide +kernel
theorem dX0_take_30 : decode cX0_take 30 = .ok (.aload_n 0, 1) := by decide +kernel
theorem dX0_take_31 : decode cX0_take 31 = .ok (.aload_n 1, 1) := by decide +kernel
theorem dX0_take_32 : decode cX0_take 32 = .ok (.getfield 25, 3) := by decide +kernel
theorem dX0_take_35 : decode cX0_take 35 = .ok (.putfield 25, 3) := by decide +kernel
theorem dX0_take_38 : decode cX0_take 38 = .ok (.aload_n 0, 1) := by decide +kernel
theorem dX0_take_39 : decode cX0_take 39 = .ok (.aload_n 1, 1) := by decide +kernel
theorem dX0_take_40 : decode cX0_take 40 = .ok (.getfield 28, 3) := by decide +kernel
theorem dX0_take_43 : decode cX0_take 43 = .ok (.putfield 28, 3) := by decide +kernel
theorem dX0_take_46 : decode cX0_take 46 = .ok (.aload_n 0, 1) := by decide +kernel
theorem dX0_take_47 : decode cX0_take 47 = .ok (.aload_n 1, 1) := by decide +kernel
theorem dX0_take_48 : decode cX0_take 48 = .ok (.getfield 31, 3) := by decide +kernel
theorem dX0_take_51 : decode cX0_take 51 = .ok (.putfield 31, 3) := by decide +kernel
theorem dX0_take_54 : decode cX0_take 54 = .ok (.aload_n 0, 1) := by decide +kernel
theorem dX0_take_55 : decode cX0_take 55 = .ok (.aload_n 1, 1) := by decide +kernel
theorem dX0_take_56 : decode cX0_take 56 = .ok (.getfield 34, 3) := by decide +kernel
theorem dX0_take_59 : decode cX0_take 59 = .ok (.putfield 34, 3) := by decide +kernel
theorem dX0_take_62 : decode cX0_take 62 = .ok (.aload_n 0, 1) := by decide +kernel
theorem dX0_take_63 : decode cX0_take 63 = .ok (.aload_n 1, 1) := by decide +kernel
theorem dX0_take_64 : decode cX0_take 64 = .ok (.getfield 37, 3) := by decide +kernel
theorem dX0_take_67 : decode cX0_take 67 = .ok (.putfield 37, 3) := by decide +kernel
theorem dX0_take_70 : decode cX0_take 70 = .ok (.aload_n 0, 1) := by decide +kernel
theorem dX0_take_71 : decode cX0_take 71 = .ok (.aload_n 1, 1) := by decide +kernel
theorem dX0_take_72 : decode cX0_take 72 = .ok (.getfield 40, 3) := by decide +kernel
theorem dX0_take_75 : decode cX0_take 75 = .ok (.putfield 40, 3) := by decide +kernel
theorem dX0_take_78 : decode cX0_take 78 = .ok (.aload_n 0, 1) := by decide +kernel
theorem dX0_take_79 : decode cX0_take 79 = .ok (.iconst 0, 1) := by decide +kernel
theorem dX0_take_80 : decode cX0_take 80 = .ok (.putfield 43, 3) := by decide +kernel
theorem dX0_take_83 : decode cX0_take 83 = .ok (.return_, 1) := by decide +kernel
theorem dX7_init_0 : decode cX7_init 0 = .ok (.aload_n 0, 1) := by decide +kernel
theorem dX7_init_1 : decode cX7_init 1 = .ok (.invokespecial 1, 3) := by decide +kernel
theorem dX7_init_4 : decode cX7_init 4 = .ok (.aload_n 0, 1) := by decide +kernel
theorem dX7_init_5 : decode cX7_init 5 = .ok (.new 7, 3) := by decide +kernel
theorem dX7_init_8 : decode cX7_init 8 = .ok (.dup, 1) := by decide +kernel
theorem dX7_init_9 : decode cX7_init 9 = .ok (.invokespecial 9, 3) := by decide +kernel
theorem dX7_init_12 : decode cX7_init 12 = .ok (.putfield 10, 3) := by decide +kernel
theorem dX7_init_15 : decode cX7_init 15 = .ok (.aload_n 0, 1) := by decide +kernel
theorem dX7_init_16 : decode cX7_init 16 = .ok (.new 16, 3) := by decide +kernel
theorem dX7_init_19 : decode cX7_init 19 = .ok (.dup, 1) := by decide +kernel
theorem dX7_init_20 : decode cX7_init 20 = .ok (.invokespecial 18, 3) := by decide +kernel
theorem dX7_init_23 : decode cX7_init 23 = .ok (.putfield 19, 3) := by decide +kernel
theorem dX7_init_26 : decode cX7_init 26 = .ok (.aload_n 0, 1) := by decide +kernel
theorem dX7_init_27 : decode cX7_init 27 = .ok (.new 23, 3) := by decide +kernel
theorem dX7_init_30 : decode cX7_init 30 = .ok (.dup, 1) := by decide +kernel
theorem dX7_init_31 : decode cX7_init 31 = .ok (.iconst 0, 1) := by decide +kernel
theorem dX7_init_32 : decode cX7_init 32 = .ok (.invokespecial 25, 3) := by decide +kernel
theorem dX7_init_35 : decode cX7_init 35 = .ok (.putfield 28, 3) := by decide +kernel
theorem dX7_init_38 : decode cX7_init 38 = .ok (.aload_n 0, 1) := by decide +kernel
theorem dX7_init_39 : decode cX7_init 39 = .ok (.new 23, 3) := by decide +kernel
theorem dX7_init_42 : decode cX7_init 42 = .ok (.dup, 1) := by decide +kernel
theorem dX7_init_43 : decode cX7_init 43 = .ok (.iconst 1, 1) := by decide +kernel
theorem dX7_init_44 : decode cX7_init 44 = .ok (.invokespecial 25, 3) := by decide +kernel
theorem dX7_init_47 : decode cX7_init 47 = .ok (.putfield 32, 3) := by decide +kernel
theorem dX7_init_50 : decode cX7_init 50 = .ok (.aload_n 0, 1) := by decide +kernel
theorem dX7_init_51 : decode cX7_init 51 = .ok (.new 35, 3) := by decide +kernel
theorem dX7_init_54 : decode cX7_init 54 = .ok (.dup, 1) := by decide +kernel
theorem dX7_init_55 : decode cX7_init 55 = .ok (.bipush 50, 2) := by decide +kernel
theorem dX7_init_57 : decode cX7_init 57 = .ok (.invokespecial 37, 3) := by decide +kernel
theorem dX7_init_60 : decode cX7_init 60 = .ok (.putfield 38, 3) := by decide +kernel
theorem dX7_init_63 : decode cX7_init 63 = .ok (.aload_n 0, 1) := by decide +kernel
theorem dX7_init_64 : decode cX7_init 64 = .ok (.new 35, 3) := by decide +kernel
theorem dX7_init_67 : decode cX7_init 67 = .ok (.dup, 1) := by decide +kernel
theorem dX7_init_68 : decode cX7_init 68 = .ok (.bipush 20, 2) := by decide +kernel
theorem dX7_init_70 : decode cX7_init 70 = .ok (.invokespecial 37, 3) := by decide +kernel
theorem dX7_init_73 : decode cX7_init 73 = .ok (.putfield 42, 3) := by decide +kernel
theorem dX7_init_76 : decode cX7_init 76 = .ok (.aload_n 0, 1) := by decide +kernel
theorem dX7_init_77 : decode cX7_init 77 = .ok (.iconst 1, 1) := by decide +kernel
theorem dX7_init_78 : decode cX7_init 78 = .ok (.putfield 45, 3) := by decide +kernel
theorem dX7_init_81 : decode cX7_init 81 = .ok (.return_, 1) := by decide +kernel
theorem dX7_take_0 : decode cX7_take 0 = .ok (.aload_n 0, 1) := by decide +kernel
theorem dX7_take_1 : decode cX7_take 1 = .ok (.getfield 10, 3) := by decide +kernel
theorem dX7_take_4 : decode cX7_take 4 = .ok (.aload_n 1, 1) := by decide +kernel
theorem dX7_take_5 : decode cX7_take 5 = .ok (.getfield 10, 3) := by decide +kernel
theorem dX7_take_8 : decode cX7_take 8 = .ok (.invokevirtual 49, 3) := by decide +kernel
theorem dX7_take_11 : decode cX7_take 11 = .ok (.aload_n 0, 1) := by decide +kernel
theorem dX7_take_12 : decode cX7_take 12 = .ok (.getfield 19, 3) := by decide +kernel
theorem dX7_take_15 : decode cX7_take 15 = .ok (.aload_n 1, 1) := by decide +kernel
theorem dX7_take_16 : decode cX7_take 16 = .ok (.getfield 19, 3) := by decide +kernel
theorem dX7_take_19 : decode cX7_take 19 = .ok (.invokevirtual 53, 3) := by decide +kernel
theorem dX7_take_22 : decode cX7_take 22 = .ok (.aload_n 0, 1) := by decide +kernel
theorem dX7_take_23 : decode cX7_take 23 = .ok (.getfield 28, 3) := by decide +kernel
theorem dX7_take_26 : decode cX7_take 26 = .ok (.aload_n 1, 1) := by decide +kernel
theorem dX7_take_27 : decode cX7_take 27 = .ok (.getfield 28, 3) := by decide +kernel
theorem dX7_take_30 : decode cX7_take 30 = .ok (.invokevirtual 56, 3) := by decide +kernel
theorem dX7_take_33 : decode cX7_take 33 = .ok (.aload_n 0, 1) := by decide +kernel
theorem dX7_take_34 : decode cX7_take 34 = .ok (.getfield 32, 3) := by decide +kernel
theorem dX7_take_37 : decode cX7_take 37 = .ok (.aload_n 1, 1) := by decide +kernel
theorem dX7_take_38 : decode cX7_take 38 = .ok (.getfield 32, 3) := by decide +kernel
theorem dX7_take_41 : decode cX7_take 41 = .ok (.invokevirtual 56, 3) := by decide +kernel
theorem dX7_take_44 : decode cX7_take 44 = .ok (.aload_n 0, 1) := by decide +kernel
theorem dX7_take_45 : decode cX7_take 45 = .ok (.getfield 38, 3) := by decide +kernel
theorem dX7_take_48 : decode cX7_take 48 = .ok (.aload_n 1, 1) := by decide +kernel
theorem dX7_take_49 : decode cX7_take 49 = .ok (.getfield 38, 3) := by decide +kernel
theorem dX7_take_52 : decode cX7_take 52 = .ok (.invokevirtual 59, 3) := by decide +kernel
theorem dX7_take_55 : decode cX7_take 55 = .ok (.aload_n 0, 1) := by decide +kernel
theorem dX7_take_56 : decode cX7_take 56 = .ok (.getfield 42, 3) := by decide +kernel
theorem dX7_take_59 : decode cX7_take 59 = .ok (.aload_n 1, 1) := by decide +kernel
theorem dX7_take_60 : decode cX7_take 60 = .ok (.getfield 42, 3) := by decide +kernel
theorem dX7_take_63 : decode cX7_take 63 = .ok (.invokevirtual 59, 3) := by decide +kernel
theorem dX7_take_66 : decode cX7_take 66 = .ok (.aload_n 0, 1) := by decide +kernel
theorem dX7_take_67 : decode cX7_take 67 = .ok (.aload_n 1, 1) := by decide +kernel
theorem dX7_take_68 : decode cX7_take 68 = .ok (.getfield 45, 3) := by decide +kernel
theorem dX7_take_71 : decode cX7_take 71 = .ok (.putfield 45, 3) := by decide +kernel
theorem dX7_take_74 : decode cX7_take 74 = .ok (.return_, 1) := by decide +kernel
theorem dX7_passDay_0 : decode cX7_passDay 0 = .ok (.aload_n 0, 1) := by decide +kernel
theorem dX7_passDay_1 : decode cX7_passDay 1 = .ok (.aload_n 0, 1) := by decide +kernel
theorem dX7_passDay_2 : decode cX7_passDay 2 = .ok (.getfield 19, 3) := by decide +kernel
theorem dX7_passDay_5 : decode cX7_passDay 5 = .ok (.invokevirtual 62, 3) := by decide +kernel
theorem dX7_passDay_8 : decode cX7_passDay 8 = .ok (.invokevirtual 66, 3) := by decide +kernel
theorem dX7_passDay_11 : decode cX7_passDay 11 = .ok (.istore_n 1, 1) := by decide +kernel
theorem dX7_passDay_12 : decode cX7_passDay 12 = .ok (.aload_n 0, 1) := by decide +kernel
theorem dX7_passDay_13 : decode cX7_passDay 13 = .ok (.aload_n 0, 1) := by decide +kernel
theorem dX7_passDay_14 : decode cX7_passDay 14 = .ok (.getfield 10, 3) := by decide +kernel
theorem dX7_passDay_17 : decode cX7_passDay 17 = .ok (.invokevirtual 70, 3) := by decide +kernel
theorem dX7_passDay_20 : decode cX7_passDay 20 = .ok (.invokevirtual 66, 3) := by decide +kernel
theorem dX7_passDay_23 : decode cX7_passDay 23 = .ok (.istore_n 2, 1) := by decide +kernel
theorem dX7_passDay_24 : decode cX7_passDay 24 = .ok (.aload_n 0, 1) := by decide +kernel
theorem dX7_passDay_25 : decode cX7_passDay 25 = .ok (.iconst 2, 1) := by decide +kernel
theorem dX7_passDay_26 : decode cX7_passDay 26 = .ok (.invokevirtual 66, 3) := by decide +kernel
theorem dX7_passDay_29 : decode cX7_passDay 29 = .ok (.istore_n 3, 1) := by decide +kernel
theorem dX7_passDay_30 : decode cX7_passDay 30 = .ok (.aload_n 0, 1) := by decide +kernel
theorem dX7_passDay_31 : decode cX7_passDay 31 = .ok (.getfield 10, 3) := by decide +kernel
theorem dX7_passDay_34 : decode cX7_passDay 34 = .ok (.aload_n 0, 1) := by decide +kernel
theorem dX7_passDay_35 : decode cX7_passDay 35 = .ok (.bipush 8, 2) := by decide +kernel
theorem dX7_passDay_37 : decode cX7_passDay 37 = .ok (.invokevirtual 66, 3) := by decide +kernel
theorem dX7_passDay_40 : decode cX7_passDay 40 = .ok (.invokevirtual 73, 3) := by decide +kernel
theorem dX7_passDay_43 : decode cX7_passDay 43 = .ok (.aload_n 0, 1) := by decide +kernel
theorem dX7_passDay_44 : decode cX7_passDay 44 = .ok (.getfield 10, 3) := by decide +kernel
theorem dX7_passDay_47 : decode cX7_passDay 47 = .ok (.invokevirtual 76, 3) := by decide +kernel
theorem dX7_passDay_50 : decode cX7_passDay 50 = .ok (.ifCond .eq 37, 3) := by decide +kernel
theorem dX7_passDay_53 : decode cX7_passDay 53 = .ok (.aload_n 0, 1) := by decide +kernel
theorem dX7_passDay_54 : decode cX7_passDay 54 = .ok (.getfield 10, 3) := by decide +kernel
theorem dX7_passDay_57 : decode cX7_passDay 57 = .ok (.aload_n 0, 1) := by decide +kernel
theorem dX7_passDay_58 : decode cX7_passDay 58 = .ok (.getfield 19, 3) := by decide +kernel
theorem dX7_passDay_61 : decode cX7_passDay 61 = .ok (.iload_n 1, 1) := by decide +kernel
theorem dX7_passDay_62 : decode cX7_passDay 62 = .ok (.invokevirtual 80, 3) := by decide +kernel
theorem dX7_passDay_65 : decode cX7_passDay 65 = .ok (.aload_n 0, 1) := by decide +kernel
theorem dX7_passDay_66 : decode cX7_passDay 66 = .ok (.getfield 19, 3) := by decide +kernel
theorem dX7_passDay_69 : decode cX7_passDay 69 = .ok (.iload_n 1, 1) := by decide +kernel
theorem dX7_passDay_70 : decode cX7_passDay 70 = .ok (.invokevirtual 83, 3) := by decide +kernel
theorem dX7_passDay_73 : decode cX7_passDay 73 = .ok (.iload_n 2, 1) := by decide +kernel
theorem dX7_passDay_74 : decode cX7_passDay 74 = .ok (.iload_n 3, 1) := by decide +kernel
theorem dX7_passDay_75 : decode cX7_passDay 75 = .ok (.iconst 1, 1) := by decide +kernel
theorem dX7_passDay_76 : decode cX7_passDay 76 = .ok (.if_icmp .ne 7, 3) := by decide +kernel
theorem dX7_passDay_79 : decode cX7_passDay 79 = .ok (.iconst 1, 1) := by decide +kernel
theorem dX7_passDay_80 : decode cX7_passDay 80 = .ok (.goto 4, 3) := by decide +kernel
theorem dX7_passDay_83 : decode cX7_passDay 83 = .ok (.iconst 0, 1) := by decide +kernel
theorem dX7_passDay_84 : decode cX7_passDay 84 = .ok (.invokevirtual 86, 3) := by decide +kernel
theorem dX7_passDay_87 : decode cX7_passDay 87 = .ok (.return_, 1) := by decide +kernel
theorem dX7_draw_0 : decode cX7_draw 0 = .ok (.aload_n 0, 1) := by decide +kernel
theorem dX7_draw_1 : decode cX7_draw 1 = .ok (.aload_n 0, 1) := by decide +kernel
theorem dX7_draw_2 : decode cX7_draw 2 = .ok (.getfield 45, 3) := by decide +kernel
theorem dX7_draw_5 : decode cX7_draw 5 = .ok (.ldc 90, 2) := by decide +kernel
theorem dX7_draw_7 : decode cX7_draw 7 = .ok (.imul, 1) := by decide +kernel
theorem dX7_draw_8 : decode cX7_draw 8 = .ok (.sipush 12345, 3) := by decide +kernel
theorem dX7_draw_11 : decode cX7_draw 11 = .ok (.iadd, 1) := by decide +kernel
theorem dX7_draw_12 : decode cX7_draw 12 = .ok (.putfield 45, 3) := by decide +kernel
theorem dX7_draw_15 : decode cX7_draw 15 = .ok (.iload_n 1, 1) := by decide +kernel
theorem dX7_draw_16 : decode cX7_draw 16 = .ok (.ifCond .le 15, 3) := by decide +kernel
theorem dX7_draw_19 : decode cX7_draw 19 = .ok (.aload_n 0, 1) := by decide +kernel
theorem dX7_draw_20 : decode cX7_draw 20 = .ok (.getfield 45, 3) := by decide +kernel
theorem dX7_draw_23 : decode cX7_draw 23 = .ok (.bipush 8, 2) := by decide +kernel
theorem dX7_draw_25 : decode cX7_draw 25 = .ok (.iushr, 1) := by decide +kernel
theorem dX7_draw_26 : decode cX7_draw 26 = .ok (.iload_n 1, 1) := by decide +kernel
theorem dX7_draw_27 : decode cX7_draw 27 = .ok (.irem, 1) := by decide +kernel
theorem dX7_draw_28 : decode cX7_draw 28 = .ok (.goto 4, 3) := by decide +kernel
theorem dX7_draw_31 : decode cX7_draw 31 = .ok (.iconst 0, 1) := by decide +kernel
theorem dX7_draw_32 : decode cX7_draw 32 = .ok (.ireturn, 1) := by decide +kernel
theorem dX8_init_0 : decode cX8_init 0 = .ok (.aload_n 0, 1) := by decide +kernel
theorem dX8_init_1 : decode cX8_init 1 = .ok (.invokespecial 1, 3) := by decide +kernel
theorem dX8_init_4 : decode cX8_init 4 = .ok (.aload_n 0, 1) := by decide +kernel
theorem dX8_init_5 : decode cX8_init 5 = .ok (.new 7, 3) := by decide +kernel
theorem dX8_init_8 : decode cX8_init 8 = .ok (.dup, 1) := by decide +kernel
theorem dX8_init_9 : decode cX8_init 9 = .ok (.bipush 50, 2) := by decide +kernel
theorem dX8_init_11 : decode cX8_init 11 = .ok (.invokespecial 11, 3) := by decide +kernel
theorem dX8_init_14 : decode cX8_init 14 = .ok (.putfield 14, 3) := by decide +kernel
theorem dX8_init_17 : decode cX8_init 17 = .ok (.aload_n 0, 1) := by decide +kernel
theorem dX8_init_18 : decode cX8_init 18 = .ok (.new 7, 3) := by decide +kernel
theorem dX8_init_21 : decode cX8_init 21 = .ok (.dup, 1) := by decide +kernel
theorem dX8_init_22 : decode cX8_init 22 = .ok (.bipush 50, 2) := by decide +kernel
theorem dX8_init_24 : decode cX8_init 24 = .ok (.invokespecial 11, 3) := by decide +kernel
theorem dX8_init_27 : decode cX8_init 27 = .ok (.putfield 18, 3) := by decide +kernel
theorem dX8_init_30 : decode cX8_init 30 = .ok (.aload_n 0, 1) := by decide +kernel
theorem dX8_init_31 : decode cX8_init 31 = .ok (.iload_n 1, 1) := by decide +kernel
theorem dX8_init_32 : decode cX8_init 32 = .ok (.putfield 21, 3) := by decide +kernel
theorem dX8_init_35 : decode cX8_init 35 = .ok (.return_, 1) := by decide +kernel
theorem dX8_nameOf_0 : decode cX8_nameOf 0 = .ok (.iload_n 1, 1) := by decide +kernel
theorem dX8_nameOf_1 : decode cX8_nameOf 1 = .ok (.bipush 114, 2) := by decide +kernel
theorem dX8_nameOf_3 : decode cX8_nameOf 3 = .ok (.if_icmp .ne 5, 3) := by decide +kernel
theorem dX8_nameOf_6 : decode cX8_nameOf 6 = .ok (.iconst 0, 1) := by decide +kernel
theorem dX8_nameOf_7 : decode cX8_nameOf 7 = .ok (.ireturn, 1) := by decide +kernel
theorem dX8_nameOf_8 : decode cX8_nameOf 8 = .ok (.iload_n 1, 1) := by decide +kernel
theorem dX8_nameOf_9 : decode cX8_nameOf 9 = .ok (.bipush 115, 2) := by decide +kernel
theorem dX8_nameOf_11 : decode cX8_nameOf 11 = .ok (.if_icmp .ne 5, 3) := by decide +kernel
theorem dX8_nameOf_14 : decode cX8_nameOf 14 = .ok (.iconst 1, 1) := by decide +kernel
theorem dX8_nameOf_15 : decode cX8_nameOf 15 = .ok (.ireturn, 1) := by decide +kernel
theorem dX8_nameOf_16 : decode cX8_nameOf 16 = .ok (.iload_n 1, 1) := by decide +kernel
theorem dX8_nameOf_17 : decode cX8_nameOf 17 = .ok (.aload_n 0, 1) := by decide +kernel
theorem dX8_nameOf_18 : decode cX8_nameOf 18 = .ok (.getfield 21, 3) := by decide +kernel
theorem dX8_nameOf_21 : decode cX8_nameOf 21 = .ok (.ifCond .ne 8, 3) := by decide +kernel
theorem dX8_nameOf_24 : decode cX8_nameOf 24 = .ok (.bipush 104, 2) := by decide +kernel
theorem dX8_nameOf_26 : decode cX8_nameOf 26 = .ok (.goto 5, 3) := by decide +kernel
theorem dX8_nameOf_29 : decode cX8_nameOf 29 = .ok (.bipush 119, 2) := by decide +kernel
theorem dX8_nameOf_31 : decode cX8_nameOf 31 = .ok (.if_icmp .ne 7, 3) := by decide +kernel
theorem dX8_nameOf_34 : decode cX8_nameOf 34 = .ok (.iconst 2, 1) := by decide +kernel
theorem dX8_nameOf_35 : decode cX8_nameOf 35 = .ok (.goto 4, 3) := by decide +kernel
theorem dX8_nameOf_38 : decode cX8_nameOf 38 = .ok (.iconst (-1), 1) := by decide +kernel
theorem dX8_nameOf_39 : decode cX8_nameOf 39 = .ok (.ireturn, 1) := by decide +kernel
theorem dX8_takeSteps_0 : decode cX8_takeSteps 0 = .ok (.aload_n 0, 1) := by decide +kernel
theorem dX8_takeSteps_1 : decode cX8_takeSteps 1 = .ok (.getfield 14, 3) := by decide +kernel
theorem dX8_takeSteps_4 : decode cX8_takeSteps 4 = .ok (.aload_n 1, 1) := by decide +kernel
theorem dX8_takeSteps_5 : decode cX8_takeSteps 5 = .ok (.invokevirtual 25, 3) := by decide +kernel
theorem dX8_takeSteps_8 : decode cX8_takeSteps 8 = .ok (.return_, 1) := by decide +kernel
theorem dX8_take_0 : decode cX8_take 0 = .ok (.aload_n 0, 1) := by decide +kernel
theorem dX8_take_1 : decode cX8_take 1 = .ok (.getfield 14, 3) := by decide +kernel
theorem dX8_take_4 : decode cX8_take 4 = .ok (.aload_n 1, 1) := by decide +kernel
theorem dX8_take_5 : decode cX8_take 5 = .ok (.getfield 14, 3) := by decide +kernel
theorem dX8_take_8 : decode cX8_take 8 = .ok (.invokevirtual 25, 3) := by decide +kernel
theorem dX8_take_11 : decode cX8_take 11 = .ok (.return_, 1) := by decide +kernel
theorem dX8_value_0 : decode cX8_value 0 = .ok (.aload_n 0, 1) := by decide +kernel
theorem dX8_value_1 : decode cX8_value 1 = .ok (.getfield 14, 3) := by decide +kernel
theorem dX8_value_4 : decode cX8_value 4 = .ok (.invokevirtual 29, 3) := by decide +kernel
theorem dX8_value_7 : decode cX8_value 7 = .ok (.ifCond .ne 24, 3) := by decide +kernel
theorem dX8_value_10 : decode cX8_value 10 = .ok (.aload_n 0, 1) := by decide +kernel
theorem dX8_value_11 : decode cX8_value 11 = .ok (.getfield 21, 3) := by decide +kernel
theorem dX8_value_14 : decode cX8_value 14 = .ok (.ifCond .ne 10, 3) := by decide +kernel
theorem dX8_value_17 : decode cX8_value 17 = .ok (.bipush 10, 2) := by decide +kernel
theorem dX8_value_19 : decode cX8_value 19 = .ok (.iload_n 3, 1) := by decide +kernel
theorem dX8_value_20 : decode cX8_value 20 = .ok (.isub, 1) := by decide +kernel
theorem dX8_value_21 : decode cX8_value 21 = .ok (.goto 6, 3) := by decide +kernel
theorem dX8_value_24 : decode cX8_value 24 = .ok (.iconst 1, 1) := by decide +kernel
theorem dX8_value_25 : decode cX8_value 25 = .ok (.iload_n 3, 1) := by decide +kernel
theorem dX8_value_26 : decode cX8_value 26 = .ok (.iadd, 1) := by decide +kernel
theorem dX8_value_27 : decode cX8_value 27 = .ok (.invokestatic 33, 3) := by decide +kernel
theorem dX8_value_30 : decode cX8_value 30 = .ok (.ireturn, 1) := by decide +kernel
theorem dX8_value_31 : decode cX8_value 31 = .ok (.aload_n 0, 1) := by decide +kernel
theorem dX8_value_32 : decode cX8_value 32 = .ok (.getfield 18, 3) := by decide +kernel
theorem dX8_value_35 : decode cX8_value 35 = .ok (.aload_n 0, 1) := by decide +kernel
theorem dX8_value_36 : decode cX8_value 36 = .ok (.getfield 14, 3) := by decide +kernel
theorem dX8_value_39 : decode cX8_value 39 = .ok (.invokevirtual 29, 3) := by decide +kernel
theorem dX8_value_42 : decode cX8_value 42 = .ok (.iconst 0, 1) := by decide +kernel
theorem dX8_value_43 : decode cX8_value 43 = .ok (.invokevirtual 37, 3) := by decide +kernel
theorem dX8_value_46 : decode cX8_value 46 = .ok (.iconst (-1), 1) := by decide +kernel
theorem dX8_value_47 : decode cX8_value 47 = .ok (.istore 4, 2) := by decide +kernel
theorem dX8_value_49 : decode cX8_value 49 = .ok (.iconst 0, 1) := by decide +kernel
theorem dX8_value_50 : decode cX8_value 50 = .ok (.istore 5, 2) := by decide +kernel
theorem dX8_value_52 : decode cX8_value 52 = .ok (.iload 5, 2) := by decide +kernel
theorem dX8_value_54 : decode cX8_value 54 = .ok (.aload_n 0, 1) := by decide +kernel
theorem dX8_value_55 : decode cX8_value 55 = .ok (.getfield 14, 3) := by decide +kernel
theorem dX8_value_58 : decode cX8_value 58 = .ok (.invokevirtual 29, 3) := by decide +kernel
theorem dX8_value_61 : decode cX8_value 61 = .ok (.if_icmp .ge 171, 3) := by decide +kernel
theorem dX8_value_64 : decode cX8_value 64 = .ok (.aload_n 0, 1) := by decide +kernel
theorem dX8_value_65 : decode cX8_value 65 = .ok (.getfield 14, 3) := by decide +kernel
theorem dX8_value_68 : decode cX8_value 68 = .ok (.iload 5, 2) := by decide +kernel
theorem dX8_value_70 : decode cX8_value 70 = .ok (.invokevirtual 41, 3) := by decide +kernel
theorem dX8_value_73 : decode cX8_value 73 = .ok (.istore 6, 2) := by decide +kernel
theorem dX8_value_75 : decode cX8_value 75 = .ok (.iload 6, 2) := by decide +kernel
theorem dX8_value_77 : decode cX8_value 77 = .ok (.sipush 10000, 3) := by decide +kernel
theorem dX8_value_80 : decode cX8_value 80 = .ok (.if_icmp .ge 20, 3) := by decide +kernel
theorem dX8_value_83 : decode cX8_value 83 = .ok (.iinc 4 1, 3) := by decide +kernel
theorem dX8_value_86 : decode cX8_value 86 = .ok (.aload_n 0, 1) := by decide +kernel
theorem dX8_value_87 : decode cX8_value 87 = .ok (.getfield 18, 3) := by decide +kernel
theorem dX8_value_90 : decode cX8_value 90 = .ok (.iload 4, 2) := by decide +kernel
theorem dX8_value_92 : decode cX8_value 92 = .ok (.iload 6, 2) := by decide +kernel
theorem dX8_value_94 : decode cX8_value 94 = .ok (.invokevirtual 44, 3) := by decide +kernel
theorem dX8_value_97 : decode cX8_value 97 = .ok (.goto 129, 3) := by decide +kernel
theorem dX8_value_100 : decode cX8_value 100 = .ok (.iload 6, 2) := by decide +kernel
theorem dX8_value_102 : decode cX8_value 102 = .ok (.sipush 20000, 3) := by decide +kernel
theorem dX8_value_105 : decode cX8_value 105 = .ok (.if_icmp .ge 43, 3) := by decide +kernel
theorem dX8_value_108 : decode cX8_value 108 = .ok (.iinc 4 1, 3) := by decide +kernel
theorem dX8_value_111 : decode cX8_value 111 = .ok (.aload_n 0, 1) := by decide +kernel
theorem dX8_value_112 : decode cX8_value 112 = .ok (.getfield 18, 3) := by decide +kernel
theorem dX8_value_115 : decode cX8_value 115 = .ok (.iload 4, 2) := by decide +kernel
theorem dX8_value_117 : decode cX8_value 117 = .ok (.iload 6, 2) := by decide +kernel
theorem dX8_value_119 : decode cX8_value 119 = .ok (.sipush 10000, 3) := by decide +kernel
theorem dX8_value_122 : decode cX8_value 122 = .ok (.if_icmp .ne 7, 3) := by decide +kernel
theorem dX8_value_125 : decode cX8_value 125 = .ok (.iload_n 1, 1) := by decide +kernel
theorem dX8_value_126 : decode cX8_value 126 = .ok (.goto 16, 3) := by decide +kernel
theorem dX8_value_129 : decode cX8_value 129 = .ok (.iload 6, 2) := by decide +kernel
theorem dX8_value_131 : decode cX8_value 131 = .ok (.sipush 10001, 3) := by decide +kernel
theorem dX8_value_134 : decode cX8_value 134 = .ok (.if_icmp .ne 7, 3) := by decide +kernel
theorem dX8_value_137 : decode cX8_value 137 = .ok (.iload_n 2, 1) := by decide +kernel
theorem dX8_value_138 : decode cX8_value 138 = .ok (.goto 4, 3) := by decide +kernel
theorem dX8_value_141 : decode cX8_value 141 = .ok (.iload_n 3, 1) := by decide +kernel
theorem dX8_value_142 : decode cX8_value 142 = .ok (.invokevirtual 44, 3) := by decide +kernel
theorem dX8_value_145 : decode cX8_value 145 = .ok (.goto 81, 3) := by decide +kernel
theorem dX8_value_148 : decode cX8_value 148 = .ok (.iload 6, 2) := by decide +kernel
theorem dX8_value_150 : decode cX8_value 150 = .ok (.sipush 20033, 3) := by decide +kernel
theorem dX8_value_153 : decode cX8_value 153 = .ok (.if_icmp .ne 32, 3) := by decide +kernel
theorem dX8_value_156 : decode cX8_value 156 = .ok (.aload_n 0, 1) := by decide +kernel
theorem dX8_value_157 : decode cX8_value 157 = .ok (.getfield 18, 3) := by decide +kernel
theorem dX8_value_160 : decode cX8_value 160 = .ok (.iload 4, 2) := by decide +kernel
theorem dX8_value_162 : decode cX8_value 162 = .ok (.aload_n 0, 1) := by decide +kernel
theorem dX8_value_163 : decode cX8_value 163 = .ok (.getfield 18, 3) := by decide +kernel
theorem dX8_value_166 : decode cX8_value 166 = .ok (.iload 4, 2) := by decide +kernel
theorem dX8_value_168 : decode cX8_value 168 = .ok (.invokevirtual 41, 3) := by decide +kernel
theorem dX8_value_171 : decode cX8_value 171 = .ok (.ifCond .ne 7, 3) := by decide +kernel
theorem dX8_value_174 : decode cX8_value 174 = .ok (.iconst 1, 1) := by decide +kernel
theorem dX8_value_175 : decode cX8_value 175 = .ok (.goto 4, 3) := by decide +kernel
theorem dX8_value_178 : decode cX8_value 178 = .ok (.iconst 0, 1) := by decide +kernel
theorem dX8_value_179 : decode cX8_value 179 = .ok (.invokevirtual 44, 3) := by decide +kernel
theorem dX8_value_182 : decode cX8_value 182 = .ok (.goto 44, 3) := by decide +kernel
theorem dX8_value_185 : decode cX8_value 185 = .ok (.iinc 4 (-1), 3) := by decide +kernel
theorem dX8_value_188 : decode cX8_value 188 = .ok (.aload_n 0, 1) := by decide +kernel
theorem dX8_value_189 : decode cX8_value 189 = .ok (.getfield 18, 3) := by decide +kernel
theorem dX8_value_192 : decode cX8_value 192 = .ok (.iload 4, 2) := by decide +kernel
theorem dX8_value_194 : decode cX8_value 194 = .ok (.iload 6, 2) := by decide +kernel
theorem dX8_value_196 : decode cX8_value 196 = .ok (.sipush 20000, 3) := by decide +kernel
theorem dX8_value_199 : decode cX8_value 199 = .ok (.isub, 1) := by decide +kernel
theorem dX8_value_200 : decode cX8_value 200 = .ok (.aload_n 0, 1) := by decide +kernel
theorem dX8_value_201 : decode cX8_value 201 = .ok (.getfield 18, 3) := by decide +kernel
theorem dX8_value_204 : decode cX8_value 204 = .ok (.iload 4, 2) := by decide +kernel
theorem dX8_value_206 : decode cX8_value 206 = .ok (.invokevirtual 41, 3) := by decide +kernel
theorem dX8_value_209 : decode cX8_value 209 = .ok (.aload_n 0, 1) := by decide +kernel
theorem dX8_value_210 : decode cX8_value 210 = .ok (.getfield 18, 3) := by decide +kernel
theorem dX8_value_213 : decode cX8_value 213 = .ok (.iload 4, 2) := by decide +kernel
theorem dX8_value_215 : decode cX8_value 215 = .ok (.iconst 1, 1) := by decide +kernel
theorem dX8_value_216 : decode cX8_value 216 = .ok (.iadd, 1) := by decide +kernel
theorem dX8_value_217 : decode cX8_value 217 = .ok (.invokevirtual 41, 3) := by decide +kernel
theorem dX8_value_220 : decode cX8_value 220 = .ok (.invokestatic 47, 3) := by decide +kernel
theorem dX8_value_223 : decode cX8_value 223 = .ok (.invokevirtual 44, 3) := by decide +kernel
theorem dX8_value_226 : decode cX8_value 226 = .ok (.iinc 5 1, 3) := by decide +kernel
theorem dX8_value_229 : decode cX8_value 229 = .ok (.goto (-177), 3) := by decide +kernel
theorem dX8_value_232 : decode cX8_value 232 = .ok (.aload_n 0, 1) := by decide +kernel
theorem dX8_value_233 : decode cX8_value 233 = .ok (.getfield 18, 3) := by decide +kernel
theorem dX8_value_236 : decode cX8_value 236 = .ok (.iload 4, 2) := by decide +kernel
theorem dX8_value_238 : decode cX8_value 238 = .ok (.invokevirtual 41, 3) := by decide +kernel
theorem dX8_value_241 : decode cX8_value 241 = .ok (.invokestatic 33, 3) := by decide +kernel
theorem dX8_value_244 : decode cX8_value 244 = .ok (.ireturn, 1) := by decide +kernel
theorem dX8_held_0 : decode cX8_held 0 = .ok (.iconst 0, 1) := by decide +kernel
theorem dX8_held_1 : decode cX8_held 1 = .ok (.bipush 99, 2) := by decide +kernel
theorem dX8_held_3 : decode cX8_held 3 = .ok (.iload_n 0, 1) := by decide +kernel
theorem dX8_held_4 : decode cX8_held 4 = .ok (.invokestatic 51, 3) := by decide +kernel
theorem dX8_held_7 : decode cX8_held 7 = .ok (.invokestatic 57, 3) := by decide +kernel
theorem dX8_held_10 : decode cX8_held 10 = .ok (.ireturn, 1) := by decide +kernel
theorem dX8_join_0 : decode cX8_join 0 = .ok (.iload_n 0, 1) := by decide +kernel
theorem dX8_join_1 : decode cX8_join 1 = .ok (.lookupswitch 168 #[(38, 97), (42, 152), (43, 144), (45, 148), (47, 156), (60, 111), (61, 122), (62, 133), (124, 83)], 83) := by decide +kernel
theorem dX8_join_84 : decode cX8_join 84 = .ok (.iload_n 1, 1) := by decide +kernel
theorem dX8_join_85 : decode cX8_join 85 = .ok (.ifCond .ne 7, 3) := by decide +kernel
theorem dX8_join_88 : decode cX8_join 88 = .ok (.iload_n 2, 1) := by decide +kernel
theorem dX8_join_89 : decode cX8_join 89 = .ok (.ifCond .eq 7, 3) := by decide +kernel
theorem dX8_join_92 : decode cX8_join 92 = .ok (.iconst 1, 1) := by decide +kernel
theorem dX8_join_93 : decode cX8_join 93 = .ok (.goto 4, 3) := by decide +kernel
theorem dX8_join_96 : decode cX8_join 96 = .ok (.iconst 0, 1) := by decide +kernel
theorem dX8_join_97 : decode cX8_join 97 = .ok (.ireturn, 1) := by decide +kernel
theorem dX8_join_98 : decode cX8_join 98 = .ok (.iload_n 1, 1) := by decide +kernel
theorem dX8_join_99 : decode cX8_join 99 = .ok (.ifCond .eq 11, 3) := by decide +kernel
theorem dX8_join_102 : decode cX8_join 102 = .ok (.iload_n 2, 1) := by decide +kernel
theorem dX8_join_103 : decode cX8_join 103 = .ok (.ifCond .eq 7, 3) := by decide +kernel
theorem dX8_join_106 : decode cX8_join 106 = .ok (.iconst 1, 1) := by decide +kernel
theorem dX8_join_107 : decode cX8_join 107 = .ok (.goto 4, 3) := by decide +kernel
theorem dX8_join_110 : decode cX8_join 110 = .ok (.iconst 0, 1) := by decide +kernel
theorem dX8_join_111 : decode cX8_join 111 = .ok (.ireturn, 1) := by decide +kernel
theorem dX8_join_112 : decode cX8_join 112 = .ok (.iload_n 1, 1) := by decide +kernel
theorem dX8_join_113 : decode cX8_join 113 = .ok (.iload_n 2, 1) := by decide +kernel
theorem dX8_join_114 : decode cX8_join 114 = .ok (.if_icmp .ge 7, 3) := by decide +kernel
theorem dX8_join_117 : decode cX8_join 117 = .ok (.iconst 1, 1) := by decide +kernel
theorem dX8_join_118 : decode cX8_join 118 = .ok (.goto 4, 3) := by decide +kernel
theorem dX8_join_121 : decode cX8_join 121 = .ok (.iconst 0, 1) := by decide +kernel
theorem dX8_join_122 : decode cX8_join 122 = .ok (.ireturn, 1) := by decide +kernel
theorem dX8_join_123 : decode cX8_join 123 = .ok (.iload_n 1, 1) := by decide +kernel
theorem dX8_join_124 : decode cX8_join 124 = .ok (.iload_n 2, 1) := by decide +kernel
theorem dX8_join_125 : decode cX8_join 125 = .ok (.if_icmp .ne 7, 3) := by decide +kernel
theorem dX8_join_128 : decode cX8_join 128 = .ok (.iconst 1, 1) := by decide +kernel
theorem dX8_join_129 : decode cX8_join 129 = .ok (.goto 4, 3) := by decide +kernel
theorem dX8_join_132 : decode cX8_join 132 = .ok (.iconst 0, 1) := by decide +kernel
theorem dX8_join_133 : decode cX8_join 133 = .ok (.ireturn, 1) := by decide +kernel
theorem dX8_join_134 : decode cX8_join 134 = .ok (.iload_n 1, 1) := by decide +kernel
theorem dX8_join_135 : decode cX8_join 135 = .ok (.iload_n 2, 1) := by decide +kernel
theorem dX8_join_136 : decode cX8_join 136 = .ok (.if_icmp .le 7, 3) := by decide +kernel
theorem dX8_join_139 : decode cX8_join 139 = .ok (.iconst 1, 1) := by decide +kernel
theorem dX8_join_140 : decode cX8_join 140 = .ok (.goto 4, 3) := by decide +kernel
theorem dX8_join_143 : decode cX8_join 143 = .ok (.iconst 0, 1) := by decide +kernel
theorem dX8_join_144 : decode cX8_join 144 = .ok (.ireturn, 1) := by decide +kernel
theorem dX8_join_145 : decode cX8_join 145 = .ok (.iload_n 1, 1) := by decide +kernel
theorem dX8_join_146 : decode cX8_join 146 = .ok (.iload_n 2, 1) := by decide +kernel
theorem dX8_join_147 : decode cX8_join 147 = .ok (.iadd, 1) := by decide +kernel
theorem dX8_join_148 : decode cX8_join 148 = .ok (.ireturn, 1) := by decide +kernel
theorem dX8_join_149 : decode cX8_join 149 = .ok (.iload_n 1, 1) := by decide +kernel
theorem dX8_join_150 : decode cX8_join 150 = .ok (.iload_n 2, 1) := by decide +kernel
theorem dX8_join_151 : decode cX8_join 151 = .ok (.isub, 1) := by decide +kernel
theorem dX8_join_152 : decode cX8_join 152 = .ok (.ireturn, 1) := by decide +kernel
theorem dX8_join_153 : decode cX8_join 153 = .ok (.iload_n 1, 1) := by decide +kernel
theorem dX8_join_154 : decode cX8_join 154 = .ok (.iload_n 2, 1) := by decide +kernel
theorem dX8_join_155 : decode cX8_join 155 = .ok (.imul, 1) := by decide +kernel
theorem dX8_join_156 : decode cX8_join 156 = .ok (.ireturn, 1) := by decide +kernel
theorem dX8_join_157 : decode cX8_join 157 = .ok (.iload_n 2, 1) := by decide +kernel
theorem dX8_join_158 : decode cX8_join 158 = .ok (.ifCond .ne 7, 3) := by decide +kernel
theorem dX8_join_161 : decode cX8_join 161 = .ok (.iconst 0, 1) := by decide +kernel
theorem dX8_join_162 : decode cX8_join 162 = .ok (.goto 6, 3) := by decide +kernel
theorem dX8_join_165 : decode cX8_join 165 = .ok (.iload_n 1, 1) := by decide +kernel
theorem dX8_join_166 : decode cX8_join 166 = .ok (.iload_n 2, 1) := by decide +kernel
theorem dX8_join_167 : decode cX8_join 167 = .ok (.idiv, 1) := by decide +kernel
theorem dX8_join_168 : decode cX8_join 168 = .ok (.ireturn, 1) := by decide +kernel
theorem dX8_join_169 : decode cX8_join 169 = .ok (.iload_n 2, 1) := by decide +kernel
theorem dX8_join_170 : decode cX8_join 170 = .ok (.ifCond .ne 7, 3) := by decide +kernel
theorem dX8_join_173 : decode cX8_join 173 = .ok (.iconst 0, 1) := by decide +kernel
theorem dX8_join_174 : decode cX8_join 174 = .ok (.goto 6, 3) := by decide +kernel
theorem dX8_join_177 : decode cX8_join 177 = .ok (.iload_n 1, 1) := by decide +kernel
theorem dX8_join_178 : decode cX8_join 178 = .ok (.iload_n 2, 1) := by decide +kernel
theorem dX8_join_179 : decode cX8_join 179 = .ok (.irem, 1) := by decide +kernel
theorem dX8_join_180 : decode cX8_join 180 = .ok (.ireturn, 1) := by decide +kernel
