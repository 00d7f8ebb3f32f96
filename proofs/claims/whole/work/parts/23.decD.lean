theorem dX2_init_0 : decode cX2_init 0 = .ok (.aload_n 0, 1) := by decide +kernel
theorem dX2_init_1 : decode cX2_init 1 = .ok (.invokespecial 3, 3) := by decide +kernel
theorem dX2_init_4 : decode cX2_init 4 = .ok (.aload_n 0, 1) := by decide +kernel
theorem dX2_init_5 : decode cX2_init 5 = .ok (.new 9, 3) := by decide +kernel
theorem dX2_init_8 : decode cX2_init 8 = .ok (.dup, 1) := by decide +kernel
theorem dX2_init_9 : decode cX2_init 9 = .ok (.sipush 360, 3) := by decide +kernel
theorem dX2_init_12 : decode cX2_init 12 = .ok (.invokespecial 13, 3) := by decide +kernel
theorem dX2_init_15 : decode cX2_init 15 = .ok (.putfield 16, 3) := by decide +kernel
theorem dX2_init_18 : decode cX2_init 18 = .ok (.aload_n 0, 1) := by decide +kernel
theorem dX2_init_19 : decode cX2_init 19 = .ok (.new 9, 3) := by decide +kernel
theorem dX2_init_22 : decode cX2_init 22 = .ok (.dup, 1) := by decide +kernel
theorem dX2_init_23 : decode cX2_init 23 = .ok (.sipush 3000, 3) := by decide +kernel
theorem dX2_init_26 : decode cX2_init 26 = .ok (.invokespecial 13, 3) := by decide +kernel
theorem dX2_init_29 : decode cX2_init 29 = .ok (.putfield 20, 3) := by decide +kernel
theorem dX2_init_32 : decode cX2_init 32 = .ok (.aload_n 0, 1) := by decide +kernel
theorem dX2_init_33 : decode cX2_init 33 = .ok (.aload_n 1, 1) := by decide +kernel
theorem dX2_init_34 : decode cX2_init 34 = .ok (.putfield 23, 3) := by decide +kernel
theorem dX2_init_37 : decode cX2_init 37 = .ok (.aload_n 0, 1) := by decide +kernel
theorem dX2_init_38 : decode cX2_init 38 = .ok (.aload_n 2, 1) := by decide +kernel
theorem dX2_init_39 : decode cX2_init 39 = .ok (.putfield 27, 3) := by decide +kernel
theorem dX2_init_42 : decode cX2_init 42 = .ok (.aload_n 0, 1) := by decide +kernel
theorem dX2_init_43 : decode cX2_init 43 = .ok (.getfield 16, 3) := by decide +kernel
theorem dX2_init_46 : decode cX2_init 46 = .ok (.sipush 360, 3) := by decide +kernel
theorem dX2_init_49 : decode cX2_init 49 = .ok (.iconst 0, 1) := by decide +kernel
theorem dX2_init_50 : decode cX2_init 50 = .ok (.invokevirtual 30, 3) := by decide +kernel
theorem dX2_init_53 : decode cX2_init 53 = .ok (.aload_n 0, 1) := by decide +kernel
theorem dX2_init_54 : decode cX2_init 54 = .ok (.getfield 20, 3) := by decide +kernel
theorem dX2_init_57 : decode cX2_init 57 = .ok (.sipush 3000, 3) := by decide +kernel
theorem dX2_init_60 : decode cX2_init 60 = .ok (.iconst 0, 1) := by decide +kernel
theorem dX2_init_61 : decode cX2_init 61 = .ok (.invokevirtual 30, 3) := by decide +kernel
theorem dX2_init_64 : decode cX2_init 64 = .ok (.return_, 1) := by decide +kernel
theorem dX2_forget_0 : decode cX2_forget 0 = .ok (.aload_n 0, 1) := by decide +kernel
theorem dX2_forget_1 : decode cX2_forget 1 = .ok (.getfield 16, 3) := by decide +kernel
theorem dX2_forget_4 : decode cX2_forget 4 = .ok (.aload_n 0, 1) := by decide +kernel
theorem dX2_forget_5 : decode cX2_forget 5 = .ok (.getfield 16, 3) := by decide +kernel
theorem dX2_forget_8 : decode cX2_forget 8 = .ok (.invokevirtual 34, 3) := by decide +kernel
theorem dX2_forget_11 : decode cX2_forget 11 = .ok (.iconst 0, 1) := by decide +kernel
theorem dX2_forget_12 : decode cX2_forget 12 = .ok (.invokevirtual 30, 3) := by decide +kernel
theorem dX2_forget_15 : decode cX2_forget 15 = .ok (.aload_n 0, 1) := by decide +kernel
theorem dX2_forget_16 : decode cX2_forget 16 = .ok (.getfield 20, 3) := by decide +kernel
theorem dX2_forget_19 : decode cX2_forget 19 = .ok (.aload_n 0, 1) := by decide +kernel
theorem dX2_forget_20 : decode cX2_forget 20 = .ok (.getfield 20, 3) := by decide +kernel
theorem dX2_forget_23 : decode cX2_forget 23 = .ok (.invokevirtual 34, 3) := by decide +kernel
theorem dX2_forget_26 : decode cX2_forget 26 = .ok (.iconst 0, 1) := by decide +kernel
theorem dX2_forget_27 : decode cX2_forget 27 = .ok (.invokevirtual 30, 3) := by decide +kernel
theorem dX2_forget_30 : decode cX2_forget 30 = .ok (.return_, 1) := by decide +kernel
theorem dX2_driesOf_0 : decode cX2_driesOf 0 = .ok (.iload_n 1, 1) := by decide +kernel
theorem dX2_driesOf_1 : decode cX2_driesOf 1 = .ok (.bipush 6, 2) := by decide +kernel
theorem dX2_driesOf_3 : decode cX2_driesOf 3 = .ok (.imul, 1) := by decide +kernel
theorem dX2_driesOf_4 : decode cX2_driesOf 4 = .ok (.iload_n 2, 1) := by decide +kernel
theorem dX2_driesOf_5 : decode cX2_driesOf 5 = .ok (.iadd, 1) := by decide +kernel
theorem dX2_driesOf_6 : decode cX2_driesOf 6 = .ok (.bipush 10, 2) := by decide +kernel
theorem dX2_driesOf_8 : decode cX2_driesOf 8 = .ok (.imul, 1) := by decide +kernel
theorem dX2_driesOf_9 : decode cX2_driesOf 9 = .ok (.iload_n 3, 1) := by decide +kernel
theorem dX2_driesOf_10 : decode cX2_driesOf 10 = .ok (.iadd, 1) := by decide +kernel
theorem dX2_driesOf_11 : decode cX2_driesOf 11 = .ok (.istore 4, 2) := by decide +kernel
theorem dX2_driesOf_13 : decode cX2_driesOf 13 = .ok (.aload_n 0, 1) := by decide +kernel
theorem dX2_driesOf_14 : decode cX2_driesOf 14 = .ok (.getfield 16, 3) := by decide +kernel
theorem dX2_driesOf_17 : decode cX2_driesOf 17 = .ok (.iload 4, 2) := by decide +kernel
theorem dX2_driesOf_19 : decode cX2_driesOf 19 = .ok (.invokevirtual 38, 3) := by decide +kernel
theorem dX2_driesOf_22 : decode cX2_driesOf 22 = .ok (.ifCond .ne 24, 3) := by decide +kernel
theorem dX2_driesOf_25 : decode cX2_driesOf 25 = .ok (.aload_n 0, 1) := by decide +kernel
theorem dX2_driesOf_26 : decode cX2_driesOf 26 = .ok (.getfield 16, 3) := by decide +kernel
theorem dX2_driesOf_29 : decode cX2_driesOf 29 = .ok (.iload 4, 2) := by decide +kernel
theorem dX2_driesOf_31 : decode cX2_driesOf 31 = .ok (.aload_n 0, 1) := by decide +kernel
theorem dX2_driesOf_32 : decode cX2_driesOf 32 = .ok (.getfield 23, 3) := by decide +kernel
theorem dX2_driesOf_35 : decode cX2_driesOf 35 = .ok (.iload_n 1, 1) := by decide +kernel
theorem dX2_driesOf_36 : decode cX2_driesOf 36 = .ok (.iload_n 2, 1) := by decide +kernel
theorem dX2_driesOf_37 : decode cX2_driesOf 37 = .ok (.iload_n 3, 1) := by decide +kernel
theorem dX2_driesOf_38 : decode cX2_driesOf 38 = .ok (.invokevirtual 42, 3) := by decide +kernel
theorem dX2_driesOf_41 : decode cX2_driesOf 41 = .ok (.iconst 1, 1) := by decide +kernel
theorem dX2_driesOf_42 : decode cX2_driesOf 42 = .ok (.iadd, 1) := by decide +kernel
theorem dX2_driesOf_43 : decode cX2_driesOf 43 = .ok (.invokevirtual 48, 3) := by decide +kernel
theorem dX2_driesOf_46 : decode cX2_driesOf 46 = .ok (.aload_n 0, 1) := by decide +kernel
theorem dX2_driesOf_47 : decode cX2_driesOf 47 = .ok (.getfield 16, 3) := by decide +kernel
theorem dX2_driesOf_50 : decode cX2_driesOf 50 = .ok (.iload 4, 2) := by decide +kernel
theorem dX2_driesOf_52 : decode cX2_driesOf 52 = .ok (.invokevirtual 38, 3) := by decide +kernel
theorem dX2_driesOf_55 : decode cX2_driesOf 55 = .ok (.iconst 1, 1) := by decide +kernel
theorem dX2_driesOf_56 : decode cX2_driesOf 56 = .ok (.isub, 1) := by decide +kernel
theorem dX2_driesOf_57 : decode cX2_driesOf 57 = .ok (.ireturn, 1) := by decide +kernel
theorem dX2_lightOf_0 : decode cX2_lightOf 0 = .ok (.iload_n 1, 1) := by decide +kernel
theorem dX2_lightOf_1 : decode cX2_lightOf 1 = .ok (.iconst 5, 1) := by decide +kernel
theorem dX2_lightOf_2 : decode cX2_lightOf 2 = .ok (.imul, 1) := by decide +kernel
theorem dX2_lightOf_3 : decode cX2_lightOf 3 = .ok (.iload_n 2, 1) := by decide +kernel
theorem dX2_lightOf_4 : decode cX2_lightOf 4 = .ok (.iadd, 1) := by decide +kernel
theorem dX2_lightOf_5 : decode cX2_lightOf 5 = .ok (.bipush 100, 2) := by decide +kernel
theorem dX2_lightOf_7 : decode cX2_lightOf 7 = .ok (.imul, 1) := by decide +kernel
theorem dX2_lightOf_8 : decode cX2_lightOf 8 = .ok (.iload_n 3, 1) := by decide +kernel
theorem dX2_lightOf_9 : decode cX2_lightOf 9 = .ok (.iadd, 1) := by decide +kernel
theorem dX2_lightOf_10 : decode cX2_lightOf 10 = .ok (.istore 4, 2) := by decide +kernel
theorem dX2_lightOf_12 : decode cX2_lightOf 12 = .ok (.aload_n 0, 1) := by decide +kernel
theorem dX2_lightOf_13 : decode cX2_lightOf 13 = .ok (.getfield 20, 3) := by decide +kernel
theorem dX2_lightOf_16 : decode cX2_lightOf 16 = .ok (.iload 4, 2) := by decide +kernel
theorem dX2_lightOf_18 : decode cX2_lightOf 18 = .ok (.invokevirtual 38, 3) := by decide +kernel
theorem dX2_lightOf_21 : decode cX2_lightOf 21 = .ok (.ifCond .ne 24, 3) := by decide +kernel
theorem dX2_lightOf_24 : decode cX2_lightOf 24 = .ok (.aload_n 0, 1) := by decide +kernel
theorem dX2_lightOf_25 : decode cX2_lightOf 25 = .ok (.getfield 20, 3) := by decide +kernel
theorem dX2_lightOf_28 : decode cX2_lightOf 28 = .ok (.iload 4, 2) := by decide +kernel
theorem dX2_lightOf_30 : decode cX2_lightOf 30 = .ok (.aload_n 0, 1) := by decide +kernel
theorem dX2_lightOf_31 : decode cX2_lightOf 31 = .ok (.getfield 27, 3) := by decide +kernel
theorem dX2_lightOf_34 : decode cX2_lightOf 34 = .ok (.iload_n 1, 1) := by decide +kernel
theorem dX2_lightOf_35 : decode cX2_lightOf 35 = .ok (.iload_n 2, 1) := by decide +kernel
theorem dX2_lightOf_36 : decode cX2_lightOf 36 = .ok (.iload_n 3, 1) := by decide +kernel
theorem dX2_lightOf_37 : decode cX2_lightOf 37 = .ok (.invokevirtual 42, 3) := by decide +kernel
theorem dX2_lightOf_40 : decode cX2_lightOf 40 = .ok (.iconst 1, 1) := by decide +kernel
theorem dX2_lightOf_41 : decode cX2_lightOf 41 = .ok (.iadd, 1) := by decide +kernel
theorem dX2_lightOf_42 : decode cX2_lightOf 42 = .ok (.invokevirtual 48, 3) := by decide +kernel
theorem dX2_lightOf_45 : decode cX2_lightOf 45 = .ok (.aload_n 0, 1) := by decide +kernel
theorem dX2_lightOf_46 : decode cX2_lightOf 46 = .ok (.getfield 20, 3) := by decide +kernel
theorem dX2_lightOf_49 : decode cX2_lightOf 49 = .ok (.iload 4, 2) := by decide +kernel
theorem dX2_lightOf_51 : decode cX2_lightOf 51 = .ok (.invokevirtual 38, 3) := by decide +kernel
theorem dX2_lightOf_54 : decode cX2_lightOf 54 = .ok (.iconst 1, 1) := by decide +kernel
theorem dX2_lightOf_55 : decode cX2_lightOf 55 = .ok (.isub, 1) := by decide +kernel
theorem dX2_lightOf_56 : decode cX2_lightOf 56 = .ok (.ireturn, 1) := by decide +kernel
theorem dX2_isSeam_0 : decode cX2_isSeam 0 = .ok (.aload_n 1, 1) := by decide +kernel
theorem dX2_isSeam_1 : decode cX2_isSeam 1 = .ok (.iload_n 2, 1) := by decide +kernel
theorem dX2_isSeam_2 : decode cX2_isSeam 2 = .ok (.iload 4, 2) := by decide +kernel
theorem dX2_isSeam_4 : decode cX2_isSeam 4 = .ok (.invokevirtual 51, 3) := by decide +kernel
theorem dX2_isSeam_7 : decode cX2_isSeam 7 = .ok (.istore 7, 2) := by decide +kernel
theorem dX2_isSeam_9 : decode cX2_isSeam 9 = .ok (.aload_n 1, 1) := by decide +kernel
theorem dX2_isSeam_10 : decode cX2_isSeam 10 = .ok (.iload_n 2, 1) := by decide +kernel
theorem dX2_isSeam_11 : decode cX2_isSeam 11 = .ok (.iload 5, 2) := by decide +kernel
theorem dX2_isSeam_13 : decode cX2_isSeam 13 = .ok (.invokevirtual 51, 3) := by decide +kernel
theorem dX2_isSeam_16 : decode cX2_isSeam 16 = .ok (.istore 8, 2) := by decide +kernel
theorem dX2_isSeam_18 : decode cX2_isSeam 18 = .ok (.iload 7, 2) := by decide +kernel
theorem dX2_isSeam_20 : decode cX2_isSeam 20 = .ok (.ifCond .lt 8, 3) := by decide +kernel
theorem dX2_isSeam_23 : decode cX2_isSeam 23 = .ok (.iload 8, 2) := by decide +kernel
theorem dX2_isSeam_25 : decode cX2_isSeam 25 = .ok (.ifCond .ge 5, 3) := by decide +kernel
theorem dX2_isSeam_28 : decode cX2_isSeam 28 = .ok (.iconst 0, 1) := by decide +kernel
theorem dX2_isSeam_29 : decode cX2_isSeam 29 = .ok (.ireturn, 1) := by decide +kernel
theorem dX2_isSeam_30 : decode cX2_isSeam 30 = .ok (.aload_n 1, 1) := by decide +kernel
theorem dX2_isSeam_31 : decode cX2_isSeam 31 = .ok (.iload_n 2, 1) := by decide +kernel
theorem dX2_isSeam_32 : decode cX2_isSeam 32 = .ok (.iload 4, 2) := by decide +kernel
theorem dX2_isSeam_34 : decode cX2_isSeam 34 = .ok (.invokevirtual 55, 3) := by decide +kernel
theorem dX2_isSeam_37 : decode cX2_isSeam 37 = .ok (.aload_n 1, 1) := by decide +kernel
theorem dX2_isSeam_38 : decode cX2_isSeam 38 = .ok (.iload_n 2, 1) := by decide +kernel
theorem dX2_isSeam_39 : decode cX2_isSeam 39 = .ok (.iload 5, 2) := by decide +kernel
theorem dX2_isSeam_41 : decode cX2_isSeam 41 = .ok (.invokevirtual 55, 3) := by decide +kernel
theorem dX2_isSeam_44 : decode cX2_isSeam 44 = .ok (.if_icmp .eq 5, 3) := by decide +kernel
theorem dX2_isSeam_47 : decode cX2_isSeam 47 = .ok (.iconst 1, 1) := by decide +kernel
theorem dX2_isSeam_48 : decode cX2_isSeam 48 = .ok (.ireturn, 1) := by decide +kernel
theorem dX2_isSeam_49 : decode cX2_isSeam 49 = .ok (.iload 8, 2) := by decide +kernel
theorem dX2_isSeam_51 : decode cX2_isSeam 51 = .ok (.iload 6, 2) := by decide +kernel
theorem dX2_isSeam_53 : decode cX2_isSeam 53 = .ok (.iadd, 1) := by decide +kernel
theorem dX2_isSeam_54 : decode cX2_isSeam 54 = .ok (.iload 7, 2) := by decide +kernel
theorem dX2_isSeam_56 : decode cX2_isSeam 56 = .ok (.isub, 1) := by decide +kernel
theorem dX2_isSeam_57 : decode cX2_isSeam 57 = .ok (.istore 9, 2) := by decide +kernel
theorem dX2_isSeam_59 : decode cX2_isSeam 59 = .ok (.iload 9, 2) := by decide +kernel
theorem dX2_isSeam_61 : decode cX2_isSeam 61 = .ok (.ifCond .lt 26, 3) := by decide +kernel
theorem dX2_isSeam_64 : decode cX2_isSeam 64 = .ok (.iload 9, 2) := by decide +kernel
theorem dX2_isSeam_66 : decode cX2_isSeam 66 = .ok (.aload_n 0, 1) := by decide +kernel
theorem dX2_isSeam_67 : decode cX2_isSeam 67 = .ok (.iload_n 2, 1) := by decide +kernel
theorem dX2_isSeam_68 : decode cX2_isSeam 68 = .ok (.iload_n 3, 1) := by decide +kernel
theorem dX2_isSeam_69 : decode cX2_isSeam 69 = .ok (.aload_n 1, 1) := by decide +kernel
theorem dX2_isSeam_70 : decode cX2_isSeam 70 = .ok (.invokevirtual 58, 3) := by decide +kernel
theorem dX2_isSeam_73 : decode cX2_isSeam 73 = .ok (.invokevirtual 61, 3) := by decide +kernel
theorem dX2_isSeam_76 : decode cX2_isSeam 76 = .ok (.if_icmp .le 7, 3) := by decide +kernel
theorem dX2_isSeam_79 : decode cX2_isSeam 79 = .ok (.iconst 1, 1) := by decide +kernel
theorem dX2_isSeam_80 : decode cX2_isSeam 80 = .ok (.goto 30, 3) := by decide +kernel
theorem dX2_isSeam_83 : decode cX2_isSeam 83 = .ok (.iconst 0, 1) := by decide +kernel
theorem dX2_isSeam_84 : decode cX2_isSeam 84 = .ok (.goto 26, 3) := by decide +kernel
theorem dX2_isSeam_87 : decode cX2_isSeam 87 = .ok (.iload 9, 2) := by decide +kernel
theorem dX2_isSeam_89 : decode cX2_isSeam 89 = .ok (.ineg, 1) := by decide +kernel
theorem dX2_isSeam_90 : decode cX2_isSeam 90 = .ok (.aload_n 0, 1) := by decide +kernel
theorem dX2_isSeam_91 : decode cX2_isSeam 91 = .ok (.iload_n 2, 1) := by decide +kernel
theorem dX2_isSeam_92 : decode cX2_isSeam 92 = .ok (.iload_n 3, 1) := by decide +kernel
theorem dX2_isSeam_93 : decode cX2_isSeam 93 = .ok (.iconst 1, 1) := by decide +kernel
theorem dX2_isSeam_94 : decode cX2_isSeam 94 = .ok (.iadd, 1) := by decide +kernel
theorem dX2_isSeam_95 : decode cX2_isSeam 95 = .ok (.aload_n 1, 1) := by decide +kernel
theorem dX2_isSeam_96 : decode cX2_isSeam 96 = .ok (.invokevirtual 58, 3) := by decide +kernel
theorem dX2_isSeam_99 : decode cX2_isSeam 99 = .ok (.invokevirtual 61, 3) := by decide +kernel
theorem dX2_isSeam_102 : decode cX2_isSeam 102 = .ok (.if_icmp .le 7, 3) := by decide +kernel
theorem dX2_isSeam_105 : decode cX2_isSeam 105 = .ok (.iconst 1, 1) := by decide +kernel
theorem dX2_isSeam_106 : decode cX2_isSeam 106 = .ok (.goto 4, 3) := by decide +kernel
theorem dX2_isSeam_109 : decode cX2_isSeam 109 = .ok (.iconst 0, 1) := by decide +kernel
theorem dX2_isSeam_110 : decode cX2_isSeam 110 = .ok (.ireturn, 1) := by decide +kernel
theorem dX2_seenBetween_0 : decode cX2_seenBetween 0 = .ok (.iconst 0, 1) := by decide +kernel
theorem dX2_seenBetween_1 : decode cX2_seenBetween 1 = .ok (.istore 6, 2) := by decide +kernel
theorem dX2_seenBetween_3 : decode cX2_seenBetween 3 = .ok (.iconst 0, 1) := by decide +kernel
theorem dX2_seenBetween_4 : decode cX2_seenBetween 4 = .ok (.istore 7, 2) := by decide +kernel
theorem dX2_seenBetween_6 : decode cX2_seenBetween 6 = .ok (.iload 7, 2) := by decide +kernel
theorem dX2_seenBetween_8 : decode cX2_seenBetween 8 = .ok (.aload_n 1, 1) := by decide +kernel
theorem dX2_seenBetween_9 : decode cX2_seenBetween 9 = .ok (.invokevirtual 64, 3) := by decide +kernel
theorem dX2_seenBetween_12 : decode cX2_seenBetween 12 = .ok (.if_icmp .ge 56, 3) := by decide +kernel
theorem dX2_seenBetween_15 : decode cX2_seenBetween 15 = .ok (.aload_n 0, 1) := by decide +kernel
theorem dX2_seenBetween_16 : decode cX2_seenBetween 16 = .ok (.aload_n 1, 1) := by decide +kernel
theorem dX2_seenBetween_17 : decode cX2_seenBetween 17 = .ok (.iload 7, 2) := by decide +kernel
theorem dX2_seenBetween_19 : decode cX2_seenBetween 19 = .ok (.iload_n 2, 1) := by decide +kernel
theorem dX2_seenBetween_20 : decode cX2_seenBetween 20 = .ok (.iload_n 3, 1) := by decide +kernel
theorem dX2_seenBetween_21 : decode cX2_seenBetween 21 = .ok (.iload 4, 2) := by decide +kernel
theorem dX2_seenBetween_23 : decode cX2_seenBetween 23 = .ok (.iload 5, 2) := by decide +kernel
theorem dX2_seenBetween_25 : decode cX2_seenBetween 25 = .ok (.invokevirtual 67, 3) := by decide +kernel
theorem dX2_seenBetween_28 : decode cX2_seenBetween 28 = .ok (.ifCond .eq 34, 3) := by decide +kernel
theorem dX2_seenBetween_31 : decode cX2_seenBetween 31 = .ok (.iload 6, 2) := by decide +kernel
theorem dX2_seenBetween_33 : decode cX2_seenBetween 33 = .ok (.aload_n 0, 1) := by decide +kernel
theorem dX2_seenBetween_34 : decode cX2_seenBetween 34 = .ok (.iload 7, 2) := by decide +kernel
theorem dX2_seenBetween_36 : decode cX2_seenBetween 36 = .ok (.iload_n 2, 1) := by decide +kernel
theorem dX2_seenBetween_37 : decode cX2_seenBetween 37 = .ok (.aload_n 1, 1) := by decide +kernel
theorem dX2_seenBetween_38 : decode cX2_seenBetween 38 = .ok (.iload 7, 2) := by decide +kernel
theorem dX2_seenBetween_40 : decode cX2_seenBetween 40 = .ok (.iload_n 3, 1) := by decide +kernel
theorem dX2_seenBetween_41 : decode cX2_seenBetween 41 = .ok (.invokevirtual 55, 3) := by decide +kernel
theorem dX2_seenBetween_44 : decode cX2_seenBetween 44 = .ok (.aload_n 1, 1) := by decide +kernel
theorem dX2_seenBetween_45 : decode cX2_seenBetween 45 = .ok (.iload 7, 2) := by decide +kernel
theorem dX2_seenBetween_47 : decode cX2_seenBetween 47 = .ok (.iload 4, 2) := by decide +kernel
theorem dX2_seenBetween_49 : decode cX2_seenBetween 49 = .ok (.invokevirtual 55, 3) := by decide +kernel
theorem dX2_seenBetween_52 : decode cX2_seenBetween 52 = .ok (.isub, 1) := by decide +kernel
theorem dX2_seenBetween_53 : decode cX2_seenBetween 53 = .ok (.invokestatic 71, 3) := by decide +kernel
theorem dX2_seenBetween_56 : decode cX2_seenBetween 56 = .ok (.invokevirtual 76, 3) := by decide +kernel
theorem dX2_seenBetween_59 : decode cX2_seenBetween 59 = .ok (.iadd, 1) := by decide +kernel
theorem dX2_seenBetween_60 : decode cX2_seenBetween 60 = .ok (.istore 6, 2) := by decide +kernel
theorem dX2_seenBetween_62 : decode cX2_seenBetween 62 = .ok (.iinc 7 1, 3) := by decide +kernel
theorem dX2_seenBetween_65 : decode cX2_seenBetween 65 = .ok (.goto (-59), 3) := by decide +kernel
theorem dX2_seenBetween_68 : decode cX2_seenBetween 68 = .ok (.iload 6, 2) := by decide +kernel
theorem dX2_seenBetween_70 : decode cX2_seenBetween 70 = .ok (.ireturn, 1) := by decide +kernel
theorem dX2_seen_0 : decode cX2_seen 0 = .ok (.iconst 0, 1) := by decide +kernel
theorem dX2_seen_1 : decode cX2_seen 1 = .ok (.istore_n 2, 1) := by decide +kernel
theorem dX2_seen_2 : decode cX2_seen 2 = .ok (.iconst 0, 1) := by decide +kernel
theorem dX2_seen_3 : decode cX2_seen 3 = .ok (.istore_n 3, 1) := by decide +kernel
theorem dX2_seen_4 : decode cX2_seen 4 = .ok (.iload_n 3, 1) := by decide +kernel
theorem dX2_seen_5 : decode cX2_seen 5 = .ok (.iconst 1, 1) := by decide +kernel
theorem dX2_seen_6 : decode cX2_seen 6 = .ok (.iadd, 1) := by decide +kernel
theorem dX2_seen_7 : decode cX2_seen 7 = .ok (.aload_n 1, 1) := by decide +kernel
theorem dX2_seen_8 : decode cX2_seen 8 = .ok (.invokevirtual 79, 3) := by decide +kernel
theorem dX2_seen_11 : decode cX2_seen 11 = .ok (.if_icmp .ge 23, 3) := by decide +kernel
theorem dX2_seen_14 : decode cX2_seen 14 = .ok (.iload_n 2, 1) := by decide +kernel
theorem dX2_seen_15 : decode cX2_seen 15 = .ok (.aload_n 0, 1) := by decide +kernel
theorem dX2_seen_16 : decode cX2_seen 16 = .ok (.aload_n 1, 1) := by decide +kernel
theorem dX2_seen_17 : decode cX2_seen 17 = .ok (.iload_n 3, 1) := by decide +kernel
theorem dX2_seen_18 : decode cX2_seen 18 = .ok (.iload_n 3, 1) := by decide +kernel
theorem dX2_seen_19 : decode cX2_seen 19 = .ok (.iload_n 3, 1) := by decide +kernel
theorem dX2_seen_20 : decode cX2_seen 20 = .ok (.iconst 1, 1) := by decide +kernel
theorem dX2_seen_21 : decode cX2_seen 21 = .ok (.iadd, 1) := by decide +kernel
theorem dX2_seen_22 : decode cX2_seen 22 = .ok (.iconst 0, 1) := by decide +kernel
theorem dX2_seen_23 : decode cX2_seen 23 = .ok (.invokevirtual 82, 3) := by decide +kernel
theorem dX2_seen_26 : decode cX2_seen 26 = .ok (.iadd, 1) := by decide +kernel
theorem dX2_seen_27 : decode cX2_seen 27 = .ok (.istore_n 2, 1) := by decide +kernel
theorem dX2_seen_28 : decode cX2_seen 28 = .ok (.iinc 3 1, 3) := by decide +kernel
theorem dX2_seen_31 : decode cX2_seen 31 = .ok (.goto (-27), 3) := by decide +kernel
theorem dX2_seen_34 : decode cX2_seen 34 = .ok (.iload_n 2, 1) := by decide +kernel
theorem dX2_seen_35 : decode cX2_seen 35 = .ok (.ireturn, 1) := by decide +kernel
theorem dX2_countSeams_0 : decode cX2_countSeams 0 = .ok (.iconst 0, 1) := by decide +kernel
theorem dX2_countSeams_1 : decode cX2_countSeams 1 = .ok (.istore_n 2, 1) := by decide +kernel
theorem dX2_countSeams_2 : decode cX2_countSeams 2 = .ok (.iconst 0, 1) := by decide +kernel
theorem dX2_countSeams_3 : decode cX2_countSeams 3 = .ok (.istore_n 3, 1) := by decide +kernel
theorem dX2_countSeams_4 : decode cX2_countSeams 4 = .ok (.iload_n 3, 1) := by decide +kernel
theorem dX2_countSeams_5 : decode cX2_countSeams 5 = .ok (.aload_n 1, 1) := by decide +kernel
theorem dX2_countSeams_6 : decode cX2_countSeams 6 = .ok (.invokevirtual 64, 3) := by decide +kernel
theorem dX2_countSeams_9 : decode cX2_countSeams 9 = .ok (.if_icmp .ge 50, 3) := by decide +kernel
theorem dX2_countSeams_12 : decode cX2_countSeams 12 = .ok (.iconst 0, 1) := by decide +kernel
theorem dX2_countSeams_13 : decode cX2_countSeams 13 = .ok (.istore 4, 2) := by decide +kernel
theorem dX2_countSeams_15 : decode cX2_countSeams 15 = .ok (.iload 4, 2) := by decide +kernel
theorem dX2_countSeams_17 : decode cX2_countSeams 17 = .ok (.iconst 1, 1) := by decide +kernel
theorem dX2_countSeams_18 : decode cX2_countSeams 18 = .ok (.iadd, 1) := by decide +kernel
theorem dX2_countSeams_19 : decode cX2_countSeams 19 = .ok (.aload_n 1, 1) := by decide +kernel
theorem dX2_countSeams_20 : decode cX2_countSeams 20 = .ok (.invokevirtual 79, 3) := by decide +kernel
theorem dX2_countSeams_23 : decode cX2_countSeams 23 = .ok (.if_icmp .ge 30, 3) := by decide +kernel
theorem dX2_countSeams_26 : decode cX2_countSeams 26 = .ok (.aload_n 0, 1) := by decide +kernel
theorem dX2_countSeams_27 : decode cX2_countSeams 27 = .ok (.aload_n 1, 1) := by decide +kernel
theorem dX2_countSeams_28 : decode cX2_countSeams 28 = .ok (.iload_n 3, 1) := by decide +kernel
theorem dX2_countSeams_29 : decode cX2_countSeams 29 = .ok (.iload 4, 2) := by decide +kernel
theorem dX2_countSeams_31 : decode cX2_countSeams 31 = .ok (.iload 4, 2) := by decide +kernel
theorem dX2_countSeams_33 : decode cX2_countSeams 33 = .ok (.iload 4, 2) := by decide +kernel
theorem dX2_countSeams_35 : decode cX2_countSeams 35 = .ok (.iconst 1, 1) := by decide +kernel
theorem dX2_countSeams_36 : decode cX2_countSeams 36 = .ok (.iadd, 1) := by decide +kernel
theorem dX2_countSeams_37 : decode cX2_countSeams 37 = .ok (.iconst 0, 1) := by decide +kernel
theorem dX2_countSeams_38 : decode cX2_countSeams 38 = .ok (.invokevirtual 67, 3) := by decide +kernel
theorem dX2_countSeams_41 : decode cX2_countSeams 41 = .ok (.ifCond .eq 6, 3) := by decide +kernel
theorem dX2_countSeams_44 : decode cX2_countSeams 44 = .ok (.iinc 2 1, 3) := by decide +kernel
theorem dX2_countSeams_47 : decode cX2_countSeams 47 = .ok (.iinc 4 1, 3) := by decide +kernel
theorem dX2_countSeams_50 : decode cX2_countSeams 50 = .ok (.goto (-35), 3) := by decide +kernel
theorem dX2_countSeams_53 : decode cX2_countSeams 53 = .ok (.iinc 3 1, 3) := by decide +kernel
theorem dX2_countSeams_56 : decode cX2_countSeams 56 = .ok (.goto (-52), 3) := by decide +kernel
theorem dX2_countSeams_59 : decode cX2_countSeams 59 = .ok (.iload_n 2, 1) := by decide +kernel
theorem dX2_countSeams_60 : decode cX2_countSeams 60 = .ok (.ireturn, 1) := by decide +kernel
theorem dX9_init_0 : decode cX9_init 0 = .ok (.aload_n 0, 1) := by decide +kernel
theorem dX9_init_1 : decode cX9_init 1 = .ok (.invokespecial 1, 3) := by decide +kernel
theorem dX9_init_4 : decode cX9_init 4 = .ok (.aload_n 0, 1) := by decide +kernel
theorem dX9_init_5 : decode cX9_init 5 = .ok (.new 7, 3) := by decide +kernel
theorem dX9_init_8 : decode cX9_init 8 = .ok (.dup, 1) := by decide +kernel
theorem dX9_init_9 : decode cX9_init 9 = .ok (.invokespecial 9, 3) := by decide +kernel
theorem dX9_init_12 : decode cX9_init 12 = .ok (.putfield 10, 3) := by decide +kernel
theorem dX9_init_15 : decode cX9_init 15 = .ok (.aload_n 0, 1) := by decide +kernel
theorem dX9_init_16 : decode cX9_init 16 = .ok (.new 16, 3) := by decide +kernel
theorem dX9_init_19 : decode cX9_init 19 = .ok (.dup, 1) := by decide +kernel
theorem dX9_init_20 : decode cX9_init 20 = .ok (.bipush 6, 2) := by decide +kernel
theorem dX9_init_22 : decode cX9_init 22 = .ok (.invokespecial 18, 3) := by decide +kernel
theorem dX9_init_25 : decode cX9_init 25 = .ok (.putfield 21, 3) := by decide +kernel
theorem dX9_init_28 : decode cX9_init 28 = .ok (.aload_n 0, 1) := by decide +kernel
theorem dX9_init_29 : decode cX9_init 29 = .ok (.new 16, 3) := by decide +kernel
theorem dX9_init_32 : decode cX9_init 32 = .ok (.dup, 1) := by decide +kernel
theorem dX9_init_33 : decode cX9_init 33 = .ok (.bipush 6, 2) := by decide +kernel
theorem dX9_init_35 : decode cX9_init 35 = .ok (.invokespecial 18, 3) := by decide +kernel
theorem dX9_init_38 : decode cX9_init 38 = .ok (.putfield 25, 3) := by decide +kernel
theorem dX9_init_41 : decode cX9_init 41 = .ok (.aload_n 0, 1) := by decide +kernel
theorem dX9_init_42 : decode cX9_init 42 = .ok (.new 16, 3) := by decide +kernel
theorem dX9_init_45 : decode cX9_init 45 = .ok (.dup, 1) := by decide +kernel
theorem dX9_init_46 : decode cX9_init 46 = .ok (.bipush 6, 2) := by decide +kernel
theorem dX9_init_48 : decode cX9_init 48 = .ok (.invokespecial 18, 3) := by decide +kernel
theorem dX9_init_51 : decode cX9_init 51 = .ok (.putfield 28, 3) := by decide +kernel
theorem dX9_init_54 : decode cX9_init 54 = .ok (.aload_n 0, 1) := by decide +kernel
theorem dX9_init_55 : decode cX9_init 55 = .ok (.new 16, 3) := by decide +kernel
theorem dX9_init_58 : decode cX9_init 58 = .ok (.dup, 1) := by decide +kernel
theorem dX9_init_59 : decode cX9_init 59 = .ok (.sipush 216, 3) := by decide +kernel
theorem dX9_init_62 : decode cX9_init 62 = .ok (.invokespecial 18, 3) := by decide +kernel
theorem dX9_init_65 : decode cX9_init 65 = .ok (.putfield 31, 3) := by decide +kernel
theorem dX9_init_68 : decode cX9_init 68 = .ok (.aload_n 0, 1) := by decide +kernel
theorem dX9_init_69 : decode cX9_init 69 = .ok (.new 16, 3) := by decide +kernel
theorem dX9_init_72 : decode cX9_init 72 = .ok (.dup, 1) := by decide +kernel
theorem dX9_init_73 : decode cX9_init 73 = .ok (.bipush 6, 2) := by decide +kernel
theorem dX9_init_75 : decode cX9_init 75 = .ok (.invokespecial 18, 3) := by decide +kernel
theorem dX9_init_78 : decode cX9_init 78 = .ok (.putfield 34, 3) := by decide +kernel
theorem dX9_init_81 : decode cX9_init 81 = .ok (.aload_n 0, 1) := by decide +kernel
theorem dX9_init_82 : decode cX9_init 82 = .ok (.new 16, 3) := by decide +kernel
theorem dX9_init_85 : decode cX9_init 85 = .ok (.dup, 1) := by decide +kernel
theorem dX9_init_86 : decode cX9_init 86 = .ok (.bipush 6, 2) := by decide +kernel
theorem dX9_init_88 : decode cX9_init 88 = .ok (.invokespecial 18, 3) := by decide +kernel
theorem dX9_init_91 : decode cX9_init 91 = .ok (.putfield 37, 3) := by decide +kernel
theorem dX9_init_94 : decode cX9_init 94 = .ok (.aload_n 0, 1) := by decide +kernel
theorem dX9_init_95 : decode cX9_init 95 = .ok (.iconst 0, 1) := by decide +kernel
theorem dX9_init_96 : decode cX9_init 96 = .ok (.putfield 40, 3) := by decide +kernel
theorem dX9_init_99 : decode cX9_init 99 = .ok (.aload_n 0, 1) := by decide +kernel
theorem dX9_init_100 : decode cX9_init 100 = .ok (.aload_n 1, 1) := by decide +kernel
theorem dX9_init_101 : decode cX9_init 101 = .ok (.putfield 44, 3) := by decide +kernel
theorem dX9_init_104 : decode cX9_init 104 = .ok (.return_, 1) := by decide +kernel
theorem dX9_begin_0 : decode cX9_begin 0 = .ok (.aload_n 0, 1) := by decide +kernel
theorem dX9_begin_1 : decode cX9_begin 1 = .ok (.getfield 10, 3) := by decide +kernel
theorem dX9_begin_4 : decode cX9_begin 4 = .ok (.aload_n 1, 1) := by decide +kernel
theorem dX9_begin_5 : decode cX9_begin 5 = .ok (.getfield 48, 3) := by decide +kernel
theorem dX9_begin_8 : decode cX9_begin 8 = .ok (.invokevirtual 51, 3) := by decide +kernel
theorem dX9_begin_11 : decode cX9_begin 11 = .ok (.return_, 1) := by decide +kernel
theorem dX9_rollNext_0 : decode cX9_rollNext 0 = .ok (.aload_n 0, 1) := by decide +kernel
theorem dX9_rollNext_1 : decode cX9_rollNext 1 = .ok (.getfield 10, 3) := by decide +kernel
theorem dX9_rollNext_4 : decode cX9_rollNext 4 = .ok (.invokevirtual 55, 3) := by decide +kernel
theorem dX9_rollNext_7 : decode cX9_rollNext 7 = .ok (.ifCond .le 15, 3) := by decide +kernel
theorem dX9_rollNext_10 : decode cX9_rollNext 10 = .ok (.iload_n 3, 1) := by decide +kernel
theorem dX9_rollNext_11 : decode cX9_rollNext 11 = .ok (.aload_n 0, 1) := by decide +kernel
theorem dX9_rollNext_12 : decode cX9_rollNext 12 = .ok (.getfield 10, 3) := by decide +kernel
theorem dX9_rollNext_15 : decode cX9_rollNext 15 = .ok (.invokevirtual 55, 3) := by decide +kernel
theorem dX9_rollNext_18 : decode cX9_rollNext 18 = .ok (.irem, 1) := by decide +kernel
theorem dX9_rollNext_19 : decode cX9_rollNext 19 = .ok (.goto 4, 3) := by decide +kernel
theorem dX9_rollNext_22 : decode cX9_rollNext 22 = .ok (.iconst 0, 1) := by decide +kernel
theorem dX9_rollNext_23 : decode cX9_rollNext 23 = .ok (.istore 4, 2) := by decide +kernel
theorem dX9_rollNext_25 : decode cX9_rollNext 25 = .ok (.aload_n 0, 1) := by decide +kernel
theorem dX9_rollNext_26 : decode cX9_rollNext 26 = .ok (.getfield 10, 3) := by decide +kernel
theorem dX9_rollNext_29 : decode cX9_rollNext 29 = .ok (.aload_n 1, 1) := by decide +kernel
theorem dX9_rollNext_30 : decode cX9_rollNext 30 = .ok (.getfield 58, 3) := by decide +kernel
theorem dX9_rollNext_33 : decode cX9_rollNext 33 = .ok (.iload_n 2, 1) := by decide +kernel
theorem dX9_rollNext_34 : decode cX9_rollNext 34 = .ok (.invokevirtual 62, 3) := by decide +kernel
theorem dX9_rollNext_37 : decode cX9_rollNext 37 = .ok (.aload_n 1, 1) := by decide +kernel
theorem dX9_rollNext_38 : decode cX9_rollNext 38 = .ok (.getfield 58, 3) := by decide +kernel
theorem dX9_rollNext_41 : decode cX9_rollNext 41 = .ok (.iload_n 2, 1) := by decide +kernel
theorem dX9_rollNext_42 : decode cX9_rollNext 42 = .ok (.invokevirtual 68, 3) := by decide +kernel
theorem dX9_rollNext_45 : decode cX9_rollNext 45 = .ok (.iload 4, 2) := by decide +kernel
theorem dX9_rollNext_47 : decode cX9_rollNext 47 = .ok (.iconst 0, 1) := by decide +kernel
theorem dX9_rollNext_48 : decode cX9_rollNext 48 = .ok (.invokevirtual 71, 3) := by decide +kernel
theorem dX9_rollNext_51 : decode cX9_rollNext 51 = .ok (.return_, 1) := by decide +kernel
theorem dX9_rollAll_0 : decode cX9_rollAll 0 = .ok (.aload_n 0, 1) := by decide +kernel
theorem dX9_rollAll_1 : decode cX9_rollAll 1 = .ok (.aload_n 1, 1) := by decide +kernel
theorem dX9_rollAll_2 : decode cX9_rollAll 2 = .ok (.invokevirtual 75, 3) := by decide +kernel
theorem dX9_rollAll_5 : decode cX9_rollAll 5 = .ok (.iconst 0, 1) := by decide +kernel
theorem dX9_rollAll_6 : decode cX9_rollAll 6 = .ok (.istore_n 3, 1) := by decide +kernel
theorem dX9_rollAll_7 : decode cX9_rollAll 7 = .ok (.iload_n 3, 1) := by decide +kernel
theorem dX9_rollAll_8 : decode cX9_rollAll 8 = .ok (.aload_n 0, 1) := by decide +kernel
theorem dX9_rollAll_9 : decode cX9_rollAll 9 = .ok (.getfield 10, 3) := by decide +kernel
theorem dX9_rollAll_12 : decode cX9_rollAll 12 = .ok (.invokevirtual 55, 3) := by decide +kernel
theorem dX9_rollAll_15 : decode cX9_rollAll 15 = .ok (.if_icmp .ge 16, 3) := by decide +kernel
theorem dX9_rollAll_18 : decode cX9_rollAll 18 = .ok (.aload_n 0, 1) := by decide +kernel
theorem dX9_rollAll_19 : decode cX9_rollAll 19 = .ok (.aload_n 1, 1) := by decide +kernel
theorem dX9_rollAll_20 : decode cX9_rollAll 20 = .ok (.iload_n 2, 1) := by decide +kernel
theorem dX9_rollAll_21 : decode cX9_rollAll 21 = .ok (.iload_n 3, 1) := by decide +kernel
theorem dX9_rollAll_22 : decode cX9_rollAll 22 = .ok (.invokevirtual 79, 3) := by decide +kernel
theorem dX9_rollAll_25 : decode cX9_rollAll 25 = .ok (.iinc 3 1, 3) := by decide +kernel
theorem dX9_rollAll_28 : decode cX9_rollAll 28 = .ok (.goto (-21), 3) := by decide +kernel
theorem dX9_rollAll_31 : decode cX9_rollAll 31 = .ok (.return_, 1) := by decide +kernel
theorem dX9_cansBegun_0 : decode cX9_cansBegun 0 = .ok (.aload_n 0, 1) := by decide +kernel
theorem dX9_cansBegun_1 : decode cX9_cansBegun 1 = .ok (.getfield 10, 3) := by decide +kernel
theorem dX9_cansBegun_4 : decode cX9_cansBegun 4 = .ok (.invokevirtual 83, 3) := by decide +kernel
theorem dX9_cansBegun_7 : decode cX9_cansBegun 7 = .ok (.ireturn, 1) := by decide +kernel
theorem dX9_wouldBe_0 : decode cX9_wouldBe 0 = .ok (.aload_n 0, 1) := by decide +kernel
theorem dX9_wouldBe_1 : decode cX9_wouldBe 1 = .ok (.getfield 10, 3) := by decide +kernel
theorem dX9_wouldBe_4 : decode cX9_wouldBe 4 = .ok (.areturn, 1) := by decide +kernel
theorem dX9_warmTo_0 : decode cX9_warmTo 0 = .ok (.aload_n 0, 1) := by decide +kernel
theorem dX9_warmTo_1 : decode cX9_warmTo 1 = .ok (.getfield 10, 3) := by decide +kernel
theorem dX9_warmTo_4 : decode cX9_warmTo 4 = .ok (.iload_n 1, 1) := by decide +kernel
theorem dX9_warmTo_5 : decode cX9_warmTo 5 = .ok (.invokevirtual 86, 3) := by decide +kernel
theorem dX9_warmTo_8 : decode cX9_warmTo 8 = .ok (.return_, 1) := by decide +kernel
theorem dX9_takeOrder_0 : decode cX9_takeOrder 0 = .ok (.aload_n 1, 1) := by decide +kernel
theorem dX9_takeOrder_1 : decode cX9_takeOrder 1 = .ok (.invokevirtual 89, 3) := by decide +kernel
theorem dX9_takeOrder_4 : decode cX9_takeOrder 4 = .ok (.iload_n 2, 1) := by decide +kernel
theorem dX9_takeOrder_5 : decode cX9_takeOrder 5 = .ok (.if_icmp .eq 5, 3) := by decide +kernel
theorem dX9_takeOrder_8 : decode cX9_takeOrder 8 = .ok (.iconst 0, 1) := by decide +kernel
theorem dX9_takeOrder_9 : decode cX9_takeOrder 9 = .ok (.ireturn, 1) := by decide +kernel
theorem dX9_takeOrder_10 : decode cX9_takeOrder 10 = .ok (.aload_n 0, 1) := by decide +kernel
theorem dX9_takeOrder_11 : decode cX9_takeOrder 11 = .ok (.getfield 25, 3) := by decide +kernel
theorem dX9_takeOrder_14 : decode cX9_takeOrder 14 = .ok (.iload_n 2, 1) := by decide +kernel
theorem dX9_takeOrder_15 : decode cX9_takeOrder 15 = .ok (.iconst (-1), 1) := by decide +kernel
theorem dX9_takeOrder_16 : decode cX9_takeOrder 16 = .ok (.invokevirtual 92, 3) := by decide +kernel
theorem dX9_takeOrder_19 : decode cX9_takeOrder 19 = .ok (.iconst 0, 1) := by decide +kernel
theorem dX9_takeOrder_20 : decode cX9_takeOrder 20 = .ok (.istore_n 3, 1) := by decide +kernel
theorem dX9_takeOrder_21 : decode cX9_takeOrder 21 = .ok (.iload_n 3, 1) := by decide +kernel
theorem dX9_takeOrder_22 : decode cX9_takeOrder 22 = .ok (.iload_n 2, 1) := by decide +kernel
theorem dX9_takeOrder_23 : decode cX9_takeOrder 23 = .ok (.if_icmp .ge 53, 3) := by decide +kernel
theorem dX9_takeOrder_26 : decode cX9_takeOrder 26 = .ok (.aload_n 1, 1) := by decide +kernel
theorem dX9_takeOrder_27 : decode cX9_takeOrder 27 = .ok (.iload_n 3, 1) := by decide +kernel
theorem dX9_takeOrder_28 : decode cX9_takeOrder 28 = .ok (.invokevirtual 96, 3) := by decide +kernel
theorem dX9_takeOrder_31 : decode cX9_takeOrder 31 = .ok (.istore 4, 2) := by decide +kernel
theorem dX9_takeOrder_33 : decode cX9_takeOrder 33 = .ok (.aload_n 0, 1) := by decide +kernel
theorem dX9_takeOrder_34 : decode cX9_takeOrder 34 = .ok (.getfield 25, 3) := by decide +kernel
theorem dX9_takeOrder_37 : decode cX9_takeOrder 37 = .ok (.iload 4, 2) := by decide +kernel
theorem dX9_takeOrder_39 : decode cX9_takeOrder 39 = .ok (.invokevirtual 99, 3) := by decide +kernel
theorem dX9_takeOrder_42 : decode cX9_takeOrder 42 = .ok (.ifCond .eq 16, 3) := by decide +kernel
theorem dX9_takeOrder_45 : decode cX9_takeOrder 45 = .ok (.aload_n 0, 1) := by decide +kernel
theorem dX9_takeOrder_46 : decode cX9_takeOrder 46 = .ok (.getfield 25, 3) := by decide +kernel
theorem dX9_takeOrder_49 : decode cX9_takeOrder 49 = .ok (.iload 4, 2) := by decide +kernel
theorem dX9_takeOrder_51 : decode cX9_takeOrder 51 = .ok (.invokevirtual 96, 3) := by decide +kernel
theorem dX9_takeOrder_54 : decode cX9_takeOrder 54 = .ok (.iconst (-1), 1) := by decide +kernel
theorem dX9_takeOrder_55 : decode cX9_takeOrder 55 = .ok (.if_icmp .eq 5, 3) := by decide +kernel
theorem dX9_takeOrder_58 : decode cX9_takeOrder 58 = .ok (.iconst 0, 1) := by decide +kernel
theorem dX9_takeOrder_59 : decode cX9_takeOrder 59 = .ok (.ireturn, 1) := by decide +kernel
theorem dX9_takeOrder_60 : decode cX9_takeOrder 60 = .ok (.aload_n 0, 1) := by decide +kernel
theorem dX9_takeOrder_61 : decode cX9_takeOrder 61 = .ok (.getfield 25, 3) := by decide +kernel
theorem dX9_takeOrder_64 : decode cX9_takeOrder 64 = .ok (.iload 4, 2) := by decide +kernel
theorem dX9_takeOrder_66 : decode cX9_takeOrder 66 = .ok (.iload_n 3, 1) := by decide +kernel
theorem dX9_takeOrder_67 : decode cX9_takeOrder 67 = .ok (.invokevirtual 103, 3) := by decide +kernel
theorem dX9_takeOrder_70 : decode cX9_takeOrder 70 = .ok (.iinc 3 1, 3) := by decide +kernel
theorem dX9_takeOrder_73 : decode cX9_takeOrder 73 = .ok (.goto (-52), 3) := by decide +kernel
theorem dX9_takeOrder_76 : decode cX9_takeOrder 76 = .ok (.iconst 1, 1) := by decide +kernel
theorem dX9_takeOrder_77 : decode cX9_takeOrder 77 = .ok (.ireturn, 1) := by decide +kernel
theorem dX9_seenByOrder_0 : decode cX9_seenByOrder 0 = .ok (.iconst 0, 1) := by decide +kernel
theorem dX9_seenByOrder_1 : decode cX9_seenByOrder 1 = .ok (.istore_n 1, 1) := by decide +kernel
theorem dX9_seenByOrder_2 : decode cX9_seenByOrder 2 = .ok (.iconst 0, 1) := by decide +kernel
theorem dX9_seenByOrder_3 : decode cX9_seenByOrder 3 = .ok (.istore_n 2, 1) := by decide +kernel
theorem dX9_seenByOrder_4 : decode cX9_seenByOrder 4 = .ok (.iload_n 2, 1) := by decide +kernel
theorem dX9_seenByOrder_5 : decode cX9_seenByOrder 5 = .ok (.iconst 1, 1) := by decide +kernel
theorem dX9_seenByOrder_6 : decode cX9_seenByOrder 6 = .ok (.iadd, 1) := by decide +kernel
theorem dX9_seenByOrder_7 : decode cX9_seenByOrder 7 = .ok (.aload_n 0, 1) := by decide +kernel
theorem dX9_seenByOrder_8 : decode cX9_seenByOrder 8 = .ok (.getfield 10, 3) := by decide +kernel
theorem dX9_seenByOrder_11 : decode cX9_seenByOrder 11 = .ok (.invokevirtual 55, 3) := by decide +kernel
theorem dX9_seenByOrder_14 : decode cX9_seenByOrder 14 = .ok (.if_icmp .ge 43, 3) := by decide +kernel
theorem dX9_seenByOrder_17 : decode cX9_seenByOrder 17 = .ok (.iload_n 1, 1) := by decide +kernel
theorem dX9_seenByOrder_18 : decode cX9_seenByOrder 18 = .ok (.aload_n 0, 1) := by decide +kernel
theorem dX9_seenByOrder_19 : decode cX9_seenByOrder 19 = .ok (.getfield 44, 3) := by decide +kernel
theorem dX9_seenByOrder_22 : decode cX9_seenByOrder 22 = .ok (.aload_n 0, 1) := by decide +kernel
theorem dX9_seenByOrder_23 : decode cX9_seenByOrder 23 = .ok (.getfield 10, 3) := by decide +kernel
theorem dX9_seenByOrder_26 : decode cX9_seenByOrder 26 = .ok (.iload_n 2, 1) := by decide +kernel
theorem dX9_seenByOrder_27 : decode cX9_seenByOrder 27 = .ok (.aload_n 0, 1) := by decide +kernel
theorem dX9_seenByOrder_28 : decode cX9_seenByOrder 28 = .ok (.getfield 25, 3) := by decide +kernel
theorem dX9_seenByOrder_31 : decode cX9_seenByOrder 31 = .ok (.iload_n 2, 1) := by decide +kernel
theorem dX9_seenByOrder_32 : decode cX9_seenByOrder 32 = .ok (.invokevirtual 96, 3) := by decide +kernel
theorem dX9_seenByOrder_35 : decode cX9_seenByOrder 35 = .ok (.aload_n 0, 1) := by decide +kernel
theorem dX9_seenByOrder_36 : decode cX9_seenByOrder 36 = .ok (.getfield 25, 3) := by decide +kernel
theorem dX9_seenByOrder_39 : decode cX9_seenByOrder 39 = .ok (.iload_n 2, 1) := by decide +kernel
theorem dX9_seenByOrder_40 : decode cX9_seenByOrder 40 = .ok (.iconst 1, 1) := by decide +kernel
theorem dX9_seenByOrder_41 : decode cX9_seenByOrder 41 = .ok (.iadd, 1) := by decide +kernel
theorem dX9_seenByOrder_42 : decode cX9_seenByOrder 42 = .ok (.invokevirtual 96, 3) := by decide +kernel
theorem dX9_seenByOrder_45 : decode cX9_seenByOrder 45 = .ok (.iconst 0, 1) := by decide +kernel
theorem dX9_seenByOrder_46 : decode cX9_seenByOrder 46 = .ok (.invokevirtual 106, 3) := by decide +kernel
theorem dX9_seenByOrder_49 : decode cX9_seenByOrder 49 = .ok (.iadd, 1) := by decide +kernel
theorem dX9_seenByOrder_50 : decode cX9_seenByOrder 50 = .ok (.istore_n 1, 1) := by decide +kernel
theorem dX9_seenByOrder_51 : decode cX9_seenByOrder 51 = .ok (.iinc 2 1, 3) := by decide +kernel
theorem dX9_seenByOrder_54 : decode cX9_seenByOrder 54 = .ok (.goto (-50), 3) := by decide +kernel
theorem dX9_seenByOrder_57 : decode cX9_seenByOrder 57 = .ok (.iload_n 1, 1) := by decide +kernel
theorem dX9_seenByOrder_58 : decode cX9_seenByOrder 58 = .ok (.ireturn, 1) := by decide +kernel
theorem dX9_best_0 : decode cX9_best 0 = .ok (.aload_n 0, 1) := by decide +kernel
theorem dX9_best_1 : decode cX9_best 1 = .ok (.getfield 40, 3) := by decide +kernel
theorem dX9_best_4 : decode cX9_best 4 = .ok (.ireturn, 1) := by decide +kernel
theorem dX9_bestStripAt_0 : decode cX9_bestStripAt 0 = .ok (.aload_n 0, 1) := by decide +kernel
theorem dX9_bestStripAt_1 : decode cX9_bestStripAt 1 = .ok (.getfield 28, 3) := by decide +kernel
theorem dX9_bestStripAt_4 : decode cX9_bestStripAt 4 = .ok (.iload_n 1, 1) := by decide +kernel
theorem dX9_bestStripAt_5 : decode cX9_bestStripAt 5 = .ok (.invokevirtual 96, 3) := by decide +kernel
theorem dX9_bestStripAt_8 : decode cX9_bestStripAt 8 = .ok (.ireturn, 1) := by decide +kernel
theorem dX9_findBelow_0 : decode cX9_findBelow 0 = .ok (.aload_n 0, 1) := by decide +kernel
theorem dX9_findBelow_1 : decode cX9_findBelow 1 = .ok (.getfield 21, 3) := by decide +kernel
theorem dX9_findBelow_4 : decode cX9_findBelow 4 = .ok (.aload_n 0, 1) := by decide +kernel
theorem dX9_findBelow_5 : decode cX9_findBelow 5 = .ok (.getfield 10, 3) := by decide +kernel
theorem dX9_findBelow_8 : decode cX9_findBelow 8 = .ok (.invokevirtual 55, 3) := by decide +kernel
theorem dX9_findBelow_11 : decode cX9_findBelow 11 = .ok (.iconst 0, 1) := by decide +kernel
theorem dX9_findBelow_12 : decode cX9_findBelow 12 = .ok (.invokevirtual 92, 3) := by decide +kernel
theorem dX9_findBelow_15 : decode cX9_findBelow 15 = .ok (.aload_n 0, 1) := by decide +kernel
theorem dX9_findBelow_16 : decode cX9_findBelow 16 = .ok (.getfield 25, 3) := by decide +kernel
theorem dX9_findBelow_19 : decode cX9_findBelow 19 = .ok (.aload_n 0, 1) := by decide +kernel
theorem dX9_findBelow_20 : decode cX9_findBelow 20 = .ok (.getfield 10, 3) := by decide +kernel
theorem dX9_findBelow_23 : decode cX9_findBelow 23 = .ok (.invokevirtual 55, 3) := by decide +kernel
theorem dX9_findBelow_26 : decode cX9_findBelow 26 = .ok (.iconst (-1), 1) := by decide +kernel
theorem dX9_findBelow_27 : decode cX9_findBelow 27 = .ok (.invokevirtual 92, 3) := by decide +kernel
theorem dX9_findBelow_30 : decode cX9_findBelow 30 = .ok (.aload_n 0, 1) := by decide +kernel
theorem dX9_findBelow_31 : decode cX9_findBelow 31 = .ok (.iload_n 1, 1) := by decide +kernel
theorem dX9_findBelow_32 : decode cX9_findBelow 32 = .ok (.putfield 40, 3) := by decide +kernel
theorem dX9_findBelow_35 : decode cX9_findBelow 35 = .ok (.aload_n 0, 1) := by decide +kernel
theorem dX9_findBelow_36 : decode cX9_findBelow 36 = .ok (.iconst 0, 1) := by decide +kernel
theorem dX9_findBelow_37 : decode cX9_findBelow 37 = .ok (.iconst 0, 1) := by decide +kernel
theorem dX9_findBelow_38 : decode cX9_findBelow 38 = .ok (.invokevirtual 112, 3) := by decide +kernel
theorem dX9_findBelow_41 : decode cX9_findBelow 41 = .ok (.return_, 1) := by decide +kernel
theorem dX9_extendOrder_0 : decode cX9_extendOrder 0 = .ok (.aload_n 0, 1) := by decide +kernel
theorem dX9_extendOrder_1 : decode cX9_extendOrder 1 = .ok (.getfield 10, 3) := by decide +kernel
theorem dX9_extendOrder_4 : decode cX9_extendOrder 4 = .ok (.invokevirtual 55, 3) := by decide +kernel
theorem dX9_extendOrder_7 : decode cX9_extendOrder 7 = .ok (.istore_n 3, 1) := by decide +kernel
theorem dX9_extendOrder_8 : decode cX9_extendOrder 8 = .ok (.iload_n 2, 1) := by decide +kernel
theorem dX9_extendOrder_9 : decode cX9_extendOrder 9 = .ok (.aload_n 0, 1) := by decide +kernel
theorem dX9_extendOrder_10 : decode cX9_extendOrder 10 = .ok (.getfield 40, 3) := by decide +kernel
theorem dX9_extendOrder_13 : decode cX9_extendOrder 13 = .ok (.if_icmp .ge 8, 3) := by decide +kernel
theorem dX9_extendOrder_16 : decode cX9_extendOrder 16 = .ok (.iload_n 1, 1) := by decide +kernel
theorem dX9_extendOrder_17 : decode cX9_extendOrder 17 = .ok (.iload_n 3, 1) := by decide +kernel
theorem dX9_extendOrder_18 : decode cX9_extendOrder 18 = .ok (.if_icmp .le 4, 3) := by decide +kernel
theorem dX9_extendOrder_21 : decode cX9_extendOrder 21 = .ok (.return_, 1) := by decide +kernel
theorem dX9_extendOrder_22 : decode cX9_extendOrder 22 = .ok (.iload_n 1, 1) := by decide +kernel
theorem dX9_extendOrder_23 : decode cX9_extendOrder 23 = .ok (.iload_n 3, 1) := by decide +kernel
theorem dX9_extendOrder_24 : decode cX9_extendOrder 24 = .ok (.if_icmp .ne 20, 3) := by decide +kernel
theorem dX9_extendOrder_27 : decode cX9_extendOrder 27 = .ok (.aload_n 0, 1) := by decide +kernel
theorem dX9_extendOrder_28 : decode cX9_extendOrder 28 = .ok (.iload_n 2, 1) := by decide +kernel
theorem dX9_extendOrder_29 : decode cX9_extendOrder 29 = .ok (.putfield 40, 3) := by decide +kernel
theorem dX9_extendOrder_32 : decode cX9_extendOrder 32 = .ok (.aload_n 0, 1) := by decide +kernel
theorem dX9_extendOrder_33 : decode cX9_extendOrder 33 = .ok (.getfield 28, 3) := by decide +kernel
theorem dX9_extendOrder_36 : decode cX9_extendOrder 36 = .ok (.aload_n 0, 1) := by decide +kernel
theorem dX9_extendOrder_37 : decode cX9_extendOrder 37 = .ok (.getfield 21, 3) := by decide +kernel
theorem dX9_extendOrder_40 : decode cX9_extendOrder 40 = .ok (.invokevirtual 115, 3) := by decide +kernel
theorem dX9_extendOrder_43 : decode cX9_extendOrder 43 = .ok (.return_, 1) := by decide +kernel
theorem dX9_extendOrder_44 : decode cX9_extendOrder 44 = .ok (.iconst 0, 1) := by decide +kernel
theorem dX9_extendOrder_45 : decode cX9_extendOrder 45 = .ok (.istore 4, 2) := by decide +kernel
theorem dX9_extendOrder_47 : decode cX9_extendOrder 47 = .ok (.iload 4, 2) := by decide +kernel
theorem dX9_extendOrder_49 : decode cX9_extendOrder 49 = .ok (.iload_n 3, 1) := by decide +kernel
theorem dX9_extendOrder_50 : decode cX9_extendOrder 50 = .ok (.if_icmp .ge 67, 3) := by decide +kernel
theorem dX9_extendOrder_53 : decode cX9_extendOrder 53 = .ok (.aload_n 0, 1) := by decide +kernel
theorem dX9_extendOrder_54 : decode cX9_extendOrder 54 = .ok (.getfield 25, 3) := by decide +kernel
theorem dX9_extendOrder_57 : decode cX9_extendOrder 57 = .ok (.iload 4, 2) := by decide +kernel
theorem dX9_extendOrder_59 : decode cX9_extendOrder 59 = .ok (.invokevirtual 96, 3) := by decide +kernel
theorem dX9_extendOrder_62 : decode cX9_extendOrder 62 = .ok (.iconst (-1), 1) := by decide +kernel
theorem dX9_extendOrder_63 : decode cX9_extendOrder 63 = .ok (.if_icmp .ne 48, 3) := by decide +kernel
theorem dX9_extendOrder_66 : decode cX9_extendOrder 66 = .ok (.aload_n 0, 1) := by decide +kernel
theorem dX9_extendOrder_67 : decode cX9_extendOrder 67 = .ok (.getfield 21, 3) := by decide +kernel
theorem dX9_extendOrder_70 : decode cX9_extendOrder 70 = .ok (.iload_n 1, 1) := by decide +kernel
theorem dX9_extendOrder_71 : decode cX9_extendOrder 71 = .ok (.iload 4, 2) := by decide +kernel
theorem dX9_extendOrder_73 : decode cX9_extendOrder 73 = .ok (.invokevirtual 103, 3) := by decide +kernel
theorem dX9_extendOrder_76 : decode cX9_extendOrder 76 = .ok (.aload_n 0, 1) := by decide +kernel
theorem dX9_extendOrder_77 : decode cX9_extendOrder 77 = .ok (.getfield 25, 3) := by decide +kernel
theorem dX9_extendOrder_80 : decode cX9_extendOrder 80 = .ok (.iload 4, 2) := by decide +kernel
theorem dX9_extendOrder_82 : decode cX9_extendOrder 82 = .ok (.iload_n 1, 1) := by decide +kernel
theorem dX9_extendOrder_83 : decode cX9_extendOrder 83 = .ok (.invokevirtual 103, 3) := by decide +kernel
theorem dX9_extendOrder_86 : decode cX9_extendOrder 86 = .ok (.aload_n 0, 1) := by decide +kernel
theorem dX9_extendOrder_87 : decode cX9_extendOrder 87 = .ok (.iload_n 1, 1) := by decide +kernel
theorem dX9_extendOrder_88 : decode cX9_extendOrder 88 = .ok (.iconst 1, 1) := by decide +kernel
theorem dX9_extendOrder_89 : decode cX9_extendOrder 89 = .ok (.iadd, 1) := by decide +kernel
theorem dX9_extendOrder_90 : decode cX9_extendOrder 90 = .ok (.iload_n 2, 1) := by decide +kernel
theorem dX9_extendOrder_91 : decode cX9_extendOrder 91 = .ok (.aload_n 0, 1) := by decide +kernel
theorem dX9_extendOrder_92 : decode cX9_extendOrder 92 = .ok (.iload 4, 2) := by decide +kernel
theorem dX9_extendOrder_94 : decode cX9_extendOrder 94 = .ok (.invokevirtual 118, 3) := by decide +kernel
theorem dX9_extendOrder_97 : decode cX9_extendOrder 97 = .ok (.iadd, 1) := by decide +kernel
theorem dX9_extendOrder_98 : decode cX9_extendOrder 98 = .ok (.invokevirtual 112, 3) := by decide +kernel
theorem dX9_extendOrder_101 : decode cX9_extendOrder 101 = .ok (.aload_n 0, 1) := by decide +kernel
theorem dX9_extendOrder_102 : decode cX9_extendOrder 102 = .ok (.getfield 25, 3) := by decide +kernel
theorem dX9_extendOrder_105 : decode cX9_extendOrder 105 = .ok (.iload 4, 2) := by decide +kernel
theorem dX9_extendOrder_107 : decode cX9_extendOrder 107 = .ok (.iconst (-1), 1) := by decide +kernel
theorem dX9_extendOrder_108 : decode cX9_extendOrder 108 = .ok (.invokevirtual 103, 3) := by decide +kernel
theorem dX9_extendOrder_111 : decode cX9_extendOrder 111 = .ok (.iinc 4 1, 3) := by decide +kernel
theorem dX9_extendOrder_114 : decode cX9_extendOrder 114 = .ok (.goto (-67), 3) := by decide +kernel
theorem dX9_extendOrder_117 : decode cX9_extendOrder 117 = .ok (.return_, 1) := by decide +kernel
theorem dX9_seenBeside_0 : decode cX9_seenBeside 0 = .ok (.iconst 0, 1) := by decide +kernel
theorem dX9_seenBeside_1 : decode cX9_seenBeside 1 = .ok (.istore_n 2, 1) := by decide +kernel
theorem dX9_seenBeside_2 : decode cX9_seenBeside 2 = .ok (.aload_n 0, 1) := by decide +kernel
theorem dX9_seenBeside_3 : decode cX9_seenBeside 3 = .ok (.getfield 25, 3) := by decide +kernel
theorem dX9_seenBeside_6 : decode cX9_seenBeside 6 = .ok (.iload_n 1, 1) := by decide +kernel
theorem dX9_seenBeside_7 : decode cX9_seenBeside 7 = .ok (.iconst 1, 1) := by decide +kernel
theorem dX9_seenBeside_8 : decode cX9_seenBeside 8 = .ok (.isub, 1) := by decide +kernel
theorem dX9_seenBeside_9 : decode cX9_seenBeside 9 = .ok (.invokevirtual 99, 3) := by decide +kernel
theorem dX9_seenBeside_12 : decode cX9_seenBeside 12 = .ok (.ifCond .eq 51, 3) := by decide +kernel
theorem dX9_seenBeside_15 : decode cX9_seenBeside 15 = .ok (.aload_n 0, 1) := by decide +kernel
theorem dX9_seenBeside_16 : decode cX9_seenBeside 16 = .ok (.getfield 25, 3) := by decide +kernel
theorem dX9_seenBeside_19 : decode cX9_seenBeside 19 = .ok (.iload_n 1, 1) := by decide +kernel
theorem dX9_seenBeside_20 : decode cX9_seenBeside 20 = .ok (.iconst 1, 1) := by decide +kernel
theorem dX9_seenBeside_21 : decode cX9_seenBeside 21 = .ok (.isub, 1) := by decide +kernel
theorem dX9_seenBeside_22 : decode cX9_seenBeside 22 = .ok (.invokevirtual 96, 3) := by decide +kernel
theorem dX9_seenBeside_25 : decode cX9_seenBeside 25 = .ok (.iconst (-1), 1) := by decide +kernel
theorem dX9_seenBeside_26 : decode cX9_seenBeside 26 = .ok (.if_icmp .eq 37, 3) := by decide +kernel
theorem dX9_seenBeside_29 : decode cX9_seenBeside 29 = .ok (.iload_n 2, 1) := by decide +kernel
theorem dX9_seenBeside_30 : decode cX9_seenBeside 30 = .ok (.aload_n 0, 1) := by decide +kernel
theorem dX9_seenBeside_31 : decode cX9_seenBeside 31 = .ok (.getfield 31, 3) := by decide +kernel
theorem dX9_seenBeside_34 : decode cX9_seenBeside 34 = .ok (.iload_n 1, 1) := by decide +kernel
theorem dX9_seenBeside_35 : decode cX9_seenBeside 35 = .ok (.iconst 1, 1) := by decide +kernel
theorem dX9_seenBeside_36 : decode cX9_seenBeside 36 = .ok (.isub, 1) := by decide +kernel
theorem dX9_seenBeside_37 : decode cX9_seenBeside 37 = .ok (.aload_n 0, 1) := by decide +kernel
theorem dX9_seenBeside_38 : decode cX9_seenBeside 38 = .ok (.getfield 25, 3) := by decide +kernel
theorem dX9_seenBeside_41 : decode cX9_seenBeside 41 = .ok (.iload_n 1, 1) := by decide +kernel
theorem dX9_seenBeside_42 : decode cX9_seenBeside 42 = .ok (.iconst 1, 1) := by decide +kernel
theorem dX9_seenBeside_43 : decode cX9_seenBeside 43 = .ok (.isub, 1) := by decide +kernel
theorem dX9_seenBeside_44 : decode cX9_seenBeside 44 = .ok (.invokevirtual 96, 3) := by decide +kernel
theorem dX9_seenBeside_47 : decode cX9_seenBeside 47 = .ok (.aload_n 0, 1) := by decide +kernel
theorem dX9_seenBeside_48 : decode cX9_seenBeside 48 = .ok (.getfield 25, 3) := by decide +kernel
theorem dX9_seenBeside_51 : decode cX9_seenBeside 51 = .ok (.iload_n 1, 1) := by decide +kernel
theorem dX9_seenBeside_52 : decode cX9_seenBeside 52 = .ok (.invokevirtual 96, 3) := by decide +kernel
theorem dX9_seenBeside_55 : decode cX9_seenBeside 55 = .ok (.invokestatic 121, 3) := by decide +kernel
theorem dX9_seenBeside_58 : decode cX9_seenBeside 58 = .ok (.invokevirtual 96, 3) := by decide +kernel
theorem dX9_seenBeside_61 : decode cX9_seenBeside 61 = .ok (.iadd, 1) := by decide +kernel
theorem dX9_seenBeside_62 : decode cX9_seenBeside 62 = .ok (.istore_n 2, 1) := by decide +kernel
theorem dX9_seenBeside_63 : decode cX9_seenBeside 63 = .ok (.aload_n 0, 1) := by decide +kernel
theorem dX9_seenBeside_64 : decode cX9_seenBeside 64 = .ok (.getfield 25, 3) := by decide +kernel
theorem dX9_seenBeside_67 : decode cX9_seenBeside 67 = .ok (.iload_n 1, 1) := by decide +kernel
theorem dX9_seenBeside_68 : decode cX9_seenBeside 68 = .ok (.iconst 1, 1) := by decide +kernel
theorem dX9_seenBeside_69 : decode cX9_seenBeside 69 = .ok (.iadd, 1) := by decide +kernel
theorem dX9_seenBeside_70 : decode cX9_seenBeside 70 = .ok (.invokevirtual 99, 3) := by decide +kernel
theorem dX9_seenBeside_73 : decode cX9_seenBeside 73 = .ok (.ifCond .eq 49, 3) := by decide +kernel
theorem dX9_seenBeside_76 : decode cX9_seenBeside 76 = .ok (.aload_n 0, 1) := by decide +kernel
theorem dX9_seenBeside_77 : decode cX9_seenBeside 77 = .ok (.getfield 25, 3) := by decide +kernel
theorem dX9_seenBeside_80 : decode cX9_seenBeside 80 = .ok (.iload_n 1, 1) := by decide +kernel
theorem dX9_seenBeside_81 : decode cX9_seenBeside 81 = .ok (.iconst 1, 1) := by decide +kernel
theorem dX9_seenBeside_82 : decode cX9_seenBeside 82 = .ok (.iadd, 1) := by decide +kernel
theorem dX9_seenBeside_83 : decode cX9_seenBeside 83 = .ok (.invokevirtual 96, 3) := by decide +kernel
theorem dX9_seenBeside_86 : decode cX9_seenBeside 86 = .ok (.iconst (-1), 1) := by decide +kernel
theorem dX9_seenBeside_87 : decode cX9_seenBeside 87 = .ok (.if_icmp .eq 35, 3) := by decide +kernel
theorem dX9_seenBeside_90 : decode cX9_seenBeside 90 = .ok (.iload_n 2, 1) := by decide +kernel
theorem dX9_seenBeside_91 : decode cX9_seenBeside 91 = .ok (.aload_n 0, 1) := by decide +kernel
theorem dX9_seenBeside_92 : decode cX9_seenBeside 92 = .ok (.getfield 31, 3) := by decide +kernel
theorem dX9_seenBeside_95 : decode cX9_seenBeside 95 = .ok (.iload_n 1, 1) := by decide +kernel
theorem dX9_seenBeside_96 : decode cX9_seenBeside 96 = .ok (.aload_n 0, 1) := by decide +kernel
theorem dX9_seenBeside_97 : decode cX9_seenBeside 97 = .ok (.getfield 25, 3) := by decide +kernel
theorem dX9_seenBeside_100 : decode cX9_seenBeside 100 = .ok (.iload_n 1, 1) := by decide +kernel
theorem dX9_seenBeside_101 : decode cX9_seenBeside 101 = .ok (.invokevirtual 96, 3) := by decide +kernel
theorem dX9_seenBeside_104 : decode cX9_seenBeside 104 = .ok (.aload_n 0, 1) := by decide +kernel
theorem dX9_seenBeside_105 : decode cX9_seenBeside 105 = .ok (.getfield 25, 3) := by decide +kernel
theorem dX9_seenBeside_108 : decode cX9_seenBeside 108 = .ok (.iload_n 1, 1) := by decide +kernel
theorem dX9_seenBeside_109 : decode cX9_seenBeside 109 = .ok (.iconst 1, 1) := by decide +kernel
theorem dX9_seenBeside_110 : decode cX9_seenBeside 110 = .ok (.iadd, 1) := by decide +kernel
theorem dX9_seenBeside_111 : decode cX9_seenBeside 111 = .ok (.invokevirtual 96, 3) := by decide +kernel
theorem dX9_seenBeside_114 : decode cX9_seenBeside 114 = .ok (.invokestatic 121, 3) := by decide +kernel
theorem dX9_seenBeside_117 : decode cX9_seenBeside 117 = .ok (.invokevirtual 96, 3) := by decide +kernel
theorem dX9_seenBeside_120 : decode cX9_seenBeside 120 = .ok (.iadd, 1) := by decide +kernel
theorem dX9_seenBeside_121 : decode cX9_seenBeside 121 = .ok (.istore_n 2, 1) := by decide +kernel
theorem dX9_seenBeside_122 : decode cX9_seenBeside 122 = .ok (.iload_n 2, 1) := by decide +kernel
theorem dX9_seenBeside_123 : decode cX9_seenBeside 123 = .ok (.ireturn, 1) := by decide +kernel
theorem dX9_weightAt_0 : decode cX9_weightAt 0 = .ok (.iload_n 0, 1) := by decide +kernel
theorem dX9_weightAt_1 : decode cX9_weightAt 1 = .ok (.bipush 6, 2) := by decide +kernel
theorem dX9_weightAt_3 : decode cX9_weightAt 3 = .ok (.imul, 1) := by decide +kernel
theorem dX9_weightAt_4 : decode cX9_weightAt 4 = .ok (.iload_n 1, 1) := by decide +kernel
theorem dX9_weightAt_5 : decode cX9_weightAt 5 = .ok (.iadd, 1) := by decide +kernel
theorem dX9_weightAt_6 : decode cX9_weightAt 6 = .ok (.bipush 6, 2) := by decide +kernel
theorem dX9_weightAt_8 : decode cX9_weightAt 8 = .ok (.imul, 1) := by decide +kernel
theorem dX9_weightAt_9 : decode cX9_weightAt 9 = .ok (.iload_n 2, 1) := by decide +kernel
theorem dX9_weightAt_10 : decode cX9_weightAt 10 = .ok (.iadd, 1) := by decide +kernel
theorem dX9_weightAt_11 : decode cX9_weightAt 11 = .ok (.ireturn, 1) := by decide +kernel
theorem dX9_weighPlaces_0 : decode cX9_weighPlaces 0 = .ok (.aload_n 0, 1) := by decide +kernel
theorem dX9_weighPlaces_1 : decode cX9_weighPlaces 1 = .ok (.getfield 10, 3) := by decide +kernel
theorem dX9_weighPlaces_4 : decode cX9_weighPlaces 4 = .ok (.invokevirtual 55, 3) := by decide +kernel
theorem dX9_weighPlaces_7 : decode cX9_weighPlaces 7 = .ok (.istore_n 1, 1) := by decide +kernel
theorem dX9_weighPlaces_8 : decode cX9_weighPlaces 8 = .ok (.aload_n 0, 1) := by decide +kernel
theorem dX9_weighPlaces_9 : decode cX9_weighPlaces 9 = .ok (.getfield 31, 3) := by decide +kernel
theorem dX9_weighPlaces_12 : decode cX9_weighPlaces 12 = .ok (.sipush 216, 3) := by decide +kernel
theorem dX9_weighPlaces_15 : decode cX9_weighPlaces 15 = .ok (.iconst 0, 1) := by decide +kernel
theorem dX9_weighPlaces_16 : decode cX9_weighPlaces 16 = .ok (.invokevirtual 92, 3) := by decide +kernel
theorem dX9_weighPlaces_19 : decode cX9_weighPlaces 19 = .ok (.iconst 0, 1) := by decide +kernel
theorem dX9_weighPlaces_20 : decode cX9_weighPlaces 20 = .ok (.istore_n 2, 1) := by decide +kernel
theorem dX9_weighPlaces_21 : decode cX9_weighPlaces 21 = .ok (.iload_n 2, 1) := by decide +kernel
theorem dX9_weighPlaces_22 : decode cX9_weighPlaces 22 = .ok (.iconst 1, 1) := by decide +kernel
theorem dX9_weighPlaces_23 : decode cX9_weighPlaces 23 = .ok (.iadd, 1) := by decide +kernel
theorem dX9_weighPlaces_24 : decode cX9_weighPlaces 24 = .ok (.iload_n 1, 1) := by decide +kernel
theorem dX9_weighPlaces_25 : decode cX9_weighPlaces 25 = .ok (.if_icmp .ge 73, 3) := by decide +kernel
theorem dX9_weighPlaces_28 : decode cX9_weighPlaces 28 = .ok (.iconst 0, 1) := by decide +kernel
theorem dX9_weighPlaces_29 : decode cX9_weighPlaces 29 = .ok (.istore_n 3, 1) := by decide +kernel
theorem dX9_weighPlaces_30 : decode cX9_weighPlaces 30 = .ok (.iload_n 3, 1) := by decide +kernel
theorem dX9_weighPlaces_31 : decode cX9_weighPlaces 31 = .ok (.iload_n 1, 1) := by decide +kernel
theorem dX9_weighPlaces_32 : decode cX9_weighPlaces 32 = .ok (.if_icmp .ge 60, 3) := by decide +kernel
theorem dX9_weighPlaces_35 : decode cX9_weighPlaces 35 = .ok (.iconst 0, 1) := by decide +kernel
theorem dX9_weighPlaces_36 : decode cX9_weighPlaces 36 = .ok (.istore 4, 2) := by decide +kernel
theorem dX9_weighPlaces_38 : decode cX9_weighPlaces 38 = .ok (.iload 4, 2) := by decide +kernel
theorem dX9_weighPlaces_40 : decode cX9_weighPlaces 40 = .ok (.iload_n 1, 1) := by decide +kernel
theorem dX9_weighPlaces_41 : decode cX9_weighPlaces 41 = .ok (.if_icmp .ge 45, 3) := by decide +kernel
theorem dX9_weighPlaces_44 : decode cX9_weighPlaces 44 = .ok (.iload_n 3, 1) := by decide +kernel
theorem dX9_weighPlaces_45 : decode cX9_weighPlaces 45 = .ok (.iload 4, 2) := by decide +kernel
theorem dX9_weighPlaces_47 : decode cX9_weighPlaces 47 = .ok (.if_icmp .eq 33, 3) := by decide +kernel
theorem dX9_weighPlaces_50 : decode cX9_weighPlaces 50 = .ok (.aload_n 0, 1) := by decide +kernel
theorem dX9_weighPlaces_51 : decode cX9_weighPlaces 51 = .ok (.getfield 31, 3) := by decide +kernel
theorem dX9_weighPlaces_54 : decode cX9_weighPlaces 54 = .ok (.iload_n 2, 1) := by decide +kernel
theorem dX9_weighPlaces_55 : decode cX9_weighPlaces 55 = .ok (.iload_n 3, 1) := by decide +kernel
theorem dX9_weighPlaces_56 : decode cX9_weighPlaces 56 = .ok (.iload 4, 2) := by decide +kernel
theorem dX9_weighPlaces_58 : decode cX9_weighPlaces 58 = .ok (.invokestatic 121, 3) := by decide +kernel
theorem dX9_weighPlaces_61 : decode cX9_weighPlaces 61 = .ok (.aload_n 0, 1) := by decide +kernel
theorem dX9_weighPlaces_62 : decode cX9_weighPlaces 62 = .ok (.getfield 44, 3) := by decide +kernel
theorem dX9_weighPlaces_65 : decode cX9_weighPlaces 65 = .ok (.aload_n 0, 1) := by decide +kernel
theorem dX9_weighPlaces_66 : decode cX9_weighPlaces 66 = .ok (.getfield 10, 3) := by decide +kernel
theorem dX9_weighPlaces_69 : decode cX9_weighPlaces 69 = .ok (.iload_n 2, 1) := by decide +kernel
theorem dX9_weighPlaces_70 : decode cX9_weighPlaces 70 = .ok (.iload_n 3, 1) := by decide +kernel
theorem dX9_weighPlaces_71 : decode cX9_weighPlaces 71 = .ok (.iload 4, 2) := by decide +kernel
theorem dX9_weighPlaces_73 : decode cX9_weighPlaces 73 = .ok (.iconst 0, 1) := by decide +kernel
theorem dX9_weighPlaces_74 : decode cX9_weighPlaces 74 = .ok (.invokevirtual 106, 3) := by decide +kernel
theorem dX9_weighPlaces_77 : decode cX9_weighPlaces 77 = .ok (.invokevirtual 103, 3) := by decide +kernel
theorem dX9_weighPlaces_80 : decode cX9_weighPlaces 80 = .ok (.iinc 4 1, 3) := by decide +kernel
theorem dX9_weighPlaces_83 : decode cX9_weighPlaces 83 = .ok (.goto (-45), 3) := by decide +kernel
theorem dX9_weighPlaces_86 : decode cX9_weighPlaces 86 = .ok (.iinc 3 1, 3) := by decide +kernel
theorem dX9_weighPlaces_89 : decode cX9_weighPlaces 89 = .ok (.goto (-59), 3) := by decide +kernel
theorem dX9_weighPlaces_92 : decode cX9_weighPlaces 92 = .ok (.iinc 2 1, 3) := by decide +kernel
theorem dX9_weighPlaces_95 : decode cX9_weighPlaces 95 = .ok (.goto (-74), 3) := by decide +kernel
theorem dX9_weighPlaces_98 : decode cX9_weighPlaces 98 = .ok (.return_, 1) := by decide +kernel
theorem dX9_weighPauses_0 : decode cX9_weighPauses 0 = .ok (.aload_n 0, 1) := by decide +kernel
theorem dX9_weighPauses_1 : decode cX9_weighPauses 1 = .ok (.getfield 34, 3) := by decide +kernel
theorem dX9_weighPauses_4 : decode cX9_weighPauses 4 = .ok (.aload_n 0, 1) := by decide +kernel
theorem dX9_weighPauses_5 : decode cX9_weighPauses 5 = .ok (.getfield 10, 3) := by decide +kernel
theorem dX9_weighPauses_8 : decode cX9_weighPauses 8 = .ok (.invokevirtual 55, 3) := by decide +kernel
theorem dX9_weighPauses_11 : decode cX9_weighPauses 11 = .ok (.iconst 0, 1) := by decide +kernel
theorem dX9_weighPauses_12 : decode cX9_weighPauses 12 = .ok (.invokevirtual 92, 3) := by decide +kernel
theorem dX9_weighPauses_15 : decode cX9_weighPauses 15 = .ok (.aload_n 0, 1) := by decide +kernel
theorem dX9_weighPauses_16 : decode cX9_weighPauses 16 = .ok (.getfield 37, 3) := by decide +kernel
theorem dX9_weighPauses_19 : decode cX9_weighPauses 19 = .ok (.aload_n 0, 1) := by decide +kernel
theorem dX9_weighPauses_20 : decode cX9_weighPauses 20 = .ok (.getfield 10, 3) := by decide +kernel
theorem dX9_weighPauses_23 : decode cX9_weighPauses 23 = .ok (.invokevirtual 55, 3) := by decide +kernel
theorem dX9_weighPauses_26 : decode cX9_weighPauses 26 = .ok (.iconst 0, 1) := by decide +kernel
theorem dX9_weighPauses_27 : decode cX9_weighPauses 27 = .ok (.invokevirtual 92, 3) := by decide +kernel
theorem dX9_weighPauses_30 : decode cX9_weighPauses 30 = .ok (.iconst 1, 1) := by decide +kernel
theorem dX9_weighPauses_31 : decode cX9_weighPauses 31 = .ok (.istore_n 2, 1) := by decide +kernel
theorem dX9_weighPauses_32 : decode cX9_weighPauses 32 = .ok (.iload_n 2, 1) := by decide +kernel
theorem dX9_weighPauses_33 : decode cX9_weighPauses 33 = .ok (.aload_n 0, 1) := by decide +kernel
theorem dX9_weighPauses_34 : decode cX9_weighPauses 34 = .ok (.getfield 10, 3) := by decide +kernel
theorem dX9_weighPauses_37 : decode cX9_weighPauses 37 = .ok (.invokevirtual 55, 3) := by decide +kernel
theorem dX9_weighPauses_40 : decode cX9_weighPauses 40 = .ok (.if_icmp .ge 63, 3) := by decide +kernel
theorem dX9_weighPauses_43 : decode cX9_weighPauses 43 = .ok (.aload_n 0, 1) := by decide +kernel
theorem dX9_weighPauses_44 : decode cX9_weighPauses 44 = .ok (.getfield 34, 3) := by decide +kernel
theorem dX9_weighPauses_47 : decode cX9_weighPauses 47 = .ok (.iload_n 2, 1) := by decide +kernel
theorem dX9_weighPauses_48 : decode cX9_weighPauses 48 = .ok (.aload_n 0, 1) := by decide +kernel
theorem dX9_weighPauses_49 : decode cX9_weighPauses 49 = .ok (.getfield 44, 3) := by decide +kernel
theorem dX9_weighPauses_52 : decode cX9_weighPauses 52 = .ok (.aload_n 0, 1) := by decide +kernel
theorem dX9_weighPauses_53 : decode cX9_weighPauses 53 = .ok (.getfield 10, 3) := by decide +kernel
theorem dX9_weighPauses_56 : decode cX9_weighPauses 56 = .ok (.iload_n 2, 1) := by decide +kernel
theorem dX9_weighPauses_57 : decode cX9_weighPauses 57 = .ok (.iconst 1, 1) := by decide +kernel
theorem dX9_weighPauses_58 : decode cX9_weighPauses 58 = .ok (.isub, 1) := by decide +kernel
theorem dX9_weighPauses_59 : decode cX9_weighPauses 59 = .ok (.iload_n 2, 1) := by decide +kernel
theorem dX9_weighPauses_60 : decode cX9_weighPauses 60 = .ok (.iconst 1, 1) := by decide +kernel
theorem dX9_weighPauses_61 : decode cX9_weighPauses 61 = .ok (.isub, 1) := by decide +kernel
theorem dX9_weighPauses_62 : decode cX9_weighPauses 62 = .ok (.iload_n 2, 1) := by decide +kernel
theorem dX9_weighPauses_63 : decode cX9_weighPauses 63 = .ok (.iconst 0, 1) := by decide +kernel
theorem dX9_weighPauses_64 : decode cX9_weighPauses 64 = .ok (.invokevirtual 106, 3) := by decide +kernel
theorem dX9_weighPauses_67 : decode cX9_weighPauses 67 = .ok (.invokevirtual 103, 3) := by decide +kernel
theorem dX9_weighPauses_70 : decode cX9_weighPauses 70 = .ok (.aload_n 0, 1) := by decide +kernel
theorem dX9_weighPauses_71 : decode cX9_weighPauses 71 = .ok (.getfield 37, 3) := by decide +kernel
theorem dX9_weighPauses_74 : decode cX9_weighPauses 74 = .ok (.iload_n 2, 1) := by decide +kernel
theorem dX9_weighPauses_75 : decode cX9_weighPauses 75 = .ok (.aload_n 0, 1) := by decide +kernel
theorem dX9_weighPauses_76 : decode cX9_weighPauses 76 = .ok (.getfield 44, 3) := by decide +kernel
theorem dX9_weighPauses_79 : decode cX9_weighPauses 79 = .ok (.aload_n 0, 1) := by decide +kernel
theorem dX9_weighPauses_80 : decode cX9_weighPauses 80 = .ok (.getfield 10, 3) := by decide +kernel
theorem dX9_weighPauses_83 : decode cX9_weighPauses 83 = .ok (.iload_n 2, 1) := by decide +kernel
theorem dX9_weighPauses_84 : decode cX9_weighPauses 84 = .ok (.iconst 1, 1) := by decide +kernel
theorem dX9_weighPauses_85 : decode cX9_weighPauses 85 = .ok (.isub, 1) := by decide +kernel
theorem dX9_weighPauses_86 : decode cX9_weighPauses 86 = .ok (.iload_n 2, 1) := by decide +kernel
theorem dX9_weighPauses_87 : decode cX9_weighPauses 87 = .ok (.iconst 1, 1) := by decide +kernel
theorem dX9_weighPauses_88 : decode cX9_weighPauses 88 = .ok (.isub, 1) := by decide +kernel
theorem dX9_weighPauses_89 : decode cX9_weighPauses 89 = .ok (.iload_n 2, 1) := by decide +kernel
theorem dX9_weighPauses_90 : decode cX9_weighPauses 90 = .ok (.iload_n 1, 1) := by decide +kernel
theorem dX9_weighPauses_91 : decode cX9_weighPauses 91 = .ok (.invokevirtual 106, 3) := by decide +kernel
theorem dX9_weighPauses_94 : decode cX9_weighPauses 94 = .ok (.invokevirtual 103, 3) := by decide +kernel
theorem dX9_weighPauses_97 : decode cX9_weighPauses 97 = .ok (.iinc 2 1, 3) := by decide +kernel
theorem dX9_weighPauses_100 : decode cX9_weighPauses 100 = .ok (.goto (-68), 3) := by decide +kernel
theorem dX9_weighPauses_103 : decode cX9_weighPauses 103 = .ok (.return_, 1) := by decide +kernel
theorem dX9_seenCalledAhead_0 : decode cX9_seenCalledAhead 0 = .ok (.iconst 0, 1) := by decide +kernel
theorem dX9_seenCalledAhead_1 : decode cX9_seenCalledAhead 1 = .ok (.istore_n 2, 1) := by decide +kernel
theorem dX9_seenCalledAhead_2 : decode cX9_seenCalledAhead 2 = .ok (.iconst 1, 1) := by decide +kernel
theorem dX9_seenCalledAhead_3 : decode cX9_seenCalledAhead 3 = .ok (.istore_n 3, 1) := by decide +kernel
theorem dX9_seenCalledAhead_4 : decode cX9_seenCalledAhead 4 = .ok (.iload_n 3, 1) := by decide +kernel
theorem dX9_seenCalledAhead_5 : decode cX9_seenCalledAhead 5 = .ok (.aload_n 0, 1) := by decide +kernel
theorem dX9_seenCalledAhead_6 : decode cX9_seenCalledAhead 6 = .ok (.getfield 10, 3) := by decide +kernel
theorem dX9_seenCalledAhead_9 : decode cX9_seenCalledAhead 9 = .ok (.invokevirtual 55, 3) := by decide +kernel
theorem dX9_seenCalledAhead_12 : decode cX9_seenCalledAhead 12 = .ok (.if_icmp .ge 36, 3) := by decide +kernel
theorem dX9_seenCalledAhead_15 : decode cX9_seenCalledAhead 15 = .ok (.iload_n 2, 1) := by decide +kernel
theorem dX9_seenCalledAhead_16 : decode cX9_seenCalledAhead 16 = .ok (.iload_n 3, 1) := by decide +kernel
theorem dX9_seenCalledAhead_17 : decode cX9_seenCalledAhead 17 = .ok (.iload_n 1, 1) := by decide +kernel
theorem dX9_seenCalledAhead_18 : decode cX9_seenCalledAhead 18 = .ok (.if_icmp .ne 14, 3) := by decide +kernel
theorem dX9_seenCalledAhead_21 : decode cX9_seenCalledAhead 21 = .ok (.aload_n 0, 1) := by decide +kernel
theorem dX9_seenCalledAhead_22 : decode cX9_seenCalledAhead 22 = .ok (.getfield 37, 3) := by decide +kernel
theorem dX9_seenCalledAhead_25 : decode cX9_seenCalledAhead 25 = .ok (.iload_n 3, 1) := by decide +kernel
theorem dX9_seenCalledAhead_26 : decode cX9_seenCalledAhead 26 = .ok (.invokevirtual 96, 3) := by decide +kernel
theorem dX9_seenCalledAhead_29 : decode cX9_seenCalledAhead 29 = .ok (.goto 11, 3) := by decide +kernel
theorem dX9_seenCalledAhead_32 : decode cX9_seenCalledAhead 32 = .ok (.aload_n 0, 1) := by decide +kernel
theorem dX9_seenCalledAhead_33 : decode cX9_seenCalledAhead 33 = .ok (.getfield 34, 3) := by decide +kernel
theorem dX9_seenCalledAhead_36 : decode cX9_seenCalledAhead 36 = .ok (.iload_n 3, 1) := by decide +kernel
theorem dX9_seenCalledAhead_37 : decode cX9_seenCalledAhead 37 = .ok (.invokevirtual 96, 3) := by decide +kernel
theorem dX9_seenCalledAhead_40 : decode cX9_seenCalledAhead 40 = .ok (.iadd, 1) := by decide +kernel
theorem dX9_seenCalledAhead_41 : decode cX9_seenCalledAhead 41 = .ok (.istore_n 2, 1) := by decide +kernel
theorem dX9_seenCalledAhead_42 : decode cX9_seenCalledAhead 42 = .ok (.iinc 3 1, 3) := by decide +kernel
theorem dX9_seenCalledAhead_45 : decode cX9_seenCalledAhead 45 = .ok (.goto (-41), 3) := by decide +kernel
theorem dX9_seenCalledAhead_48 : decode cX9_seenCalledAhead 48 = .ok (.iload_n 2, 1) := by decide +kernel
theorem dX9_seenCalledAhead_49 : decode cX9_seenCalledAhead 49 = .ok (.ireturn, 1) := by decide +kernel
theorem dX9_worstStrip_0 : decode cX9_worstStrip 0 = .ok (.iconst 1, 1) := by decide +kernel
theorem dX9_worstStrip_1 : decode cX9_worstStrip 1 = .ok (.istore_n 1, 1) := by decide +kernel
theorem dX9_worstStrip_2 : decode cX9_worstStrip 2 = .ok (.iconst 2, 1) := by decide +kernel
theorem dX9_worstStrip_3 : decode cX9_worstStrip 3 = .ok (.istore_n 2, 1) := by decide +kernel
theorem dX9_worstStrip_4 : decode cX9_worstStrip 4 = .ok (.iload_n 2, 1) := by decide +kernel
theorem dX9_worstStrip_5 : decode cX9_worstStrip 5 = .ok (.aload_n 0, 1) := by decide +kernel
theorem dX9_worstStrip_6 : decode cX9_worstStrip 6 = .ok (.getfield 10, 3) := by decide +kernel
theorem dX9_worstStrip_9 : decode cX9_worstStrip 9 = .ok (.invokevirtual 55, 3) := by decide +kernel
theorem dX9_worstStrip_12 : decode cX9_worstStrip 12 = .ok (.if_icmp .ge 24, 3) := by decide +kernel
theorem dX9_worstStrip_15 : decode cX9_worstStrip 15 = .ok (.aload_n 0, 1) := by decide +kernel
theorem dX9_worstStrip_16 : decode cX9_worstStrip 16 = .ok (.iload_n 2, 1) := by decide +kernel
theorem dX9_worstStrip_17 : decode cX9_worstStrip 17 = .ok (.invokevirtual 125, 3) := by decide +kernel
theorem dX9_worstStrip_20 : decode cX9_worstStrip 20 = .ok (.aload_n 0, 1) := by decide +kernel
theorem dX9_worstStrip_21 : decode cX9_worstStrip 21 = .ok (.iload_n 1, 1) := by decide +kernel
theorem dX9_worstStrip_22 : decode cX9_worstStrip 22 = .ok (.invokevirtual 125, 3) := by decide +kernel
theorem dX9_worstStrip_25 : decode cX9_worstStrip 25 = .ok (.if_icmp .le 5, 3) := by decide +kernel
theorem dX9_worstStrip_28 : decode cX9_worstStrip 28 = .ok (.iload_n 2, 1) := by decide +kernel
theorem dX9_worstStrip_29 : decode cX9_worstStrip 29 = .ok (.istore_n 1, 1) := by decide +kernel
theorem dX9_worstStrip_30 : decode cX9_worstStrip 30 = .ok (.iinc 2 1, 3) := by decide +kernel
theorem dX9_worstStrip_33 : decode cX9_worstStrip 33 = .ok (.goto (-29), 3) := by decide +kernel
theorem dX9_worstStrip_36 : decode cX9_worstStrip 36 = .ok (.iload_n 1, 1) := by decide +kernel
theorem dX9_worstStrip_37 : decode cX9_worstStrip 37 = .ok (.ireturn, 1) := by decide +kernel
theorem dX9_longestPause_0 : decode cX9_longestPause 0 = .ok (.aload_n 0, 1) := by decide +kernel
theorem dX9_longestPause_1 : decode cX9_longestPause 1 = .ok (.getfield 44, 3) := by decide +kernel
theorem dX9_longestPause_4 : decode cX9_longestPause 4 = .ok (.aload_n 0, 1) := by decide +kernel
theorem dX9_longestPause_5 : decode cX9_longestPause 5 = .ok (.getfield 10, 3) := by decide +kernel
theorem dX9_longestPause_8 : decode cX9_longestPause 8 = .ok (.iload_n 1, 1) := by decide +kernel
theorem dX9_longestPause_9 : decode cX9_longestPause 9 = .ok (.iconst 1, 1) := by decide +kernel
theorem dX9_longestPause_10 : decode cX9_longestPause 10 = .ok (.isub, 1) := by decide +kernel
theorem dX9_longestPause_11 : decode cX9_longestPause 11 = .ok (.iload_n 1, 1) := by decide +kernel
theorem dX9_longestPause_12 : decode cX9_longestPause 12 = .ok (.iconst 1, 1) := by decide +kernel
theorem dX9_longestPause_13 : decode cX9_longestPause 13 = .ok (.isub, 1) := by decide +kernel
theorem dX9_longestPause_14 : decode cX9_longestPause 14 = .ok (.iload_n 1, 1) := by decide +kernel
theorem dX9_longestPause_15 : decode cX9_longestPause 15 = .ok (.iconst 0, 1) := by decide +kernel
theorem dX9_longestPause_16 : decode cX9_longestPause 16 = .ok (.invokevirtual 106, 3) := by decide +kernel
theorem dX9_longestPause_19 : decode cX9_longestPause 19 = .ok (.istore_n 3, 1) := by decide +kernel
theorem dX9_longestPause_20 : decode cX9_longestPause 20 = .ok (.iload_n 2, 1) := by decide +kernel
theorem dX9_longestPause_21 : decode cX9_longestPause 21 = .ok (.istore 4, 2) := by decide +kernel
theorem dX9_longestPause_23 : decode cX9_longestPause 23 = .ok (.iload 4, 2) := by decide +kernel
theorem dX9_longestPause_25 : decode cX9_longestPause 25 = .ok (.ifCond .le 36, 3) := by decide +kernel
theorem dX9_longestPause_28 : decode cX9_longestPause 28 = .ok (.aload_n 0, 1) := by decide +kernel
theorem dX9_longestPause_29 : decode cX9_longestPause 29 = .ok (.getfield 44, 3) := by decide +kernel
theorem dX9_longestPause_32 : decode cX9_longestPause 32 = .ok (.aload_n 0, 1) := by decide +kernel
theorem dX9_longestPause_33 : decode cX9_longestPause 33 = .ok (.getfield 10, 3) := by decide +kernel
theorem dX9_longestPause_36 : decode cX9_longestPause 36 = .ok (.iload_n 1, 1) := by decide +kernel
theorem dX9_longestPause_37 : decode cX9_longestPause 37 = .ok (.iconst 1, 1) := by decide +kernel
theorem dX9_longestPause_38 : decode cX9_longestPause 38 = .ok (.isub, 1) := by decide +kernel
theorem dX9_longestPause_39 : decode cX9_longestPause 39 = .ok (.iload_n 1, 1) := by decide +kernel
theorem dX9_longestPause_40 : decode cX9_longestPause 40 = .ok (.iconst 1, 1) := by decide +kernel
theorem dX9_longestPause_41 : decode cX9_longestPause 41 = .ok (.isub, 1) := by decide +kernel
theorem dX9_longestPause_42 : decode cX9_longestPause 42 = .ok (.iload_n 1, 1) := by decide +kernel
theorem dX9_longestPause_43 : decode cX9_longestPause 43 = .ok (.iload 4, 2) := by decide +kernel
theorem dX9_longestPause_45 : decode cX9_longestPause 45 = .ok (.invokevirtual 106, 3) := by decide +kernel
theorem dX9_longestPause_48 : decode cX9_longestPause 48 = .ok (.iload_n 3, 1) := by decide +kernel
theorem dX9_longestPause_49 : decode cX9_longestPause 49 = .ok (.if_icmp .gt 6, 3) := by decide +kernel
theorem dX9_longestPause_52 : decode cX9_longestPause 52 = .ok (.iload 4, 2) := by decide +kernel
theorem dX9_longestPause_54 : decode cX9_longestPause 54 = .ok (.ireturn, 1) := by decide +kernel
theorem dX9_longestPause_55 : decode cX9_longestPause 55 = .ok (.iinc 4 (-1), 3) := by decide +kernel
theorem dX9_longestPause_58 : decode cX9_longestPause 58 = .ok (.goto (-35), 3) := by decide +kernel
theorem dX9_longestPause_61 : decode cX9_longestPause 61 = .ok (.iconst 0, 1) := by decide +kernel
theorem dX9_longestPause_62 : decode cX9_longestPause 62 = .ok (.ireturn, 1) := by decide +kernel
theorem dX9_waysOfPauses_0 : decode cX9_waysOfPauses 0 = .ok (.iconst 1, 1) := by decide +kernel
theorem dX9_waysOfPauses_1 : decode cX9_waysOfPauses 1 = .ok (.aload_n 0, 1) := by decide +kernel
theorem dX9_waysOfPauses_2 : decode cX9_waysOfPauses 2 = .ok (.getfield 10, 3) := by decide +kernel
theorem dX9_waysOfPauses_5 : decode cX9_waysOfPauses 5 = .ok (.invokevirtual 55, 3) := by decide +kernel
theorem dX9_waysOfPauses_8 : decode cX9_waysOfPauses 8 = .ok (.iconst 1, 1) := by decide +kernel
theorem dX9_waysOfPauses_9 : decode cX9_waysOfPauses 9 = .ok (.isub, 1) := by decide +kernel
theorem dX9_waysOfPauses_10 : decode cX9_waysOfPauses 10 = .ok (.ishl, 1) := by decide +kernel
theorem dX9_waysOfPauses_11 : decode cX9_waysOfPauses 11 = .ok (.ireturn, 1) := by decide +kernel
theorem dX9_waysSeenAtMost_0 : decode cX9_waysSeenAtMost 0 = .ok (.iconst 0, 1) := by decide +kernel
theorem dX9_waysSeenAtMost_1 : decode cX9_waysSeenAtMost 1 = .ok (.istore_n 2, 1) := by decide +kernel
theorem dX9_waysSeenAtMost_2 : decode cX9_waysSeenAtMost 2 = .ok (.iconst 0, 1) := by decide +kernel
theorem dX9_waysSeenAtMost_3 : decode cX9_waysSeenAtMost 3 = .ok (.istore_n 3, 1) := by decide +kernel
theorem dX9_waysSeenAtMost_4 : decode cX9_waysSeenAtMost 4 = .ok (.iload_n 3, 1) := by decide +kernel
theorem dX9_waysSeenAtMost_5 : decode cX9_waysSeenAtMost 5 = .ok (.aload_n 0, 1) := by decide +kernel
theorem dX9_waysSeenAtMost_6 : decode cX9_waysSeenAtMost 6 = .ok (.invokevirtual 128, 3) := by decide +kernel
theorem dX9_waysSeenAtMost_9 : decode cX9_waysSeenAtMost 9 = .ok (.if_icmp .ge 80, 3) := by decide +kernel
theorem dX9_waysSeenAtMost_12 : decode cX9_waysSeenAtMost 12 = .ok (.iconst 0, 1) := by decide +kernel
theorem dX9_waysSeenAtMost_13 : decode cX9_waysSeenAtMost 13 = .ok (.istore 4, 2) := by decide +kernel
theorem dX9_waysSeenAtMost_15 : decode cX9_waysSeenAtMost 15 = .ok (.iconst 1, 1) := by decide +kernel
theorem dX9_waysSeenAtMost_16 : decode cX9_waysSeenAtMost 16 = .ok (.istore 5, 2) := by decide +kernel
theorem dX9_waysSeenAtMost_18 : decode cX9_waysSeenAtMost 18 = .ok (.iload 5, 2) := by decide +kernel
theorem dX9_waysSeenAtMost_20 : decode cX9_waysSeenAtMost 20 = .ok (.aload_n 0, 1) := by decide +kernel
theorem dX9_waysSeenAtMost_21 : decode cX9_waysSeenAtMost 21 = .ok (.getfield 10, 3) := by decide +kernel
theorem dX9_waysSeenAtMost_24 : decode cX9_waysSeenAtMost 24 = .ok (.invokevirtual 55, 3) := by decide +kernel
theorem dX9_waysSeenAtMost_27 : decode cX9_waysSeenAtMost 27 = .ok (.if_icmp .ge 47, 3) := by decide +kernel
theorem dX9_waysSeenAtMost_30 : decode cX9_waysSeenAtMost 30 = .ok (.iload 4, 2) := by decide +kernel
theorem dX9_waysSeenAtMost_32 : decode cX9_waysSeenAtMost 32 = .ok (.iload_n 3, 1) := by decide +kernel
theorem dX9_waysSeenAtMost_33 : decode cX9_waysSeenAtMost 33 = .ok (.iload 5, 2) := by decide +kernel
theorem dX9_waysSeenAtMost_35 : decode cX9_waysSeenAtMost 35 = .ok (.iconst 1, 1) := by decide +kernel
theorem dX9_waysSeenAtMost_36 : decode cX9_waysSeenAtMost 36 = .ok (.isub, 1) := by decide +kernel
theorem dX9_waysSeenAtMost_37 : decode cX9_waysSeenAtMost 37 = .ok (.ishr, 1) := by decide +kernel
theorem dX9_waysSeenAtMost_38 : decode cX9_waysSeenAtMost 38 = .ok (.iconst 1, 1) := by decide +kernel
theorem dX9_waysSeenAtMost_39 : decode cX9_waysSeenAtMost 39 = .ok (.iand, 1) := by decide +kernel
theorem dX9_waysSeenAtMost_40 : decode cX9_waysSeenAtMost 40 = .ok (.iconst 1, 1) := by decide +kernel
theorem dX9_waysSeenAtMost_41 : decode cX9_waysSeenAtMost 41 = .ok (.if_icmp .ne 15, 3) := by decide +kernel
theorem dX9_waysSeenAtMost_44 : decode cX9_waysSeenAtMost 44 = .ok (.aload_n 0, 1) := by decide +kernel
theorem dX9_waysSeenAtMost_45 : decode cX9_waysSeenAtMost 45 = .ok (.getfield 37, 3) := by decide +kernel
theorem dX9_waysSeenAtMost_48 : decode cX9_waysSeenAtMost 48 = .ok (.iload 5, 2) := by decide +kernel
theorem dX9_waysSeenAtMost_50 : decode cX9_waysSeenAtMost 50 = .ok (.invokevirtual 96, 3) := by decide +kernel
theorem dX9_waysSeenAtMost_53 : decode cX9_waysSeenAtMost 53 = .ok (.goto 12, 3) := by decide +kernel
theorem dX9_waysSeenAtMost_56 : decode cX9_waysSeenAtMost 56 = .ok (.aload_n 0, 1) := by decide +kernel
theorem dX9_waysSeenAtMost_57 : decode cX9_waysSeenAtMost 57 = .ok (.getfield 34, 3) := by decide +kernel
theorem dX9_waysSeenAtMost_60 : decode cX9_waysSeenAtMost 60 = .ok (.iload 5, 2) := by decide +kernel
theorem dX9_waysSeenAtMost_62 : decode cX9_waysSeenAtMost 62 = .ok (.invokevirtual 96, 3) := by decide +kernel
theorem dX9_waysSeenAtMost_65 : decode cX9_waysSeenAtMost 65 = .ok (.iadd, 1) := by decide +kernel
theorem dX9_waysSeenAtMost_66 : decode cX9_waysSeenAtMost 66 = .ok (.istore 4, 2) := by decide +kernel
theorem dX9_waysSeenAtMost_68 : decode cX9_waysSeenAtMost 68 = .ok (.iinc 5 1, 3) := by decide +kernel
theorem dX9_waysSeenAtMost_71 : decode cX9_waysSeenAtMost 71 = .ok (.goto (-53), 3) := by decide +kernel
theorem dX9_waysSeenAtMost_74 : decode cX9_waysSeenAtMost 74 = .ok (.iload 4, 2) := by decide +kernel
theorem dX9_waysSeenAtMost_76 : decode cX9_waysSeenAtMost 76 = .ok (.iload_n 1, 1) := by decide +kernel
theorem dX9_waysSeenAtMost_77 : decode cX9_waysSeenAtMost 77 = .ok (.if_icmp .gt 6, 3) := by decide +kernel
theorem dX9_waysSeenAtMost_80 : decode cX9_waysSeenAtMost 80 = .ok (.iinc 2 1, 3) := by decide +kernel
theorem dX9_waysSeenAtMost_83 : decode cX9_waysSeenAtMost 83 = .ok (.iinc 3 1, 3) := by decide +kernel
theorem dX9_waysSeenAtMost_86 : decode cX9_waysSeenAtMost 86 = .ok (.goto (-82), 3) := by decide +kernel
theorem dX9_waysSeenAtMost_89 : decode cX9_waysSeenAtMost 89 = .ok (.iload_n 2, 1) := by decide +kernel
theorem dX9_waysSeenAtMost_90 : decode cX9_waysSeenAtMost 90 = .ok (.ireturn, 1) := by decide +kernel
theorem dX11_init_0 : decode cX11_init 0 = .ok (.aload_n 0, 1) := by decide +kernel
theorem dX11_init_1 : decode cX11_init 1 = .ok (.invokespecial 1, 3) := by decide +kernel
theorem dX11_init_4 : decode cX11_init 4 = .ok (.aload_n 0, 1) := by decide +kernel
theorem dX11_init_5 : decode cX11_init 5 = .ok (.new 7, 3) := by decide +kernel
theorem dX11_init_8 : decode cX11_init 8 = .ok (.dup, 1) := by decide +kernel
theorem dX11_init_9 : decode cX11_init 9 = .ok (.invokespecial 9, 3) := by decide +kernel
theorem dX11_init_12 : decode cX11_init 12 = .ok (.putfield 10, 3) := by decide +kernel
theorem dX11_init_15 : decode cX11_init 15 = .ok (.aload_n 0, 1) := by decide +kernel
theorem dX11_init_16 : decode cX11_init 16 = .ok (.new 7, 3) := by decide +kernel
theorem dX11_init_19 : decode cX11_init 19 = .ok (.dup, 1) := by decide +kernel
theorem dX11_init_20 : decode cX11_init 20 = .ok (.invokespecial 9, 3) := by decide +kernel
theorem dX11_init_23 : decode cX11_init 23 = .ok (.putfield 16, 3) := by decide +kernel
theorem dX11_init_26 : decode cX11_init 26 = .ok (.aload_n 0, 1) := by decide +kernel
theorem dX11_init_27 : decode cX11_init 27 = .ok (.new 19, 3) := by decide +kernel
theorem dX11_init_30 : decode cX11_init 30 = .ok (.dup, 1) := by decide +kernel
theorem dX11_init_31 : decode cX11_init 31 = .ok (.invokespecial 21, 3) := by decide +kernel
theorem dX11_init_34 : decode cX11_init 34 = .ok (.putfield 22, 3) := by decide +kernel
theorem dX11_init_37 : decode cX11_init 37 = .ok (.aload_n 0, 1) := by decide +kernel
theorem dX11_init_38 : decode cX11_init 38 = .ok (.new 26, 3) := by decide +kernel
theorem dX11_init_41 : decode cX11_init 41 = .ok (.dup, 1) := by decide +kernel
theorem dX11_init_42 : decode cX11_init 42 = .ok (.aload_n 0, 1) := by decide +kernel
theorem dX11_init_43 : decode cX11_init 43 = .ok (.getfield 10, 3) := by decide +kernel
theorem dX11_init_46 : decode cX11_init 46 = .ok (.getfield 28, 3) := by decide +kernel
theorem dX11_init_49 : decode cX11_init 49 = .ok (.aload_n 0, 1) := by decide +kernel
theorem dX11_init_50 : decode cX11_init 50 = .ok (.getfield 10, 3) := by decide +kernel
theorem dX11_init_53 : decode cX11_init 53 = .ok (.getfield 32, 3) := by decide +kernel
theorem dX11_init_56 : decode cX11_init 56 = .ok (.invokespecial 35, 3) := by decide +kernel
theorem dX11_init_59 : decode cX11_init 59 = .ok (.putfield 38, 3) := by decide +kernel
theorem dX11_init_62 : decode cX11_init 62 = .ok (.aload_n 0, 1) := by decide +kernel
theorem dX11_init_63 : decode cX11_init 63 = .ok (.new 42, 3) := by decide +kernel
theorem dX11_init_66 : decode cX11_init 66 = .ok (.dup, 1) := by decide +kernel
theorem dX11_init_67 : decode cX11_init 67 = .ok (.aload_n 0, 1) := by decide +kernel
theorem dX11_init_68 : decode cX11_init 68 = .ok (.getfield 38, 3) := by decide +kernel
theorem dX11_init_71 : decode cX11_init 71 = .ok (.invokespecial 44, 3) := by decide +kernel
theorem dX11_init_74 : decode cX11_init 74 = .ok (.putfield 47, 3) := by decide +kernel
theorem dX11_init_77 : decode cX11_init 77 = .ok (.aload_n 0, 1) := by decide +kernel
theorem dX11_init_78 : decode cX11_init 78 = .ok (.new 51, 3) := by decide +kernel
theorem dX11_init_81 : decode cX11_init 81 = .ok (.dup, 1) := by decide +kernel
theorem dX11_init_82 : decode cX11_init 82 = .ok (.invokespecial 53, 3) := by decide +kernel
theorem dX11_init_85 : decode cX11_init 85 = .ok (.putfield 54, 3) := by decide +kernel
theorem dX11_init_88 : decode cX11_init 88 = .ok (.aload_n 0, 1) := by decide +kernel
theorem dX11_init_89 : decode cX11_init 89 = .ok (.iconst 4, 1) := by decide +kernel
theorem dX11_init_90 : decode cX11_init 90 = .ok (.anewarray 58, 3) := by decide +kernel
theorem dX11_init_93 : decode cX11_init 93 = .ok (.dup, 1) := by decide +kernel
theorem dX11_init_94 : decode cX11_init 94 = .ok (.iconst 0, 1) := by decide +kernel
theorem dX11_init_95 : decode cX11_init 95 = .ok (.new 58, 3) := by decide +kernel
theorem dX11_init_98 : decode cX11_init 98 = .ok (.dup, 1) := by decide +kernel
theorem dX11_init_99 : decode cX11_init 99 = .ok (.invokespecial 60, 3) := by decide +kernel
theorem dX11_init_102 : decode cX11_init 102 = .ok (.aastore, 1) := by decide +kernel
theorem dX11_init_103 : decode cX11_init 103 = .ok (.dup, 1) := by decide +kernel
theorem dX11_init_104 : decode cX11_init 104 = .ok (.iconst 1, 1) := by decide +kernel
theorem dX11_init_105 : decode cX11_init 105 = .ok (.new 58, 3) := by decide +kernel
theorem dX11_init_108 : decode cX11_init 108 = .ok (.dup, 1) := by decide +kernel
theorem dX11_init_109 : decode cX11_init 109 = .ok (.invokespecial 60, 3) := by decide +kernel
theorem dX11_init_112 : decode cX11_init 112 = .ok (.aastore, 1) := by decide +kernel
theorem dX11_init_113 : decode cX11_init 113 = .ok (.dup, 1) := by decide +kernel
theorem dX11_init_114 : decode cX11_init 114 = .ok (.iconst 2, 1) := by decide +kernel
theorem dX11_init_115 : decode cX11_init 115 = .ok (.new 58, 3) := by decide +kernel
theorem dX11_init_118 : decode cX11_init 118 = .ok (.dup, 1) := by decide +kernel
theorem dX11_init_119 : decode cX11_init 119 = .ok (.invokespecial 60, 3) := by decide +kernel
theorem dX11_init_122 : decode cX11_init 122 = .ok (.aastore, 1) := by decide +kernel
theorem dX11_init_123 : decode cX11_init 123 = .ok (.dup, 1) := by decide +kernel
theorem dX11_init_124 : decode cX11_init 124 = .ok (.iconst 3, 1) := by decide +kernel
theorem dX11_init_125 : decode cX11_init 125 = .ok (.new 58, 3) := by decide +kernel
theorem dX11_init_128 : decode cX11_init 128 = .ok (.dup, 1) := by decide +kernel
theorem dX11_init_129 : decode cX11_init 129 = .ok (.invokespecial 60, 3) := by decide +kernel
theorem dX11_init_132 : decode cX11_init 132 = .ok (.aastore, 1) := by decide +kernel
theorem dX11_init_133 : decode cX11_init 133 = .ok (.putfield 61, 3) := by decide +kernel
theorem dX11_init_136 : decode cX11_init 136 = .ok (.aload_n 0, 1) := by decide +kernel
theorem dX11_init_137 : decode cX11_init 137 = .ok (.new 65, 3) := by decide +kernel
theorem dX11_init_140 : decode cX11_init 140 = .ok (.dup, 1) := by decide +kernel
theorem dX11_init_141 : decode cX11_init 141 = .ok (.bipush 6, 2) := by decide +kernel
theorem dX11_init_143 : decode cX11_init 143 = .ok (.invokespecial 67, 3) := by decide +kernel
theorem dX11_init_146 : decode cX11_init 146 = .ok (.putfield 70, 3) := by decide +kernel
theorem dX11_init_149 : decode cX11_init 149 = .ok (.aload_n 0, 1) := by decide +kernel
theorem dX11_init_150 : decode cX11_init 150 = .ok (.iconst 0, 1) := by decide +kernel
theorem dX11_init_151 : decode cX11_init 151 = .ok (.putfield 74, 3) := by decide +kernel
theorem dX11_init_154 : decode cX11_init 154 = .ok (.aload_n 0, 1) := by decide +kernel
theorem dX11_init_155 : decode cX11_init 155 = .ok (.getfield 70, 3) := by decide +kernel
theorem dX11_init_158 : decode cX11_init 158 = .ok (.bipush 6, 2) := by decide +kernel
theorem dX11_init_160 : decode cX11_init 160 = .ok (.iconst 0, 1) := by decide +kernel
theorem dX11_init_161 : decode cX11_init 161 = .ok (.invokevirtual 78, 3) := by decide +kernel
theorem dX11_init_164 : decode cX11_init 164 = .ok (.return_, 1) := by decide +kernel
theorem dX11_ceiling_0 : decode cX11_ceiling 0 = .ok (.iload_n 1, 1) := by decide +kernel
theorem dX11_ceiling_1 : decode cX11_ceiling 1 = .ok (.iconst 1, 1) := by decide +kernel
theorem dX11_ceiling_2 : decode cX11_ceiling 2 = .ok (.bipush 6, 2) := by decide +kernel
theorem dX11_ceiling_4 : decode cX11_ceiling 4 = .ok (.invokestatic 84, 3) := by decide +kernel
theorem dX11_ceiling_7 : decode cX11_ceiling 7 = .ok (.ifCond .eq 13, 3) := by decide +kernel
theorem dX11_ceiling_10 : decode cX11_ceiling 10 = .ok (.iload_n 2, 1) := by decide +kernel
theorem dX11_ceiling_11 : decode cX11_ceiling 11 = .ok (.iconst 1, 1) := by decide +kernel
theorem dX11_ceiling_12 : decode cX11_ceiling 12 = .ok (.bipush 6, 2) := by decide +kernel
theorem dX11_ceiling_14 : decode cX11_ceiling 14 = .ok (.invokestatic 84, 3) := by decide +kernel
theorem dX11_ceiling_17 : decode cX11_ceiling 17 = .ok (.ifCond .ne 9, 3) := by decide +kernel
theorem dX11_ceiling_20 : decode cX11_ceiling 20 = .ok (.aload_n 0, 1) := by decide +kernel
theorem dX11_ceiling_21 : decode cX11_ceiling 21 = .ok (.iconst 1, 1) := by decide +kernel
theorem dX11_ceiling_22 : decode cX11_ceiling 22 = .ok (.invokevirtual 88, 3) := by decide +kernel
theorem dX11_ceiling_25 : decode cX11_ceiling 25 = .ok (.ireturn, 1) := by decide +kernel
theorem dX11_ceiling_26 : decode cX11_ceiling 26 = .ok (.aload_n 0, 1) := by decide +kernel
theorem dX11_ceiling_27 : decode cX11_ceiling 27 = .ok (.getfield 10, 3) := by decide +kernel
theorem dX11_ceiling_30 : decode cX11_ceiling 30 = .ok (.getfield 92, 3) := by decide +kernel
theorem dX11_ceiling_33 : decode cX11_ceiling 33 = .ok (.iload_n 1, 1) := by decide +kernel
theorem dX11_ceiling_34 : decode cX11_ceiling 34 = .ok (.iload_n 2, 1) := by decide +kernel
theorem dX11_ceiling_35 : decode cX11_ceiling 35 = .ok (.invokevirtual 96, 3) := by decide +kernel
theorem dX11_ceiling_38 : decode cX11_ceiling 38 = .ok (.iload_n 1, 1) := by decide +kernel
theorem dX11_ceiling_39 : decode cX11_ceiling 39 = .ok (.iload_n 2, 1) := by decide +kernel
theorem dX11_ceiling_40 : decode cX11_ceiling 40 = .ok (.imul, 1) := by decide +kernel
theorem dX11_ceiling_41 : decode cX11_ceiling 41 = .ok (.ireturn, 1) := by decide +kernel
theorem dX11_set_0 : decode cX11_set 0 = .ok (.iload_n 1, 1) := by decide +kernel
theorem dX11_set_1 : decode cX11_set 1 = .ok (.iload_n 2, 1) := by decide +kernel
theorem dX11_set_2 : decode cX11_set 2 = .ok (.invokestatic 99, 3) := by decide +kernel
theorem dX11_set_5 : decode cX11_set 5 = .ok (.ifCond .ne 9, 3) := by decide +kernel
theorem dX11_set_8 : decode cX11_set 8 = .ok (.aload_n 0, 1) := by decide +kernel
theorem dX11_set_9 : decode cX11_set 9 = .ok (.iconst 1, 1) := by decide +kernel
theorem dX11_set_10 : decode cX11_set 10 = .ok (.invokevirtual 88, 3) := by decide +kernel
theorem dX11_set_13 : decode cX11_set 13 = .ok (.ireturn, 1) := by decide +kernel
theorem dX11_set_14 : decode cX11_set 14 = .ok (.aload_n 0, 1) := by decide +kernel
theorem dX11_set_15 : decode cX11_set 15 = .ok (.getfield 10, 3) := by decide +kernel
theorem dX11_set_18 : decode cX11_set 18 = .ok (.getfield 92, 3) := by decide +kernel
theorem dX11_set_21 : decode cX11_set 21 = .ok (.iload_n 1, 1) := by decide +kernel
theorem dX11_set_22 : decode cX11_set 22 = .ok (.iload_n 2, 1) := by decide +kernel
theorem dX11_set_23 : decode cX11_set 23 = .ok (.invokevirtual 103, 3) := by decide +kernel
theorem dX11_set_26 : decode cX11_set 26 = .ok (.ireturn, 1) := by decide +kernel
theorem dX11_ofCell_0 : decode cX11_ofCell 0 = .ok (.aload_n 0, 1) := by decide +kernel
theorem dX11_ofCell_1 : decode cX11_ofCell 1 = .ok (.getfield 10, 3) := by decide +kernel
theorem dX11_ofCell_4 : decode cX11_ofCell 4 = .ok (.getfield 92, 3) := by decide +kernel
theorem dX11_ofCell_7 : decode cX11_ofCell 7 = .ok (.astore_n 3, 1) := by decide +kernel
theorem dX11_ofCell_8 : decode cX11_ofCell 8 = .ok (.aload_n 3, 1) := by decide +kernel
theorem dX11_ofCell_9 : decode cX11_ofCell 9 = .ok (.iload_n 1, 1) := by decide +kernel
theorem dX11_ofCell_10 : decode cX11_ofCell 10 = .ok (.invokevirtual 107, 3) := by decide +kernel
theorem dX11_ofCell_13 : decode cX11_ofCell 13 = .ok (.ifCond .eq 12, 3) := by decide +kernel
theorem dX11_ofCell_16 : decode cX11_ofCell 16 = .ok (.iload_n 2, 1) := by decide +kernel
theorem dX11_ofCell_17 : decode cX11_ofCell 17 = .ok (.iconst 0, 1) := by decide +kernel
theorem dX11_ofCell_18 : decode cX11_ofCell 18 = .ok (.iconst 3, 1) := by decide +kernel
theorem dX11_ofCell_19 : decode cX11_ofCell 19 = .ok (.invokestatic 84, 3) := by decide +kernel
theorem dX11_ofCell_22 : decode cX11_ofCell 22 = .ok (.ifCond .ne 9, 3) := by decide +kernel
theorem dX11_ofCell_25 : decode cX11_ofCell 25 = .ok (.aload_n 0, 1) := by decide +kernel
theorem dX11_ofCell_26 : decode cX11_ofCell 26 = .ok (.iconst 1, 1) := by decide +kernel
theorem dX11_ofCell_27 : decode cX11_ofCell 27 = .ok (.invokevirtual 88, 3) := by decide +kernel
theorem dX11_ofCell_30 : decode cX11_ofCell 30 = .ok (.ireturn, 1) := by decide +kernel
theorem dX11_ofCell_31 : decode cX11_ofCell 31 = .ok (.aload_n 3, 1) := by decide +kernel
theorem dX11_ofCell_32 : decode cX11_ofCell 32 = .ok (.iload_n 1, 1) := by decide +kernel
theorem dX11_ofCell_33 : decode cX11_ofCell 33 = .ok (.invokevirtual 111, 3) := by decide +kernel
theorem dX11_ofCell_36 : decode cX11_ofCell 36 = .ok (.istore 4, 2) := by decide +kernel
theorem dX11_ofCell_38 : decode cX11_ofCell 38 = .ok (.aload_n 3, 1) := by decide +kernel
theorem dX11_ofCell_39 : decode cX11_ofCell 39 = .ok (.iload_n 1, 1) := by decide +kernel
theorem dX11_ofCell_40 : decode cX11_ofCell 40 = .ok (.invokevirtual 114, 3) := by decide +kernel
theorem dX11_ofCell_43 : decode cX11_ofCell 43 = .ok (.istore 5, 2) := by decide +kernel
theorem dX11_ofCell_45 : decode cX11_ofCell 45 = .ok (.iload_n 2, 1) := by decide +kernel
theorem dX11_ofCell_46 : decode cX11_ofCell 46 = .ok (.tableswitch 60 0 2 #[26, 35, 44], 26) := by decide +kernel
theorem dX11_ofCell_72 : decode cX11_ofCell 72 = .ok (.aload_n 3, 1) := by decide +kernel
theorem dX11_ofCell_73 : decode cX11_ofCell 73 = .ok (.iload 4, 2) := by decide +kernel
theorem dX11_ofCell_75 : decode cX11_ofCell 75 = .ok (.iload 5, 2) := by decide +kernel
theorem dX11_ofCell_77 : decode cX11_ofCell 77 = .ok (.invokevirtual 117, 3) := by decide +kernel
theorem dX11_ofCell_80 : decode cX11_ofCell 80 = .ok (.ireturn, 1) := by decide +kernel
theorem dX11_ofCell_81 : decode cX11_ofCell 81 = .ok (.aload_n 3, 1) := by decide +kernel
theorem dX11_ofCell_82 : decode cX11_ofCell 82 = .ok (.iload 4, 2) := by decide +kernel
theorem dX11_ofCell_84 : decode cX11_ofCell 84 = .ok (.iload 5, 2) := by decide +kernel
theorem dX11_ofCell_86 : decode cX11_ofCell 86 = .ok (.invokevirtual 120, 3) := by decide +kernel
theorem dX11_ofCell_89 : decode cX11_ofCell 89 = .ok (.ireturn, 1) := by decide +kernel
theorem dX11_ofCell_90 : decode cX11_ofCell 90 = .ok (.aload_n 0, 1) := by decide +kernel
theorem dX11_ofCell_91 : decode cX11_ofCell 91 = .ok (.getfield 38, 3) := by decide +kernel
theorem dX11_ofCell_94 : decode cX11_ofCell 94 = .ok (.iload 4, 2) := by decide +kernel
theorem dX11_ofCell_96 : decode cX11_ofCell 96 = .ok (.iload 5, 2) := by decide +kernel
theorem dX11_ofCell_98 : decode cX11_ofCell 98 = .ok (.aload_n 3, 1) := by decide +kernel
theorem dX11_ofCell_99 : decode cX11_ofCell 99 = .ok (.invokevirtual 123, 3) := by decide +kernel
theorem dX11_ofCell_102 : decode cX11_ofCell 102 = .ok (.invokevirtual 127, 3) := by decide +kernel
theorem dX11_ofCell_105 : decode cX11_ofCell 105 = .ok (.ireturn, 1) := by decide +kernel
theorem dX11_ofCell_106 : decode cX11_ofCell 106 = .ok (.aload_n 0, 1) := by decide +kernel
theorem dX11_ofCell_107 : decode cX11_ofCell 107 = .ok (.getfield 38, 3) := by decide +kernel
theorem dX11_ofCell_110 : decode cX11_ofCell 110 = .ok (.aload_n 3, 1) := by decide +kernel
theorem dX11_ofCell_111 : decode cX11_ofCell 111 = .ok (.iload 4, 2) := by decide +kernel
theorem dX11_ofCell_113 : decode cX11_ofCell 113 = .ok (.iload 5, 2) := by decide +kernel
theorem dX11_ofCell_115 : decode cX11_ofCell 115 = .ok (.iload 5, 2) := by decide +kernel
theorem dX11_ofCell_117 : decode cX11_ofCell 117 = .ok (.iload 5, 2) := by decide +kernel
theorem dX11_ofCell_119 : decode cX11_ofCell 119 = .ok (.iconst 1, 1) := by decide +kernel
theorem dX11_ofCell_120 : decode cX11_ofCell 120 = .ok (.iadd, 1) := by decide +kernel
theorem dX11_ofCell_121 : decode cX11_ofCell 121 = .ok (.iconst 0, 1) := by decide +kernel
theorem dX11_ofCell_122 : decode cX11_ofCell 122 = .ok (.invokevirtual 131, 3) := by decide +kernel
theorem dX11_ofCell_125 : decode cX11_ofCell 125 = .ok (.ifCond .eq 7, 3) := by decide +kernel
theorem dX11_ofCell_128 : decode cX11_ofCell 128 = .ok (.iconst 1, 1) := by decide +kernel
theorem dX11_ofCell_129 : decode cX11_ofCell 129 = .ok (.goto 4, 3) := by decide +kernel
theorem dX11_ofCell_132 : decode cX11_ofCell 132 = .ok (.iconst 0, 1) := by decide +kernel
theorem dX11_ofCell_133 : decode cX11_ofCell 133 = .ok (.ireturn, 1) := by decide +kernel
theorem dX11_hand_0 : decode cX11_hand 0 = .ok (.iload_n 1, 1) := by decide +kernel
theorem dX11_hand_1 : decode cX11_hand 1 = .ok (.invokestatic 135, 3) := by decide +kernel
theorem dX11_hand_4 : decode cX11_hand 4 = .ok (.ifCond .ne 9, 3) := by decide +kernel
theorem dX11_hand_7 : decode cX11_hand 7 = .ok (.aload_n 0, 1) := by decide +kernel
theorem dX11_hand_8 : decode cX11_hand 8 = .ok (.iconst 1, 1) := by decide +kernel
theorem dX11_hand_9 : decode cX11_hand 9 = .ok (.invokevirtual 88, 3) := by decide +kernel
theorem dX11_hand_12 : decode cX11_hand 12 = .ok (.ireturn, 1) := by decide +kernel
theorem dX11_hand_13 : decode cX11_hand 13 = .ok (.aload_n 0, 1) := by decide +kernel
theorem dX11_hand_14 : decode cX11_hand 14 = .ok (.getfield 10, 3) := by decide +kernel
theorem dX11_hand_17 : decode cX11_hand 17 = .ok (.getfield 140, 3) := by decide +kernel
theorem dX11_hand_20 : decode cX11_hand 20 = .ok (.invokevirtual 144, 3) := by decide +kernel
theorem dX11_hand_23 : decode cX11_hand 23 = .ok (.ifCond .eq 9, 3) := by decide +kernel
theorem dX11_hand_26 : decode cX11_hand 26 = .ok (.aload_n 0, 1) := by decide +kernel
theorem dX11_hand_27 : decode cX11_hand 27 = .ok (.iconst 4, 1) := by decide +kernel
theorem dX11_hand_28 : decode cX11_hand 28 = .ok (.invokevirtual 88, 3) := by decide +kernel
theorem dX11_hand_31 : decode cX11_hand 31 = .ok (.ireturn, 1) := by decide +kernel
theorem dX11_hand_32 : decode cX11_hand 32 = .ok (.aload_n 0, 1) := by decide +kernel
theorem dX11_hand_33 : decode cX11_hand 33 = .ok (.getfield 10, 3) := by decide +kernel
theorem dX11_hand_36 : decode cX11_hand 36 = .ok (.getfield 140, 3) := by decide +kernel
theorem dX11_hand_39 : decode cX11_hand 39 = .ok (.iload_n 1, 1) := by decide +kernel
theorem dX11_hand_40 : decode cX11_hand 40 = .ok (.invokevirtual 150, 3) := by decide +kernel
theorem dX11_hand_43 : decode cX11_hand 43 = .ok (.ireturn, 1) := by decide +kernel
theorem dX11_ofHand_0 : decode cX11_ofHand 0 = .ok (.aload_n 0, 1) := by decide +kernel
theorem dX11_ofHand_1 : decode cX11_ofHand 1 = .ok (.getfield 10, 3) := by decide +kernel
theorem dX11_ofHand_4 : decode cX11_ofHand 4 = .ok (.getfield 140, 3) := by decide +kernel
theorem dX11_ofHand_7 : decode cX11_ofHand 7 = .ok (.iload_n 1, 1) := by decide +kernel
theorem dX11_ofHand_8 : decode cX11_ofHand 8 = .ok (.invokevirtual 153, 3) := by decide +kernel
theorem dX11_ofHand_11 : decode cX11_ofHand 11 = .ok (.ifCond .eq 12, 3) := by decide +kernel
theorem dX11_ofHand_14 : decode cX11_ofHand 14 = .ok (.iload_n 2, 1) := by decide +kernel
theorem dX11_ofHand_15 : decode cX11_ofHand 15 = .ok (.iconst 0, 1) := by decide +kernel
theorem dX11_ofHand_16 : decode cX11_ofHand 16 = .ok (.iconst 5, 1) := by decide +kernel
theorem dX11_ofHand_17 : decode cX11_ofHand 17 = .ok (.invokestatic 84, 3) := by decide +kernel
theorem dX11_ofHand_20 : decode cX11_ofHand 20 = .ok (.ifCond .ne 9, 3) := by decide +kernel
theorem dX11_ofHand_23 : decode cX11_ofHand 23 = .ok (.aload_n 0, 1) := by decide +kernel
theorem dX11_ofHand_24 : decode cX11_ofHand 24 = .ok (.iconst 1, 1) := by decide +kernel
theorem dX11_ofHand_25 : decode cX11_ofHand 25 = .ok (.invokevirtual 88, 3) := by decide +kernel
theorem dX11_ofHand_28 : decode cX11_ofHand 28 = .ok (.ireturn, 1) := by decide +kernel
theorem dX11_ofHand_29 : decode cX11_ofHand 29 = .ok (.aload_n 0, 1) := by decide +kernel
theorem dX11_ofHand_30 : decode cX11_ofHand 30 = .ok (.getfield 10, 3) := by decide +kernel
theorem dX11_ofHand_33 : decode cX11_ofHand 33 = .ok (.getfield 140, 3) := by decide +kernel
theorem dX11_ofHand_36 : decode cX11_ofHand 36 = .ok (.iload_n 1, 1) := by decide +kernel
theorem dX11_ofHand_37 : decode cX11_ofHand 37 = .ok (.invokevirtual 156, 3) := by decide +kernel
theorem dX11_ofHand_40 : decode cX11_ofHand 40 = .ok (.istore_n 3, 1) := by decide +kernel
theorem dX11_ofHand_41 : decode cX11_ofHand 41 = .ok (.aload_n 0, 1) := by decide +kernel
theorem dX11_ofHand_42 : decode cX11_ofHand 42 = .ok (.getfield 10, 3) := by decide +kernel
theorem dX11_ofHand_45 : decode cX11_ofHand 45 = .ok (.getfield 140, 3) := by decide +kernel
theorem dX11_ofHand_48 : decode cX11_ofHand 48 = .ok (.iload_n 1, 1) := by decide +kernel
theorem dX11_ofHand_49 : decode cX11_ofHand 49 = .ok (.invokevirtual 159, 3) := by decide +kernel
theorem dX11_ofHand_52 : decode cX11_ofHand 52 = .ok (.istore 4, 2) := by decide +kernel
theorem dX11_ofHand_54 : decode cX11_ofHand 54 = .ok (.iload_n 2, 1) := by decide +kernel
theorem dX11_ofHand_55 : decode cX11_ofHand 55 = .ok (.tableswitch 61 0 4 #[33, 35, 38, 46, 54], 33) := by decide +kernel
theorem dX11_ofHand_88 : decode cX11_ofHand 88 = .ok (.iload_n 3, 1) := by decide +kernel
theorem dX11_ofHand_89 : decode cX11_ofHand 89 = .ok (.ireturn, 1) := by decide +kernel
theorem dX11_ofHand_90 : decode cX11_ofHand 90 = .ok (.iload 4, 2) := by decide +kernel
theorem dX11_ofHand_92 : decode cX11_ofHand 92 = .ok (.ireturn, 1) := by decide +kernel
theorem dX11_ofHand_93 : decode cX11_ofHand 93 = .ok (.iload_n 3, 1) := by decide +kernel
theorem dX11_ofHand_94 : decode cX11_ofHand 94 = .ok (.iload 4, 2) := by decide +kernel
theorem dX11_ofHand_96 : decode cX11_ofHand 96 = .ok (.iconst 0, 1) := by decide +kernel
theorem dX11_ofHand_97 : decode cX11_ofHand 97 = .ok (.invokestatic 162, 3) := by decide +kernel
theorem dX11_ofHand_100 : decode cX11_ofHand 100 = .ok (.ireturn, 1) := by decide +kernel
theorem dX11_ofHand_101 : decode cX11_ofHand 101 = .ok (.iload_n 3, 1) := by decide +kernel
theorem dX11_ofHand_102 : decode cX11_ofHand 102 = .ok (.iload 4, 2) := by decide +kernel
theorem dX11_ofHand_104 : decode cX11_ofHand 104 = .ok (.iconst 3, 1) := by decide +kernel
theorem dX11_ofHand_105 : decode cX11_ofHand 105 = .ok (.invokestatic 162, 3) := by decide +kernel
theorem dX11_ofHand_108 : decode cX11_ofHand 108 = .ok (.ireturn, 1) := by decide +kernel
theorem dX11_ofHand_109 : decode cX11_ofHand 109 = .ok (.iload_n 3, 1) := by decide +kernel
theorem dX11_ofHand_110 : decode cX11_ofHand 110 = .ok (.iload 4, 2) := by decide +kernel
theorem dX11_ofHand_112 : decode cX11_ofHand 112 = .ok (.invokestatic 165, 3) := by decide +kernel
theorem dX11_ofHand_115 : decode cX11_ofHand 115 = .ok (.ireturn, 1) := by decide +kernel
theorem dX11_ofHand_116 : decode cX11_ofHand 116 = .ok (.iload_n 3, 1) := by decide +kernel
theorem dX11_ofHand_117 : decode cX11_ofHand 117 = .ok (.iload 4, 2) := by decide +kernel
theorem dX11_ofHand_119 : decode cX11_ofHand 119 = .ok (.invokestatic 168, 3) := by decide +kernel
theorem dX11_ofHand_122 : decode cX11_ofHand 122 = .ok (.ireturn, 1) := by decide +kernel
theorem dX11_become_0 : decode cX11_become 0 = .ok (.aload_n 0, 1) := by decide +kernel
theorem dX11_become_1 : decode cX11_become 1 = .ok (.getfield 10, 3) := by decide +kernel
theorem dX11_become_4 : decode cX11_become 4 = .ok (.getfield 140, 3) := by decide +kernel
theorem dX11_become_7 : decode cX11_become 7 = .ok (.iload_n 1, 1) := by decide +kernel
theorem dX11_become_8 : decode cX11_become 8 = .ok (.invokevirtual 153, 3) := by decide +kernel
theorem dX11_become_11 : decode cX11_become 11 = .ok (.ifCond .eq 10, 3) := by decide +kernel
theorem dX11_become_14 : decode cX11_become 14 = .ok (.iload_n 2, 1) := by decide +kernel
theorem dX11_become_15 : decode cX11_become 15 = .ok (.invokestatic 135, 3) := by decide +kernel
theorem dX11_become_18 : decode cX11_become 18 = .ok (.ifCond .ne 9, 3) := by decide +kernel
theorem dX11_become_21 : decode cX11_become 21 = .ok (.aload_n 0, 1) := by decide +kernel
theorem dX11_become_22 : decode cX11_become 22 = .ok (.iconst 1, 1) := by decide +kernel
theorem dX11_become_23 : decode cX11_become 23 = .ok (.invokevirtual 88, 3) := by decide +kernel
theorem dX11_become_26 : decode cX11_become 26 = .ok (.ireturn, 1) := by decide +kernel
theorem dX11_become_27 : decode cX11_become 27 = .ok (.aload_n 0, 1) := by decide +kernel
theorem dX11_become_28 : decode cX11_become 28 = .ok (.getfield 10, 3) := by decide +kernel
theorem dX11_become_31 : decode cX11_become 31 = .ok (.getfield 140, 3) := by decide +kernel
theorem dX11_become_34 : decode cX11_become 34 = .ok (.iload_n 1, 1) := by decide +kernel
theorem dX11_become_35 : decode cX11_become 35 = .ok (.iload_n 2, 1) := by decide +kernel
theorem dX11_become_36 : decode cX11_become 36 = .ok (.invokevirtual 171, 3) := by decide +kernel
theorem dX11_become_39 : decode cX11_become 39 = .ok (.ireturn, 1) := by decide +kernel
theorem dX11_as_0 : decode cX11_as 0 = .ok (.aload_n 0, 1) := by decide +kernel
theorem dX11_as_1 : decode cX11_as 1 = .ok (.getfield 10, 3) := by decide +kernel
theorem dX11_as_4 : decode cX11_as 4 = .ok (.getfield 140, 3) := by decide +kernel
theorem dX11_as_7 : decode cX11_as 7 = .ok (.iload_n 1, 1) := by decide +kernel
theorem dX11_as_8 : decode cX11_as 8 = .ok (.invokevirtual 153, 3) := by decide +kernel
theorem dX11_as_11 : decode cX11_as 11 = .ok (.ifCond .eq 10, 3) := by decide +kernel
theorem dX11_as_14 : decode cX11_as 14 = .ok (.iload_n 2, 1) := by decide +kernel
theorem dX11_as_15 : decode cX11_as 15 = .ok (.invokestatic 174, 3) := by decide +kernel
theorem dX11_as_18 : decode cX11_as 18 = .ok (.ifCond .ne 9, 3) := by decide +kernel
theorem dX11_as_21 : decode cX11_as 21 = .ok (.aload_n 0, 1) := by decide +kernel
theorem dX11_as_22 : decode cX11_as 22 = .ok (.iconst 1, 1) := by decide +kernel
theorem dX11_as_23 : decode cX11_as 23 = .ok (.invokevirtual 88, 3) := by decide +kernel
theorem dX11_as_26 : decode cX11_as 26 = .ok (.ireturn, 1) := by decide +kernel
theorem dX11_as_27 : decode cX11_as 27 = .ok (.aload_n 0, 1) := by decide +kernel
theorem dX11_as_28 : decode cX11_as 28 = .ok (.getfield 10, 3) := by decide +kernel
theorem dX11_as_31 : decode cX11_as 31 = .ok (.getfield 140, 3) := by decide +kernel
theorem dX11_as_34 : decode cX11_as 34 = .ok (.iload_n 1, 1) := by decide +kernel
theorem dX11_as_35 : decode cX11_as 35 = .ok (.invokevirtual 156, 3) := by decide +kernel
theorem dX11_as_38 : decode cX11_as 38 = .ok (.iload_n 2, 1) := by decide +kernel
theorem dX11_as_39 : decode cX11_as 39 = .ok (.invokestatic 177, 3) := by decide +kernel
theorem dX11_as_42 : decode cX11_as 42 = .ok (.ifCond .ne 9, 3) := by decide +kernel
theorem dX11_as_45 : decode cX11_as 45 = .ok (.aload_n 0, 1) := by decide +kernel
theorem dX11_as_46 : decode cX11_as 46 = .ok (.iconst 5, 1) := by decide +kernel
theorem dX11_as_47 : decode cX11_as 47 = .ok (.invokevirtual 88, 3) := by decide +kernel
theorem dX11_as_50 : decode cX11_as 50 = .ok (.ireturn, 1) := by decide +kernel
theorem dX11_as_51 : decode cX11_as 51 = .ok (.aload_n 0, 1) := by decide +kernel
theorem dX11_as_52 : decode cX11_as 52 = .ok (.getfield 10, 3) := by decide +kernel
theorem dX11_as_55 : decode cX11_as 55 = .ok (.getfield 140, 3) := by decide +kernel
theorem dX11_as_58 : decode cX11_as 58 = .ok (.iload_n 1, 1) := by decide +kernel
theorem dX11_as_59 : decode cX11_as 59 = .ok (.invokevirtual 159, 3) := by decide +kernel
theorem dX11_as_62 : decode cX11_as 62 = .ok (.ireturn, 1) := by decide +kernel
theorem dX11_feed_0 : decode cX11_feed 0 = .ok (.iload_n 3, 1) := by decide +kernel
theorem dX11_feed_1 : decode cX11_feed 1 = .ok (.iconst 1, 1) := by decide +kernel
theorem dX11_feed_2 : decode cX11_feed 2 = .ok (.bipush 8, 2) := by decide +kernel
theorem dX11_feed_4 : decode cX11_feed 4 = .ok (.invokestatic 84, 3) := by decide +kernel
theorem dX11_feed_7 : decode cX11_feed 7 = .ok (.ifCond .ne 9, 3) := by decide +kernel
theorem dX11_feed_10 : decode cX11_feed 10 = .ok (.aload_n 0, 1) := by decide +kernel
theorem dX11_feed_11 : decode cX11_feed 11 = .ok (.iconst 1, 1) := by decide +kernel
theorem dX11_feed_12 : decode cX11_feed 12 = .ok (.invokevirtual 88, 3) := by decide +kernel
theorem dX11_feed_15 : decode cX11_feed 15 = .ok (.ireturn, 1) := by decide +kernel
theorem dX11_feed_16 : decode cX11_feed 16 = .ok (.aload_n 0, 1) := by decide +kernel
theorem dX11_feed_17 : decode cX11_feed 17 = .ok (.getfield 10, 3) := by decide +kernel
theorem dX11_feed_20 : decode cX11_feed 20 = .ok (.getfield 180, 3) := by decide +kernel
theorem dX11_feed_23 : decode cX11_feed 23 = .ok (.invokevirtual 183, 3) := by decide +kernel
theorem dX11_feed_26 : decode cX11_feed 26 = .ok (.iload_n 3, 1) := by decide +kernel
theorem dX11_feed_27 : decode cX11_feed 27 = .ok (.iadd, 1) := by decide +kernel
theorem dX11_feed_28 : decode cX11_feed 28 = .ok (.bipush 50, 2) := by decide +kernel
theorem dX11_feed_30 : decode cX11_feed 30 = .ok (.if_icmp .le 9, 3) := by decide +kernel
theorem dX11_feed_33 : decode cX11_feed 33 = .ok (.aload_n 0, 1) := by decide +kernel
theorem dX11_feed_34 : decode cX11_feed 34 = .ok (.iconst 4, 1) := by decide +kernel
theorem dX11_feed_35 : decode cX11_feed 35 = .ok (.invokevirtual 88, 3) := by decide +kernel
theorem dX11_feed_38 : decode cX11_feed 38 = .ok (.ireturn, 1) := by decide +kernel
theorem dX11_feed_39 : decode cX11_feed 39 = .ok (.iconst 0, 1) := by decide +kernel
theorem dX11_feed_40 : decode cX11_feed 40 = .ok (.istore 4, 2) := by decide +kernel
theorem dX11_feed_42 : decode cX11_feed 42 = .ok (.iload 4, 2) := by decide +kernel
theorem dX11_feed_44 : decode cX11_feed 44 = .ok (.iload_n 3, 1) := by decide +kernel
theorem dX11_feed_45 : decode cX11_feed 45 = .ok (.if_icmp .ge 32, 3) := by decide +kernel
theorem dX11_feed_48 : decode cX11_feed 48 = .ok (.aload_n 0, 1) := by decide +kernel
theorem dX11_feed_49 : decode cX11_feed 49 = .ok (.getfield 10, 3) := by decide +kernel
theorem dX11_feed_52 : decode cX11_feed 52 = .ok (.getfield 180, 3) := by decide +kernel
theorem dX11_feed_55 : decode cX11_feed 55 = .ok (.lload_n 1, 1) := by decide +kernel
theorem dX11_feed_56 : decode cX11_feed 56 = .ok (.bipush 8, 2) := by decide +kernel
theorem dX11_feed_58 : decode cX11_feed 58 = .ok (.iload 4, 2) := by decide +kernel
theorem dX11_feed_60 : decode cX11_feed 60 = .ok (.imul, 1) := by decide +kernel
theorem dX11_feed_61 : decode cX11_feed 61 = .ok (.lushr, 1) := by decide +kernel
theorem dX11_feed_62 : decode cX11_feed 62 = .ok (.ldc2_w 186, 3) := by decide +kernel
theorem dX11_feed_65 : decode cX11_feed 65 = .ok (.land, 1) := by decide +kernel
theorem dX11_feed_66 : decode cX11_feed 66 = .ok (.l2i, 1) := by decide +kernel
theorem dX11_feed_67 : decode cX11_feed 67 = .ok (.invokevirtual 188, 3) := by decide +kernel
theorem dX11_feed_70 : decode cX11_feed 70 = .ok (.pop, 1) := by decide +kernel
theorem dX11_feed_71 : decode cX11_feed 71 = .ok (.iinc 4 1, 3) := by decide +kernel
theorem dX11_feed_74 : decode cX11_feed 74 = .ok (.goto (-32), 3) := by decide +kernel
theorem dX11_feed_77 : decode cX11_feed 77 = .ok (.aload_n 0, 1) := by decide +kernel
theorem dX11_feed_78 : decode cX11_feed 78 = .ok (.getfield 10, 3) := by decide +kernel
theorem dX11_feed_81 : decode cX11_feed 81 = .ok (.getfield 180, 3) := by decide +kernel
theorem dX11_feed_84 : decode cX11_feed 84 = .ok (.invokevirtual 183, 3) := by decide +kernel
theorem dX11_feed_87 : decode cX11_feed 87 = .ok (.ireturn, 1) := by decide +kernel
theorem dX11_text_0 : decode cX11_text 0 = .ok (.aload_n 0, 1) := by decide +kernel
theorem dX11_text_1 : decode cX11_text 1 = .ok (.iload_n 1, 1) := by decide +kernel
theorem dX11_text_2 : decode cX11_text 2 = .ok (.invokevirtual 191, 3) := by decide +kernel
theorem dX11_text_5 : decode cX11_text 5 = .ok (.astore_n 2, 1) := by decide +kernel
theorem dX11_text_6 : decode cX11_text 6 = .ok (.aload_n 2, 1) := by decide +kernel
theorem dX11_text_7 : decode cX11_text 7 = .ok (.ifnonnull 9, 3) := by decide +kernel
theorem dX11_text_10 : decode cX11_text 10 = .ok (.aload_n 0, 1) := by decide +kernel
theorem dX11_text_11 : decode cX11_text 11 = .ok (.iconst 1, 1) := by decide +kernel
theorem dX11_text_12 : decode cX11_text 12 = .ok (.invokevirtual 88, 3) := by decide +kernel
theorem dX11_text_15 : decode cX11_text 15 = .ok (.ireturn, 1) := by decide +kernel
theorem dX11_text_16 : decode cX11_text 16 = .ok (.aload_n 0, 1) := by decide +kernel
theorem dX11_text_17 : decode cX11_text 17 = .ok (.getfield 22, 3) := by decide +kernel
theorem dX11_text_20 : decode cX11_text 20 = .ok (.aload_n 0, 1) := by decide +kernel
theorem dX11_text_21 : decode cX11_text 21 = .ok (.getfield 10, 3) := by decide +kernel
theorem dX11_text_24 : decode cX11_text 24 = .ok (.getfield 180, 3) := by decide +kernel
theorem dX11_text_27 : decode cX11_text 27 = .ok (.aload_n 2, 1) := by decide +kernel
theorem dX11_text_28 : decode cX11_text 28 = .ok (.invokevirtual 195, 3) := by decide +kernel
theorem dX11_text_31 : decode cX11_text 31 = .ok (.istore_n 3, 1) := by decide +kernel
theorem dX11_text_32 : decode cX11_text 32 = .ok (.aload_n 0, 1) := by decide +kernel
theorem dX11_text_33 : decode cX11_text 33 = .ok (.getfield 10, 3) := by decide +kernel
theorem dX11_text_36 : decode cX11_text 36 = .ok (.getfield 180, 3) := by decide +kernel
theorem dX11_text_39 : decode cX11_text 39 = .ok (.invokevirtual 199, 3) := by decide +kernel
theorem dX11_text_42 : decode cX11_text 42 = .ok (.iload_n 3, 1) := by decide +kernel
theorem dX11_text_43 : decode cX11_text 43 = .ok (.ifCond .lt 8, 3) := by decide +kernel
theorem dX11_text_46 : decode cX11_text 46 = .ok (.bipush (-10), 2) := by decide +kernel
theorem dX11_text_48 : decode cX11_text 48 = .ok (.iload_n 3, 1) := by decide +kernel
theorem dX11_text_49 : decode cX11_text 49 = .ok (.isub, 1) := by decide +kernel
theorem dX11_text_50 : decode cX11_text 50 = .ok (.ireturn, 1) := by decide +kernel
theorem dX11_text_51 : decode cX11_text 51 = .ok (.aload_n 0, 1) := by decide +kernel
theorem dX11_text_52 : decode cX11_text 52 = .ok (.getfield 38, 3) := by decide +kernel
theorem dX11_text_55 : decode cX11_text 55 = .ok (.invokevirtual 202, 3) := by decide +kernel
theorem dX11_text_58 : decode cX11_text 58 = .ok (.iconst 1, 1) := by decide +kernel
theorem dX11_text_59 : decode cX11_text 59 = .ok (.ireturn, 1) := by decide +kernel
theorem dX11_law_0 : decode cX11_law 0 = .ok (.aload_n 0, 1) := by decide +kernel
theorem dX11_law_1 : decode cX11_law 1 = .ok (.iload_n 1, 1) := by decide +kernel
theorem dX11_law_2 : decode cX11_law 2 = .ok (.invokevirtual 191, 3) := by decide +kernel
theorem dX11_law_5 : decode cX11_law 5 = .ok (.astore 5, 2) := by decide +kernel
theorem dX11_law_7 : decode cX11_law 7 = .ok (.aload 5, 2) := by decide +kernel
theorem dX11_law_9 : decode cX11_law 9 = .ok (.ifnonnull 11, 3) := by decide +kernel
theorem dX11_law_12 : decode cX11_law 12 = .ok (.aload_n 0, 1) := by decide +kernel
theorem dX11_law_13 : decode cX11_law 13 = .ok (.iconst 1, 1) := by decide +kernel
theorem dX11_law_14 : decode cX11_law 14 = .ok (.invokevirtual 88, 3) := by decide +kernel
theorem dX11_law_17 : decode cX11_law 17 = .ok (.goto 12, 3) := by decide +kernel
theorem dX11_law_20 : decode cX11_law 20 = .ok (.aload 5, 2) := by decide +kernel
theorem dX11_law_22 : decode cX11_law 22 = .ok (.iload_n 2, 1) := by decide +kernel
theorem dX11_law_23 : decode cX11_law 23 = .ok (.iload_n 3, 1) := by decide +kernel
theorem dX11_law_24 : decode cX11_law 24 = .ok (.iload 4, 2) := by decide +kernel
theorem dX11_law_26 : decode cX11_law 26 = .ok (.invokevirtual 205, 3) := by decide +kernel
theorem dX11_law_29 : decode cX11_law 29 = .ok (.ireturn, 1) := by decide +kernel
theorem dX11_roll_0 : decode cX11_roll 0 = .ok (.aload_n 0, 1) := by decide +kernel
theorem dX11_roll_1 : decode cX11_roll 1 = .ok (.getfield 10, 3) := by decide +kernel
theorem dX11_roll_4 : decode cX11_roll 4 = .ok (.getfield 140, 3) := by decide +kernel
theorem dX11_roll_7 : decode cX11_roll 7 = .ok (.iload_n 1, 1) := by decide +kernel
theorem dX11_roll_8 : decode cX11_roll 8 = .ok (.invokevirtual 153, 3) := by decide +kernel
theorem dX11_roll_11 : decode cX11_roll 11 = .ok (.ifCond .eq 26, 3) := by decide +kernel
theorem dX11_roll_14 : decode cX11_roll 14 = .ok (.aload_n 0, 1) := by decide +kernel
theorem dX11_roll_15 : decode cX11_roll 15 = .ok (.getfield 10, 3) := by decide +kernel
theorem dX11_roll_18 : decode cX11_roll 18 = .ok (.getfield 92, 3) := by decide +kernel
theorem dX11_roll_21 : decode cX11_roll 21 = .ok (.iload_n 2, 1) := by decide +kernel
theorem dX11_roll_22 : decode cX11_roll 22 = .ok (.invokevirtual 210, 3) := by decide +kernel
theorem dX11_roll_25 : decode cX11_roll 25 = .ok (.ifCond .eq 12, 3) := by decide +kernel
theorem dX11_roll_28 : decode cX11_roll 28 = .ok (.iload_n 3, 1) := by decide +kernel
theorem dX11_roll_29 : decode cX11_roll 29 = .ok (.iconst 0, 1) := by decide +kernel
theorem dX11_roll_30 : decode cX11_roll 30 = .ok (.iconst 1, 1) := by decide +kernel
theorem dX11_roll_31 : decode cX11_roll 31 = .ok (.invokestatic 84, 3) := by decide +kernel
theorem dX11_roll_34 : decode cX11_roll 34 = .ok (.ifCond .ne 9, 3) := by decide +kernel
theorem dX11_roll_37 : decode cX11_roll 37 = .ok (.aload_n 0, 1) := by decide +kernel
theorem dX11_roll_38 : decode cX11_roll 38 = .ok (.iconst 1, 1) := by decide +kernel
theorem dX11_roll_39 : decode cX11_roll 39 = .ok (.invokevirtual 88, 3) := by decide +kernel
theorem dX11_roll_42 : decode cX11_roll 42 = .ok (.ireturn, 1) := by decide +kernel
theorem dX11_roll_43 : decode cX11_roll 43 = .ok (.aload_n 0, 1) := by decide +kernel
theorem dX11_roll_44 : decode cX11_roll 44 = .ok (.getfield 10, 3) := by decide +kernel
theorem dX11_roll_47 : decode cX11_roll 47 = .ok (.getfield 92, 3) := by decide +kernel
theorem dX11_roll_50 : decode cX11_roll 50 = .ok (.invokevirtual 213, 3) := by decide +kernel
theorem dX11_roll_53 : decode cX11_roll 53 = .ok (.ifCond .ne 9, 3) := by decide +kernel
theorem dX11_roll_56 : decode cX11_roll 56 = .ok (.aload_n 0, 1) := by decide +kernel
theorem dX11_roll_57 : decode cX11_roll 57 = .ok (.iconst 3, 1) := by decide +kernel
theorem dX11_roll_58 : decode cX11_roll 58 = .ok (.invokevirtual 88, 3) := by decide +kernel
theorem dX11_roll_61 : decode cX11_roll 61 = .ok (.ireturn, 1) := by decide +kernel
theorem dX11_roll_62 : decode cX11_roll 62 = .ok (.aload_n 0, 1) := by decide +kernel
theorem dX11_roll_63 : decode cX11_roll 63 = .ok (.getfield 10, 3) := by decide +kernel
theorem dX11_roll_66 : decode cX11_roll 66 = .ok (.getfield 92, 3) := by decide +kernel
theorem dX11_roll_69 : decode cX11_roll 69 = .ok (.aload_n 0, 1) := by decide +kernel
theorem dX11_roll_70 : decode cX11_roll 70 = .ok (.getfield 10, 3) := by decide +kernel
theorem dX11_roll_73 : decode cX11_roll 73 = .ok (.getfield 140, 3) := by decide +kernel
theorem dX11_roll_76 : decode cX11_roll 76 = .ok (.iload_n 1, 1) := by decide +kernel
theorem dX11_roll_77 : decode cX11_roll 77 = .ok (.invokevirtual 156, 3) := by decide +kernel
theorem dX11_roll_80 : decode cX11_roll 80 = .ok (.aload_n 0, 1) := by decide +kernel
theorem dX11_roll_81 : decode cX11_roll 81 = .ok (.getfield 10, 3) := by decide +kernel
theorem dX11_roll_84 : decode cX11_roll 84 = .ok (.getfield 140, 3) := by decide +kernel
theorem dX11_roll_87 : decode cX11_roll 87 = .ok (.iload_n 1, 1) := by decide +kernel
theorem dX11_roll_88 : decode cX11_roll 88 = .ok (.invokevirtual 159, 3) := by decide +kernel
theorem dX11_roll_91 : decode cX11_roll 91 = .ok (.iload_n 2, 1) := by decide +kernel
theorem dX11_roll_92 : decode cX11_roll 92 = .ok (.iload_n 3, 1) := by decide +kernel
theorem dX11_roll_93 : decode cX11_roll 93 = .ok (.iconst 1, 1) := by decide +kernel
theorem dX11_roll_94 : decode cX11_roll 94 = .ok (.if_icmp .ne 7, 3) := by decide +kernel
theorem dX11_roll_97 : decode cX11_roll 97 = .ok (.iconst 1, 1) := by decide +kernel
theorem dX11_roll_98 : decode cX11_roll 98 = .ok (.goto 4, 3) := by decide +kernel
theorem dX11_roll_101 : decode cX11_roll 101 = .ok (.iconst 0, 1) := by decide +kernel
theorem dX11_roll_102 : decode cX11_roll 102 = .ok (.invokevirtual 216, 3) := by decide +kernel
theorem dX11_roll_105 : decode cX11_roll 105 = .ok (.aload_n 0, 1) := by decide +kernel
theorem dX11_roll_106 : decode cX11_roll 106 = .ok (.getfield 10, 3) := by decide +kernel
theorem dX11_roll_109 : decode cX11_roll 109 = .ok (.getfield 92, 3) := by decide +kernel
theorem dX11_roll_112 : decode cX11_roll 112 = .ok (.invokevirtual 220, 3) := by decide +kernel
theorem dX11_roll_115 : decode cX11_roll 115 = .ok (.ireturn, 1) := by decide +kernel
theorem dX11_minutes_0 : decode cX11_minutes 0 = .ok (.iload_n 1, 1) := by decide +kernel
theorem dX11_minutes_1 : decode cX11_minutes 1 = .ok (.iconst 1, 1) := by decide +kernel
theorem dX11_minutes_2 : decode cX11_minutes 2 = .ok (.sipush 500, 3) := by decide +kernel
theorem dX11_minutes_5 : decode cX11_minutes 5 = .ok (.invokestatic 84, 3) := by decide +kernel
theorem dX11_minutes_8 : decode cX11_minutes 8 = .ok (.ifCond .ne 9, 3) := by decide +kernel
theorem dX11_minutes_11 : decode cX11_minutes 11 = .ok (.aload_n 0, 1) := by decide +kernel
theorem dX11_minutes_12 : decode cX11_minutes 12 = .ok (.iconst 1, 1) := by decide +kernel
theorem dX11_minutes_13 : decode cX11_minutes 13 = .ok (.invokevirtual 88, 3) := by decide +kernel
theorem dX11_minutes_16 : decode cX11_minutes 16 = .ok (.ireturn, 1) := by decide +kernel
theorem dX11_minutes_17 : decode cX11_minutes 17 = .ok (.aload_n 0, 1) := by decide +kernel
theorem dX11_minutes_18 : decode cX11_minutes 18 = .ok (.getfield 10, 3) := by decide +kernel
theorem dX11_minutes_21 : decode cX11_minutes 21 = .ok (.getfield 92, 3) := by decide +kernel
theorem dX11_minutes_24 : decode cX11_minutes 24 = .ok (.invokevirtual 220, 3) := by decide +kernel
theorem dX11_minutes_27 : decode cX11_minutes 27 = .ok (.iload_n 1, 1) := by decide +kernel
theorem dX11_minutes_28 : decode cX11_minutes 28 = .ok (.iadd, 1) := by decide +kernel
theorem dX11_minutes_29 : decode cX11_minutes 29 = .ok (.sipush 9999, 3) := by decide +kernel
theorem dX11_minutes_32 : decode cX11_minutes 32 = .ok (.if_icmp .le 9, 3) := by decide +kernel
theorem dX11_minutes_35 : decode cX11_minutes 35 = .ok (.aload_n 0, 1) := by decide +kernel
theorem dX11_minutes_36 : decode cX11_minutes 36 = .ok (.iconst 3, 1) := by decide +kernel
theorem dX11_minutes_37 : decode cX11_minutes 37 = .ok (.invokevirtual 88, 3) := by decide +kernel
theorem dX11_minutes_40 : decode cX11_minutes 40 = .ok (.ireturn, 1) := by decide +kernel
theorem dX11_minutes_41 : decode cX11_minutes 41 = .ok (.aload_n 0, 1) := by decide +kernel
theorem dX11_minutes_42 : decode cX11_minutes 42 = .ok (.getfield 10, 3) := by decide +kernel
theorem dX11_minutes_45 : decode cX11_minutes 45 = .ok (.getfield 92, 3) := by decide +kernel
theorem dX11_minutes_48 : decode cX11_minutes 48 = .ok (.iload_n 1, 1) := by decide +kernel
theorem dX11_minutes_49 : decode cX11_minutes 49 = .ok (.invokevirtual 223, 3) := by decide +kernel
theorem dX11_minutes_52 : decode cX11_minutes 52 = .ok (.aload_n 0, 1) := by decide +kernel
theorem dX11_minutes_53 : decode cX11_minutes 53 = .ok (.getfield 10, 3) := by decide +kernel
theorem dX11_minutes_56 : decode cX11_minutes 56 = .ok (.getfield 92, 3) := by decide +kernel
theorem dX11_minutes_59 : decode cX11_minutes 59 = .ok (.invokevirtual 220, 3) := by decide +kernel
theorem dX11_minutes_62 : decode cX11_minutes 62 = .ok (.ireturn, 1) := by decide +kernel
theorem dX11_days_0 : decode cX11_days 0 = .ok (.iload_n 1, 1) := by decide +kernel
theorem dX11_days_1 : decode cX11_days 1 = .ok (.iconst 1, 1) := by decide +kernel
theorem dX11_days_2 : decode cX11_days 2 = .ok (.bipush 30, 2) := by decide +kernel
theorem dX11_days_4 : decode cX11_days 4 = .ok (.invokestatic 84, 3) := by decide +kernel
theorem dX11_days_7 : decode cX11_days 7 = .ok (.ifCond .ne 9, 3) := by decide +kernel
theorem dX11_days_10 : decode cX11_days 10 = .ok (.aload_n 0, 1) := by decide +kernel
theorem dX11_days_11 : decode cX11_days 11 = .ok (.iconst 1, 1) := by decide +kernel
theorem dX11_days_12 : decode cX11_days 12 = .ok (.invokevirtual 88, 3) := by decide +kernel
theorem dX11_days_15 : decode cX11_days 15 = .ok (.ireturn, 1) := by decide +kernel
theorem dX11_days_16 : decode cX11_days 16 = .ok (.aload_n 0, 1) := by decide +kernel
theorem dX11_days_17 : decode cX11_days 17 = .ok (.getfield 10, 3) := by decide +kernel
theorem dX11_days_20 : decode cX11_days 20 = .ok (.getfield 140, 3) := by decide +kernel
theorem dX11_days_23 : decode cX11_days 23 = .ok (.invokevirtual 226, 3) := by decide +kernel
theorem dX11_days_26 : decode cX11_days 26 = .ok (.ifCond .ne 9, 3) := by decide +kernel
theorem dX11_days_29 : decode cX11_days 29 = .ok (.aload_n 0, 1) := by decide +kernel
theorem dX11_days_30 : decode cX11_days 30 = .ok (.iconst 3, 1) := by decide +kernel
theorem dX11_days_31 : decode cX11_days 31 = .ok (.invokevirtual 88, 3) := by decide +kernel
theorem dX11_days_34 : decode cX11_days 34 = .ok (.ireturn, 1) := by decide +kernel
theorem dX11_days_35 : decode cX11_days 35 = .ok (.iconst 0, 1) := by decide +kernel
theorem dX11_days_36 : decode cX11_days 36 = .ok (.istore_n 2, 1) := by decide +kernel
theorem dX11_days_37 : decode cX11_days 37 = .ok (.iload_n 2, 1) := by decide +kernel
theorem dX11_days_38 : decode cX11_days 38 = .ok (.iload_n 1, 1) := by decide +kernel
theorem dX11_days_39 : decode cX11_days 39 = .ok (.if_icmp .ge 16, 3) := by decide +kernel
theorem dX11_days_42 : decode cX11_days 42 = .ok (.aload_n 0, 1) := by decide +kernel
theorem dX11_days_43 : decode cX11_days 43 = .ok (.getfield 10, 3) := by decide +kernel
theorem dX11_days_46 : decode cX11_days 46 = .ok (.invokevirtual 229, 3) := by decide +kernel
theorem dX11_days_49 : decode cX11_days 49 = .ok (.iinc 2 1, 3) := by decide +kernel
theorem dX11_days_52 : decode cX11_days 52 = .ok (.goto (-15), 3) := by decide +kernel
theorem dX11_days_55 : decode cX11_days 55 = .ok (.aload_n 0, 1) := by decide +kernel
theorem dX11_days_56 : decode cX11_days 56 = .ok (.getfield 38, 3) := by decide +kernel
theorem dX11_days_59 : decode cX11_days 59 = .ok (.aload_n 0, 1) := by decide +kernel
theorem dX11_days_60 : decode cX11_days 60 = .ok (.getfield 10, 3) := by decide +kernel
theorem dX11_days_63 : decode cX11_days 63 = .ok (.getfield 92, 3) := by decide +kernel
theorem dX11_days_66 : decode cX11_days 66 = .ok (.invokevirtual 232, 3) := by decide +kernel
theorem dX11_days_69 : decode cX11_days 69 = .ok (.ireturn, 1) := by decide +kernel
theorem dX11_seams_0 : decode cX11_seams 0 = .ok (.iload_n 1, 1) := by decide +kernel
theorem dX11_seams_1 : decode cX11_seams 1 = .ok (.iconst 0, 1) := by decide +kernel
theorem dX11_seams_2 : decode cX11_seams 2 = .ok (.iconst 1, 1) := by decide +kernel
theorem dX11_seams_3 : decode cX11_seams 3 = .ok (.invokestatic 84, 3) := by decide +kernel
theorem dX11_seams_6 : decode cX11_seams 6 = .ok (.ifCond .ne 9, 3) := by decide +kernel
theorem dX11_seams_9 : decode cX11_seams 9 = .ok (.aload_n 0, 1) := by decide +kernel
theorem dX11_seams_10 : decode cX11_seams 10 = .ok (.iconst 1, 1) := by decide +kernel
theorem dX11_seams_11 : decode cX11_seams 11 = .ok (.invokevirtual 88, 3) := by decide +kernel
theorem dX11_seams_14 : decode cX11_seams 14 = .ok (.ireturn, 1) := by decide +kernel
theorem dX11_seams_15 : decode cX11_seams 15 = .ok (.iload_n 1, 1) := by decide +kernel
theorem dX11_seams_16 : decode cX11_seams 16 = .ok (.ifCond .ne 20, 3) := by decide +kernel
theorem dX11_seams_19 : decode cX11_seams 19 = .ok (.aload_n 0, 1) := by decide +kernel
theorem dX11_seams_20 : decode cX11_seams 20 = .ok (.getfield 38, 3) := by decide +kernel
theorem dX11_seams_23 : decode cX11_seams 23 = .ok (.aload_n 0, 1) := by decide +kernel
theorem dX11_seams_24 : decode cX11_seams 24 = .ok (.getfield 10, 3) := by decide +kernel
theorem dX11_seams_27 : decode cX11_seams 27 = .ok (.getfield 92, 3) := by decide +kernel
theorem dX11_seams_30 : decode cX11_seams 30 = .ok (.invokevirtual 236, 3) := by decide +kernel
theorem dX11_seams_33 : decode cX11_seams 33 = .ok (.goto 17, 3) := by decide +kernel
theorem dX11_seams_36 : decode cX11_seams 36 = .ok (.aload_n 0, 1) := by decide +kernel
theorem dX11_seams_37 : decode cX11_seams 37 = .ok (.getfield 38, 3) := by decide +kernel
theorem dX11_seams_40 : decode cX11_seams 40 = .ok (.aload_n 0, 1) := by decide +kernel
theorem dX11_seams_41 : decode cX11_seams 41 = .ok (.getfield 10, 3) := by decide +kernel
theorem dX11_seams_44 : decode cX11_seams 44 = .ok (.getfield 92, 3) := by decide +kernel
theorem dX11_seams_47 : decode cX11_seams 47 = .ok (.invokevirtual 232, 3) := by decide +kernel
theorem dX11_seams_50 : decode cX11_seams 50 = .ok (.ireturn, 1) := by decide +kernel
theorem dX11_done_0 : decode cX11_done 0 = .ok (.aload_n 0, 1) := by decide +kernel
theorem dX11_done_1 : decode cX11_done 1 = .ok (.iload_n 2, 1) := by decide +kernel
theorem dX11_done_2 : decode cX11_done 2 = .ok (.invokevirtual 239, 3) := by decide +kernel
theorem dX11_done_5 : decode cX11_done 5 = .ok (.astore_n 3, 1) := by decide +kernel
theorem dX11_done_6 : decode cX11_done 6 = .ok (.aload_n 0, 1) := by decide +kernel
theorem dX11_done_7 : decode cX11_done 7 = .ok (.getfield 10, 3) := by decide +kernel
theorem dX11_done_10 : decode cX11_done 10 = .ok (.getfield 140, 3) := by decide +kernel
theorem dX11_done_13 : decode cX11_done 13 = .ok (.iload_n 1, 1) := by decide +kernel
theorem dX11_done_14 : decode cX11_done 14 = .ok (.invokevirtual 153, 3) := by decide +kernel
theorem dX11_done_17 : decode cX11_done 17 = .ok (.ifCond .eq 7, 3) := by decide +kernel
theorem dX11_done_20 : decode cX11_done 20 = .ok (.aload_n 3, 1) := by decide +kernel
theorem dX11_done_21 : decode cX11_done 21 = .ok (.ifnonnull 9, 3) := by decide +kernel
theorem dX11_done_24 : decode cX11_done 24 = .ok (.aload_n 0, 1) := by decide +kernel
theorem dX11_done_25 : decode cX11_done 25 = .ok (.iconst 1, 1) := by decide +kernel
theorem dX11_done_26 : decode cX11_done 26 = .ok (.invokevirtual 88, 3) := by decide +kernel
theorem dX11_done_29 : decode cX11_done 29 = .ok (.ireturn, 1) := by decide +kernel
theorem dX11_done_30 : decode cX11_done 30 = .ok (.aload_n 3, 1) := by decide +kernel
theorem dX11_done_31 : decode cX11_done 31 = .ok (.invokevirtual 243, 3) := by decide +kernel
theorem dX11_done_34 : decode cX11_done 34 = .ok (.ifCond .eq 9, 3) := by decide +kernel
theorem dX11_done_37 : decode cX11_done 37 = .ok (.aload_n 0, 1) := by decide +kernel
theorem dX11_done_38 : decode cX11_done 38 = .ok (.iconst 2, 1) := by decide +kernel
theorem dX11_done_39 : decode cX11_done 39 = .ok (.invokevirtual 88, 3) := by decide +kernel
theorem dX11_done_42 : decode cX11_done 42 = .ok (.ireturn, 1) := by decide +kernel
theorem dX11_done_43 : decode cX11_done 43 = .ok (.aload_n 0, 1) := by decide +kernel
theorem dX11_done_44 : decode cX11_done 44 = .ok (.getfield 47, 3) := by decide +kernel
theorem dX11_done_47 : decode cX11_done 47 = .ok (.aload_n 3, 1) := by decide +kernel
theorem dX11_done_48 : decode cX11_done 48 = .ok (.getfield 246, 3) := by decide +kernel
theorem dX11_done_51 : decode cX11_done 51 = .ok (.aload_n 0, 1) := by decide +kernel
theorem dX11_done_52 : decode cX11_done 52 = .ok (.getfield 10, 3) := by decide +kernel
theorem dX11_done_55 : decode cX11_done 55 = .ok (.getfield 92, 3) := by decide +kernel
theorem dX11_done_58 : decode cX11_done 58 = .ok (.invokevirtual 249, 3) := by decide +kernel
theorem dX11_done_61 : decode cX11_done 61 = .ok (.invokevirtual 252, 3) := by decide +kernel
theorem dX11_done_64 : decode cX11_done 64 = .ok (.ifCond .ne 9, 3) := by decide +kernel
theorem dX11_done_67 : decode cX11_done 67 = .ok (.aload_n 0, 1) := by decide +kernel
theorem dX11_done_68 : decode cX11_done 68 = .ok (.iconst 3, 1) := by decide +kernel
theorem dX11_done_69 : decode cX11_done 69 = .ok (.invokevirtual 88, 3) := by decide +kernel
theorem dX11_done_72 : decode cX11_done 72 = .ok (.ireturn, 1) := by decide +kernel
theorem dX11_done_73 : decode cX11_done 73 = .ok (.aload_n 0, 1) := by decide +kernel
theorem dX11_done_74 : decode cX11_done 74 = .ok (.getfield 47, 3) := by decide +kernel
theorem dX11_done_77 : decode cX11_done 77 = .ok (.aload_n 0, 1) := by decide +kernel
theorem dX11_done_78 : decode cX11_done 78 = .ok (.getfield 10, 3) := by decide +kernel
theorem dX11_done_81 : decode cX11_done 81 = .ok (.iload_n 1, 1) := by decide +kernel
theorem dX11_done_82 : decode cX11_done 82 = .ok (.invokevirtual 256, 3) := by decide +kernel
theorem dX11_done_85 : decode cX11_done 85 = .ok (.aload_n 0, 1) := by decide +kernel
theorem dX11_done_86 : decode cX11_done 86 = .ok (.getfield 47, 3) := by decide +kernel
theorem dX11_done_89 : decode cX11_done 89 = .ok (.invokevirtual 260, 3) := by decide +kernel
theorem dX11_done_92 : decode cX11_done 92 = .ok (.ireturn, 1) := by decide +kernel
theorem dX11_order_0 : decode cX11_order 0 = .ok (.aload_n 0, 1) := by decide +kernel
theorem dX11_order_1 : decode cX11_order 1 = .ok (.getfield 10, 3) := by decide +kernel
theorem dX11_order_4 : decode cX11_order 4 = .ok (.getfield 140, 3) := by decide +kernel
theorem dX11_order_7 : decode cX11_order 7 = .ok (.iload_n 1, 1) := by decide +kernel
theorem dX11_order_8 : decode cX11_order 8 = .ok (.invokevirtual 153, 3) := by decide +kernel
theorem dX11_order_11 : decode cX11_order 11 = .ok (.ifCond .eq 23, 3) := by decide +kernel
theorem dX11_order_14 : decode cX11_order 14 = .ok (.iload_n 2, 1) := by decide +kernel
theorem dX11_order_15 : decode cX11_order 15 = .ok (.iconst (-1), 1) := by decide +kernel
theorem dX11_order_16 : decode cX11_order 16 = .ok (.aload_n 0, 1) := by decide +kernel
theorem dX11_order_17 : decode cX11_order 17 = .ok (.getfield 10, 3) := by decide +kernel
theorem dX11_order_20 : decode cX11_order 20 = .ok (.getfield 92, 3) := by decide +kernel
theorem dX11_order_23 : decode cX11_order 23 = .ok (.invokevirtual 249, 3) := by decide +kernel
theorem dX11_order_26 : decode cX11_order 26 = .ok (.iconst 1, 1) := by decide +kernel
theorem dX11_order_27 : decode cX11_order 27 = .ok (.isub, 1) := by decide +kernel
theorem dX11_order_28 : decode cX11_order 28 = .ok (.invokestatic 84, 3) := by decide +kernel
theorem dX11_order_31 : decode cX11_order 31 = .ok (.ifCond .ne 9, 3) := by decide +kernel
theorem dX11_order_34 : decode cX11_order 34 = .ok (.aload_n 0, 1) := by decide +kernel
theorem dX11_order_35 : decode cX11_order 35 = .ok (.iconst 1, 1) := by decide +kernel
theorem dX11_order_36 : decode cX11_order 36 = .ok (.invokevirtual 88, 3) := by decide +kernel
theorem dX11_order_39 : decode cX11_order 39 = .ok (.ireturn, 1) := by decide +kernel
theorem dX11_order_40 : decode cX11_order 40 = .ok (.aload_n 0, 1) := by decide +kernel
theorem dX11_order_41 : decode cX11_order 41 = .ok (.getfield 47, 3) := by decide +kernel
theorem dX11_order_44 : decode cX11_order 44 = .ok (.aload_n 0, 1) := by decide +kernel
theorem dX11_order_45 : decode cX11_order 45 = .ok (.getfield 10, 3) := by decide +kernel
theorem dX11_order_48 : decode cX11_order 48 = .ok (.iload_n 1, 1) := by decide +kernel
theorem dX11_order_49 : decode cX11_order 49 = .ok (.invokevirtual 256, 3) := by decide +kernel
theorem dX11_order_52 : decode cX11_order 52 = .ok (.aload_n 0, 1) := by decide +kernel
theorem dX11_order_53 : decode cX11_order 53 = .ok (.getfield 47, 3) := by decide +kernel
theorem dX11_order_56 : decode cX11_order 56 = .ok (.invokevirtual 263, 3) := by decide +kernel
theorem dX11_order_59 : decode cX11_order 59 = .ok (.aload_n 0, 1) := by decide +kernel
theorem dX11_order_60 : decode cX11_order 60 = .ok (.getfield 47, 3) := by decide +kernel
theorem dX11_order_63 : decode cX11_order 63 = .ok (.ldc_w 266, 3) := by decide +kernel
theorem dX11_order_66 : decode cX11_order 66 = .ok (.invokevirtual 267, 3) := by decide +kernel
theorem dX11_order_69 : decode cX11_order 69 = .ok (.iload_n 2, 1) := by decide +kernel
theorem dX11_order_70 : decode cX11_order 70 = .ok (.iconst (-1), 1) := by decide +kernel
theorem dX11_order_71 : decode cX11_order 71 = .ok (.if_icmp .ne 13, 3) := by decide +kernel
theorem dX11_order_74 : decode cX11_order 74 = .ok (.aload_n 0, 1) := by decide +kernel
theorem dX11_order_75 : decode cX11_order 75 = .ok (.getfield 47, 3) := by decide +kernel
theorem dX11_order_78 : decode cX11_order 78 = .ok (.invokevirtual 270, 3) := by decide +kernel
theorem dX11_order_81 : decode cX11_order 81 = .ok (.goto 11, 3) := by decide +kernel
theorem dX11_order_84 : decode cX11_order 84 = .ok (.aload_n 0, 1) := by decide +kernel
theorem dX11_order_85 : decode cX11_order 85 = .ok (.getfield 47, 3) := by decide +kernel
theorem dX11_order_88 : decode cX11_order 88 = .ok (.iload_n 2, 1) := by decide +kernel
theorem dX11_order_89 : decode cX11_order 89 = .ok (.invokevirtual 273, 3) := by decide +kernel
theorem dX11_order_92 : decode cX11_order 92 = .ok (.ireturn, 1) := by decide +kernel
theorem dX11_clean_0 : decode cX11_clean 0 = .ok (.aload_n 0, 1) := by decide +kernel
theorem dX11_clean_1 : decode cX11_clean 1 = .ok (.getfield 10, 3) := by decide +kernel
theorem dX11_clean_4 : decode cX11_clean 4 = .ok (.getfield 140, 3) := by decide +kernel
theorem dX11_clean_7 : decode cX11_clean 7 = .ok (.iload_n 1, 1) := by decide +kernel
theorem dX11_clean_8 : decode cX11_clean 8 = .ok (.invokevirtual 153, 3) := by decide +kernel
theorem dX11_clean_11 : decode cX11_clean 11 = .ok (.ifCond .eq 12, 3) := by decide +kernel
theorem dX11_clean_14 : decode cX11_clean 14 = .ok (.iload_n 2, 1) := by decide +kernel
theorem dX11_clean_15 : decode cX11_clean 15 = .ok (.iconst 0, 1) := by decide +kernel
theorem dX11_clean_16 : decode cX11_clean 16 = .ok (.iconst 1, 1) := by decide +kernel
theorem dX11_clean_17 : decode cX11_clean 17 = .ok (.invokestatic 84, 3) := by decide +kernel
theorem dX11_clean_20 : decode cX11_clean 20 = .ok (.ifCond .ne 9, 3) := by decide +kernel
theorem dX11_clean_23 : decode cX11_clean 23 = .ok (.aload_n 0, 1) := by decide +kernel
theorem dX11_clean_24 : decode cX11_clean 24 = .ok (.iconst 1, 1) := by decide +kernel
theorem dX11_clean_25 : decode cX11_clean 25 = .ok (.invokevirtual 88, 3) := by decide +kernel
theorem dX11_clean_28 : decode cX11_clean 28 = .ok (.ireturn, 1) := by decide +kernel
theorem dX11_clean_29 : decode cX11_clean 29 = .ok (.aload_n 0, 1) := by decide +kernel
theorem dX11_clean_30 : decode cX11_clean 30 = .ok (.getfield 47, 3) := by decide +kernel
theorem dX11_clean_33 : decode cX11_clean 33 = .ok (.aload_n 0, 1) := by decide +kernel
theorem dX11_clean_34 : decode cX11_clean 34 = .ok (.getfield 10, 3) := by decide +kernel
theorem dX11_clean_37 : decode cX11_clean 37 = .ok (.iload_n 1, 1) := by decide +kernel
theorem dX11_clean_38 : decode cX11_clean 38 = .ok (.invokevirtual 256, 3) := by decide +kernel
theorem dX11_clean_41 : decode cX11_clean 41 = .ok (.iconst 0, 1) := by decide +kernel
theorem dX11_clean_42 : decode cX11_clean 42 = .ok (.istore_n 3, 1) := by decide +kernel
theorem dX11_clean_43 : decode cX11_clean 43 = .ok (.iload_n 3, 1) := by decide +kernel
theorem dX11_clean_44 : decode cX11_clean 44 = .ok (.bipush 9, 2) := by decide +kernel
theorem dX11_clean_46 : decode cX11_clean 46 = .ok (.if_icmp .gt 60, 3) := by decide +kernel
theorem dX11_clean_49 : decode cX11_clean 49 = .ok (.iload_n 2, 1) := by decide +kernel
theorem dX11_clean_50 : decode cX11_clean 50 = .ok (.ifCond .ne 7, 3) := by decide +kernel
theorem dX11_clean_53 : decode cX11_clean 53 = .ok (.iload_n 3, 1) := by decide +kernel
theorem dX11_clean_54 : decode cX11_clean 54 = .ok (.goto 7, 3) := by decide +kernel
theorem dX11_clean_57 : decode cX11_clean 57 = .ok (.bipush 9, 2) := by decide +kernel
theorem dX11_clean_59 : decode cX11_clean 59 = .ok (.iload_n 3, 1) := by decide +kernel
theorem dX11_clean_60 : decode cX11_clean 60 = .ok (.isub, 1) := by decide +kernel
theorem dX11_clean_61 : decode cX11_clean 61 = .ok (.istore 4, 2) := by decide +kernel
theorem dX11_clean_63 : decode cX11_clean 63 = .ok (.aload_n 0, 1) := by decide +kernel
theorem dX11_clean_64 : decode cX11_clean 64 = .ok (.getfield 47, 3) := by decide +kernel
theorem dX11_clean_67 : decode cX11_clean 67 = .ok (.iload 4, 2) := by decide +kernel
theorem dX11_clean_69 : decode cX11_clean 69 = .ok (.invokevirtual 276, 3) := by decide +kernel
theorem dX11_clean_72 : decode cX11_clean 72 = .ok (.aload_n 0, 1) := by decide +kernel
theorem dX11_clean_73 : decode cX11_clean 73 = .ok (.getfield 47, 3) := by decide +kernel
theorem dX11_clean_76 : decode cX11_clean 76 = .ok (.invokevirtual 263, 3) := by decide +kernel
theorem dX11_clean_79 : decode cX11_clean 79 = .ok (.aload_n 0, 1) := by decide +kernel
theorem dX11_clean_80 : decode cX11_clean 80 = .ok (.getfield 47, 3) := by decide +kernel
theorem dX11_clean_83 : decode cX11_clean 83 = .ok (.iconst 1, 1) := by decide +kernel
theorem dX11_clean_84 : decode cX11_clean 84 = .ok (.invokevirtual 267, 3) := by decide +kernel
theorem dX11_clean_87 : decode cX11_clean 87 = .ok (.aload_n 0, 1) := by decide +kernel
theorem dX11_clean_88 : decode cX11_clean 88 = .ok (.getfield 47, 3) := by decide +kernel
theorem dX11_clean_91 : decode cX11_clean 91 = .ok (.invokevirtual 270, 3) := by decide +kernel
theorem dX11_clean_94 : decode cX11_clean 94 = .ok (.ifCond .ne 6, 3) := by decide +kernel
theorem dX11_clean_97 : decode cX11_clean 97 = .ok (.iload 4, 2) := by decide +kernel
theorem dX11_clean_99 : decode cX11_clean 99 = .ok (.ireturn, 1) := by decide +kernel
theorem dX11_clean_100 : decode cX11_clean 100 = .ok (.iinc 3 1, 3) := by decide +kernel
theorem dX11_clean_103 : decode cX11_clean 103 = .ok (.goto (-60), 3) := by decide +kernel
theorem dX11_clean_106 : decode cX11_clean 106 = .ok (.aload_n 0, 1) := by decide +kernel
theorem dX11_clean_107 : decode cX11_clean 107 = .ok (.iconst 2, 1) := by decide +kernel
theorem dX11_clean_108 : decode cX11_clean 108 = .ok (.invokevirtual 88, 3) := by decide +kernel
theorem dX11_clean_111 : decode cX11_clean 111 = .ok (.ireturn, 1) := by decide +kernel
theorem dX11_called_0 : decode cX11_called 0 = .ok (.aload_n 0, 1) := by decide +kernel
theorem dX11_called_1 : decode cX11_called 1 = .ok (.getfield 10, 3) := by decide +kernel
theorem dX11_called_4 : decode cX11_called 4 = .ok (.getfield 140, 3) := by decide +kernel
theorem dX11_called_7 : decode cX11_called 7 = .ok (.iload_n 1, 1) := by decide +kernel
theorem dX11_called_8 : decode cX11_called 8 = .ok (.invokevirtual 153, 3) := by decide +kernel
theorem dX11_called_11 : decode cX11_called 11 = .ok (.ifCond .eq 22, 3) := by decide +kernel
theorem dX11_called_14 : decode cX11_called 14 = .ok (.aload_n 0, 1) := by decide +kernel
theorem dX11_called_15 : decode cX11_called 15 = .ok (.iload_n 2, 1) := by decide +kernel
theorem dX11_called_16 : decode cX11_called 16 = .ok (.invokevirtual 279, 3) := by decide +kernel
theorem dX11_called_19 : decode cX11_called 19 = .ok (.ifCond .eq 14, 3) := by decide +kernel
theorem dX11_called_22 : decode cX11_called 22 = .ok (.iload_n 3, 1) := by decide +kernel
theorem dX11_called_23 : decode cX11_called 23 = .ok (.iconst 0, 1) := by decide +kernel
theorem dX11_called_24 : decode cX11_called 24 = .ok (.sipush 500, 3) := by decide +kernel
theorem dX11_called_27 : decode cX11_called 27 = .ok (.invokestatic 84, 3) := by decide +kernel
theorem dX11_called_30 : decode cX11_called 30 = .ok (.ifCond .ne 9, 3) := by decide +kernel
theorem dX11_called_33 : decode cX11_called 33 = .ok (.aload_n 0, 1) := by decide +kernel
theorem dX11_called_34 : decode cX11_called 34 = .ok (.iconst 1, 1) := by decide +kernel
theorem dX11_called_35 : decode cX11_called 35 = .ok (.invokevirtual 88, 3) := by decide +kernel
theorem dX11_called_38 : decode cX11_called 38 = .ok (.ireturn, 1) := by decide +kernel
theorem dX11_called_39 : decode cX11_called 39 = .ok (.aload_n 0, 1) := by decide +kernel
theorem dX11_called_40 : decode cX11_called 40 = .ok (.getfield 47, 3) := by decide +kernel
theorem dX11_called_43 : decode cX11_called 43 = .ok (.aload_n 0, 1) := by decide +kernel
theorem dX11_called_44 : decode cX11_called 44 = .ok (.getfield 10, 3) := by decide +kernel
theorem dX11_called_47 : decode cX11_called 47 = .ok (.iload_n 1, 1) := by decide +kernel
theorem dX11_called_48 : decode cX11_called 48 = .ok (.invokevirtual 256, 3) := by decide +kernel
theorem dX11_called_51 : decode cX11_called 51 = .ok (.aload_n 0, 1) := by decide +kernel
theorem dX11_called_52 : decode cX11_called 52 = .ok (.getfield 47, 3) := by decide +kernel
theorem dX11_called_55 : decode cX11_called 55 = .ok (.iload_n 3, 1) := by decide +kernel
theorem dX11_called_56 : decode cX11_called 56 = .ok (.invokevirtual 282, 3) := by decide +kernel
theorem dX11_called_59 : decode cX11_called 59 = .ok (.aload_n 0, 1) := by decide +kernel
theorem dX11_called_60 : decode cX11_called 60 = .ok (.getfield 47, 3) := by decide +kernel
theorem dX11_called_63 : decode cX11_called 63 = .ok (.iload_n 2, 1) := by decide +kernel
theorem dX11_called_64 : decode cX11_called 64 = .ok (.invokevirtual 285, 3) := by decide +kernel
theorem dX11_called_67 : decode cX11_called 67 = .ok (.ireturn, 1) := by decide +kernel
theorem dX11_worst_0 : decode cX11_worst 0 = .ok (.aload_n 0, 1) := by decide +kernel
theorem dX11_worst_1 : decode cX11_worst 1 = .ok (.getfield 10, 3) := by decide +kernel
theorem dX11_worst_4 : decode cX11_worst 4 = .ok (.getfield 140, 3) := by decide +kernel
theorem dX11_worst_7 : decode cX11_worst 7 = .ok (.iload_n 1, 1) := by decide +kernel
theorem dX11_worst_8 : decode cX11_worst 8 = .ok (.invokevirtual 153, 3) := by decide +kernel
theorem dX11_worst_11 : decode cX11_worst 11 = .ok (.ifCond .eq 23, 3) := by decide +kernel
theorem dX11_worst_14 : decode cX11_worst 14 = .ok (.iload_n 2, 1) := by decide +kernel
theorem dX11_worst_15 : decode cX11_worst 15 = .ok (.iconst 0, 1) := by decide +kernel
theorem dX11_worst_16 : decode cX11_worst 16 = .ok (.sipush 500, 3) := by decide +kernel
theorem dX11_worst_19 : decode cX11_worst 19 = .ok (.invokestatic 84, 3) := by decide +kernel
theorem dX11_worst_22 : decode cX11_worst 22 = .ok (.ifCond .eq 12, 3) := by decide +kernel
theorem dX11_worst_25 : decode cX11_worst 25 = .ok (.iload_n 3, 1) := by decide +kernel
theorem dX11_worst_26 : decode cX11_worst 26 = .ok (.iconst 0, 1) := by decide +kernel
theorem dX11_worst_27 : decode cX11_worst 27 = .ok (.iconst 1, 1) := by decide +kernel
theorem dX11_worst_28 : decode cX11_worst 28 = .ok (.invokestatic 84, 3) := by decide +kernel
theorem dX11_worst_31 : decode cX11_worst 31 = .ok (.ifCond .ne 9, 3) := by decide +kernel
theorem dX11_worst_34 : decode cX11_worst 34 = .ok (.aload_n 0, 1) := by decide +kernel
theorem dX11_worst_35 : decode cX11_worst 35 = .ok (.iconst 1, 1) := by decide +kernel
theorem dX11_worst_36 : decode cX11_worst 36 = .ok (.invokevirtual 88, 3) := by decide +kernel
theorem dX11_worst_39 : decode cX11_worst 39 = .ok (.ireturn, 1) := by decide +kernel
theorem dX11_worst_40 : decode cX11_worst 40 = .ok (.aload_n 0, 1) := by decide +kernel
theorem dX11_worst_41 : decode cX11_worst 41 = .ok (.getfield 10, 3) := by decide +kernel
theorem dX11_worst_44 : decode cX11_worst 44 = .ok (.getfield 92, 3) := by decide +kernel
theorem dX11_worst_47 : decode cX11_worst 47 = .ok (.invokevirtual 249, 3) := by decide +kernel
theorem dX11_worst_50 : decode cX11_worst 50 = .ok (.iconst 1, 1) := by decide +kernel
theorem dX11_worst_51 : decode cX11_worst 51 = .ok (.if_icmp .ne 9, 3) := by decide +kernel
theorem dX11_worst_54 : decode cX11_worst 54 = .ok (.aload_n 0, 1) := by decide +kernel
theorem dX11_worst_55 : decode cX11_worst 55 = .ok (.iconst 2, 1) := by decide +kernel
theorem dX11_worst_56 : decode cX11_worst 56 = .ok (.invokevirtual 88, 3) := by decide +kernel
theorem dX11_worst_59 : decode cX11_worst 59 = .ok (.ireturn, 1) := by decide +kernel
theorem dX11_worst_60 : decode cX11_worst 60 = .ok (.aload_n 0, 1) := by decide +kernel
theorem dX11_worst_61 : decode cX11_worst 61 = .ok (.getfield 47, 3) := by decide +kernel
theorem dX11_worst_64 : decode cX11_worst 64 = .ok (.aload_n 0, 1) := by decide +kernel
theorem dX11_worst_65 : decode cX11_worst 65 = .ok (.getfield 10, 3) := by decide +kernel
theorem dX11_worst_68 : decode cX11_worst 68 = .ok (.iload_n 1, 1) := by decide +kernel
theorem dX11_worst_69 : decode cX11_worst 69 = .ok (.invokevirtual 256, 3) := by decide +kernel
theorem dX11_worst_72 : decode cX11_worst 72 = .ok (.aload_n 0, 1) := by decide +kernel
theorem dX11_worst_73 : decode cX11_worst 73 = .ok (.getfield 47, 3) := by decide +kernel
theorem dX11_worst_76 : decode cX11_worst 76 = .ok (.iload_n 2, 1) := by decide +kernel
theorem dX11_worst_77 : decode cX11_worst 77 = .ok (.invokevirtual 282, 3) := by decide +kernel
theorem dX11_worst_80 : decode cX11_worst 80 = .ok (.aload_n 0, 1) := by decide +kernel
theorem dX11_worst_81 : decode cX11_worst 81 = .ok (.getfield 47, 3) := by decide +kernel
theorem dX11_worst_84 : decode cX11_worst 84 = .ok (.invokevirtual 288, 3) := by decide +kernel
theorem dX11_worst_87 : decode cX11_worst 87 = .ok (.istore 4, 2) := by decide +kernel
theorem dX11_worst_89 : decode cX11_worst 89 = .ok (.iload_n 3, 1) := by decide +kernel
theorem dX11_worst_90 : decode cX11_worst 90 = .ok (.ifCond .ne 8, 3) := by decide +kernel
theorem dX11_worst_93 : decode cX11_worst 93 = .ok (.iload 4, 2) := by decide +kernel
theorem dX11_worst_95 : decode cX11_worst 95 = .ok (.goto 12, 3) := by decide +kernel
theorem dX11_worst_98 : decode cX11_worst 98 = .ok (.aload_n 0, 1) := by decide +kernel
theorem dX11_worst_99 : decode cX11_worst 99 = .ok (.getfield 47, 3) := by decide +kernel
theorem dX11_worst_102 : decode cX11_worst 102 = .ok (.iload 4, 2) := by decide +kernel
theorem dX11_worst_104 : decode cX11_worst 104 = .ok (.invokevirtual 285, 3) := by decide +kernel
theorem dX11_worst_107 : decode cX11_worst 107 = .ok (.ireturn, 1) := by decide +kernel
theorem dX11_howLong_0 : decode cX11_howLong 0 = .ok (.aload_n 0, 1) := by decide +kernel
theorem dX11_howLong_1 : decode cX11_howLong 1 = .ok (.getfield 10, 3) := by decide +kernel
theorem dX11_howLong_4 : decode cX11_howLong 4 = .ok (.getfield 140, 3) := by decide +kernel
theorem dX11_howLong_7 : decode cX11_howLong 7 = .ok (.iload_n 1, 1) := by decide +kernel
theorem dX11_howLong_8 : decode cX11_howLong 8 = .ok (.invokevirtual 153, 3) := by decide +kernel
theorem dX11_howLong_11 : decode cX11_howLong 11 = .ok (.ifCond .eq 11, 3) := by decide +kernel
theorem dX11_howLong_14 : decode cX11_howLong 14 = .ok (.aload_n 0, 1) := by decide +kernel
theorem dX11_howLong_15 : decode cX11_howLong 15 = .ok (.iload_n 2, 1) := by decide +kernel
theorem dX11_howLong_16 : decode cX11_howLong 16 = .ok (.invokevirtual 279, 3) := by decide +kernel
theorem dX11_howLong_19 : decode cX11_howLong 19 = .ok (.ifCond .ne 9, 3) := by decide +kernel
theorem dX11_howLong_22 : decode cX11_howLong 22 = .ok (.aload_n 0, 1) := by decide +kernel
theorem dX11_howLong_23 : decode cX11_howLong 23 = .ok (.iconst 1, 1) := by decide +kernel
theorem dX11_howLong_24 : decode cX11_howLong 24 = .ok (.invokevirtual 88, 3) := by decide +kernel
theorem dX11_howLong_27 : decode cX11_howLong 27 = .ok (.ireturn, 1) := by decide +kernel
theorem dX11_howLong_28 : decode cX11_howLong 28 = .ok (.aload_n 0, 1) := by decide +kernel
theorem dX11_howLong_29 : decode cX11_howLong 29 = .ok (.getfield 47, 3) := by decide +kernel
theorem dX11_howLong_32 : decode cX11_howLong 32 = .ok (.aload_n 0, 1) := by decide +kernel
theorem dX11_howLong_33 : decode cX11_howLong 33 = .ok (.getfield 10, 3) := by decide +kernel
theorem dX11_howLong_36 : decode cX11_howLong 36 = .ok (.iload_n 1, 1) := by decide +kernel
theorem dX11_howLong_37 : decode cX11_howLong 37 = .ok (.invokevirtual 256, 3) := by decide +kernel
theorem dX11_howLong_40 : decode cX11_howLong 40 = .ok (.aload_n 0, 1) := by decide +kernel
theorem dX11_howLong_41 : decode cX11_howLong 41 = .ok (.getfield 47, 3) := by decide +kernel
theorem dX11_howLong_44 : decode cX11_howLong 44 = .ok (.iload_n 2, 1) := by decide +kernel
theorem dX11_howLong_45 : decode cX11_howLong 45 = .ok (.sipush 500, 3) := by decide +kernel
theorem dX11_howLong_48 : decode cX11_howLong 48 = .ok (.invokevirtual 291, 3) := by decide +kernel
theorem dX11_howLong_51 : decode cX11_howLong 51 = .ok (.ireturn, 1) := by decide +kernel
theorem dX11_cans_0 : decode cX11_cans 0 = .ok (.aload_n 0, 1) := by decide +kernel
theorem dX11_cans_1 : decode cX11_cans 1 = .ok (.getfield 10, 3) := by decide +kernel
theorem dX11_cans_4 : decode cX11_cans 4 = .ok (.getfield 140, 3) := by decide +kernel
theorem dX11_cans_7 : decode cX11_cans 7 = .ok (.iload_n 1, 1) := by decide +kernel
theorem dX11_cans_8 : decode cX11_cans 8 = .ok (.invokevirtual 153, 3) := by decide +kernel
theorem dX11_cans_11 : decode cX11_cans 11 = .ok (.ifCond .ne 9, 3) := by decide +kernel
theorem dX11_cans_14 : decode cX11_cans 14 = .ok (.aload_n 0, 1) := by decide +kernel
theorem dX11_cans_15 : decode cX11_cans 15 = .ok (.iconst 1, 1) := by decide +kernel
theorem dX11_cans_16 : decode cX11_cans 16 = .ok (.invokevirtual 88, 3) := by decide +kernel
theorem dX11_cans_19 : decode cX11_cans 19 = .ok (.ireturn, 1) := by decide +kernel
theorem dX11_cans_20 : decode cX11_cans 20 = .ok (.aload_n 0, 1) := by decide +kernel
theorem dX11_cans_21 : decode cX11_cans 21 = .ok (.getfield 47, 3) := by decide +kernel
theorem dX11_cans_24 : decode cX11_cans 24 = .ok (.aload_n 0, 1) := by decide +kernel
theorem dX11_cans_25 : decode cX11_cans 25 = .ok (.getfield 10, 3) := by decide +kernel
theorem dX11_cans_28 : decode cX11_cans 28 = .ok (.iload_n 1, 1) := by decide +kernel
theorem dX11_cans_29 : decode cX11_cans 29 = .ok (.invokevirtual 256, 3) := by decide +kernel
theorem dX11_cans_32 : decode cX11_cans 32 = .ok (.aload_n 0, 1) := by decide +kernel
theorem dX11_cans_33 : decode cX11_cans 33 = .ok (.getfield 47, 3) := by decide +kernel
theorem dX11_cans_36 : decode cX11_cans 36 = .ok (.invokevirtual 294, 3) := by decide +kernel
theorem dX11_cans_39 : decode cX11_cans 39 = .ok (.ireturn, 1) := by decide +kernel
theorem dX11_whose_0 : decode cX11_whose 0 = .ok (.aload_n 0, 1) := by decide +kernel
theorem dX11_whose_1 : decode cX11_whose 1 = .ok (.iload_n 3, 1) := by decide +kernel
theorem dX11_whose_2 : decode cX11_whose 2 = .ok (.invokevirtual 239, 3) := by decide +kernel
theorem dX11_whose_5 : decode cX11_whose 5 = .ok (.astore 4, 2) := by decide +kernel
theorem dX11_whose_7 : decode cX11_whose 7 = .ok (.aload_n 0, 1) := by decide +kernel
theorem dX11_whose_8 : decode cX11_whose 8 = .ok (.getfield 10, 3) := by decide +kernel
theorem dX11_whose_11 : decode cX11_whose 11 = .ok (.getfield 140, 3) := by decide +kernel
theorem dX11_whose_14 : decode cX11_whose 14 = .ok (.iload_n 1, 1) := by decide +kernel
theorem dX11_whose_15 : decode cX11_whose 15 = .ok (.invokevirtual 153, 3) := by decide +kernel
theorem dX11_whose_18 : decode cX11_whose 18 = .ok (.ifCond .eq 22, 3) := by decide +kernel
theorem dX11_whose_21 : decode cX11_whose 21 = .ok (.aload_n 0, 1) := by decide +kernel
theorem dX11_whose_22 : decode cX11_whose 22 = .ok (.getfield 10, 3) := by decide +kernel
theorem dX11_whose_25 : decode cX11_whose 25 = .ok (.getfield 92, 3) := by decide +kernel
theorem dX11_whose_28 : decode cX11_whose 28 = .ok (.iload_n 2, 1) := by decide +kernel
theorem dX11_whose_29 : decode cX11_whose 29 = .ok (.invokevirtual 210, 3) := by decide +kernel
theorem dX11_whose_32 : decode cX11_whose 32 = .ok (.ifCond .eq 8, 3) := by decide +kernel
theorem dX11_whose_35 : decode cX11_whose 35 = .ok (.aload 4, 2) := by decide +kernel
theorem dX11_whose_37 : decode cX11_whose 37 = .ok (.ifnonnull 9, 3) := by decide +kernel
theorem dX11_whose_40 : decode cX11_whose 40 = .ok (.aload_n 0, 1) := by decide +kernel
theorem dX11_whose_41 : decode cX11_whose 41 = .ok (.iconst 1, 1) := by decide +kernel
theorem dX11_whose_42 : decode cX11_whose 42 = .ok (.invokevirtual 88, 3) := by decide +kernel
theorem dX11_whose_45 : decode cX11_whose 45 = .ok (.ireturn, 1) := by decide +kernel
theorem dX11_whose_46 : decode cX11_whose 46 = .ok (.aload 4, 2) := by decide +kernel
theorem dX11_whose_48 : decode cX11_whose 48 = .ok (.invokevirtual 243, 3) := by decide +kernel
theorem dX11_whose_51 : decode cX11_whose 51 = .ok (.ifCond .ne 24, 3) := by decide +kernel
theorem dX11_whose_54 : decode cX11_whose 54 = .ok (.aload 4, 2) := by decide +kernel
theorem dX11_whose_56 : decode cX11_whose 56 = .ok (.getfield 246, 3) := by decide +kernel
theorem dX11_whose_59 : decode cX11_whose 59 = .ok (.invokevirtual 183, 3) := by decide +kernel
theorem dX11_whose_62 : decode cX11_whose 62 = .ok (.aload_n 0, 1) := by decide +kernel
theorem dX11_whose_63 : decode cX11_whose 63 = .ok (.getfield 10, 3) := by decide +kernel
theorem dX11_whose_66 : decode cX11_whose 66 = .ok (.getfield 92, 3) := by decide +kernel
theorem dX11_whose_69 : decode cX11_whose 69 = .ok (.invokevirtual 297, 3) := by decide +kernel
theorem dX11_whose_72 : decode cX11_whose 72 = .ok (.if_icmp .eq 9, 3) := by decide +kernel
theorem dX11_whose_75 : decode cX11_whose 75 = .ok (.aload_n 0, 1) := by decide +kernel
theorem dX11_whose_76 : decode cX11_whose 76 = .ok (.iconst 2, 1) := by decide +kernel
theorem dX11_whose_77 : decode cX11_whose 77 = .ok (.invokevirtual 88, 3) := by decide +kernel
theorem dX11_whose_80 : decode cX11_whose 80 = .ok (.ireturn, 1) := by decide +kernel
theorem dX11_whose_81 : decode cX11_whose 81 = .ok (.aload 4, 2) := by decide +kernel
theorem dX11_whose_83 : decode cX11_whose 83 = .ok (.getfield 246, 3) := by decide +kernel
theorem dX11_whose_86 : decode cX11_whose 86 = .ok (.aload_n 0, 1) := by decide +kernel
theorem dX11_whose_87 : decode cX11_whose 87 = .ok (.getfield 10, 3) := by decide +kernel
theorem dX11_whose_90 : decode cX11_whose 90 = .ok (.getfield 92, 3) := by decide +kernel
theorem dX11_whose_93 : decode cX11_whose 93 = .ok (.invokevirtual 220, 3) := by decide +kernel
theorem dX11_whose_96 : decode cX11_whose 96 = .ok (.aload_n 0, 1) := by decide +kernel
theorem dX11_whose_97 : decode cX11_whose 97 = .ok (.getfield 10, 3) := by decide +kernel
theorem dX11_whose_100 : decode cX11_whose 100 = .ok (.getfield 140, 3) := by decide +kernel
theorem dX11_whose_103 : decode cX11_whose 103 = .ok (.iload_n 1, 1) := by decide +kernel
theorem dX11_whose_104 : decode cX11_whose 104 = .ok (.invokevirtual 159, 3) := by decide +kernel
theorem dX11_whose_107 : decode cX11_whose 107 = .ok (.invokestatic 300, 3) := by decide +kernel
theorem dX11_whose_110 : decode cX11_whose 110 = .ok (.istore 5, 2) := by decide +kernel
theorem dX11_whose_112 : decode cX11_whose 112 = .ok (.iload 5, 2) := by decide +kernel
theorem dX11_whose_114 : decode cX11_whose 114 = .ok (.ifCond .ge 11, 3) := by decide +kernel
theorem dX11_whose_117 : decode cX11_whose 117 = .ok (.aload_n 0, 1) := by decide +kernel
theorem dX11_whose_118 : decode cX11_whose 118 = .ok (.iconst 2, 1) := by decide +kernel
theorem dX11_whose_119 : decode cX11_whose 119 = .ok (.invokevirtual 88, 3) := by decide +kernel
theorem dX11_whose_122 : decode cX11_whose 122 = .ok (.goto 5, 3) := by decide +kernel
theorem dX11_whose_125 : decode cX11_whose 125 = .ok (.iload 5, 2) := by decide +kernel
theorem dX11_whose_127 : decode cX11_whose 127 = .ok (.ireturn, 1) := by decide +kernel
theorem dX11_odds_0 : decode cX11_odds 0 = .ok (.aload_n 0, 1) := by decide +kernel
theorem dX11_odds_1 : decode cX11_odds 1 = .ok (.getfield 10, 3) := by decide +kernel
theorem dX11_odds_4 : decode cX11_odds 4 = .ok (.getfield 140, 3) := by decide +kernel
theorem dX11_odds_7 : decode cX11_odds 7 = .ok (.iload_n 1, 1) := by decide +kernel
theorem dX11_odds_8 : decode cX11_odds 8 = .ok (.invokevirtual 153, 3) := by decide +kernel
theorem dX11_odds_11 : decode cX11_odds 11 = .ok (.ifCond .eq 35, 3) := by decide +kernel
theorem dX11_odds_14 : decode cX11_odds 14 = .ok (.iload_n 2, 1) := by decide +kernel
theorem dX11_odds_15 : decode cX11_odds 15 = .ok (.iconst 0, 1) := by decide +kernel
theorem dX11_odds_16 : decode cX11_odds 16 = .ok (.sipush 500, 3) := by decide +kernel
theorem dX11_odds_19 : decode cX11_odds 19 = .ok (.invokestatic 84, 3) := by decide +kernel
theorem dX11_odds_22 : decode cX11_odds 22 = .ok (.ifCond .eq 24, 3) := by decide +kernel
theorem dX11_odds_25 : decode cX11_odds 25 = .ok (.iload_n 3, 1) := by decide +kernel
theorem dX11_odds_26 : decode cX11_odds 26 = .ok (.iconst 0, 1) := by decide +kernel
theorem dX11_odds_27 : decode cX11_odds 27 = .ok (.sipush 9999, 3) := by decide +kernel
theorem dX11_odds_30 : decode cX11_odds 30 = .ok (.invokestatic 84, 3) := by decide +kernel
theorem dX11_odds_33 : decode cX11_odds 33 = .ok (.ifCond .eq 13, 3) := by decide +kernel
theorem dX11_odds_36 : decode cX11_odds 36 = .ok (.iload 4, 2) := by decide +kernel
theorem dX11_odds_38 : decode cX11_odds 38 = .ok (.iconst 0, 1) := by decide +kernel
theorem dX11_odds_39 : decode cX11_odds 39 = .ok (.iconst 1, 1) := by decide +kernel
theorem dX11_odds_40 : decode cX11_odds 40 = .ok (.invokestatic 84, 3) := by decide +kernel
theorem dX11_odds_43 : decode cX11_odds 43 = .ok (.ifCond .ne 9, 3) := by decide +kernel
theorem dX11_odds_46 : decode cX11_odds 46 = .ok (.aload_n 0, 1) := by decide +kernel
theorem dX11_odds_47 : decode cX11_odds 47 = .ok (.iconst 1, 1) := by decide +kernel
theorem dX11_odds_48 : decode cX11_odds 48 = .ok (.invokevirtual 88, 3) := by decide +kernel
theorem dX11_odds_51 : decode cX11_odds 51 = .ok (.ireturn, 1) := by decide +kernel
theorem dX11_odds_52 : decode cX11_odds 52 = .ok (.aload_n 0, 1) := by decide +kernel
theorem dX11_odds_53 : decode cX11_odds 53 = .ok (.getfield 47, 3) := by decide +kernel
theorem dX11_odds_56 : decode cX11_odds 56 = .ok (.aload_n 0, 1) := by decide +kernel
theorem dX11_odds_57 : decode cX11_odds 57 = .ok (.getfield 10, 3) := by decide +kernel
theorem dX11_odds_60 : decode cX11_odds 60 = .ok (.iload_n 1, 1) := by decide +kernel
theorem dX11_odds_61 : decode cX11_odds 61 = .ok (.invokevirtual 256, 3) := by decide +kernel
theorem dX11_odds_64 : decode cX11_odds 64 = .ok (.aload_n 0, 1) := by decide +kernel
theorem dX11_odds_65 : decode cX11_odds 65 = .ok (.getfield 47, 3) := by decide +kernel
theorem dX11_odds_68 : decode cX11_odds 68 = .ok (.iload_n 2, 1) := by decide +kernel
theorem dX11_odds_69 : decode cX11_odds 69 = .ok (.invokevirtual 282, 3) := by decide +kernel
theorem dX11_odds_72 : decode cX11_odds 72 = .ok (.aload_n 0, 1) := by decide +kernel
theorem dX11_odds_73 : decode cX11_odds 73 = .ok (.getfield 47, 3) := by decide +kernel
theorem dX11_odds_76 : decode cX11_odds 76 = .ok (.iload_n 3, 1) := by decide +kernel
theorem dX11_odds_77 : decode cX11_odds 77 = .ok (.invokevirtual 304, 3) := by decide +kernel
theorem dX11_odds_80 : decode cX11_odds 80 = .ok (.istore 5, 2) := by decide +kernel
theorem dX11_odds_82 : decode cX11_odds 82 = .ok (.aload_n 0, 1) := by decide +kernel
theorem dX11_odds_83 : decode cX11_odds 83 = .ok (.getfield 47, 3) := by decide +kernel
theorem dX11_odds_86 : decode cX11_odds 86 = .ok (.invokevirtual 307, 3) := by decide +kernel
theorem dX11_odds_89 : decode cX11_odds 89 = .ok (.istore 6, 2) := by decide +kernel
theorem dX11_odds_91 : decode cX11_odds 91 = .ok (.iload 5, 2) := by decide +kernel
theorem dX11_odds_93 : decode cX11_odds 93 = .ok (.ifCond .ne 6, 3) := by decide +kernel
theorem dX11_odds_96 : decode cX11_odds 96 = .ok (.iload 4, 2) := by decide +kernel
theorem dX11_odds_98 : decode cX11_odds 98 = .ok (.ireturn, 1) := by decide +kernel
theorem dX11_odds_99 : decode cX11_odds 99 = .ok (.iconst 0, 1) := by decide +kernel
theorem dX11_odds_100 : decode cX11_odds 100 = .ok (.istore 7, 2) := by decide +kernel
theorem dX11_odds_102 : decode cX11_odds 102 = .ok (.iload 7, 2) := by decide +kernel
theorem dX11_odds_104 : decode cX11_odds 104 = .ok (.bipush 6, 2) := by decide +kernel
theorem dX11_odds_106 : decode cX11_odds 106 = .ok (.if_icmp .ge 35, 3) := by decide +kernel
theorem dX11_odds_109 : decode cX11_odds 109 = .ok (.iload 5, 2) := by decide +kernel
theorem dX11_odds_111 : decode cX11_odds 111 = .ok (.iconst 2, 1) := by decide +kernel
theorem dX11_odds_112 : decode cX11_odds 112 = .ok (.irem, 1) := by decide +kernel
theorem dX11_odds_113 : decode cX11_odds 113 = .ok (.ifCond .ne 28, 3) := by decide +kernel
theorem dX11_odds_116 : decode cX11_odds 116 = .ok (.iload 6, 2) := by decide +kernel
theorem dX11_odds_118 : decode cX11_odds 118 = .ok (.iconst 2, 1) := by decide +kernel
theorem dX11_odds_119 : decode cX11_odds 119 = .ok (.irem, 1) := by decide +kernel
theorem dX11_odds_120 : decode cX11_odds 120 = .ok (.ifCond .ne 21, 3) := by decide +kernel
theorem dX11_odds_123 : decode cX11_odds 123 = .ok (.iload 5, 2) := by decide +kernel
theorem dX11_odds_125 : decode cX11_odds 125 = .ok (.iconst 2, 1) := by decide +kernel
theorem dX11_odds_126 : decode cX11_odds 126 = .ok (.idiv, 1) := by decide +kernel
theorem dX11_odds_127 : decode cX11_odds 127 = .ok (.istore 5, 2) := by decide +kernel
theorem dX11_odds_129 : decode cX11_odds 129 = .ok (.iload 6, 2) := by decide +kernel
theorem dX11_odds_131 : decode cX11_odds 131 = .ok (.iconst 2, 1) := by decide +kernel
theorem dX11_odds_132 : decode cX11_odds 132 = .ok (.idiv, 1) := by decide +kernel
theorem dX11_odds_133 : decode cX11_odds 133 = .ok (.istore 6, 2) := by decide +kernel
theorem dX11_odds_135 : decode cX11_odds 135 = .ok (.iinc 7 1, 3) := by decide +kernel
theorem dX11_odds_138 : decode cX11_odds 138 = .ok (.goto (-36), 3) := by decide +kernel
theorem dX11_odds_141 : decode cX11_odds 141 = .ok (.iload 4, 2) := by decide +kernel
theorem dX11_odds_143 : decode cX11_odds 143 = .ok (.ifCond .ne 8, 3) := by decide +kernel
theorem dX11_odds_146 : decode cX11_odds 146 = .ok (.iload 5, 2) := by decide +kernel
theorem dX11_odds_148 : decode cX11_odds 148 = .ok (.goto 5, 3) := by decide +kernel
theorem dX11_odds_151 : decode cX11_odds 151 = .ok (.iload 6, 2) := by decide +kernel
theorem dX11_odds_153 : decode cX11_odds 153 = .ok (.ireturn, 1) := by decide +kernel
theorem dX11_seed_0 : decode cX11_seed 0 = .ok (.aload_n 0, 1) := by decide +kernel
theorem dX11_seed_1 : decode cX11_seed 1 = .ok (.getfield 10, 3) := by decide +kernel
theorem dX11_seed_4 : decode cX11_seed 4 = .ok (.getfield 310, 3) := by decide +kernel
theorem dX11_seed_7 : decode cX11_seed 7 = .ok (.istore_n 2, 1) := by decide +kernel
theorem dX11_seed_8 : decode cX11_seed 8 = .ok (.aload_n 0, 1) := by decide +kernel
theorem dX11_seed_9 : decode cX11_seed 9 = .ok (.getfield 10, 3) := by decide +kernel
theorem dX11_seed_12 : decode cX11_seed 12 = .ok (.iload_n 1, 1) := by decide +kernel
theorem dX11_seed_13 : decode cX11_seed 13 = .ok (.putfield 310, 3) := by decide +kernel
theorem dX11_seed_16 : decode cX11_seed 16 = .ok (.iload_n 2, 1) := by decide +kernel
theorem dX11_seed_17 : decode cX11_seed 17 = .ok (.ireturn, 1) := by decide +kernel
theorem dX11_voice_0 : decode cX11_voice 0 = .ok (.aload_n 0, 1) := by decide +kernel
theorem dX11_voice_1 : decode cX11_voice 1 = .ok (.getfield 10, 3) := by decide +kernel
theorem dX11_voice_4 : decode cX11_voice 4 = .ok (.getfield 140, 3) := by decide +kernel
theorem dX11_voice_7 : decode cX11_voice 7 = .ok (.iload_n 1, 1) := by decide +kernel
theorem dX11_voice_8 : decode cX11_voice 8 = .ok (.invokevirtual 153, 3) := by decide +kernel
theorem dX11_voice_11 : decode cX11_voice 11 = .ok (.ifCond .eq 12, 3) := by decide +kernel
theorem dX11_voice_14 : decode cX11_voice 14 = .ok (.iload_n 2, 1) := by decide +kernel
theorem dX11_voice_15 : decode cX11_voice 15 = .ok (.iconst 0, 1) := by decide +kernel
theorem dX11_voice_16 : decode cX11_voice 16 = .ok (.iconst 3, 1) := by decide +kernel
theorem dX11_voice_17 : decode cX11_voice 17 = .ok (.invokestatic 84, 3) := by decide +kernel
theorem dX11_voice_20 : decode cX11_voice 20 = .ok (.ifCond .ne 9, 3) := by decide +kernel
theorem dX11_voice_23 : decode cX11_voice 23 = .ok (.aload_n 0, 1) := by decide +kernel
theorem dX11_voice_24 : decode cX11_voice 24 = .ok (.iconst 1, 1) := by decide +kernel
theorem dX11_voice_25 : decode cX11_voice 25 = .ok (.invokevirtual 88, 3) := by decide +kernel
theorem dX11_voice_28 : decode cX11_voice 28 = .ok (.ireturn, 1) := by decide +kernel
theorem dX11_voice_29 : decode cX11_voice 29 = .ok (.aload_n 0, 1) := by decide +kernel
theorem dX11_voice_30 : decode cX11_voice 30 = .ok (.getfield 54, 3) := by decide +kernel
theorem dX11_voice_33 : decode cX11_voice 33 = .ok (.aload_n 0, 1) := by decide +kernel
theorem dX11_voice_34 : decode cX11_voice 34 = .ok (.getfield 10, 3) := by decide +kernel
theorem dX11_voice_37 : decode cX11_voice 37 = .ok (.getfield 140, 3) := by decide +kernel
theorem dX11_voice_40 : decode cX11_voice 40 = .ok (.iload_n 1, 1) := by decide +kernel
theorem dX11_voice_41 : decode cX11_voice 41 = .ok (.iload_n 2, 1) := by decide +kernel
theorem dX11_voice_42 : decode cX11_voice 42 = .ok (.iload_n 3, 1) := by decide +kernel
theorem dX11_voice_43 : decode cX11_voice 43 = .ok (.invokevirtual 313, 3) := by decide +kernel
theorem dX11_voice_46 : decode cX11_voice 46 = .ok (.ireturn, 1) := by decide +kernel
theorem dX11_trace_0 : decode cX11_trace 0 = .ok (.aload_n 0, 1) := by decide +kernel
theorem dX11_trace_1 : decode cX11_trace 1 = .ok (.getfield 54, 3) := by decide +kernel
theorem dX11_trace_4 : decode cX11_trace 4 = .ok (.invokevirtual 317, 3) := by decide +kernel
theorem dX11_trace_7 : decode cX11_trace 7 = .ok (.iload_n 1, 1) := by decide +kernel
theorem dX11_trace_8 : decode cX11_trace 8 = .ok (.invokevirtual 321, 3) := by decide +kernel
theorem dX11_trace_11 : decode cX11_trace 11 = .ok (.ifCond .eq 17, 3) := by decide +kernel
theorem dX11_trace_14 : decode cX11_trace 14 = .ok (.aload_n 0, 1) := by decide +kernel
theorem dX11_trace_15 : decode cX11_trace 15 = .ok (.getfield 54, 3) := by decide +kernel
theorem dX11_trace_18 : decode cX11_trace 18 = .ok (.invokevirtual 317, 3) := by decide +kernel
theorem dX11_trace_21 : decode cX11_trace 21 = .ok (.iload_n 1, 1) := by decide +kernel
theorem dX11_trace_22 : decode cX11_trace 22 = .ok (.invokevirtual 322, 3) := by decide +kernel
theorem dX11_trace_25 : decode cX11_trace 25 = .ok (.goto 8, 3) := by decide +kernel
theorem dX11_trace_28 : decode cX11_trace 28 = .ok (.aload_n 0, 1) := by decide +kernel
theorem dX11_trace_29 : decode cX11_trace 29 = .ok (.iconst 2, 1) := by decide +kernel
theorem dX11_trace_30 : decode cX11_trace 30 = .ok (.invokevirtual 88, 3) := by decide +kernel
theorem dX11_trace_33 : decode cX11_trace 33 = .ok (.ireturn, 1) := by decide +kernel
theorem dX11_sheet_0 : decode cX11_sheet 0 = .ok (.aload_n 0, 1) := by decide +kernel
theorem dX11_sheet_1 : decode cX11_sheet 1 = .ok (.iload_n 1, 1) := by decide +kernel
theorem dX11_sheet_2 : decode cX11_sheet 2 = .ok (.invokevirtual 239, 3) := by decide +kernel
theorem dX11_sheet_5 : decode cX11_sheet 5 = .ok (.astore 4, 2) := by decide +kernel
theorem dX11_sheet_7 : decode cX11_sheet 7 = .ok (.aload 4, 2) := by decide +kernel
theorem dX11_sheet_9 : decode cX11_sheet 9 = .ok (.ifnull 10, 3) := by decide +kernel
theorem dX11_sheet_12 : decode cX11_sheet 12 = .ok (.iload_n 2, 1) := by decide +kernel
theorem dX11_sheet_13 : decode cX11_sheet 13 = .ok (.invokestatic 325, 3) := by decide +kernel
theorem dX11_sheet_16 : decode cX11_sheet 16 = .ok (.ifCond .ne 9, 3) := by decide +kernel
theorem dX11_sheet_19 : decode cX11_sheet 19 = .ok (.aload_n 0, 1) := by decide +kernel
theorem dX11_sheet_20 : decode cX11_sheet 20 = .ok (.iconst 1, 1) := by decide +kernel
theorem dX11_sheet_21 : decode cX11_sheet 21 = .ok (.invokevirtual 88, 3) := by decide +kernel
theorem dX11_sheet_24 : decode cX11_sheet 24 = .ok (.ireturn, 1) := by decide +kernel
theorem dX11_sheet_25 : decode cX11_sheet 25 = .ok (.iload_n 2, 1) := by decide +kernel
theorem dX11_sheet_26 : decode cX11_sheet 26 = .ok (.ifCond .ne 10, 3) := by decide +kernel
theorem dX11_sheet_29 : decode cX11_sheet 29 = .ok (.aload 4, 2) := by decide +kernel
theorem dX11_sheet_31 : decode cX11_sheet 31 = .ok (.invokevirtual 328, 3) := by decide +kernel
theorem dX11_sheet_34 : decode cX11_sheet 34 = .ok (.iconst 1, 1) := by decide +kernel
theorem dX11_sheet_35 : decode cX11_sheet 35 = .ok (.ireturn, 1) := by decide +kernel
theorem dX11_sheet_36 : decode cX11_sheet 36 = .ok (.iload_n 3, 1) := by decide +kernel
theorem dX11_sheet_37 : decode cX11_sheet 37 = .ok (.ifCond .ge 9, 3) := by decide +kernel
theorem dX11_sheet_40 : decode cX11_sheet 40 = .ok (.aload_n 0, 1) := by decide +kernel
theorem dX11_sheet_41 : decode cX11_sheet 41 = .ok (.iconst 3, 1) := by decide +kernel
theorem dX11_sheet_42 : decode cX11_sheet 42 = .ok (.invokevirtual 88, 3) := by decide +kernel
theorem dX11_sheet_45 : decode cX11_sheet 45 = .ok (.ireturn, 1) := by decide +kernel
theorem dX11_sheet_46 : decode cX11_sheet 46 = .ok (.iload_n 3, 1) := by decide +kernel
theorem dX11_sheet_47 : decode cX11_sheet 47 = .ok (.bipush 40, 2) := by decide +kernel
theorem dX11_sheet_49 : decode cX11_sheet 49 = .ok (.if_icmp .le 9, 3) := by decide +kernel
theorem dX11_sheet_52 : decode cX11_sheet 52 = .ok (.aload_n 0, 1) := by decide +kernel
theorem dX11_sheet_53 : decode cX11_sheet 53 = .ok (.iconst 1, 1) := by decide +kernel
theorem dX11_sheet_54 : decode cX11_sheet 54 = .ok (.invokevirtual 88, 3) := by decide +kernel
theorem dX11_sheet_57 : decode cX11_sheet 57 = .ok (.ireturn, 1) := by decide +kernel
theorem dX11_sheet_58 : decode cX11_sheet 58 = .ok (.aload 4, 2) := by decide +kernel
theorem dX11_sheet_60 : decode cX11_sheet 60 = .ok (.iload_n 2, 1) := by decide +kernel
theorem dX11_sheet_61 : decode cX11_sheet 61 = .ok (.iload_n 3, 1) := by decide +kernel
theorem dX11_sheet_62 : decode cX11_sheet 62 = .ok (.invokevirtual 331, 3) := by decide +kernel
theorem dX11_sheet_65 : decode cX11_sheet 65 = .ok (.iconst 1, 1) := by decide +kernel
theorem dX11_sheet_66 : decode cX11_sheet 66 = .ok (.ireturn, 1) := by decide +kernel
theorem dX11_put_0 : decode cX11_put 0 = .ok (.aload_n 0, 1) := by decide +kernel
theorem dX11_put_1 : decode cX11_put 1 = .ok (.iload_n 1, 1) := by decide +kernel
theorem dX11_put_2 : decode cX11_put 2 = .ok (.invokevirtual 239, 3) := by decide +kernel
theorem dX11_put_5 : decode cX11_put 5 = .ok (.astore 4, 2) := by decide +kernel
theorem dX11_put_7 : decode cX11_put 7 = .ok (.aload 4, 2) := by decide +kernel
theorem dX11_put_9 : decode cX11_put 9 = .ok (.ifnonnull 9, 3) := by decide +kernel
theorem dX11_put_12 : decode cX11_put 12 = .ok (.aload_n 0, 1) := by decide +kernel
theorem dX11_put_13 : decode cX11_put 13 = .ok (.iconst 1, 1) := by decide +kernel
theorem dX11_put_14 : decode cX11_put 14 = .ok (.invokevirtual 88, 3) := by decide +kernel
theorem dX11_put_17 : decode cX11_put 17 = .ok (.ireturn, 1) := by decide +kernel
theorem dX11_put_18 : decode cX11_put 18 = .ok (.aload 4, 2) := by decide +kernel
theorem dX11_put_20 : decode cX11_put 20 = .ok (.invokevirtual 243, 3) := by decide +kernel
theorem dX11_put_23 : decode cX11_put 23 = .ok (.ifCond .eq 9, 3) := by decide +kernel
theorem dX11_put_26 : decode cX11_put 26 = .ok (.aload_n 0, 1) := by decide +kernel
theorem dX11_put_27 : decode cX11_put 27 = .ok (.iconst 2, 1) := by decide +kernel
theorem dX11_put_28 : decode cX11_put 28 = .ok (.invokevirtual 88, 3) := by decide +kernel
theorem dX11_put_31 : decode cX11_put 31 = .ok (.ireturn, 1) := by decide +kernel
theorem dX11_put_32 : decode cX11_put 32 = .ok (.aload 4, 2) := by decide +kernel
theorem dX11_put_34 : decode cX11_put 34 = .ok (.getfield 246, 3) := by decide +kernel
theorem dX11_put_37 : decode cX11_put 37 = .ok (.iload_n 2, 1) := by decide +kernel
theorem dX11_put_38 : decode cX11_put 38 = .ok (.invokevirtual 321, 3) := by decide +kernel
theorem dX11_put_41 : decode cX11_put 41 = .ok (.ifCond .ne 9, 3) := by decide +kernel
theorem dX11_put_44 : decode cX11_put 44 = .ok (.aload_n 0, 1) := by decide +kernel
theorem dX11_put_45 : decode cX11_put 45 = .ok (.iconst 1, 1) := by decide +kernel
theorem dX11_put_46 : decode cX11_put 46 = .ok (.invokevirtual 88, 3) := by decide +kernel
theorem dX11_put_49 : decode cX11_put 49 = .ok (.ireturn, 1) := by decide +kernel
theorem dX11_put_50 : decode cX11_put 50 = .ok (.aload 4, 2) := by decide +kernel
theorem dX11_put_52 : decode cX11_put 52 = .ok (.iload_n 2, 1) := by decide +kernel
theorem dX11_put_53 : decode cX11_put 53 = .ok (.iload_n 3, 1) := by decide +kernel
theorem dX11_put_54 : decode cX11_put 54 = .ok (.invokevirtual 334, 3) := by decide +kernel
theorem dX11_put_57 : decode cX11_put 57 = .ok (.iconst 1, 1) := by decide +kernel
theorem dX11_put_58 : decode cX11_put 58 = .ok (.ireturn, 1) := by decide +kernel
theorem dX11_move_0 : decode cX11_move 0 = .ok (.aload_n 0, 1) := by decide +kernel
theorem dX11_move_1 : decode cX11_move 1 = .ok (.iload_n 1, 1) := by decide +kernel
theorem dX11_move_2 : decode cX11_move 2 = .ok (.invokevirtual 239, 3) := by decide +kernel
theorem dX11_move_5 : decode cX11_move 5 = .ok (.astore 6, 2) := by decide +kernel
theorem dX11_move_7 : decode cX11_move 7 = .ok (.aload_n 0, 1) := by decide +kernel
theorem dX11_move_8 : decode cX11_move 8 = .ok (.iload_n 3, 1) := by decide +kernel
theorem dX11_move_9 : decode cX11_move 9 = .ok (.invokevirtual 239, 3) := by decide +kernel
theorem dX11_move_12 : decode cX11_move 12 = .ok (.astore 7, 2) := by decide +kernel
theorem dX11_move_14 : decode cX11_move 14 = .ok (.aload 6, 2) := by decide +kernel
theorem dX11_move_16 : decode cX11_move 16 = .ok (.ifnull 8, 3) := by decide +kernel
theorem dX11_move_19 : decode cX11_move 19 = .ok (.aload 7, 2) := by decide +kernel
theorem dX11_move_21 : decode cX11_move 21 = .ok (.ifnonnull 9, 3) := by decide +kernel
theorem dX11_move_24 : decode cX11_move 24 = .ok (.aload_n 0, 1) := by decide +kernel
theorem dX11_move_25 : decode cX11_move 25 = .ok (.iconst 1, 1) := by decide +kernel
theorem dX11_move_26 : decode cX11_move 26 = .ok (.invokevirtual 88, 3) := by decide +kernel
theorem dX11_move_29 : decode cX11_move 29 = .ok (.ireturn, 1) := by decide +kernel
theorem dX11_move_30 : decode cX11_move 30 = .ok (.aload 6, 2) := by decide +kernel
theorem dX11_move_32 : decode cX11_move 32 = .ok (.invokevirtual 243, 3) := by decide +kernel
theorem dX11_move_35 : decode cX11_move 35 = .ok (.ifCond .ne 11, 3) := by decide +kernel
theorem dX11_move_38 : decode cX11_move 38 = .ok (.aload 7, 2) := by decide +kernel
theorem dX11_move_40 : decode cX11_move 40 = .ok (.invokevirtual 243, 3) := by decide +kernel
theorem dX11_move_43 : decode cX11_move 43 = .ok (.ifCond .eq 9, 3) := by decide +kernel
theorem dX11_move_46 : decode cX11_move 46 = .ok (.aload_n 0, 1) := by decide +kernel
theorem dX11_move_47 : decode cX11_move 47 = .ok (.iconst 2, 1) := by decide +kernel
theorem dX11_move_48 : decode cX11_move 48 = .ok (.invokevirtual 88, 3) := by decide +kernel
theorem dX11_move_51 : decode cX11_move 51 = .ok (.ireturn, 1) := by decide +kernel
theorem dX11_move_52 : decode cX11_move 52 = .ok (.aload 6, 2) := by decide +kernel
theorem dX11_move_54 : decode cX11_move 54 = .ok (.invokevirtual 337, 3) := by decide +kernel
theorem dX11_move_57 : decode cX11_move 57 = .ok (.aload 7, 2) := by decide +kernel
theorem dX11_move_59 : decode cX11_move 59 = .ok (.invokevirtual 337, 3) := by decide +kernel
theorem dX11_move_62 : decode cX11_move 62 = .ok (.if_icmp .eq 9, 3) := by decide +kernel
theorem dX11_move_65 : decode cX11_move 65 = .ok (.aload_n 0, 1) := by decide +kernel
theorem dX11_move_66 : decode cX11_move 66 = .ok (.iconst 5, 1) := by decide +kernel
theorem dX11_move_67 : decode cX11_move 67 = .ok (.invokevirtual 88, 3) := by decide +kernel
theorem dX11_move_70 : decode cX11_move 70 = .ok (.ireturn, 1) := by decide +kernel
theorem dX11_move_71 : decode cX11_move 71 = .ok (.aload 6, 2) := by decide +kernel
theorem dX11_move_73 : decode cX11_move 73 = .ok (.getfield 246, 3) := by decide +kernel
theorem dX11_move_76 : decode cX11_move 76 = .ok (.iload_n 2, 1) := by decide +kernel
theorem dX11_move_77 : decode cX11_move 77 = .ok (.iload 5, 2) := by decide +kernel
theorem dX11_move_79 : decode cX11_move 79 = .ok (.invokevirtual 340, 3) := by decide +kernel
theorem dX11_move_82 : decode cX11_move 82 = .ok (.ifCond .eq 18, 3) := by decide +kernel
theorem dX11_move_85 : decode cX11_move 85 = .ok (.aload 7, 2) := by decide +kernel
theorem dX11_move_87 : decode cX11_move 87 = .ok (.getfield 246, 3) := by decide +kernel
theorem dX11_move_90 : decode cX11_move 90 = .ok (.iload 4, 2) := by decide +kernel
theorem dX11_move_92 : decode cX11_move 92 = .ok (.iload 5, 2) := by decide +kernel
theorem dX11_move_94 : decode cX11_move 94 = .ok (.invokevirtual 340, 3) := by decide +kernel
theorem dX11_move_97 : decode cX11_move 97 = .ok (.ifCond .ne 9, 3) := by decide +kernel
theorem dX11_move_100 : decode cX11_move 100 = .ok (.aload_n 0, 1) := by decide +kernel
theorem dX11_move_101 : decode cX11_move 101 = .ok (.iconst 1, 1) := by decide +kernel
theorem dX11_move_102 : decode cX11_move 102 = .ok (.invokevirtual 88, 3) := by decide +kernel
theorem dX11_move_105 : decode cX11_move 105 = .ok (.ireturn, 1) := by decide +kernel
theorem dX11_move_106 : decode cX11_move 106 = .ok (.aload 7, 2) := by decide +kernel
theorem dX11_move_108 : decode cX11_move 108 = .ok (.getfield 246, 3) := by decide +kernel
theorem dX11_move_111 : decode cX11_move 111 = .ok (.iload 4, 2) := by decide +kernel
theorem dX11_move_113 : decode cX11_move 113 = .ok (.aload 6, 2) := by decide +kernel
theorem dX11_move_115 : decode cX11_move 115 = .ok (.getfield 246, 3) := by decide +kernel
theorem dX11_move_118 : decode cX11_move 118 = .ok (.iload_n 2, 1) := by decide +kernel
theorem dX11_move_119 : decode cX11_move 119 = .ok (.iload 5, 2) := by decide +kernel
theorem dX11_move_121 : decode cX11_move 121 = .ok (.invokevirtual 343, 3) := by decide +kernel
theorem dX11_move_124 : decode cX11_move 124 = .ok (.iload 5, 2) := by decide +kernel
theorem dX11_move_126 : decode cX11_move 126 = .ok (.ireturn, 1) := by decide +kernel
theorem dX11_whites_0 : decode cX11_whites 0 = .ok (.aload_n 0, 1) := by decide +kernel
theorem dX11_whites_1 : decode cX11_whites 1 = .ok (.iload_n 1, 1) := by decide +kernel
theorem dX11_whites_2 : decode cX11_whites 2 = .ok (.invokevirtual 239, 3) := by decide +kernel
theorem dX11_whites_5 : decode cX11_whites 5 = .ok (.astore_n 2, 1) := by decide +kernel
theorem dX11_whites_6 : decode cX11_whites 6 = .ok (.aload_n 2, 1) := by decide +kernel
theorem dX11_whites_7 : decode cX11_whites 7 = .ok (.ifnonnull 9, 3) := by decide +kernel
theorem dX11_whites_10 : decode cX11_whites 10 = .ok (.aload_n 0, 1) := by decide +kernel
theorem dX11_whites_11 : decode cX11_whites 11 = .ok (.iconst 1, 1) := by decide +kernel
theorem dX11_whites_12 : decode cX11_whites 12 = .ok (.invokevirtual 88, 3) := by decide +kernel
theorem dX11_whites_15 : decode cX11_whites 15 = .ok (.ireturn, 1) := by decide +kernel
theorem dX11_whites_16 : decode cX11_whites 16 = .ok (.aload_n 2, 1) := by decide +kernel
theorem dX11_whites_17 : decode cX11_whites 17 = .ok (.invokevirtual 243, 3) := by decide +kernel
theorem dX11_whites_20 : decode cX11_whites 20 = .ok (.ifCond .eq 9, 3) := by decide +kernel
theorem dX11_whites_23 : decode cX11_whites 23 = .ok (.aload_n 0, 1) := by decide +kernel
theorem dX11_whites_24 : decode cX11_whites 24 = .ok (.iconst 2, 1) := by decide +kernel
theorem dX11_whites_25 : decode cX11_whites 25 = .ok (.invokevirtual 88, 3) := by decide +kernel
theorem dX11_whites_28 : decode cX11_whites 28 = .ok (.ireturn, 1) := by decide +kernel
theorem dX11_whites_29 : decode cX11_whites 29 = .ok (.aload_n 0, 1) := by decide +kernel
theorem dX11_whites_30 : decode cX11_whites 30 = .ok (.getfield 10, 3) := by decide +kernel
theorem dX11_whites_33 : decode cX11_whites 33 = .ok (.getfield 92, 3) := by decide +kernel
theorem dX11_whites_36 : decode cX11_whites 36 = .ok (.aload_n 2, 1) := by decide +kernel
theorem dX11_whites_37 : decode cX11_whites 37 = .ok (.getfield 246, 3) := by decide +kernel
theorem dX11_whites_40 : decode cX11_whites 40 = .ok (.invokevirtual 347, 3) := by decide +kernel
theorem dX11_whites_43 : decode cX11_whites 43 = .ok (.ireturn, 1) := by decide +kernel
theorem dX11_judge_0 : decode cX11_judge 0 = .ok (.aload_n 0, 1) := by decide +kernel
theorem dX11_judge_1 : decode cX11_judge 1 = .ok (.iload_n 1, 1) := by decide +kernel
theorem dX11_judge_2 : decode cX11_judge 2 = .ok (.invokevirtual 239, 3) := by decide +kernel
theorem dX11_judge_5 : decode cX11_judge 5 = .ok (.astore_n 2, 1) := by decide +kernel
theorem dX11_judge_6 : decode cX11_judge 6 = .ok (.aload_n 2, 1) := by decide +kernel
theorem dX11_judge_7 : decode cX11_judge 7 = .ok (.ifnonnull 9, 3) := by decide +kernel
theorem dX11_judge_10 : decode cX11_judge 10 = .ok (.aload_n 0, 1) := by decide +kernel
theorem dX11_judge_11 : decode cX11_judge 11 = .ok (.iconst 1, 1) := by decide +kernel
theorem dX11_judge_12 : decode cX11_judge 12 = .ok (.invokevirtual 88, 3) := by decide +kernel
theorem dX11_judge_15 : decode cX11_judge 15 = .ok (.ireturn, 1) := by decide +kernel
theorem dX11_judge_16 : decode cX11_judge 16 = .ok (.aload_n 2, 1) := by decide +kernel
theorem dX11_judge_17 : decode cX11_judge 17 = .ok (.invokevirtual 243, 3) := by decide +kernel
theorem dX11_judge_20 : decode cX11_judge 20 = .ok (.ifCond .eq 9, 3) := by decide +kernel
theorem dX11_judge_23 : decode cX11_judge 23 = .ok (.aload_n 0, 1) := by decide +kernel
theorem dX11_judge_24 : decode cX11_judge 24 = .ok (.iconst 2, 1) := by decide +kernel
theorem dX11_judge_25 : decode cX11_judge 25 = .ok (.invokevirtual 88, 3) := by decide +kernel
theorem dX11_judge_28 : decode cX11_judge 28 = .ok (.ireturn, 1) := by decide +kernel
theorem dX11_judge_29 : decode cX11_judge 29 = .ok (.aload_n 0, 1) := by decide +kernel
theorem dX11_judge_30 : decode cX11_judge 30 = .ok (.getfield 10, 3) := by decide +kernel
theorem dX11_judge_33 : decode cX11_judge 33 = .ok (.getfield 92, 3) := by decide +kernel
theorem dX11_judge_36 : decode cX11_judge 36 = .ok (.aload_n 2, 1) := by decide +kernel
theorem dX11_judge_37 : decode cX11_judge 37 = .ok (.getfield 246, 3) := by decide +kernel
theorem dX11_judge_40 : decode cX11_judge 40 = .ok (.invokevirtual 351, 3) := by decide +kernel
theorem dX11_judge_43 : decode cX11_judge 43 = .ok (.ireturn, 1) := by decide +kernel
theorem dX11_image_0 : decode cX11_image 0 = .ok (.aload_n 0, 1) := by decide +kernel
theorem dX11_image_1 : decode cX11_image 1 = .ok (.getfield 16, 3) := by decide +kernel
theorem dX11_image_4 : decode cX11_image 4 = .ok (.aload_n 0, 1) := by decide +kernel
theorem dX11_image_5 : decode cX11_image 5 = .ok (.getfield 10, 3) := by decide +kernel
theorem dX11_image_8 : decode cX11_image 8 = .ok (.invokevirtual 354, 3) := by decide +kernel
theorem dX11_image_11 : decode cX11_image 11 = .ok (.aload_n 0, 1) := by decide +kernel
theorem dX11_image_12 : decode cX11_image 12 = .ok (.dup, 1) := by decide +kernel
theorem dX11_image_13 : decode cX11_image 13 = .ok (.getfield 74, 3) := by decide +kernel
theorem dX11_image_16 : decode cX11_image 16 = .ok (.iconst 1, 1) := by decide +kernel
theorem dX11_image_17 : decode cX11_image 17 = .ok (.iadd, 1) := by decide +kernel
theorem dX11_image_18 : decode cX11_image 18 = .ok (.putfield 74, 3) := by decide +kernel
theorem dX11_image_21 : decode cX11_image 21 = .ok (.aload_n 0, 1) := by decide +kernel
theorem dX11_image_22 : decode cX11_image 22 = .ok (.getfield 74, 3) := by decide +kernel
theorem dX11_image_25 : decode cX11_image 25 = .ok (.ireturn, 1) := by decide +kernel
theorem dX11_restore_0 : decode cX11_restore 0 = .ok (.aload_n 0, 1) := by decide +kernel
theorem dX11_restore_1 : decode cX11_restore 1 = .ok (.getfield 74, 3) := by decide +kernel
theorem dX11_restore_4 : decode cX11_restore 4 = .ok (.ifCond .ne 9, 3) := by decide +kernel
theorem dX11_restore_7 : decode cX11_restore 7 = .ok (.aload_n 0, 1) := by decide +kernel
theorem dX11_restore_8 : decode cX11_restore 8 = .ok (.iconst 2, 1) := by decide +kernel
theorem dX11_restore_9 : decode cX11_restore 9 = .ok (.invokevirtual 88, 3) := by decide +kernel
theorem dX11_restore_12 : decode cX11_restore 12 = .ok (.ireturn, 1) := by decide +kernel
theorem dX11_restore_13 : decode cX11_restore 13 = .ok (.aload_n 0, 1) := by decide +kernel
theorem dX11_restore_14 : decode cX11_restore 14 = .ok (.getfield 10, 3) := by decide +kernel
theorem dX11_restore_17 : decode cX11_restore 17 = .ok (.aload_n 0, 1) := by decide +kernel
theorem dX11_restore_18 : decode cX11_restore 18 = .ok (.getfield 16, 3) := by decide +kernel
theorem dX11_restore_21 : decode cX11_restore 21 = .ok (.invokevirtual 354, 3) := by decide +kernel
theorem dX11_restore_24 : decode cX11_restore 24 = .ok (.aload_n 0, 1) := by decide +kernel
theorem dX11_restore_25 : decode cX11_restore 25 = .ok (.getfield 38, 3) := by decide +kernel
theorem dX11_restore_28 : decode cX11_restore 28 = .ok (.invokevirtual 202, 3) := by decide +kernel
theorem dX11_restore_31 : decode cX11_restore 31 = .ok (.aload_n 0, 1) := by decide +kernel
theorem dX11_restore_32 : decode cX11_restore 32 = .ok (.getfield 10, 3) := by decide +kernel
theorem dX11_restore_35 : decode cX11_restore 35 = .ok (.getfield 92, 3) := by decide +kernel
theorem dX11_restore_38 : decode cX11_restore 38 = .ok (.invokevirtual 220, 3) := by decide +kernel
theorem dX11_restore_41 : decode cX11_restore 41 = .ok (.ireturn, 1) := by decide +kernel
theorem dX11_tell_0 : decode cX11_tell 0 = .ok (.aload_n 0, 1) := by decide +kernel
theorem dX11_tell_1 : decode cX11_tell 1 = .ok (.getfield 10, 3) := by decide +kernel
theorem dX11_tell_4 : decode cX11_tell 4 = .ok (.getfield 358, 3) := by decide +kernel
theorem dX11_tell_7 : decode cX11_tell 7 = .ok (.iload_n 1, 1) := by decide +kernel
theorem dX11_tell_8 : decode cX11_tell 8 = .ok (.invokevirtual 188, 3) := by decide +kernel
theorem dX11_tell_11 : decode cX11_tell 11 = .ok (.ifCond .ne 9, 3) := by decide +kernel
theorem dX11_tell_14 : decode cX11_tell 14 = .ok (.aload_n 0, 1) := by decide +kernel
theorem dX11_tell_15 : decode cX11_tell 15 = .ok (.iconst 4, 1) := by decide +kernel
theorem dX11_tell_16 : decode cX11_tell 16 = .ok (.invokevirtual 88, 3) := by decide +kernel
theorem dX11_tell_19 : decode cX11_tell 19 = .ok (.ireturn, 1) := by decide +kernel
theorem dX11_tell_20 : decode cX11_tell 20 = .ok (.aload_n 0, 1) := by decide +kernel
theorem dX11_tell_21 : decode cX11_tell 21 = .ok (.getfield 10, 3) := by decide +kernel
theorem dX11_tell_24 : decode cX11_tell 24 = .ok (.getfield 358, 3) := by decide +kernel
theorem dX11_tell_27 : decode cX11_tell 27 = .ok (.invokevirtual 183, 3) := by decide +kernel
theorem dX11_tell_30 : decode cX11_tell 30 = .ok (.ireturn, 1) := by decide +kernel
theorem dX11_check_0 : decode cX11_check 0 = .ok (.aload_n 0, 1) := by decide +kernel
theorem dX11_check_1 : decode cX11_check 1 = .ok (.getfield 10, 3) := by decide +kernel
theorem dX11_check_4 : decode cX11_check 4 = .ok (.getfield 140, 3) := by decide +kernel
theorem dX11_check_7 : decode cX11_check 7 = .ok (.iconst 0, 1) := by decide +kernel
theorem dX11_check_8 : decode cX11_check 8 = .ok (.invokevirtual 153, 3) := by decide +kernel
theorem dX11_check_11 : decode cX11_check 11 = .ok (.istore_n 1, 1) := by decide +kernel
theorem dX11_check_12 : decode cX11_check 12 = .ok (.iconst 0, 1) := by decide +kernel
theorem dX11_check_13 : decode cX11_check 13 = .ok (.istore_n 2, 1) := by decide +kernel
theorem dX11_check_14 : decode cX11_check 14 = .ok (.aload_n 0, 1) := by decide +kernel
theorem dX11_check_15 : decode cX11_check 15 = .ok (.getfield 47, 3) := by decide +kernel
theorem dX11_check_18 : decode cX11_check 18 = .ok (.aload_n 0, 1) := by decide +kernel
theorem dX11_check_19 : decode cX11_check 19 = .ok (.getfield 10, 3) := by decide +kernel
theorem dX11_check_22 : decode cX11_check 22 = .ok (.invokevirtual 361, 3) := by decide +kernel
theorem dX11_check_25 : decode cX11_check 25 = .ok (.iconst 0, 1) := by decide +kernel
theorem dX11_check_26 : decode cX11_check 26 = .ok (.istore_n 3, 1) := by decide +kernel
theorem dX11_check_27 : decode cX11_check 27 = .ok (.iload_n 3, 1) := by decide +kernel
theorem dX11_check_28 : decode cX11_check 28 = .ok (.aload_n 0, 1) := by decide +kernel
theorem dX11_check_29 : decode cX11_check 29 = .ok (.getfield 10, 3) := by decide +kernel
theorem dX11_check_32 : decode cX11_check 32 = .ok (.getfield 358, 3) := by decide +kernel
theorem dX11_check_35 : decode cX11_check 35 = .ok (.invokevirtual 183, 3) := by decide +kernel
theorem dX11_check_38 : decode cX11_check 38 = .ok (.if_icmp .ge 66, 3) := by decide +kernel
theorem dX11_check_41 : decode cX11_check 41 = .ok (.iload_n 2, 1) := by decide +kernel
theorem dX11_check_42 : decode cX11_check 42 = .ok (.ifCond .ne 62, 3) := by decide +kernel
theorem dX11_check_45 : decode cX11_check 45 = .ok (.iload_n 1, 1) := by decide +kernel
theorem dX11_check_46 : decode cX11_check 46 = .ok (.ifCond .eq 16, 3) := by decide +kernel
theorem dX11_check_49 : decode cX11_check 49 = .ok (.aload_n 0, 1) := by decide +kernel
theorem dX11_check_50 : decode cX11_check 50 = .ok (.getfield 47, 3) := by decide +kernel
theorem dX11_check_53 : decode cX11_check 53 = .ok (.aload_n 0, 1) := by decide +kernel
theorem dX11_check_54 : decode cX11_check 54 = .ok (.getfield 10, 3) := by decide +kernel
theorem dX11_check_57 : decode cX11_check 57 = .ok (.iconst 0, 1) := by decide +kernel
theorem dX11_check_58 : decode cX11_check 58 = .ok (.iload_n 3, 1) := by decide +kernel
theorem dX11_check_59 : decode cX11_check 59 = .ok (.invokevirtual 364, 3) := by decide +kernel
theorem dX11_check_62 : decode cX11_check 62 = .ok (.iload_n 1, 1) := by decide +kernel
theorem dX11_check_63 : decode cX11_check 63 = .ok (.ifCond .eq 31, 3) := by decide +kernel
theorem dX11_check_66 : decode cX11_check 66 = .ok (.aload_n 0, 1) := by decide +kernel
theorem dX11_check_67 : decode cX11_check 67 = .ok (.getfield 38, 3) := by decide +kernel
theorem dX11_check_70 : decode cX11_check 70 = .ok (.aload_n 0, 1) := by decide +kernel
theorem dX11_check_71 : decode cX11_check 71 = .ok (.getfield 47, 3) := by decide +kernel
theorem dX11_check_74 : decode cX11_check 74 = .ok (.invokevirtual 368, 3) := by decide +kernel
theorem dX11_check_77 : decode cX11_check 77 = .ok (.invokevirtual 232, 3) := by decide +kernel
theorem dX11_check_80 : decode cX11_check 80 = .ok (.aload_n 0, 1) := by decide +kernel
theorem dX11_check_81 : decode cX11_check 81 = .ok (.getfield 10, 3) := by decide +kernel
theorem dX11_check_84 : decode cX11_check 84 = .ok (.getfield 358, 3) := by decide +kernel
theorem dX11_check_87 : decode cX11_check 87 = .ok (.iload_n 3, 1) := by decide +kernel
theorem dX11_check_88 : decode cX11_check 88 = .ok (.invokevirtual 322, 3) := by decide +kernel
theorem dX11_check_91 : decode cX11_check 91 = .ok (.if_icmp .eq 7, 3) := by decide +kernel
theorem dX11_check_94 : decode cX11_check 94 = .ok (.iconst 1, 1) := by decide +kernel
theorem dX11_check_95 : decode cX11_check 95 = .ok (.iload_n 3, 1) := by decide +kernel
theorem dX11_check_96 : decode cX11_check 96 = .ok (.iadd, 1) := by decide +kernel
theorem dX11_check_97 : decode cX11_check 97 = .ok (.istore_n 2, 1) := by decide +kernel
theorem dX11_check_98 : decode cX11_check 98 = .ok (.iinc 3 1, 3) := by decide +kernel
theorem dX11_check_101 : decode cX11_check 101 = .ok (.goto (-74), 3) := by decide +kernel
theorem dX11_check_104 : decode cX11_check 104 = .ok (.aload_n 0, 1) := by decide +kernel
theorem dX11_check_105 : decode cX11_check 105 = .ok (.getfield 10, 3) := by decide +kernel
theorem dX11_check_108 : decode cX11_check 108 = .ok (.getfield 358, 3) := by decide +kernel
theorem dX11_check_111 : decode cX11_check 111 = .ok (.invokevirtual 199, 3) := by decide +kernel
theorem dX11_check_114 : decode cX11_check 114 = .ok (.iload_n 2, 1) := by decide +kernel
theorem dX11_check_115 : decode cX11_check 115 = .ok (.ireturn, 1) := by decide +kernel
theorem dX11_count_0 : decode cX11_count 0 = .ok (.iload_n 1, 1) := by decide +kernel
theorem dX11_count_1 : decode cX11_count 1 = .ok (.tableswitch 192 0 11 #[63, 74, 85, 96, 107, 118, 129, 140, 151, 162, 173, 184], 63) := by decide +kernel
theorem dX11_count_64 : decode cX11_count 64 = .ok (.aload_n 0, 1) := by decide +kernel
theorem dX11_count_65 : decode cX11_count 65 = .ok (.getfield 10, 3) := by decide +kernel
theorem dX11_count_68 : decode cX11_count 68 = .ok (.getfield 92, 3) := by decide +kernel
theorem dX11_count_71 : decode cX11_count 71 = .ok (.invokevirtual 372, 3) := by decide +kernel
theorem dX11_count_74 : decode cX11_count 74 = .ok (.ireturn, 1) := by decide +kernel
theorem dX11_count_75 : decode cX11_count 75 = .ok (.aload_n 0, 1) := by decide +kernel
theorem dX11_count_76 : decode cX11_count 76 = .ok (.getfield 10, 3) := by decide +kernel
theorem dX11_count_79 : decode cX11_count 79 = .ok (.getfield 140, 3) := by decide +kernel
theorem dX11_count_82 : decode cX11_count 82 = .ok (.invokevirtual 226, 3) := by decide +kernel
theorem dX11_count_85 : decode cX11_count 85 = .ok (.ireturn, 1) := by decide +kernel
theorem dX11_count_86 : decode cX11_count 86 = .ok (.aload_n 0, 1) := by decide +kernel
theorem dX11_count_87 : decode cX11_count 87 = .ok (.getfield 10, 3) := by decide +kernel
theorem dX11_count_90 : decode cX11_count 90 = .ok (.getfield 92, 3) := by decide +kernel
theorem dX11_count_93 : decode cX11_count 93 = .ok (.invokevirtual 220, 3) := by decide +kernel
theorem dX11_count_96 : decode cX11_count 96 = .ok (.ireturn, 1) := by decide +kernel
theorem dX11_count_97 : decode cX11_count 97 = .ok (.aload_n 0, 1) := by decide +kernel
theorem dX11_count_98 : decode cX11_count 98 = .ok (.getfield 10, 3) := by decide +kernel
theorem dX11_count_101 : decode cX11_count 101 = .ok (.getfield 92, 3) := by decide +kernel
theorem dX11_count_104 : decode cX11_count 104 = .ok (.invokevirtual 375, 3) := by decide +kernel
theorem dX11_count_107 : decode cX11_count 107 = .ok (.ireturn, 1) := by decide +kernel
theorem dX11_count_108 : decode cX11_count 108 = .ok (.aload_n 0, 1) := by decide +kernel
theorem dX11_count_109 : decode cX11_count 109 = .ok (.getfield 10, 3) := by decide +kernel
theorem dX11_count_112 : decode cX11_count 112 = .ok (.getfield 92, 3) := by decide +kernel
theorem dX11_count_115 : decode cX11_count 115 = .ok (.invokevirtual 378, 3) := by decide +kernel
theorem dX11_count_118 : decode cX11_count 118 = .ok (.ireturn, 1) := by decide +kernel
theorem dX11_count_119 : decode cX11_count 119 = .ok (.aload_n 0, 1) := by decide +kernel
theorem dX11_count_120 : decode cX11_count 120 = .ok (.getfield 10, 3) := by decide +kernel
theorem dX11_count_123 : decode cX11_count 123 = .ok (.getfield 92, 3) := by decide +kernel
theorem dX11_count_126 : decode cX11_count 126 = .ok (.invokevirtual 381, 3) := by decide +kernel
theorem dX11_count_129 : decode cX11_count 129 = .ok (.ireturn, 1) := by decide +kernel
theorem dX11_count_130 : decode cX11_count 130 = .ok (.aload_n 0, 1) := by decide +kernel
theorem dX11_count_131 : decode cX11_count 131 = .ok (.getfield 10, 3) := by decide +kernel
theorem dX11_count_134 : decode cX11_count 134 = .ok (.getfield 92, 3) := by decide +kernel
theorem dX11_count_137 : decode cX11_count 137 = .ok (.invokevirtual 384, 3) := by decide +kernel
theorem dX11_count_140 : decode cX11_count 140 = .ok (.ireturn, 1) := by decide +kernel
theorem dX11_count_141 : decode cX11_count 141 = .ok (.aload_n 0, 1) := by decide +kernel
theorem dX11_count_142 : decode cX11_count 142 = .ok (.getfield 10, 3) := by decide +kernel
theorem dX11_count_145 : decode cX11_count 145 = .ok (.getfield 92, 3) := by decide +kernel
theorem dX11_count_148 : decode cX11_count 148 = .ok (.invokevirtual 123, 3) := by decide +kernel
theorem dX11_count_151 : decode cX11_count 151 = .ok (.ireturn, 1) := by decide +kernel
theorem dX11_count_152 : decode cX11_count 152 = .ok (.aload_n 0, 1) := by decide +kernel
theorem dX11_count_153 : decode cX11_count 153 = .ok (.getfield 10, 3) := by decide +kernel
theorem dX11_count_156 : decode cX11_count 156 = .ok (.getfield 180, 3) := by decide +kernel
theorem dX11_count_159 : decode cX11_count 159 = .ok (.invokevirtual 183, 3) := by decide +kernel
theorem dX11_count_162 : decode cX11_count 162 = .ok (.ireturn, 1) := by decide +kernel
theorem dX11_count_163 : decode cX11_count 163 = .ok (.aload_n 0, 1) := by decide +kernel
theorem dX11_count_164 : decode cX11_count 164 = .ok (.getfield 10, 3) := by decide +kernel
theorem dX11_count_167 : decode cX11_count 167 = .ok (.getfield 358, 3) := by decide +kernel
theorem dX11_count_170 : decode cX11_count 170 = .ok (.invokevirtual 183, 3) := by decide +kernel
theorem dX11_count_173 : decode cX11_count 173 = .ok (.ireturn, 1) := by decide +kernel
theorem dX11_count_174 : decode cX11_count 174 = .ok (.aload_n 0, 1) := by decide +kernel
theorem dX11_count_175 : decode cX11_count 175 = .ok (.getfield 54, 3) := by decide +kernel
theorem dX11_count_178 : decode cX11_count 178 = .ok (.invokevirtual 317, 3) := by decide +kernel
theorem dX11_count_181 : decode cX11_count 181 = .ok (.invokevirtual 183, 3) := by decide +kernel
theorem dX11_count_184 : decode cX11_count 184 = .ok (.ireturn, 1) := by decide +kernel
theorem dX11_count_185 : decode cX11_count 185 = .ok (.aload_n 0, 1) := by decide +kernel
theorem dX11_count_186 : decode cX11_count 186 = .ok (.getfield 10, 3) := by decide +kernel
theorem dX11_count_189 : decode cX11_count 189 = .ok (.getfield 310, 3) := by decide +kernel
theorem dX11_count_192 : decode cX11_count 192 = .ok (.ireturn, 1) := by decide +kernel
theorem dX11_count_193 : decode cX11_count 193 = .ok (.aload_n 0, 1) := by decide +kernel
theorem dX11_count_194 : decode cX11_count 194 = .ok (.iconst 1, 1) := by decide +kernel
theorem dX11_count_195 : decode cX11_count 195 = .ok (.invokevirtual 88, 3) := by decide +kernel
theorem dX11_count_198 : decode cX11_count 198 = .ok (.ireturn, 1) := by decide +kernel
theorem dX11_told_0 : decode cX11_told 0 = .ok (.iload_n 1, 1) := by decide +kernel
theorem dX11_told_1 : decode cX11_told 1 = .ok (.iconst 1, 1) := by decide +kernel
theorem dX11_told_2 : decode cX11_told 2 = .ok (.iconst 5, 1) := by decide +kernel
theorem dX11_told_3 : decode cX11_told 3 = .ok (.invokestatic 84, 3) := by decide +kernel
theorem dX11_told_6 : decode cX11_told 6 = .ok (.ifCond .eq 14, 3) := by decide +kernel
theorem dX11_told_9 : decode cX11_told 9 = .ok (.aload_n 0, 1) := by decide +kernel
theorem dX11_told_10 : decode cX11_told 10 = .ok (.getfield 70, 3) := by decide +kernel
theorem dX11_told_13 : decode cX11_told 13 = .ok (.iload_n 1, 1) := by decide +kernel
theorem dX11_told_14 : decode cX11_told 14 = .ok (.invokevirtual 322, 3) := by decide +kernel
theorem dX11_told_17 : decode cX11_told 17 = .ok (.goto 8, 3) := by decide +kernel
theorem dX11_told_20 : decode cX11_told 20 = .ok (.aload_n 0, 1) := by decide +kernel
theorem dX11_told_21 : decode cX11_told 21 = .ok (.iconst 1, 1) := by decide +kernel
theorem dX11_told_22 : decode cX11_told 22 = .ok (.invokevirtual 88, 3) := by decide +kernel
theorem dX11_told_25 : decode cX11_told 25 = .ok (.ireturn, 1) := by decide +kernel
theorem dX11_error_0 : decode cX11_error 0 = .ok (.aload_n 0, 1) := by decide +kernel
theorem dX11_error_1 : decode cX11_error 1 = .ok (.getfield 70, 3) := by decide +kernel
theorem dX11_error_4 : decode cX11_error 4 = .ok (.iload_n 1, 1) := by decide +kernel
theorem dX11_error_5 : decode cX11_error 5 = .ok (.aload_n 0, 1) := by decide +kernel
theorem dX11_error_6 : decode cX11_error 6 = .ok (.getfield 70, 3) := by decide +kernel
theorem dX11_error_9 : decode cX11_error 9 = .ok (.iload_n 1, 1) := by decide +kernel
theorem dX11_error_10 : decode cX11_error 10 = .ok (.invokevirtual 322, 3) := by decide +kernel
theorem dX11_error_13 : decode cX11_error 13 = .ok (.iconst 1, 1) := by decide +kernel
theorem dX11_error_14 : decode cX11_error 14 = .ok (.iadd, 1) := by decide +kernel
theorem dX11_error_15 : decode cX11_error 15 = .ok (.invokevirtual 387, 3) := by decide +kernel
theorem dX11_error_18 : decode cX11_error 18 = .ok (.ldc_w 388, 3) := by decide +kernel
theorem dX11_error_21 : decode cX11_error 21 = .ok (.iload_n 1, 1) := by decide +kernel
theorem dX11_error_22 : decode cX11_error 22 = .ok (.isub, 1) := by decide +kernel
theorem dX11_error_23 : decode cX11_error 23 = .ok (.ireturn, 1) := by decide +kernel
theorem dX11_within_0 : decode cX11_within 0 = .ok (.iload_n 0, 1) := by decide +kernel
theorem dX11_within_1 : decode cX11_within 1 = .ok (.iload_n 1, 1) := by decide +kernel
theorem dX11_within_2 : decode cX11_within 2 = .ok (.if_icmp .lt 12, 3) := by decide +kernel
theorem dX11_within_5 : decode cX11_within 5 = .ok (.iload_n 0, 1) := by decide +kernel
theorem dX11_within_6 : decode cX11_within 6 = .ok (.iload_n 2, 1) := by decide +kernel
theorem dX11_within_7 : decode cX11_within 7 = .ok (.if_icmp .gt 7, 3) := by decide +kernel
theorem dX11_within_10 : decode cX11_within 10 = .ok (.iconst 1, 1) := by decide +kernel
theorem dX11_within_11 : decode cX11_within 11 = .ok (.goto 4, 3) := by decide +kernel
theorem dX11_within_14 : decode cX11_within 14 = .ok (.iconst 0, 1) := by decide +kernel
theorem dX11_within_15 : decode cX11_within 15 = .ok (.ireturn, 1) := by decide +kernel
theorem dX11_isLaterStrip_0 : decode cX11_isLaterStrip 0 = .ok (.iload_n 1, 1) := by decide +kernel
theorem dX11_isLaterStrip_1 : decode cX11_isLaterStrip 1 = .ok (.ifCond .eq 21, 3) := by decide +kernel
theorem dX11_isLaterStrip_4 : decode cX11_isLaterStrip 4 = .ok (.aload_n 0, 1) := by decide +kernel
theorem dX11_isLaterStrip_5 : decode cX11_isLaterStrip 5 = .ok (.getfield 10, 3) := by decide +kernel
theorem dX11_isLaterStrip_8 : decode cX11_isLaterStrip 8 = .ok (.getfield 92, 3) := by decide +kernel
theorem dX11_isLaterStrip_11 : decode cX11_isLaterStrip 11 = .ok (.iload_n 1, 1) := by decide +kernel
theorem dX11_isLaterStrip_12 : decode cX11_isLaterStrip 12 = .ok (.invokevirtual 210, 3) := by decide +kernel
theorem dX11_isLaterStrip_15 : decode cX11_isLaterStrip 15 = .ok (.ifCond .eq 7, 3) := by decide +kernel
theorem dX11_isLaterStrip_18 : decode cX11_isLaterStrip 18 = .ok (.iconst 1, 1) := by decide +kernel
theorem dX11_isLaterStrip_19 : decode cX11_isLaterStrip 19 = .ok (.goto 4, 3) := by decide +kernel
theorem dX11_isLaterStrip_22 : decode cX11_isLaterStrip 22 = .ok (.iconst 0, 1) := by decide +kernel
theorem dX11_isLaterStrip_23 : decode cX11_isLaterStrip 23 = .ok (.ireturn, 1) := by decide +kernel
theorem dX11_textOf_0 : decode cX11_textOf 0 = .ok (.iload_n 1, 1) := by decide +kernel
theorem dX11_textOf_1 : decode cX11_textOf 1 = .ok (.ifCond .ne 11, 3) := by decide +kernel
theorem dX11_textOf_4 : decode cX11_textOf 4 = .ok (.aload_n 0, 1) := by decide +kernel
theorem dX11_textOf_5 : decode cX11_textOf 5 = .ok (.getfield 10, 3) := by decide +kernel
theorem dX11_textOf_8 : decode cX11_textOf 8 = .ok (.getfield 28, 3) := by decide +kernel
theorem dX11_textOf_11 : decode cX11_textOf 11 = .ok (.areturn, 1) := by decide +kernel
theorem dX11_textOf_12 : decode cX11_textOf 12 = .ok (.iload_n 1, 1) := by decide +kernel
theorem dX11_textOf_13 : decode cX11_textOf 13 = .ok (.iconst 1, 1) := by decide +kernel
theorem dX11_textOf_14 : decode cX11_textOf 14 = .ok (.if_icmp .ne 13, 3) := by decide +kernel
theorem dX11_textOf_17 : decode cX11_textOf 17 = .ok (.aload_n 0, 1) := by decide +kernel
theorem dX11_textOf_18 : decode cX11_textOf 18 = .ok (.getfield 10, 3) := by decide +kernel
theorem dX11_textOf_21 : decode cX11_textOf 21 = .ok (.getfield 32, 3) := by decide +kernel
theorem dX11_textOf_24 : decode cX11_textOf 24 = .ok (.goto 4, 3) := by decide +kernel
theorem dX11_textOf_27 : decode cX11_textOf 27 = .ok (.aconst_null, 1) := by decide +kernel
theorem dX11_textOf_28 : decode cX11_textOf 28 = .ok (.areturn, 1) := by decide +kernel
theorem dX11_sheetOf_0 : decode cX11_sheetOf 0 = .ok (.iload_n 1, 1) := by decide +kernel
theorem dX11_sheetOf_1 : decode cX11_sheetOf 1 = .ok (.ifCond .lt 21, 3) := by decide +kernel
theorem dX11_sheetOf_4 : decode cX11_sheetOf 4 = .ok (.iload_n 1, 1) := by decide +kernel
theorem dX11_sheetOf_5 : decode cX11_sheetOf 5 = .ok (.aload_n 0, 1) := by decide +kernel
theorem dX11_sheetOf_6 : decode cX11_sheetOf 6 = .ok (.getfield 61, 3) := by decide +kernel
theorem dX11_sheetOf_9 : decode cX11_sheetOf 9 = .ok (.arraylength, 1) := by decide +kernel
theorem dX11_sheetOf_10 : decode cX11_sheetOf 10 = .ok (.if_icmp .ge 12, 3) := by decide +kernel
theorem dX11_sheetOf_13 : decode cX11_sheetOf 13 = .ok (.aload_n 0, 1) := by decide +kernel
theorem dX11_sheetOf_14 : decode cX11_sheetOf 14 = .ok (.getfield 61, 3) := by decide +kernel
theorem dX11_sheetOf_17 : decode cX11_sheetOf 17 = .ok (.iload_n 1, 1) := by decide +kernel
theorem dX11_sheetOf_18 : decode cX11_sheetOf 18 = .ok (.aaload, 1) := by decide +kernel
theorem dX11_sheetOf_19 : decode cX11_sheetOf 19 = .ok (.goto 4, 3) := by decide +kernel
theorem dX11_sheetOf_22 : decode cX11_sheetOf 22 = .ok (.aconst_null, 1) := by decide +kernel
theorem dX11_sheetOf_23 : decode cX11_sheetOf 23 = .ok (.areturn, 1) := by decide +kernel
