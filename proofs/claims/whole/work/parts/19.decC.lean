theorem dX4_init_0 : decode cX4_init 0 = .ok (.aload_n 0, 1) := by decide +kernel
theorem dX4_init_1 : decode cX4_init 1 = .ok (.invokespecial 1, 3) := by decide +kernel
theorem dX4_init_4 : decode cX4_init 4 = .ok (.aload_n 0, 1) := by decide +kernel
theorem dX4_init_5 : decode cX4_init 5 = .ok (.new 7, 3) := by decide +kernel
theorem dX4_init_8 : decode cX4_init 8 = .ok (.dup, 1) := by decide +kernel
theorem dX4_init_9 : decode cX4_init 9 = .ok (.bipush 50, 2) := by decide +kernel
theorem dX4_init_11 : decode cX4_init 11 = .ok (.invokespecial 11, 3) := by decide +kernel
theorem dX4_init_14 : decode cX4_init 14 = .ok (.putfield 14, 3) := by decide +kernel
theorem dX4_init_17 : decode cX4_init 17 = .ok (.aload_n 0, 1) := by decide +kernel
theorem dX4_init_18 : decode cX4_init 18 = .ok (.aload_n 0, 1) := by decide +kernel
theorem dX4_init_19 : decode cX4_init 19 = .ok (.getfield 14, 3) := by decide +kernel
theorem dX4_init_22 : decode cX4_init 22 = .ok (.putfield 20, 3) := by decide +kernel
theorem dX4_init_25 : decode cX4_init 25 = .ok (.aload_n 0, 1) := by decide +kernel
theorem dX4_init_26 : decode cX4_init 26 = .ok (.aconst_null, 1) := by decide +kernel
theorem dX4_init_27 : decode cX4_init 27 = .ok (.putfield 23, 3) := by decide +kernel
theorem dX4_init_30 : decode cX4_init 30 = .ok (.aload_n 0, 1) := by decide +kernel
theorem dX4_init_31 : decode cX4_init 31 = .ok (.iconst 0, 1) := by decide +kernel
theorem dX4_init_32 : decode cX4_init 32 = .ok (.putfield 27, 3) := by decide +kernel
theorem dX4_init_35 : decode cX4_init 35 = .ok (.aload_n 0, 1) := by decide +kernel
theorem dX4_init_36 : decode cX4_init 36 = .ok (.iconst 1, 1) := by decide +kernel
theorem dX4_init_37 : decode cX4_init 37 = .ok (.putfield 31, 3) := by decide +kernel
theorem dX4_init_40 : decode cX4_init 40 = .ok (.return_, 1) := by decide +kernel
theorem dX4_read_0 : decode cX4_read 0 = .ok (.aload_n 0, 1) := by decide +kernel
theorem dX4_read_1 : decode cX4_read 1 = .ok (.aload_n 1, 1) := by decide +kernel
theorem dX4_read_2 : decode cX4_read 2 = .ok (.putfield 20, 3) := by decide +kernel
theorem dX4_read_5 : decode cX4_read 5 = .ok (.aload_n 0, 1) := by decide +kernel
theorem dX4_read_6 : decode cX4_read 6 = .ok (.aload_n 2, 1) := by decide +kernel
theorem dX4_read_7 : decode cX4_read 7 = .ok (.putfield 23, 3) := by decide +kernel
theorem dX4_read_10 : decode cX4_read 10 = .ok (.aload_n 0, 1) := by decide +kernel
theorem dX4_read_11 : decode cX4_read 11 = .ok (.iconst 0, 1) := by decide +kernel
theorem dX4_read_12 : decode cX4_read 12 = .ok (.putfield 27, 3) := by decide +kernel
theorem dX4_read_15 : decode cX4_read 15 = .ok (.aload_n 0, 1) := by decide +kernel
theorem dX4_read_16 : decode cX4_read 16 = .ok (.iconst 1, 1) := by decide +kernel
theorem dX4_read_17 : decode cX4_read 17 = .ok (.putfield 31, 3) := by decide +kernel
theorem dX4_read_20 : decode cX4_read 20 = .ok (.aload_n 0, 1) := by decide +kernel
theorem dX4_read_21 : decode cX4_read 21 = .ok (.getfield 14, 3) := by decide +kernel
theorem dX4_read_24 : decode cX4_read 24 = .ok (.invokevirtual 35, 3) := by decide +kernel
theorem dX4_read_27 : decode cX4_read 27 = .ok (.aload_n 0, 1) := by decide +kernel
theorem dX4_read_28 : decode cX4_read 28 = .ok (.iconst 0, 1) := by decide +kernel
theorem dX4_read_29 : decode cX4_read 29 = .ok (.invokevirtual 38, 3) := by decide +kernel
theorem dX4_read_32 : decode cX4_read 32 = .ok (.aload_n 0, 1) := by decide +kernel
theorem dX4_read_33 : decode cX4_read 33 = .ok (.getfield 31, 3) := by decide +kernel
theorem dX4_read_36 : decode cX4_read 36 = .ok (.ifCond .eq 17, 3) := by decide +kernel
theorem dX4_read_39 : decode cX4_read 39 = .ok (.aload_n 0, 1) := by decide +kernel
theorem dX4_read_40 : decode cX4_read 40 = .ok (.getfield 27, 3) := by decide +kernel
theorem dX4_read_43 : decode cX4_read 43 = .ok (.aload_n 0, 1) := by decide +kernel
theorem dX4_read_44 : decode cX4_read 44 = .ok (.getfield 20, 3) := by decide +kernel
theorem dX4_read_47 : decode cX4_read 47 = .ok (.invokevirtual 41, 3) := by decide +kernel
theorem dX4_read_50 : decode cX4_read 50 = .ok (.if_icmp .ge 8, 3) := by decide +kernel
theorem dX4_read_53 : decode cX4_read 53 = .ok (.aload_n 0, 1) := by decide +kernel
theorem dX4_read_54 : decode cX4_read 54 = .ok (.getfield 27, 3) := by decide +kernel
theorem dX4_read_57 : decode cX4_read 57 = .ok (.ireturn, 1) := by decide +kernel
theorem dX4_read_58 : decode cX4_read 58 = .ok (.aload_n 2, 1) := by decide +kernel
theorem dX4_read_59 : decode cX4_read 59 = .ok (.aload_n 0, 1) := by decide +kernel
theorem dX4_read_60 : decode cX4_read 60 = .ok (.getfield 14, 3) := by decide +kernel
theorem dX4_read_63 : decode cX4_read 63 = .ok (.invokevirtual 45, 3) := by decide +kernel
theorem dX4_read_66 : decode cX4_read 66 = .ok (.iconst (-1), 1) := by decide +kernel
theorem dX4_read_67 : decode cX4_read 67 = .ok (.ireturn, 1) := by decide +kernel
theorem dX4_next_0 : decode cX4_next 0 = .ok (.aload_n 0, 1) := by decide +kernel
theorem dX4_next_1 : decode cX4_next 1 = .ok (.getfield 20, 3) := by decide +kernel
theorem dX4_next_4 : decode cX4_next 4 = .ok (.aload_n 0, 1) := by decide +kernel
theorem dX4_next_5 : decode cX4_next 5 = .ok (.getfield 27, 3) := by decide +kernel
theorem dX4_next_8 : decode cX4_next 8 = .ok (.invokevirtual 49, 3) := by decide +kernel
theorem dX4_next_11 : decode cX4_next 11 = .ok (.ifCond .eq 17, 3) := by decide +kernel
theorem dX4_next_14 : decode cX4_next 14 = .ok (.aload_n 0, 1) := by decide +kernel
theorem dX4_next_15 : decode cX4_next 15 = .ok (.getfield 20, 3) := by decide +kernel
theorem dX4_next_18 : decode cX4_next 18 = .ok (.aload_n 0, 1) := by decide +kernel
theorem dX4_next_19 : decode cX4_next 19 = .ok (.getfield 27, 3) := by decide +kernel
theorem dX4_next_22 : decode cX4_next 22 = .ok (.invokevirtual 53, 3) := by decide +kernel
theorem dX4_next_25 : decode cX4_next 25 = .ok (.goto 4, 3) := by decide +kernel
theorem dX4_next_28 : decode cX4_next 28 = .ok (.iconst (-1), 1) := by decide +kernel
theorem dX4_next_29 : decode cX4_next 29 = .ok (.ireturn, 1) := by decide +kernel
theorem dX4_nextIs_0 : decode cX4_nextIs 0 = .ok (.aload_n 0, 1) := by decide +kernel
theorem dX4_nextIs_1 : decode cX4_nextIs 1 = .ok (.getfield 31, 3) := by decide +kernel
theorem dX4_nextIs_4 : decode cX4_nextIs 4 = .ok (.ifCond .eq 15, 3) := by decide +kernel
theorem dX4_nextIs_7 : decode cX4_nextIs 7 = .ok (.aload_n 0, 1) := by decide +kernel
theorem dX4_nextIs_8 : decode cX4_nextIs 8 = .ok (.invokevirtual 56, 3) := by decide +kernel
theorem dX4_nextIs_11 : decode cX4_nextIs 11 = .ok (.iload_n 1, 1) := by decide +kernel
theorem dX4_nextIs_12 : decode cX4_nextIs 12 = .ok (.if_icmp .ne 7, 3) := by decide +kernel
theorem dX4_nextIs_15 : decode cX4_nextIs 15 = .ok (.iconst 1, 1) := by decide +kernel
theorem dX4_nextIs_16 : decode cX4_nextIs 16 = .ok (.goto 4, 3) := by decide +kernel
theorem dX4_nextIs_19 : decode cX4_nextIs 19 = .ok (.iconst 0, 1) := by decide +kernel
theorem dX4_nextIs_20 : decode cX4_nextIs 20 = .ok (.ireturn, 1) := by decide +kernel
theorem dX4_emit_0 : decode cX4_emit 0 = .ok (.aload_n 0, 1) := by decide +kernel
theorem dX4_emit_1 : decode cX4_emit 1 = .ok (.getfield 14, 3) := by decide +kernel
theorem dX4_emit_4 : decode cX4_emit 4 = .ok (.sipush 20000, 3) := by decide +kernel
theorem dX4_emit_7 : decode cX4_emit 7 = .ok (.iload_n 1, 1) := by decide +kernel
theorem dX4_emit_8 : decode cX4_emit 8 = .ok (.iadd, 1) := by decide +kernel
theorem dX4_emit_9 : decode cX4_emit 9 = .ok (.invokevirtual 59, 3) := by decide +kernel
theorem dX4_emit_12 : decode cX4_emit 12 = .ok (.pop, 1) := by decide +kernel
theorem dX4_emit_13 : decode cX4_emit 13 = .ok (.return_, 1) := by decide +kernel
theorem dX4_readT_0 : decode cX4_readT 0 = .ok (.aload_n 0, 1) := by decide +kernel
theorem dX4_readT_1 : decode cX4_readT 1 = .ok (.iload_n 1, 1) := by decide +kernel
theorem dX4_readT_2 : decode cX4_readT 2 = .ok (.invokevirtual 62, 3) := by decide +kernel
theorem dX4_readT_5 : decode cX4_readT 5 = .ok (.iconst 0, 1) := by decide +kernel
theorem dX4_readT_6 : decode cX4_readT 6 = .ok (.istore_n 2, 1) := by decide +kernel
theorem dX4_readT_7 : decode cX4_readT 7 = .ok (.iload_n 2, 1) := by decide +kernel
theorem dX4_readT_8 : decode cX4_readT 8 = .ok (.bipush 50, 2) := by decide +kernel
theorem dX4_readT_10 : decode cX4_readT 10 = .ok (.if_icmp .ge 39, 3) := by decide +kernel
theorem dX4_readT_13 : decode cX4_readT 13 = .ok (.aload_n 0, 1) := by decide +kernel
theorem dX4_readT_14 : decode cX4_readT 14 = .ok (.bipush 124, 2) := by decide +kernel
theorem dX4_readT_16 : decode cX4_readT 16 = .ok (.invokevirtual 65, 3) := by decide +kernel
theorem dX4_readT_19 : decode cX4_readT 19 = .ok (.ifCond .eq 30, 3) := by decide +kernel
theorem dX4_readT_22 : decode cX4_readT 22 = .ok (.aload_n 0, 1) := by decide +kernel
theorem dX4_readT_23 : decode cX4_readT 23 = .ok (.dup, 1) := by decide +kernel
theorem dX4_readT_24 : decode cX4_readT 24 = .ok (.getfield 27, 3) := by decide +kernel
theorem dX4_readT_27 : decode cX4_readT 27 = .ok (.iconst 1, 1) := by decide +kernel
theorem dX4_readT_28 : decode cX4_readT 28 = .ok (.iadd, 1) := by decide +kernel
theorem dX4_readT_29 : decode cX4_readT 29 = .ok (.putfield 27, 3) := by decide +kernel
theorem dX4_readT_32 : decode cX4_readT 32 = .ok (.aload_n 0, 1) := by decide +kernel
theorem dX4_readT_33 : decode cX4_readT 33 = .ok (.iload_n 1, 1) := by decide +kernel
theorem dX4_readT_34 : decode cX4_readT 34 = .ok (.invokevirtual 62, 3) := by decide +kernel
theorem dX4_readT_37 : decode cX4_readT 37 = .ok (.aload_n 0, 1) := by decide +kernel
theorem dX4_readT_38 : decode cX4_readT 38 = .ok (.bipush 124, 2) := by decide +kernel
theorem dX4_readT_40 : decode cX4_readT 40 = .ok (.invokevirtual 68, 3) := by decide +kernel
theorem dX4_readT_43 : decode cX4_readT 43 = .ok (.iinc 2 1, 3) := by decide +kernel
theorem dX4_readT_46 : decode cX4_readT 46 = .ok (.goto (-39), 3) := by decide +kernel
theorem dX4_readT_49 : decode cX4_readT 49 = .ok (.return_, 1) := by decide +kernel
theorem dX4_readA_0 : decode cX4_readA 0 = .ok (.aload_n 0, 1) := by decide +kernel
theorem dX4_readA_1 : decode cX4_readA 1 = .ok (.iload_n 1, 1) := by decide +kernel
theorem dX4_readA_2 : decode cX4_readA 2 = .ok (.invokevirtual 71, 3) := by decide +kernel
theorem dX4_readA_5 : decode cX4_readA 5 = .ok (.iconst 0, 1) := by decide +kernel
theorem dX4_readA_6 : decode cX4_readA 6 = .ok (.istore_n 2, 1) := by decide +kernel
theorem dX4_readA_7 : decode cX4_readA 7 = .ok (.iload_n 2, 1) := by decide +kernel
theorem dX4_readA_8 : decode cX4_readA 8 = .ok (.bipush 50, 2) := by decide +kernel
theorem dX4_readA_10 : decode cX4_readA 10 = .ok (.if_icmp .ge 39, 3) := by decide +kernel
theorem dX4_readA_13 : decode cX4_readA 13 = .ok (.aload_n 0, 1) := by decide +kernel
theorem dX4_readA_14 : decode cX4_readA 14 = .ok (.bipush 38, 2) := by decide +kernel
theorem dX4_readA_16 : decode cX4_readA 16 = .ok (.invokevirtual 65, 3) := by decide +kernel
theorem dX4_readA_19 : decode cX4_readA 19 = .ok (.ifCond .eq 30, 3) := by decide +kernel
theorem dX4_readA_22 : decode cX4_readA 22 = .ok (.aload_n 0, 1) := by decide +kernel
theorem dX4_readA_23 : decode cX4_readA 23 = .ok (.dup, 1) := by decide +kernel
theorem dX4_readA_24 : decode cX4_readA 24 = .ok (.getfield 27, 3) := by decide +kernel
theorem dX4_readA_27 : decode cX4_readA 27 = .ok (.iconst 1, 1) := by decide +kernel
theorem dX4_readA_28 : decode cX4_readA 28 = .ok (.iadd, 1) := by decide +kernel
theorem dX4_readA_29 : decode cX4_readA 29 = .ok (.putfield 27, 3) := by decide +kernel
theorem dX4_readA_32 : decode cX4_readA 32 = .ok (.aload_n 0, 1) := by decide +kernel
theorem dX4_readA_33 : decode cX4_readA 33 = .ok (.iload_n 1, 1) := by decide +kernel
theorem dX4_readA_34 : decode cX4_readA 34 = .ok (.invokevirtual 71, 3) := by decide +kernel
theorem dX4_readA_37 : decode cX4_readA 37 = .ok (.aload_n 0, 1) := by decide +kernel
theorem dX4_readA_38 : decode cX4_readA 38 = .ok (.bipush 38, 2) := by decide +kernel
theorem dX4_readA_40 : decode cX4_readA 40 = .ok (.invokevirtual 68, 3) := by decide +kernel
theorem dX4_readA_43 : decode cX4_readA 43 = .ok (.iinc 2 1, 3) := by decide +kernel
theorem dX4_readA_46 : decode cX4_readA 46 = .ok (.goto (-39), 3) := by decide +kernel
theorem dX4_readA_49 : decode cX4_readA 49 = .ok (.return_, 1) := by decide +kernel
theorem dX4_readB_0 : decode cX4_readB 0 = .ok (.aload_n 0, 1) := by decide +kernel
theorem dX4_readB_1 : decode cX4_readB 1 = .ok (.iload_n 1, 1) := by decide +kernel
theorem dX4_readB_2 : decode cX4_readB 2 = .ok (.invokevirtual 74, 3) := by decide +kernel
theorem dX4_readB_5 : decode cX4_readB 5 = .ok (.aload_n 0, 1) := by decide +kernel
theorem dX4_readB_6 : decode cX4_readB 6 = .ok (.invokevirtual 56, 3) := by decide +kernel
theorem dX4_readB_9 : decode cX4_readB 9 = .ok (.istore_n 2, 1) := by decide +kernel
theorem dX4_readB_10 : decode cX4_readB 10 = .ok (.aload_n 0, 1) := by decide +kernel
theorem dX4_readB_11 : decode cX4_readB 11 = .ok (.bipush 60, 2) := by decide +kernel
theorem dX4_readB_13 : decode cX4_readB 13 = .ok (.invokevirtual 65, 3) := by decide +kernel
theorem dX4_readB_16 : decode cX4_readB 16 = .ok (.ifCond .ne 21, 3) := by decide +kernel
theorem dX4_readB_19 : decode cX4_readB 19 = .ok (.aload_n 0, 1) := by decide +kernel
theorem dX4_readB_20 : decode cX4_readB 20 = .ok (.bipush 61, 2) := by decide +kernel
theorem dX4_readB_22 : decode cX4_readB 22 = .ok (.invokevirtual 65, 3) := by decide +kernel
theorem dX4_readB_25 : decode cX4_readB 25 = .ok (.ifCond .ne 12, 3) := by decide +kernel
theorem dX4_readB_28 : decode cX4_readB 28 = .ok (.aload_n 0, 1) := by decide +kernel
theorem dX4_readB_29 : decode cX4_readB 29 = .ok (.bipush 62, 2) := by decide +kernel
theorem dX4_readB_31 : decode cX4_readB 31 = .ok (.invokevirtual 65, 3) := by decide +kernel
theorem dX4_readB_34 : decode cX4_readB 34 = .ok (.ifCond .eq 23, 3) := by decide +kernel
theorem dX4_readB_37 : decode cX4_readB 37 = .ok (.aload_n 0, 1) := by decide +kernel
theorem dX4_readB_38 : decode cX4_readB 38 = .ok (.dup, 1) := by decide +kernel
theorem dX4_readB_39 : decode cX4_readB 39 = .ok (.getfield 27, 3) := by decide +kernel
theorem dX4_readB_42 : decode cX4_readB 42 = .ok (.iconst 1, 1) := by decide +kernel
theorem dX4_readB_43 : decode cX4_readB 43 = .ok (.iadd, 1) := by decide +kernel
theorem dX4_readB_44 : decode cX4_readB 44 = .ok (.putfield 27, 3) := by decide +kernel
theorem dX4_readB_47 : decode cX4_readB 47 = .ok (.aload_n 0, 1) := by decide +kernel
theorem dX4_readB_48 : decode cX4_readB 48 = .ok (.iload_n 1, 1) := by decide +kernel
theorem dX4_readB_49 : decode cX4_readB 49 = .ok (.invokevirtual 74, 3) := by decide +kernel
theorem dX4_readB_52 : decode cX4_readB 52 = .ok (.aload_n 0, 1) := by decide +kernel
theorem dX4_readB_53 : decode cX4_readB 53 = .ok (.iload_n 2, 1) := by decide +kernel
theorem dX4_readB_54 : decode cX4_readB 54 = .ok (.invokevirtual 68, 3) := by decide +kernel
theorem dX4_readB_57 : decode cX4_readB 57 = .ok (.return_, 1) := by decide +kernel
theorem dX4_readS_0 : decode cX4_readS 0 = .ok (.aload_n 0, 1) := by decide +kernel
theorem dX4_readS_1 : decode cX4_readS 1 = .ok (.iload_n 1, 1) := by decide +kernel
theorem dX4_readS_2 : decode cX4_readS 2 = .ok (.invokevirtual 77, 3) := by decide +kernel
theorem dX4_readS_5 : decode cX4_readS 5 = .ok (.iconst 0, 1) := by decide +kernel
theorem dX4_readS_6 : decode cX4_readS 6 = .ok (.istore_n 2, 1) := by decide +kernel
theorem dX4_readS_7 : decode cX4_readS 7 = .ok (.iload_n 2, 1) := by decide +kernel
theorem dX4_readS_8 : decode cX4_readS 8 = .ok (.bipush 50, 2) := by decide +kernel
theorem dX4_readS_10 : decode cX4_readS 10 = .ok (.if_icmp .ge 52, 3) := by decide +kernel
theorem dX4_readS_13 : decode cX4_readS 13 = .ok (.aload_n 0, 1) := by decide +kernel
theorem dX4_readS_14 : decode cX4_readS 14 = .ok (.bipush 43, 2) := by decide +kernel
theorem dX4_readS_16 : decode cX4_readS 16 = .ok (.invokevirtual 65, 3) := by decide +kernel
theorem dX4_readS_19 : decode cX4_readS 19 = .ok (.ifCond .ne 12, 3) := by decide +kernel
theorem dX4_readS_22 : decode cX4_readS 22 = .ok (.aload_n 0, 1) := by decide +kernel
theorem dX4_readS_23 : decode cX4_readS 23 = .ok (.bipush 45, 2) := by decide +kernel
theorem dX4_readS_25 : decode cX4_readS 25 = .ok (.invokevirtual 65, 3) := by decide +kernel
theorem dX4_readS_28 : decode cX4_readS 28 = .ok (.ifCond .eq 34, 3) := by decide +kernel
theorem dX4_readS_31 : decode cX4_readS 31 = .ok (.aload_n 0, 1) := by decide +kernel
theorem dX4_readS_32 : decode cX4_readS 32 = .ok (.invokevirtual 56, 3) := by decide +kernel
theorem dX4_readS_35 : decode cX4_readS 35 = .ok (.istore_n 3, 1) := by decide +kernel
theorem dX4_readS_36 : decode cX4_readS 36 = .ok (.aload_n 0, 1) := by decide +kernel
theorem dX4_readS_37 : decode cX4_readS 37 = .ok (.dup, 1) := by decide +kernel
theorem dX4_readS_38 : decode cX4_readS 38 = .ok (.getfield 27, 3) := by decide +kernel
theorem dX4_readS_41 : decode cX4_readS 41 = .ok (.iconst 1, 1) := by decide +kernel
theorem dX4_readS_42 : decode cX4_readS 42 = .ok (.iadd, 1) := by decide +kernel
theorem dX4_readS_43 : decode cX4_readS 43 = .ok (.putfield 27, 3) := by decide +kernel
theorem dX4_readS_46 : decode cX4_readS 46 = .ok (.aload_n 0, 1) := by decide +kernel
theorem dX4_readS_47 : decode cX4_readS 47 = .ok (.iload_n 1, 1) := by decide +kernel
theorem dX4_readS_48 : decode cX4_readS 48 = .ok (.invokevirtual 77, 3) := by decide +kernel
theorem dX4_readS_51 : decode cX4_readS 51 = .ok (.aload_n 0, 1) := by decide +kernel
theorem dX4_readS_52 : decode cX4_readS 52 = .ok (.iload_n 3, 1) := by decide +kernel
theorem dX4_readS_53 : decode cX4_readS 53 = .ok (.invokevirtual 68, 3) := by decide +kernel
theorem dX4_readS_56 : decode cX4_readS 56 = .ok (.iinc 2 1, 3) := by decide +kernel
theorem dX4_readS_59 : decode cX4_readS 59 = .ok (.goto (-52), 3) := by decide +kernel
theorem dX4_readS_62 : decode cX4_readS 62 = .ok (.return_, 1) := by decide +kernel
theorem dX4_readP_0 : decode cX4_readP 0 = .ok (.aload_n 0, 1) := by decide +kernel
theorem dX4_readP_1 : decode cX4_readP 1 = .ok (.iload_n 1, 1) := by decide +kernel
theorem dX4_readP_2 : decode cX4_readP 2 = .ok (.invokevirtual 80, 3) := by decide +kernel
theorem dX4_readP_5 : decode cX4_readP 5 = .ok (.iconst 0, 1) := by decide +kernel
theorem dX4_readP_6 : decode cX4_readP 6 = .ok (.istore_n 2, 1) := by decide +kernel
theorem dX4_readP_7 : decode cX4_readP 7 = .ok (.iload_n 2, 1) := by decide +kernel
theorem dX4_readP_8 : decode cX4_readP 8 = .ok (.bipush 50, 2) := by decide +kernel
theorem dX4_readP_10 : decode cX4_readP 10 = .ok (.if_icmp .ge 61, 3) := by decide +kernel
theorem dX4_readP_13 : decode cX4_readP 13 = .ok (.aload_n 0, 1) := by decide +kernel
theorem dX4_readP_14 : decode cX4_readP 14 = .ok (.bipush 42, 2) := by decide +kernel
theorem dX4_readP_16 : decode cX4_readP 16 = .ok (.invokevirtual 65, 3) := by decide +kernel
theorem dX4_readP_19 : decode cX4_readP 19 = .ok (.ifCond .ne 21, 3) := by decide +kernel
theorem dX4_readP_22 : decode cX4_readP 22 = .ok (.aload_n 0, 1) := by decide +kernel
theorem dX4_readP_23 : decode cX4_readP 23 = .ok (.bipush 47, 2) := by decide +kernel
theorem dX4_readP_25 : decode cX4_readP 25 = .ok (.invokevirtual 65, 3) := by decide +kernel
theorem dX4_readP_28 : decode cX4_readP 28 = .ok (.ifCond .ne 12, 3) := by decide +kernel
theorem dX4_readP_31 : decode cX4_readP 31 = .ok (.aload_n 0, 1) := by decide +kernel
theorem dX4_readP_32 : decode cX4_readP 32 = .ok (.bipush 37, 2) := by decide +kernel
theorem dX4_readP_34 : decode cX4_readP 34 = .ok (.invokevirtual 65, 3) := by decide +kernel
theorem dX4_readP_37 : decode cX4_readP 37 = .ok (.ifCond .eq 34, 3) := by decide +kernel
theorem dX4_readP_40 : decode cX4_readP 40 = .ok (.aload_n 0, 1) := by decide +kernel
theorem dX4_readP_41 : decode cX4_readP 41 = .ok (.invokevirtual 56, 3) := by decide +kernel
theorem dX4_readP_44 : decode cX4_readP 44 = .ok (.istore_n 3, 1) := by decide +kernel
theorem dX4_readP_45 : decode cX4_readP 45 = .ok (.aload_n 0, 1) := by decide +kernel
theorem dX4_readP_46 : decode cX4_readP 46 = .ok (.dup, 1) := by decide +kernel
theorem dX4_readP_47 : decode cX4_readP 47 = .ok (.getfield 27, 3) := by decide +kernel
theorem dX4_readP_50 : decode cX4_readP 50 = .ok (.iconst 1, 1) := by decide +kernel
theorem dX4_readP_51 : decode cX4_readP 51 = .ok (.iadd, 1) := by decide +kernel
theorem dX4_readP_52 : decode cX4_readP 52 = .ok (.putfield 27, 3) := by decide +kernel
theorem dX4_readP_55 : decode cX4_readP 55 = .ok (.aload_n 0, 1) := by decide +kernel
theorem dX4_readP_56 : decode cX4_readP 56 = .ok (.iload_n 1, 1) := by decide +kernel
theorem dX4_readP_57 : decode cX4_readP 57 = .ok (.invokevirtual 80, 3) := by decide +kernel
theorem dX4_readP_60 : decode cX4_readP 60 = .ok (.aload_n 0, 1) := by decide +kernel
theorem dX4_readP_61 : decode cX4_readP 61 = .ok (.iload_n 3, 1) := by decide +kernel
theorem dX4_readP_62 : decode cX4_readP 62 = .ok (.invokevirtual 68, 3) := by decide +kernel
theorem dX4_readP_65 : decode cX4_readP 65 = .ok (.iinc 2 1, 3) := by decide +kernel
theorem dX4_readP_68 : decode cX4_readP 68 = .ok (.goto (-61), 3) := by decide +kernel
theorem dX4_readP_71 : decode cX4_readP 71 = .ok (.return_, 1) := by decide +kernel
theorem dX4_readQ_0 : decode cX4_readQ 0 = .ok (.aload_n 0, 1) := by decide +kernel
theorem dX4_readQ_1 : decode cX4_readQ 1 = .ok (.invokevirtual 56, 3) := by decide +kernel
theorem dX4_readQ_4 : decode cX4_readQ 4 = .ok (.istore_n 2, 1) := by decide +kernel
theorem dX4_readQ_5 : decode cX4_readQ 5 = .ok (.aload_n 0, 1) := by decide +kernel
theorem dX4_readQ_6 : decode cX4_readQ 6 = .ok (.getfield 31, 3) := by decide +kernel
theorem dX4_readQ_9 : decode cX4_readQ 9 = .ok (.ifCond .ne 4, 3) := by decide +kernel
theorem dX4_readQ_12 : decode cX4_readQ 12 = .ok (.return_, 1) := by decide +kernel
theorem dX4_readQ_13 : decode cX4_readQ 13 = .ok (.iload_n 2, 1) := by decide +kernel
theorem dX4_readQ_14 : decode cX4_readQ 14 = .ok (.invokestatic 83, 3) := by decide +kernel
theorem dX4_readQ_17 : decode cX4_readQ 17 = .ok (.ifCond .eq 10, 3) := by decide +kernel
theorem dX4_readQ_20 : decode cX4_readQ 20 = .ok (.aload_n 0, 1) := by decide +kernel
theorem dX4_readQ_21 : decode cX4_readQ 21 = .ok (.invokevirtual 86, 3) := by decide +kernel
theorem dX4_readQ_24 : decode cX4_readQ 24 = .ok (.goto 154, 3) := by decide +kernel
theorem dX4_readQ_27 : decode cX4_readQ 27 = .ok (.aload_n 0, 1) := by decide +kernel
theorem dX4_readQ_28 : decode cX4_readQ 28 = .ok (.getfield 23, 3) := by decide +kernel
theorem dX4_readQ_31 : decode cX4_readQ 31 = .ok (.ifnull 47, 3) := by decide +kernel
theorem dX4_readQ_34 : decode cX4_readQ 34 = .ok (.aload_n 0, 1) := by decide +kernel
theorem dX4_readQ_35 : decode cX4_readQ 35 = .ok (.getfield 23, 3) := by decide +kernel
theorem dX4_readQ_38 : decode cX4_readQ 38 = .ok (.iload_n 2, 1) := by decide +kernel
theorem dX4_readQ_39 : decode cX4_readQ 39 = .ok (.invokevirtual 89, 3) := by decide +kernel
theorem dX4_readQ_42 : decode cX4_readQ 42 = .ok (.ifCond .lt 36, 3) := by decide +kernel
theorem dX4_readQ_45 : decode cX4_readQ 45 = .ok (.aload_n 0, 1) := by decide +kernel
theorem dX4_readQ_46 : decode cX4_readQ 46 = .ok (.dup, 1) := by decide +kernel
theorem dX4_readQ_47 : decode cX4_readQ 47 = .ok (.getfield 27, 3) := by decide +kernel
theorem dX4_readQ_50 : decode cX4_readQ 50 = .ok (.iconst 1, 1) := by decide +kernel
theorem dX4_readQ_51 : decode cX4_readQ 51 = .ok (.iadd, 1) := by decide +kernel
theorem dX4_readQ_52 : decode cX4_readQ 52 = .ok (.putfield 27, 3) := by decide +kernel
theorem dX4_readQ_55 : decode cX4_readQ 55 = .ok (.aload_n 0, 1) := by decide +kernel
theorem dX4_readQ_56 : decode cX4_readQ 56 = .ok (.getfield 14, 3) := by decide +kernel
theorem dX4_readQ_59 : decode cX4_readQ 59 = .ok (.sipush 10000, 3) := by decide +kernel
theorem dX4_readQ_62 : decode cX4_readQ 62 = .ok (.aload_n 0, 1) := by decide +kernel
theorem dX4_readQ_63 : decode cX4_readQ 63 = .ok (.getfield 23, 3) := by decide +kernel
theorem dX4_readQ_66 : decode cX4_readQ 66 = .ok (.iload_n 2, 1) := by decide +kernel
theorem dX4_readQ_67 : decode cX4_readQ 67 = .ok (.invokevirtual 89, 3) := by decide +kernel
theorem dX4_readQ_70 : decode cX4_readQ 70 = .ok (.iadd, 1) := by decide +kernel
theorem dX4_readQ_71 : decode cX4_readQ 71 = .ok (.invokevirtual 59, 3) := by decide +kernel
theorem dX4_readQ_74 : decode cX4_readQ 74 = .ok (.pop, 1) := by decide +kernel
theorem dX4_readQ_75 : decode cX4_readQ 75 = .ok (.goto 103, 3) := by decide +kernel
theorem dX4_readQ_78 : decode cX4_readQ 78 = .ok (.iload_n 2, 1) := by decide +kernel
theorem dX4_readQ_79 : decode cX4_readQ 79 = .ok (.bipush 33, 2) := by decide +kernel
theorem dX4_readQ_81 : decode cX4_readQ 81 = .ok (.if_icmp .ne 34, 3) := by decide +kernel
theorem dX4_readQ_84 : decode cX4_readQ 84 = .ok (.iload_n 1, 1) := by decide +kernel
theorem dX4_readQ_85 : decode cX4_readQ 85 = .ok (.iconst 5, 1) := by decide +kernel
theorem dX4_readQ_86 : decode cX4_readQ 86 = .ok (.if_icmp .ge 29, 3) := by decide +kernel
theorem dX4_readQ_89 : decode cX4_readQ 89 = .ok (.aload_n 0, 1) := by decide +kernel
theorem dX4_readQ_90 : decode cX4_readQ 90 = .ok (.dup, 1) := by decide +kernel
theorem dX4_readQ_91 : decode cX4_readQ 91 = .ok (.getfield 27, 3) := by decide +kernel
theorem dX4_readQ_94 : decode cX4_readQ 94 = .ok (.iconst 1, 1) := by decide +kernel
theorem dX4_readQ_95 : decode cX4_readQ 95 = .ok (.iadd, 1) := by decide +kernel
theorem dX4_readQ_96 : decode cX4_readQ 96 = .ok (.putfield 27, 3) := by decide +kernel
theorem dX4_readQ_99 : decode cX4_readQ 99 = .ok (.aload_n 0, 1) := by decide +kernel
theorem dX4_readQ_100 : decode cX4_readQ 100 = .ok (.iload_n 1, 1) := by decide +kernel
theorem dX4_readQ_101 : decode cX4_readQ 101 = .ok (.iconst 1, 1) := by decide +kernel
theorem dX4_readQ_102 : decode cX4_readQ 102 = .ok (.iadd, 1) := by decide +kernel
theorem dX4_readQ_103 : decode cX4_readQ 103 = .ok (.invokevirtual 80, 3) := by decide +kernel
theorem dX4_readQ_106 : decode cX4_readQ 106 = .ok (.aload_n 0, 1) := by decide +kernel
theorem dX4_readQ_107 : decode cX4_readQ 107 = .ok (.bipush 33, 2) := by decide +kernel
theorem dX4_readQ_109 : decode cX4_readQ 109 = .ok (.invokevirtual 68, 3) := by decide +kernel
theorem dX4_readQ_112 : decode cX4_readQ 112 = .ok (.goto 66, 3) := by decide +kernel
theorem dX4_readQ_115 : decode cX4_readQ 115 = .ok (.iload_n 2, 1) := by decide +kernel
theorem dX4_readQ_116 : decode cX4_readQ 116 = .ok (.bipush 40, 2) := by decide +kernel
theorem dX4_readQ_118 : decode cX4_readQ 118 = .ok (.if_icmp .ne 55, 3) := by decide +kernel
theorem dX4_readQ_121 : decode cX4_readQ 121 = .ok (.iload_n 1, 1) := by decide +kernel
theorem dX4_readQ_122 : decode cX4_readQ 122 = .ok (.iconst 5, 1) := by decide +kernel
theorem dX4_readQ_123 : decode cX4_readQ 123 = .ok (.if_icmp .ge 50, 3) := by decide +kernel
theorem dX4_readQ_126 : decode cX4_readQ 126 = .ok (.aload_n 0, 1) := by decide +kernel
theorem dX4_readQ_127 : decode cX4_readQ 127 = .ok (.dup, 1) := by decide +kernel
theorem dX4_readQ_128 : decode cX4_readQ 128 = .ok (.getfield 27, 3) := by decide +kernel
theorem dX4_readQ_131 : decode cX4_readQ 131 = .ok (.iconst 1, 1) := by decide +kernel
theorem dX4_readQ_132 : decode cX4_readQ 132 = .ok (.iadd, 1) := by decide +kernel
theorem dX4_readQ_133 : decode cX4_readQ 133 = .ok (.putfield 27, 3) := by decide +kernel
theorem dX4_readQ_136 : decode cX4_readQ 136 = .ok (.aload_n 0, 1) := by decide +kernel
theorem dX4_readQ_137 : decode cX4_readQ 137 = .ok (.iload_n 1, 1) := by decide +kernel
theorem dX4_readQ_138 : decode cX4_readQ 138 = .ok (.iconst 1, 1) := by decide +kernel
theorem dX4_readQ_139 : decode cX4_readQ 139 = .ok (.iadd, 1) := by decide +kernel
theorem dX4_readQ_140 : decode cX4_readQ 140 = .ok (.invokevirtual 38, 3) := by decide +kernel
theorem dX4_readQ_143 : decode cX4_readQ 143 = .ok (.aload_n 0, 1) := by decide +kernel
theorem dX4_readQ_144 : decode cX4_readQ 144 = .ok (.bipush 41, 2) := by decide +kernel
theorem dX4_readQ_146 : decode cX4_readQ 146 = .ok (.invokevirtual 65, 3) := by decide +kernel
theorem dX4_readQ_149 : decode cX4_readQ 149 = .ok (.ifCond .eq 16, 3) := by decide +kernel
theorem dX4_readQ_152 : decode cX4_readQ 152 = .ok (.aload_n 0, 1) := by decide +kernel
theorem dX4_readQ_153 : decode cX4_readQ 153 = .ok (.dup, 1) := by decide +kernel
theorem dX4_readQ_154 : decode cX4_readQ 154 = .ok (.getfield 27, 3) := by decide +kernel
theorem dX4_readQ_157 : decode cX4_readQ 157 = .ok (.iconst 1, 1) := by decide +kernel
theorem dX4_readQ_158 : decode cX4_readQ 158 = .ok (.iadd, 1) := by decide +kernel
theorem dX4_readQ_159 : decode cX4_readQ 159 = .ok (.putfield 27, 3) := by decide +kernel
theorem dX4_readQ_162 : decode cX4_readQ 162 = .ok (.goto 16, 3) := by decide +kernel
theorem dX4_readQ_165 : decode cX4_readQ 165 = .ok (.aload_n 0, 1) := by decide +kernel
theorem dX4_readQ_166 : decode cX4_readQ 166 = .ok (.iconst 0, 1) := by decide +kernel
theorem dX4_readQ_167 : decode cX4_readQ 167 = .ok (.putfield 31, 3) := by decide +kernel
theorem dX4_readQ_170 : decode cX4_readQ 170 = .ok (.goto 8, 3) := by decide +kernel
theorem dX4_readQ_173 : decode cX4_readQ 173 = .ok (.aload_n 0, 1) := by decide +kernel
theorem dX4_readQ_174 : decode cX4_readQ 174 = .ok (.iconst 0, 1) := by decide +kernel
theorem dX4_readQ_175 : decode cX4_readQ 175 = .ok (.putfield 31, 3) := by decide +kernel
theorem dX4_readQ_178 : decode cX4_readQ 178 = .ok (.return_, 1) := by decide +kernel
theorem dX4_readNumber_0 : decode cX4_readNumber 0 = .ok (.iconst 0, 1) := by decide +kernel
theorem dX4_readNumber_1 : decode cX4_readNumber 1 = .ok (.istore_n 1, 1) := by decide +kernel
theorem dX4_readNumber_2 : decode cX4_readNumber 2 = .ok (.iconst 0, 1) := by decide +kernel
theorem dX4_readNumber_3 : decode cX4_readNumber 3 = .ok (.istore_n 2, 1) := by decide +kernel
theorem dX4_readNumber_4 : decode cX4_readNumber 4 = .ok (.iload_n 2, 1) := by decide +kernel
theorem dX4_readNumber_5 : decode cX4_readNumber 5 = .ok (.iconst 4, 1) := by decide +kernel
theorem dX4_readNumber_6 : decode cX4_readNumber 6 = .ok (.if_icmp .ge 42, 3) := by decide +kernel
theorem dX4_readNumber_9 : decode cX4_readNumber 9 = .ok (.aload_n 0, 1) := by decide +kernel
theorem dX4_readNumber_10 : decode cX4_readNumber 10 = .ok (.invokevirtual 56, 3) := by decide +kernel
theorem dX4_readNumber_13 : decode cX4_readNumber 13 = .ok (.invokestatic 83, 3) := by decide +kernel
theorem dX4_readNumber_16 : decode cX4_readNumber 16 = .ok (.ifCond .eq 32, 3) := by decide +kernel
theorem dX4_readNumber_19 : decode cX4_readNumber 19 = .ok (.iload_n 1, 1) := by decide +kernel
theorem dX4_readNumber_20 : decode cX4_readNumber 20 = .ok (.bipush 10, 2) := by decide +kernel
theorem dX4_readNumber_22 : decode cX4_readNumber 22 = .ok (.imul, 1) := by decide +kernel
theorem dX4_readNumber_23 : decode cX4_readNumber 23 = .ok (.aload_n 0, 1) := by decide +kernel
theorem dX4_readNumber_24 : decode cX4_readNumber 24 = .ok (.invokevirtual 56, 3) := by decide +kernel
theorem dX4_readNumber_27 : decode cX4_readNumber 27 = .ok (.iadd, 1) := by decide +kernel
theorem dX4_readNumber_28 : decode cX4_readNumber 28 = .ok (.bipush 48, 2) := by decide +kernel
theorem dX4_readNumber_30 : decode cX4_readNumber 30 = .ok (.isub, 1) := by decide +kernel
theorem dX4_readNumber_31 : decode cX4_readNumber 31 = .ok (.istore_n 1, 1) := by decide +kernel
theorem dX4_readNumber_32 : decode cX4_readNumber 32 = .ok (.aload_n 0, 1) := by decide +kernel
theorem dX4_readNumber_33 : decode cX4_readNumber 33 = .ok (.dup, 1) := by decide +kernel
theorem dX4_readNumber_34 : decode cX4_readNumber 34 = .ok (.getfield 27, 3) := by decide +kernel
theorem dX4_readNumber_37 : decode cX4_readNumber 37 = .ok (.iconst 1, 1) := by decide +kernel
theorem dX4_readNumber_38 : decode cX4_readNumber 38 = .ok (.iadd, 1) := by decide +kernel
theorem dX4_readNumber_39 : decode cX4_readNumber 39 = .ok (.putfield 27, 3) := by decide +kernel
theorem dX4_readNumber_42 : decode cX4_readNumber 42 = .ok (.iinc 2 1, 3) := by decide +kernel
theorem dX4_readNumber_45 : decode cX4_readNumber 45 = .ok (.goto (-41), 3) := by decide +kernel
theorem dX4_readNumber_48 : decode cX4_readNumber 48 = .ok (.aload_n 0, 1) := by decide +kernel
theorem dX4_readNumber_49 : decode cX4_readNumber 49 = .ok (.getfield 14, 3) := by decide +kernel
theorem dX4_readNumber_52 : decode cX4_readNumber 52 = .ok (.iload_n 1, 1) := by decide +kernel
theorem dX4_readNumber_53 : decode cX4_readNumber 53 = .ok (.invokevirtual 59, 3) := by decide +kernel
theorem dX4_readNumber_56 : decode cX4_readNumber 56 = .ok (.pop, 1) := by decide +kernel
theorem dX4_readNumber_57 : decode cX4_readNumber 57 = .ok (.return_, 1) := by decide +kernel
theorem dX4_isDigit_0 : decode cX4_isDigit 0 = .ok (.iload_n 0, 1) := by decide +kernel
theorem dX4_isDigit_1 : decode cX4_isDigit 1 = .ok (.bipush 48, 2) := by decide +kernel
theorem dX4_isDigit_3 : decode cX4_isDigit 3 = .ok (.if_icmp .lt 13, 3) := by decide +kernel
theorem dX4_isDigit_6 : decode cX4_isDigit 6 = .ok (.iload_n 0, 1) := by decide +kernel
theorem dX4_isDigit_7 : decode cX4_isDigit 7 = .ok (.bipush 57, 2) := by decide +kernel
theorem dX4_isDigit_9 : decode cX4_isDigit 9 = .ok (.if_icmp .gt 7, 3) := by decide +kernel
theorem dX4_isDigit_12 : decode cX4_isDigit 12 = .ok (.iconst 1, 1) := by decide +kernel
theorem dX4_isDigit_13 : decode cX4_isDigit 13 = .ok (.goto 4, 3) := by decide +kernel
theorem dX4_isDigit_16 : decode cX4_isDigit 16 = .ok (.iconst 0, 1) := by decide +kernel
theorem dX4_isDigit_17 : decode cX4_isDigit 17 = .ok (.ireturn, 1) := by decide +kernel
theorem dX10_init_0 : decode cX10_init 0 = .ok (.aload_n 0, 1) := by decide +kernel
theorem dX10_init_1 : decode cX10_init 1 = .ok (.invokespecial 1, 3) := by decide +kernel
theorem dX10_init_4 : decode cX10_init 4 = .ok (.aload_n 0, 1) := by decide +kernel
theorem dX10_init_5 : decode cX10_init 5 = .ok (.new 7, 3) := by decide +kernel
theorem dX10_init_8 : decode cX10_init 8 = .ok (.dup, 1) := by decide +kernel
theorem dX10_init_9 : decode cX10_init 9 = .ok (.bipush 40, 2) := by decide +kernel
theorem dX10_init_11 : decode cX10_init 11 = .ok (.invokespecial 11, 3) := by decide +kernel
theorem dX10_init_14 : decode cX10_init 14 = .ok (.putfield 14, 3) := by decide +kernel
theorem dX10_init_17 : decode cX10_init 17 = .ok (.aload_n 0, 1) := by decide +kernel
theorem dX10_init_18 : decode cX10_init 18 = .ok (.iconst 0, 1) := by decide +kernel
theorem dX10_init_19 : decode cX10_init 19 = .ok (.putfield 18, 3) := by decide +kernel
theorem dX10_init_22 : decode cX10_init 22 = .ok (.aload_n 0, 1) := by decide +kernel
theorem dX10_init_23 : decode cX10_init 23 = .ok (.iconst 0, 1) := by decide +kernel
theorem dX10_init_24 : decode cX10_init 24 = .ok (.putfield 22, 3) := by decide +kernel
theorem dX10_init_27 : decode cX10_init 27 = .ok (.aload_n 0, 1) := by decide +kernel
theorem dX10_init_28 : decode cX10_init 28 = .ok (.iconst 0, 1) := by decide +kernel
theorem dX10_init_29 : decode cX10_init 29 = .ok (.putfield 25, 3) := by decide +kernel
theorem dX10_init_32 : decode cX10_init 32 = .ok (.return_, 1) := by decide +kernel
theorem dX10_heard_0 : decode cX10_heard 0 = .ok (.aload_n 0, 1) := by decide +kernel
theorem dX10_heard_1 : decode cX10_heard 1 = .ok (.getfield 14, 3) := by decide +kernel
theorem dX10_heard_4 : decode cX10_heard 4 = .ok (.areturn, 1) := by decide +kernel
theorem dX10_speak_0 : decode cX10_speak 0 = .ok (.aload_n 0, 1) := by decide +kernel
theorem dX10_speak_1 : decode cX10_speak 1 = .ok (.getfield 14, 3) := by decide +kernel
theorem dX10_speak_4 : decode cX10_speak 4 = .ok (.invokevirtual 28, 3) := by decide +kernel
theorem dX10_speak_7 : decode cX10_speak 7 = .ok (.aload_n 0, 1) := by decide +kernel
theorem dX10_speak_8 : decode cX10_speak 8 = .ok (.iload_n 2, 1) := by decide +kernel
theorem dX10_speak_9 : decode cX10_speak 9 = .ok (.putfield 18, 3) := by decide +kernel
theorem dX10_speak_12 : decode cX10_speak 12 = .ok (.aload_n 0, 1) := by decide +kernel
theorem dX10_speak_13 : decode cX10_speak 13 = .ok (.aload_n 1, 1) := by decide +kernel
theorem dX10_speak_14 : decode cX10_speak 14 = .ok (.iload_n 2, 1) := by decide +kernel
theorem dX10_speak_15 : decode cX10_speak 15 = .ok (.invokevirtual 31, 3) := by decide +kernel
theorem dX10_speak_18 : decode cX10_speak 18 = .ok (.putfield 22, 3) := by decide +kernel
theorem dX10_speak_21 : decode cX10_speak 21 = .ok (.aload_n 0, 1) := by decide +kernel
theorem dX10_speak_22 : decode cX10_speak 22 = .ok (.aload_n 1, 1) := by decide +kernel
theorem dX10_speak_23 : decode cX10_speak 23 = .ok (.iload_n 2, 1) := by decide +kernel
theorem dX10_speak_24 : decode cX10_speak 24 = .ok (.invokevirtual 37, 3) := by decide +kernel
theorem dX10_speak_27 : decode cX10_speak 27 = .ok (.putfield 25, 3) := by decide +kernel
theorem dX10_speak_30 : decode cX10_speak 30 = .ok (.aload_n 0, 1) := by decide +kernel
theorem dX10_speak_31 : decode cX10_speak 31 = .ok (.iload_n 3, 1) := by decide +kernel
theorem dX10_speak_32 : decode cX10_speak 32 = .ok (.iload 4, 2) := by decide +kernel
theorem dX10_speak_34 : decode cX10_speak 34 = .ok (.iconst 0, 1) := by decide +kernel
theorem dX10_speak_35 : decode cX10_speak 35 = .ok (.invokevirtual 40, 3) := by decide +kernel
theorem dX10_speak_38 : decode cX10_speak 38 = .ok (.ireturn, 1) := by decide +kernel
theorem dX10_own_0 : decode cX10_own 0 = .ok (.aload_n 0, 1) := by decide +kernel
theorem dX10_own_1 : decode cX10_own 1 = .ok (.aload_n 0, 1) := by decide +kernel
theorem dX10_own_2 : decode cX10_own 2 = .ok (.getfield 22, 3) := by decide +kernel
theorem dX10_own_5 : decode cX10_own 5 = .ok (.iload_n 1, 1) := by decide +kernel
theorem dX10_own_6 : decode cX10_own 6 = .ok (.iload_n 2, 1) := by decide +kernel
theorem dX10_own_7 : decode cX10_own 7 = .ok (.iload_n 3, 1) := by decide +kernel
theorem dX10_own_8 : decode cX10_own 8 = .ok (.invokevirtual 44, 3) := by decide +kernel
theorem dX10_own_11 : decode cX10_own 11 = .ok (.ireturn, 1) := by decide +kernel
theorem dX10_from_0 : decode cX10_from 0 = .ok (.iload 4, 2) := by decide +kernel
theorem dX10_from_2 : decode cX10_from 2 = .ok (.bipush 40, 2) := by decide +kernel
theorem dX10_from_4 : decode cX10_from 4 = .ok (.if_icmp .le 5, 3) := by decide +kernel
theorem dX10_from_7 : decode cX10_from 7 = .ok (.iconst 0, 1) := by decide +kernel
theorem dX10_from_8 : decode cX10_from 8 = .ok (.ireturn, 1) := by decide +kernel
theorem dX10_from_9 : decode cX10_from 9 = .ok (.iload_n 1, 1) := by decide +kernel
theorem dX10_from_10 : decode cX10_from 10 = .ok (.istore 5, 2) := by decide +kernel
theorem dX10_from_12 : decode cX10_from 12 = .ok (.iconst 0, 1) := by decide +kernel
theorem dX10_from_13 : decode cX10_from 13 = .ok (.istore 6, 2) := by decide +kernel
theorem dX10_from_15 : decode cX10_from 15 = .ok (.iload 6, 2) := by decide +kernel
theorem dX10_from_17 : decode cX10_from 17 = .ok (.bipush 7, 2) := by decide +kernel
theorem dX10_from_19 : decode cX10_from 19 = .ok (.if_icmp .ge 25, 3) := by decide +kernel
theorem dX10_from_22 : decode cX10_from 22 = .ok (.iload 5, 2) := by decide +kernel
theorem dX10_from_24 : decode cX10_from 24 = .ok (.iload_n 2, 1) := by decide +kernel
theorem dX10_from_25 : decode cX10_from 25 = .ok (.invokestatic 50, 3) := by decide +kernel
theorem dX10_from_28 : decode cX10_from 28 = .ok (.ifCond .ne 16, 3) := by decide +kernel
theorem dX10_from_31 : decode cX10_from 31 = .ok (.iload 5, 2) := by decide +kernel
theorem dX10_from_33 : decode cX10_from 33 = .ok (.invokestatic 54, 3) := by decide +kernel
theorem dX10_from_36 : decode cX10_from 36 = .ok (.istore 5, 2) := by decide +kernel
theorem dX10_from_38 : decode cX10_from 38 = .ok (.iinc 6 1, 3) := by decide +kernel
theorem dX10_from_41 : decode cX10_from 41 = .ok (.goto (-26), 3) := by decide +kernel
theorem dX10_from_44 : decode cX10_from 44 = .ok (.iload 5, 2) := by decide +kernel
theorem dX10_from_46 : decode cX10_from 46 = .ok (.iload_n 2, 1) := by decide +kernel
theorem dX10_from_47 : decode cX10_from 47 = .ok (.invokestatic 50, 3) := by decide +kernel
theorem dX10_from_50 : decode cX10_from 50 = .ok (.istore 6, 2) := by decide +kernel
theorem dX10_from_52 : decode cX10_from 52 = .ok (.aload_n 0, 1) := by decide +kernel
theorem dX10_from_53 : decode cX10_from 53 = .ok (.getfield 14, 3) := by decide +kernel
theorem dX10_from_56 : decode cX10_from 56 = .ok (.iload 6, 2) := by decide +kernel
theorem dX10_from_58 : decode cX10_from 58 = .ok (.invokevirtual 57, 3) := by decide +kernel
theorem dX10_from_61 : decode cX10_from 61 = .ok (.pop, 1) := by decide +kernel
theorem dX10_from_62 : decode cX10_from 62 = .ok (.aload_n 0, 1) := by decide +kernel
theorem dX10_from_63 : decode cX10_from 63 = .ok (.iload 6, 2) := by decide +kernel
theorem dX10_from_65 : decode cX10_from 65 = .ok (.iload 5, 2) := by decide +kernel
theorem dX10_from_67 : decode cX10_from 67 = .ok (.invokestatic 54, 3) := by decide +kernel
theorem dX10_from_70 : decode cX10_from 70 = .ok (.iload_n 3, 1) := by decide +kernel
theorem dX10_from_71 : decode cX10_from 71 = .ok (.iload 4, 2) := by decide +kernel
theorem dX10_from_73 : decode cX10_from 73 = .ok (.iconst 1, 1) := by decide +kernel
theorem dX10_from_74 : decode cX10_from 74 = .ok (.iadd, 1) := by decide +kernel
theorem dX10_from_75 : decode cX10_from 75 = .ok (.invokevirtual 61, 3) := by decide +kernel
theorem dX10_from_78 : decode cX10_from 78 = .ok (.ireturn, 1) := by decide +kernel
theorem dX10_bodyOf_0 : decode cX10_bodyOf 0 = .ok (.iload_n 0, 1) := by decide +kernel
theorem dX10_bodyOf_1 : decode cX10_bodyOf 1 = .ok (.iconst 4, 1) := by decide +kernel
theorem dX10_bodyOf_2 : decode cX10_bodyOf 2 = .ok (.imul, 1) := by decide +kernel
theorem dX10_bodyOf_3 : decode cX10_bodyOf 3 = .ok (.iload_n 1, 1) := by decide +kernel
theorem dX10_bodyOf_4 : decode cX10_bodyOf 4 = .ok (.iadd, 1) := by decide +kernel
theorem dX10_bodyOf_5 : decode cX10_bodyOf 5 = .ok (.istore_n 2, 1) := by decide +kernel
theorem dX10_bodyOf_6 : decode cX10_bodyOf 6 = .ok (.iload_n 2, 1) := by decide +kernel
theorem dX10_bodyOf_7 : decode cX10_bodyOf 7 = .ok (.ifCond .lt 19, 3) := by decide +kernel
theorem dX10_bodyOf_10 : decode cX10_bodyOf 10 = .ok (.iload_n 2, 1) := by decide +kernel
theorem dX10_bodyOf_11 : decode cX10_bodyOf 11 = .ok (.getstatic 64, 3) := by decide +kernel
theorem dX10_bodyOf_14 : decode cX10_bodyOf 14 = .ok (.arraylength, 1) := by decide +kernel
theorem dX10_bodyOf_15 : decode cX10_bodyOf 15 = .ok (.if_icmp .ge 11, 3) := by decide +kernel
theorem dX10_bodyOf_18 : decode cX10_bodyOf 18 = .ok (.getstatic 64, 3) := by decide +kernel
theorem dX10_bodyOf_21 : decode cX10_bodyOf 21 = .ok (.iload_n 2, 1) := by decide +kernel
theorem dX10_bodyOf_22 : decode cX10_bodyOf 22 = .ok (.iaload, 1) := by decide +kernel
theorem dX10_bodyOf_23 : decode cX10_bodyOf 23 = .ok (.goto 4, 3) := by decide +kernel
theorem dX10_bodyOf_26 : decode cX10_bodyOf 26 = .ok (.iconst 0, 1) := by decide +kernel
theorem dX10_bodyOf_27 : decode cX10_bodyOf 27 = .ok (.ireturn, 1) := by decide +kernel
theorem dX10_say_0 : decode cX10_say 0 = .ok (.iload_n 1, 1) := by decide +kernel
theorem dX10_say_1 : decode cX10_say 1 = .ok (.lookupswitch 249 #[(10, 99), (11, 106), (12, 117), (13, 124), (20, 142), (30, 153), (40, 172), (50, 184), (51, 199), (60, 218), (70, 230)], 99) := by decide +kernel
theorem dX10_say_100 : decode cX10_say 100 = .ok (.iload_n 3, 1) := by decide +kernel
theorem dX10_say_101 : decode cX10_say 101 = .ok (.aload_n 0, 1) := by decide +kernel
theorem dX10_say_102 : decode cX10_say 102 = .ok (.getfield 18, 3) := by decide +kernel
theorem dX10_say_105 : decode cX10_say 105 = .ok (.iadd, 1) := by decide +kernel
theorem dX10_say_106 : decode cX10_say 106 = .ok (.ireturn, 1) := by decide +kernel
theorem dX10_say_107 : decode cX10_say 107 = .ok (.aload_n 0, 1) := by decide +kernel
theorem dX10_say_108 : decode cX10_say 108 = .ok (.iconst 0, 1) := by decide +kernel
theorem dX10_say_109 : decode cX10_say 109 = .ok (.iload_n 3, 1) := by decide +kernel
theorem dX10_say_110 : decode cX10_say 110 = .ok (.iload 4, 2) := by decide +kernel
theorem dX10_say_112 : decode cX10_say 112 = .ok (.invokevirtual 40, 3) := by decide +kernel
theorem dX10_say_115 : decode cX10_say 115 = .ok (.iconst 2, 1) := by decide +kernel
theorem dX10_say_116 : decode cX10_say 116 = .ok (.imul, 1) := by decide +kernel
theorem dX10_say_117 : decode cX10_say 117 = .ok (.ireturn, 1) := by decide +kernel
theorem dX10_say_118 : decode cX10_say 118 = .ok (.iload_n 3, 1) := by decide +kernel
theorem dX10_say_119 : decode cX10_say 119 = .ok (.aload_n 0, 1) := by decide +kernel
theorem dX10_say_120 : decode cX10_say 120 = .ok (.getfield 25, 3) := by decide +kernel
theorem dX10_say_123 : decode cX10_say 123 = .ok (.isub, 1) := by decide +kernel
theorem dX10_say_124 : decode cX10_say 124 = .ok (.ireturn, 1) := by decide +kernel
theorem dX10_say_125 : decode cX10_say 125 = .ok (.aload_n 0, 1) := by decide +kernel
theorem dX10_say_126 : decode cX10_say 126 = .ok (.iconst 1, 1) := by decide +kernel
theorem dX10_say_127 : decode cX10_say 127 = .ok (.iload_n 3, 1) := by decide +kernel
theorem dX10_say_128 : decode cX10_say 128 = .ok (.iload 4, 2) := by decide +kernel
theorem dX10_say_130 : decode cX10_say 130 = .ok (.invokevirtual 40, 3) := by decide +kernel
theorem dX10_say_133 : decode cX10_say 133 = .ok (.aload_n 0, 1) := by decide +kernel
theorem dX10_say_134 : decode cX10_say 134 = .ok (.iconst 2, 1) := by decide +kernel
theorem dX10_say_135 : decode cX10_say 135 = .ok (.iload_n 3, 1) := by decide +kernel
theorem dX10_say_136 : decode cX10_say 136 = .ok (.iload 4, 2) := by decide +kernel
theorem dX10_say_138 : decode cX10_say 138 = .ok (.invokevirtual 40, 3) := by decide +kernel
theorem dX10_say_141 : decode cX10_say 141 = .ok (.ixor, 1) := by decide +kernel
theorem dX10_say_142 : decode cX10_say 142 = .ok (.ireturn, 1) := by decide +kernel
theorem dX10_say_143 : decode cX10_say 143 = .ok (.aload_n 0, 1) := by decide +kernel
theorem dX10_say_144 : decode cX10_say 144 = .ok (.iload_n 2, 1) := by decide +kernel
theorem dX10_say_145 : decode cX10_say 145 = .ok (.iconst 2, 1) := by decide +kernel
theorem dX10_say_146 : decode cX10_say 146 = .ok (.iload_n 3, 1) := by decide +kernel
theorem dX10_say_147 : decode cX10_say 147 = .ok (.iload 4, 2) := by decide +kernel
theorem dX10_say_149 : decode cX10_say 149 = .ok (.invokevirtual 44, 3) := by decide +kernel
theorem dX10_say_152 : decode cX10_say 152 = .ok (.ineg, 1) := by decide +kernel
theorem dX10_say_153 : decode cX10_say 153 = .ok (.ireturn, 1) := by decide +kernel
theorem dX10_say_154 : decode cX10_say 154 = .ok (.aload_n 0, 1) := by decide +kernel
theorem dX10_say_155 : decode cX10_say 155 = .ok (.iload_n 2, 1) := by decide +kernel
theorem dX10_say_156 : decode cX10_say 156 = .ok (.iconst 1, 1) := by decide +kernel
theorem dX10_say_157 : decode cX10_say 157 = .ok (.iload_n 3, 1) := by decide +kernel
theorem dX10_say_158 : decode cX10_say 158 = .ok (.iload 4, 2) := by decide +kernel
theorem dX10_say_160 : decode cX10_say 160 = .ok (.invokevirtual 44, 3) := by decide +kernel
theorem dX10_say_163 : decode cX10_say 163 = .ok (.aload_n 0, 1) := by decide +kernel
theorem dX10_say_164 : decode cX10_say 164 = .ok (.iconst 2, 1) := by decide +kernel
theorem dX10_say_165 : decode cX10_say 165 = .ok (.iconst 1, 1) := by decide +kernel
theorem dX10_say_166 : decode cX10_say 166 = .ok (.iload 4, 2) := by decide +kernel
theorem dX10_say_168 : decode cX10_say 168 = .ok (.invokevirtual 40, 3) := by decide +kernel
theorem dX10_say_171 : decode cX10_say 171 = .ok (.isub, 1) := by decide +kernel
theorem dX10_say_172 : decode cX10_say 172 = .ok (.ireturn, 1) := by decide +kernel
theorem dX10_say_173 : decode cX10_say 173 = .ok (.aload_n 0, 1) := by decide +kernel
theorem dX10_say_174 : decode cX10_say 174 = .ok (.iload_n 2, 1) := by decide +kernel
theorem dX10_say_175 : decode cX10_say 175 = .ok (.iconst 0, 1) := by decide +kernel
theorem dX10_say_176 : decode cX10_say 176 = .ok (.iload_n 3, 1) := by decide +kernel
theorem dX10_say_177 : decode cX10_say 177 = .ok (.iload 4, 2) := by decide +kernel
theorem dX10_say_179 : decode cX10_say 179 = .ok (.invokevirtual 44, 3) := by decide +kernel
theorem dX10_say_182 : decode cX10_say 182 = .ok (.iconst 3, 1) := by decide +kernel
theorem dX10_say_183 : decode cX10_say 183 = .ok (.imul, 1) := by decide +kernel
theorem dX10_say_184 : decode cX10_say 184 = .ok (.ireturn, 1) := by decide +kernel
theorem dX10_say_185 : decode cX10_say 185 = .ok (.aload_n 0, 1) := by decide +kernel
theorem dX10_say_186 : decode cX10_say 186 = .ok (.iload_n 2, 1) := by decide +kernel
theorem dX10_say_187 : decode cX10_say 187 = .ok (.iconst 2, 1) := by decide +kernel
theorem dX10_say_188 : decode cX10_say 188 = .ok (.iload_n 3, 1) := by decide +kernel
theorem dX10_say_189 : decode cX10_say 189 = .ok (.iload 4, 2) := by decide +kernel
theorem dX10_say_191 : decode cX10_say 191 = .ok (.invokevirtual 44, 3) := by decide +kernel
theorem dX10_say_194 : decode cX10_say 194 = .ok (.aload_n 0, 1) := by decide +kernel
theorem dX10_say_195 : decode cX10_say 195 = .ok (.getfield 18, 3) := by decide +kernel
theorem dX10_say_198 : decode cX10_say 198 = .ok (.ixor, 1) := by decide +kernel
theorem dX10_say_199 : decode cX10_say 199 = .ok (.ireturn, 1) := by decide +kernel
theorem dX10_say_200 : decode cX10_say 200 = .ok (.aload_n 0, 1) := by decide +kernel
theorem dX10_say_201 : decode cX10_say 201 = .ok (.iconst 1, 1) := by decide +kernel
theorem dX10_say_202 : decode cX10_say 202 = .ok (.iload_n 3, 1) := by decide +kernel
theorem dX10_say_203 : decode cX10_say 203 = .ok (.iload 4, 2) := by decide +kernel
theorem dX10_say_205 : decode cX10_say 205 = .ok (.invokevirtual 40, 3) := by decide +kernel
theorem dX10_say_208 : decode cX10_say 208 = .ok (.aload_n 0, 1) := by decide +kernel
theorem dX10_say_209 : decode cX10_say 209 = .ok (.iload_n 2, 1) := by decide +kernel
theorem dX10_say_210 : decode cX10_say 210 = .ok (.iconst 3, 1) := by decide +kernel
theorem dX10_say_211 : decode cX10_say 211 = .ok (.iload_n 3, 1) := by decide +kernel
theorem dX10_say_212 : decode cX10_say 212 = .ok (.iload 4, 2) := by decide +kernel
theorem dX10_say_214 : decode cX10_say 214 = .ok (.invokevirtual 44, 3) := by decide +kernel
theorem dX10_say_217 : decode cX10_say 217 = .ok (.isub, 1) := by decide +kernel
theorem dX10_say_218 : decode cX10_say 218 = .ok (.ireturn, 1) := by decide +kernel
theorem dX10_say_219 : decode cX10_say 219 = .ok (.aload_n 0, 1) := by decide +kernel
theorem dX10_say_220 : decode cX10_say 220 = .ok (.iload_n 2, 1) := by decide +kernel
theorem dX10_say_221 : decode cX10_say 221 = .ok (.iconst 1, 1) := by decide +kernel
theorem dX10_say_222 : decode cX10_say 222 = .ok (.iload_n 3, 1) := by decide +kernel
theorem dX10_say_223 : decode cX10_say 223 = .ok (.iconst 1, 1) := by decide +kernel
theorem dX10_say_224 : decode cX10_say 224 = .ok (.iadd, 1) := by decide +kernel
theorem dX10_say_225 : decode cX10_say 225 = .ok (.iload 4, 2) := by decide +kernel
theorem dX10_say_227 : decode cX10_say 227 = .ok (.invokevirtual 44, 3) := by decide +kernel
theorem dX10_say_230 : decode cX10_say 230 = .ok (.ireturn, 1) := by decide +kernel
theorem dX10_say_231 : decode cX10_say 231 = .ok (.aload_n 0, 1) := by decide +kernel
theorem dX10_say_232 : decode cX10_say 232 = .ok (.iload_n 2, 1) := by decide +kernel
theorem dX10_say_233 : decode cX10_say 233 = .ok (.iconst 3, 1) := by decide +kernel
theorem dX10_say_234 : decode cX10_say 234 = .ok (.iload_n 3, 1) := by decide +kernel
theorem dX10_say_235 : decode cX10_say 235 = .ok (.iload 4, 2) := by decide +kernel
theorem dX10_say_237 : decode cX10_say 237 = .ok (.invokevirtual 44, 3) := by decide +kernel
theorem dX10_say_240 : decode cX10_say 240 = .ok (.aload_n 0, 1) := by decide +kernel
theorem dX10_say_241 : decode cX10_say 241 = .ok (.iconst 0, 1) := by decide +kernel
theorem dX10_say_242 : decode cX10_say 242 = .ok (.iconst 2, 1) := by decide +kernel
theorem dX10_say_243 : decode cX10_say 243 = .ok (.iload 4, 2) := by decide +kernel
theorem dX10_say_245 : decode cX10_say 245 = .ok (.invokevirtual 40, 3) := by decide +kernel
theorem dX10_say_248 : decode cX10_say 248 = .ok (.isub, 1) := by decide +kernel
theorem dX10_say_249 : decode cX10_say 249 = .ok (.ireturn, 1) := by decide +kernel
theorem dX10_say_250 : decode cX10_say 250 = .ok (.iconst 0, 1) := by decide +kernel
theorem dX10_say_251 : decode cX10_say 251 = .ok (.ireturn, 1) := by decide +kernel
