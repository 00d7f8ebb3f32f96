theorem dX1_init_0 : decode cX1_init 0 = .ok (.aload_n 0, 1) := by decide +kernel
theorem dX1_init_1 : decode cX1_init 1 = .ok (.invokespecial 1, 3) := by decide +kernel
theorem dX1_init_4 : decode cX1_init 4 = .ok (.aload_n 0, 1) := by decide +kernel
theorem dX1_init_5 : decode cX1_init 5 = .ok (.new 7, 3) := by decide +kernel
theorem dX1_init_8 : decode cX1_init 8 = .ok (.dup, 1) := by decide +kernel
theorem dX1_init_9 : decode cX1_init 9 = .ok (.bipush 6, 2) := by decide +kernel
theorem dX1_init_11 : decode cX1_init 11 = .ok (.invokespecial 11, 3) := by decide +kernel
theorem dX1_init_14 : decode cX1_init 14 = .ok (.putfield 14, 3) := by decide +kernel
theorem dX1_init_17 : decode cX1_init 17 = .ok (.aload_n 0, 1) := by decide +kernel
theorem dX1_init_18 : decode cX1_init 18 = .ok (.new 7, 3) := by decide +kernel
theorem dX1_init_21 : decode cX1_init 21 = .ok (.dup, 1) := by decide +kernel
theorem dX1_init_22 : decode cX1_init 22 = .ok (.bipush 6, 2) := by decide +kernel
theorem dX1_init_24 : decode cX1_init 24 = .ok (.invokespecial 11, 3) := by decide +kernel
theorem dX1_init_27 : decode cX1_init 27 = .ok (.putfield 18, 3) := by decide +kernel
theorem dX1_init_30 : decode cX1_init 30 = .ok (.return_, 1) := by decide +kernel
theorem dX1_size_0 : decode cX1_size 0 = .ok (.aload_n 0, 1) := by decide +kernel
theorem dX1_size_1 : decode cX1_size 1 = .ok (.getfield 14, 3) := by decide +kernel
theorem dX1_size_4 : decode cX1_size 4 = .ok (.invokevirtual 21, 3) := by decide +kernel
theorem dX1_size_7 : decode cX1_size 7 = .ok (.ireturn, 1) := by decide +kernel
theorem dX1_isFull_0 : decode cX1_isFull 0 = .ok (.aload_n 0, 1) := by decide +kernel
theorem dX1_isFull_1 : decode cX1_isFull 1 = .ok (.invokevirtual 25, 3) := by decide +kernel
theorem dX1_isFull_4 : decode cX1_isFull 4 = .ok (.bipush 6, 2) := by decide +kernel
theorem dX1_isFull_6 : decode cX1_isFull 6 = .ok (.if_icmp .lt 7, 3) := by decide +kernel
theorem dX1_isFull_9 : decode cX1_isFull 9 = .ok (.iconst 1, 1) := by decide +kernel
theorem dX1_isFull_10 : decode cX1_isFull 10 = .ok (.goto 4, 3) := by decide +kernel
theorem dX1_isFull_13 : decode cX1_isFull 13 = .ok (.iconst 0, 1) := by decide +kernel
theorem dX1_isFull_14 : decode cX1_isFull 14 = .ok (.ireturn, 1) := by decide +kernel
theorem dX1_has_0 : decode cX1_has 0 = .ok (.aload_n 0, 1) := by decide +kernel
theorem dX1_has_1 : decode cX1_has 1 = .ok (.getfield 14, 3) := by decide +kernel
theorem dX1_has_4 : decode cX1_has 4 = .ok (.iload_n 1, 1) := by decide +kernel
theorem dX1_has_5 : decode cX1_has 5 = .ok (.invokevirtual 28, 3) := by decide +kernel
theorem dX1_has_8 : decode cX1_has 8 = .ok (.ireturn, 1) := by decide +kernel
theorem dX1_kindOf_0 : decode cX1_kindOf 0 = .ok (.aload_n 0, 1) := by decide +kernel
theorem dX1_kindOf_1 : decode cX1_kindOf 1 = .ok (.getfield 14, 3) := by decide +kernel
theorem dX1_kindOf_4 : decode cX1_kindOf 4 = .ok (.iload_n 1, 1) := by decide +kernel
theorem dX1_kindOf_5 : decode cX1_kindOf 5 = .ok (.invokevirtual 32, 3) := by decide +kernel
theorem dX1_kindOf_8 : decode cX1_kindOf 8 = .ok (.ireturn, 1) := by decide +kernel
theorem dX1_numberOf_0 : decode cX1_numberOf 0 = .ok (.aload_n 0, 1) := by decide +kernel
theorem dX1_numberOf_1 : decode cX1_numberOf 1 = .ok (.getfield 18, 3) := by decide +kernel
theorem dX1_numberOf_4 : decode cX1_numberOf 4 = .ok (.iload_n 1, 1) := by decide +kernel
theorem dX1_numberOf_5 : decode cX1_numberOf 5 = .ok (.invokevirtual 32, 3) := by decide +kernel
theorem dX1_numberOf_8 : decode cX1_numberOf 8 = .ok (.ireturn, 1) := by decide +kernel
theorem dX1_join_0 : decode cX1_join 0 = .ok (.aload_n 0, 1) := by decide +kernel
theorem dX1_join_1 : decode cX1_join 1 = .ok (.getfield 14, 3) := by decide +kernel
theorem dX1_join_4 : decode cX1_join 4 = .ok (.iload_n 1, 1) := by decide +kernel
theorem dX1_join_5 : decode cX1_join 5 = .ok (.bipush 10, 2) := by decide +kernel
theorem dX1_join_7 : decode cX1_join 7 = .ok (.idiv, 1) := by decide +kernel
theorem dX1_join_8 : decode cX1_join 8 = .ok (.invokevirtual 36, 3) := by decide +kernel
theorem dX1_join_11 : decode cX1_join 11 = .ok (.pop, 1) := by decide +kernel
theorem dX1_join_12 : decode cX1_join 12 = .ok (.aload_n 0, 1) := by decide +kernel
theorem dX1_join_13 : decode cX1_join 13 = .ok (.getfield 18, 3) := by decide +kernel
theorem dX1_join_16 : decode cX1_join 16 = .ok (.iload_n 1, 1) := by decide +kernel
theorem dX1_join_17 : decode cX1_join 17 = .ok (.bipush 10, 2) := by decide +kernel
theorem dX1_join_19 : decode cX1_join 19 = .ok (.irem, 1) := by decide +kernel
theorem dX1_join_20 : decode cX1_join 20 = .ok (.invokevirtual 36, 3) := by decide +kernel
theorem dX1_join_23 : decode cX1_join 23 = .ok (.pop, 1) := by decide +kernel
theorem dX1_join_24 : decode cX1_join 24 = .ok (.aload_n 0, 1) := by decide +kernel
theorem dX1_join_25 : decode cX1_join 25 = .ok (.invokevirtual 25, 3) := by decide +kernel
theorem dX1_join_28 : decode cX1_join 28 = .ok (.iconst 1, 1) := by decide +kernel
theorem dX1_join_29 : decode cX1_join 29 = .ok (.isub, 1) := by decide +kernel
theorem dX1_join_30 : decode cX1_join 30 = .ok (.ireturn, 1) := by decide +kernel
theorem dX1_turnInto_0 : decode cX1_turnInto 0 = .ok (.aload_n 0, 1) := by decide +kernel
theorem dX1_turnInto_1 : decode cX1_turnInto 1 = .ok (.iload_n 1, 1) := by decide +kernel
theorem dX1_turnInto_2 : decode cX1_turnInto 2 = .ok (.invokevirtual 39, 3) := by decide +kernel
theorem dX1_turnInto_5 : decode cX1_turnInto 5 = .ok (.istore_n 3, 1) := by decide +kernel
theorem dX1_turnInto_6 : decode cX1_turnInto 6 = .ok (.aload_n 0, 1) := by decide +kernel
theorem dX1_turnInto_7 : decode cX1_turnInto 7 = .ok (.getfield 14, 3) := by decide +kernel
theorem dX1_turnInto_10 : decode cX1_turnInto 10 = .ok (.iload_n 1, 1) := by decide +kernel
theorem dX1_turnInto_11 : decode cX1_turnInto 11 = .ok (.iload_n 2, 1) := by decide +kernel
theorem dX1_turnInto_12 : decode cX1_turnInto 12 = .ok (.bipush 10, 2) := by decide +kernel
theorem dX1_turnInto_14 : decode cX1_turnInto 14 = .ok (.idiv, 1) := by decide +kernel
theorem dX1_turnInto_15 : decode cX1_turnInto 15 = .ok (.invokevirtual 42, 3) := by decide +kernel
theorem dX1_turnInto_18 : decode cX1_turnInto 18 = .ok (.aload_n 0, 1) := by decide +kernel
theorem dX1_turnInto_19 : decode cX1_turnInto 19 = .ok (.getfield 18, 3) := by decide +kernel
theorem dX1_turnInto_22 : decode cX1_turnInto 22 = .ok (.iload_n 1, 1) := by decide +kernel
theorem dX1_turnInto_23 : decode cX1_turnInto 23 = .ok (.iload_n 2, 1) := by decide +kernel
theorem dX1_turnInto_24 : decode cX1_turnInto 24 = .ok (.bipush 10, 2) := by decide +kernel
theorem dX1_turnInto_26 : decode cX1_turnInto 26 = .ok (.irem, 1) := by decide +kernel
theorem dX1_turnInto_27 : decode cX1_turnInto 27 = .ok (.invokevirtual 42, 3) := by decide +kernel
theorem dX1_turnInto_30 : decode cX1_turnInto 30 = .ok (.iload_n 3, 1) := by decide +kernel
theorem dX1_turnInto_31 : decode cX1_turnInto 31 = .ok (.ireturn, 1) := by decide +kernel
theorem dX1_take_0 : decode cX1_take 0 = .ok (.aload_n 0, 1) := by decide +kernel
theorem dX1_take_1 : decode cX1_take 1 = .ok (.getfield 14, 3) := by decide +kernel
theorem dX1_take_4 : decode cX1_take 4 = .ok (.aload_n 1, 1) := by decide +kernel
theorem dX1_take_5 : decode cX1_take 5 = .ok (.getfield 14, 3) := by decide +kernel
theorem dX1_take_8 : decode cX1_take 8 = .ok (.invokevirtual 46, 3) := by decide +kernel
theorem dX1_take_11 : decode cX1_take 11 = .ok (.aload_n 0, 1) := by decide +kernel
theorem dX1_take_12 : decode cX1_take 12 = .ok (.getfield 18, 3) := by decide +kernel
theorem dX1_take_15 : decode cX1_take 15 = .ok (.aload_n 1, 1) := by decide +kernel
theorem dX1_take_16 : decode cX1_take 16 = .ok (.getfield 18, 3) := by decide +kernel
theorem dX1_take_19 : decode cX1_take 19 = .ok (.invokevirtual 46, 3) := by decide +kernel
theorem dX1_take_22 : decode cX1_take 22 = .ok (.return_, 1) := by decide +kernel
theorem dX3_isKind_0 : decode cX3_isKind 0 = .ok (.iload_n 0, 1) := by decide +kernel
theorem dX3_isKind_1 : decode cX3_isKind 1 = .ok (.ifCond .lt 13, 3) := by decide +kernel
theorem dX3_isKind_4 : decode cX3_isKind 4 = .ok (.iload_n 0, 1) := by decide +kernel
theorem dX3_isKind_5 : decode cX3_isKind 5 = .ok (.bipush 7, 2) := by decide +kernel
theorem dX3_isKind_7 : decode cX3_isKind 7 = .ok (.if_icmp .ge 7, 3) := by decide +kernel
theorem dX3_isKind_10 : decode cX3_isKind 10 = .ok (.iconst 1, 1) := by decide +kernel
theorem dX3_isKind_11 : decode cX3_isKind 11 = .ok (.goto 4, 3) := by decide +kernel
theorem dX3_isKind_14 : decode cX3_isKind 14 = .ok (.iconst 0, 1) := by decide +kernel
theorem dX3_isKind_15 : decode cX3_isKind 15 = .ok (.ireturn, 1) := by decide +kernel
theorem dX3_isKindAndNumber_0 : decode cX3_isKindAndNumber 0 = .ok (.iload_n 0, 1) := by decide +kernel
theorem dX3_isKindAndNumber_1 : decode cX3_isKindAndNumber 1 = .ok (.ifCond .lt 13, 3) := by decide +kernel
theorem dX3_isKindAndNumber_4 : decode cX3_isKindAndNumber 4 = .ok (.iload_n 0, 1) := by decide +kernel
theorem dX3_isKindAndNumber_5 : decode cX3_isKindAndNumber 5 = .ok (.bipush 70, 2) := by decide +kernel
theorem dX3_isKindAndNumber_7 : decode cX3_isKindAndNumber 7 = .ok (.if_icmp .ge 7, 3) := by decide +kernel
theorem dX3_isKindAndNumber_10 : decode cX3_isKindAndNumber 10 = .ok (.iconst 1, 1) := by decide +kernel
theorem dX3_isKindAndNumber_11 : decode cX3_isKindAndNumber 11 = .ok (.goto 4, 3) := by decide +kernel
theorem dX3_isKindAndNumber_14 : decode cX3_isKindAndNumber 14 = .ok (.iconst 0, 1) := by decide +kernel
theorem dX3_isKindAndNumber_15 : decode cX3_isKindAndNumber 15 = .ok (.ireturn, 1) := by decide +kernel
theorem dX3_above_0 : decode cX3_above 0 = .ok (.iload_n 0, 1) := by decide +kernel
theorem dX3_above_1 : decode cX3_above 1 = .ok (.ifCond .lt 19, 3) := by decide +kernel
theorem dX3_above_4 : decode cX3_above 4 = .ok (.iload_n 0, 1) := by decide +kernel
theorem dX3_above_5 : decode cX3_above 5 = .ok (.getstatic 9, 3) := by decide +kernel
theorem dX3_above_8 : decode cX3_above 8 = .ok (.arraylength, 1) := by decide +kernel
theorem dX3_above_9 : decode cX3_above 9 = .ok (.if_icmp .ge 11, 3) := by decide +kernel
theorem dX3_above_12 : decode cX3_above 12 = .ok (.getstatic 9, 3) := by decide +kernel
theorem dX3_above_15 : decode cX3_above 15 = .ok (.iload_n 0, 1) := by decide +kernel
theorem dX3_above_16 : decode cX3_above 16 = .ok (.iaload, 1) := by decide +kernel
theorem dX3_above_17 : decode cX3_above 17 = .ok (.goto 4, 3) := by decide +kernel
theorem dX3_above_20 : decode cX3_above 20 = .ok (.iconst (-1), 1) := by decide +kernel
theorem dX3_above_21 : decode cX3_above 21 = .ok (.ireturn, 1) := by decide +kernel
theorem dX3_isUnder_0 : decode cX3_isUnder 0 = .ok (.iload_n 0, 1) := by decide +kernel
theorem dX3_isUnder_1 : decode cX3_isUnder 1 = .ok (.istore_n 2, 1) := by decide +kernel
theorem dX3_isUnder_2 : decode cX3_isUnder 2 = .ok (.iconst 0, 1) := by decide +kernel
theorem dX3_isUnder_3 : decode cX3_isUnder 3 = .ok (.istore_n 3, 1) := by decide +kernel
theorem dX3_isUnder_4 : decode cX3_isUnder 4 = .ok (.iload_n 3, 1) := by decide +kernel
theorem dX3_isUnder_5 : decode cX3_isUnder 5 = .ok (.bipush 7, 2) := by decide +kernel
theorem dX3_isUnder_7 : decode cX3_isUnder 7 = .ok (.if_icmp .ge 25, 3) := by decide +kernel
theorem dX3_isUnder_10 : decode cX3_isUnder 10 = .ok (.iload_n 2, 1) := by decide +kernel
theorem dX3_isUnder_11 : decode cX3_isUnder 11 = .ok (.ifCond .lt 21, 3) := by decide +kernel
theorem dX3_isUnder_14 : decode cX3_isUnder 14 = .ok (.iload_n 2, 1) := by decide +kernel
theorem dX3_isUnder_15 : decode cX3_isUnder 15 = .ok (.iload_n 1, 1) := by decide +kernel
theorem dX3_isUnder_16 : decode cX3_isUnder 16 = .ok (.if_icmp .ne 5, 3) := by decide +kernel
theorem dX3_isUnder_19 : decode cX3_isUnder 19 = .ok (.iconst 1, 1) := by decide +kernel
theorem dX3_isUnder_20 : decode cX3_isUnder 20 = .ok (.ireturn, 1) := by decide +kernel
theorem dX3_isUnder_21 : decode cX3_isUnder 21 = .ok (.iload_n 2, 1) := by decide +kernel
theorem dX3_isUnder_22 : decode cX3_isUnder 22 = .ok (.invokestatic 13, 3) := by decide +kernel
theorem dX3_isUnder_25 : decode cX3_isUnder 25 = .ok (.istore_n 2, 1) := by decide +kernel
theorem dX3_isUnder_26 : decode cX3_isUnder 26 = .ok (.iinc 3 1, 3) := by decide +kernel
theorem dX3_isUnder_29 : decode cX3_isUnder 29 = .ok (.goto (-25), 3) := by decide +kernel
theorem dX3_isUnder_32 : decode cX3_isUnder 32 = .ok (.iconst 0, 1) := by decide +kernel
theorem dX3_isUnder_33 : decode cX3_isUnder 33 = .ok (.ireturn, 1) := by decide +kernel
theorem dX3_pace_0 : decode cX3_pace 0 = .ok (.iload_n 0, 1) := by decide +kernel
theorem dX3_pace_1 : decode cX3_pace 1 = .ok (.tableswitch 67 1 6 #[39, 47, 55, 41, 49, 55], 39) := by decide +kernel
theorem dX3_pace_40 : decode cX3_pace 40 = .ok (.iconst 3, 1) := by decide +kernel
theorem dX3_pace_41 : decode cX3_pace 41 = .ok (.ireturn, 1) := by decide +kernel
theorem dX3_pace_42 : decode cX3_pace 42 = .ok (.iconst 3, 1) := by decide +kernel
theorem dX3_pace_43 : decode cX3_pace 43 = .ok (.iload_n 1, 1) := by decide +kernel
theorem dX3_pace_44 : decode cX3_pace 44 = .ok (.iconst 4, 1) := by decide +kernel
theorem dX3_pace_45 : decode cX3_pace 45 = .ok (.idiv, 1) := by decide +kernel
theorem dX3_pace_46 : decode cX3_pace 46 = .ok (.iadd, 1) := by decide +kernel
theorem dX3_pace_47 : decode cX3_pace 47 = .ok (.ireturn, 1) := by decide +kernel
theorem dX3_pace_48 : decode cX3_pace 48 = .ok (.iconst 1, 1) := by decide +kernel
theorem dX3_pace_49 : decode cX3_pace 49 = .ok (.ireturn, 1) := by decide +kernel
theorem dX3_pace_50 : decode cX3_pace 50 = .ok (.iconst 1, 1) := by decide +kernel
theorem dX3_pace_51 : decode cX3_pace 51 = .ok (.iload_n 2, 1) := by decide +kernel
theorem dX3_pace_52 : decode cX3_pace 52 = .ok (.iconst 3, 1) := by decide +kernel
theorem dX3_pace_53 : decode cX3_pace 53 = .ok (.idiv, 1) := by decide +kernel
theorem dX3_pace_54 : decode cX3_pace 54 = .ok (.iadd, 1) := by decide +kernel
theorem dX3_pace_55 : decode cX3_pace 55 = .ok (.ireturn, 1) := by decide +kernel
theorem dX3_pace_56 : decode cX3_pace 56 = .ok (.iload_n 2, 1) := by decide +kernel
theorem dX3_pace_57 : decode cX3_pace 57 = .ok (.iconst 2, 1) := by decide +kernel
theorem dX3_pace_58 : decode cX3_pace 58 = .ok (.irem, 1) := by decide +kernel
theorem dX3_pace_59 : decode cX3_pace 59 = .ok (.ifCond .ne 7, 3) := by decide +kernel
theorem dX3_pace_62 : decode cX3_pace 62 = .ok (.iconst 1, 1) := by decide +kernel
theorem dX3_pace_63 : decode cX3_pace 63 = .ok (.goto 4, 3) := by decide +kernel
theorem dX3_pace_66 : decode cX3_pace 66 = .ok (.iconst 0, 1) := by decide +kernel
theorem dX3_pace_67 : decode cX3_pace 67 = .ok (.ireturn, 1) := by decide +kernel
theorem dX3_pace_68 : decode cX3_pace 68 = .ok (.iconst 2, 1) := by decide +kernel
theorem dX3_pace_69 : decode cX3_pace 69 = .ok (.ireturn, 1) := by decide +kernel
theorem dX3_load_0 : decode cX3_load 0 = .ok (.iload_n 0, 1) := by decide +kernel
theorem dX3_load_1 : decode cX3_load 1 = .ok (.tableswitch 54 2 6 #[35, 49, 54, 41, 52], 35) := by decide +kernel
theorem dX3_load_36 : decode cX3_load 36 = .ok (.iconst 3, 1) := by decide +kernel
theorem dX3_load_37 : decode cX3_load 37 = .ok (.iload_n 1, 1) := by decide +kernel
theorem dX3_load_38 : decode cX3_load 38 = .ok (.iconst 3, 1) := by decide +kernel
theorem dX3_load_39 : decode cX3_load 39 = .ok (.irem, 1) := by decide +kernel
theorem dX3_load_40 : decode cX3_load 40 = .ok (.iadd, 1) := by decide +kernel
theorem dX3_load_41 : decode cX3_load 41 = .ok (.ireturn, 1) := by decide +kernel
theorem dX3_load_42 : decode cX3_load 42 = .ok (.iconst 3, 1) := by decide +kernel
theorem dX3_load_43 : decode cX3_load 43 = .ok (.iload_n 1, 1) := by decide +kernel
theorem dX3_load_44 : decode cX3_load 44 = .ok (.iconst 3, 1) := by decide +kernel
theorem dX3_load_45 : decode cX3_load 45 = .ok (.irem, 1) := by decide +kernel
theorem dX3_load_46 : decode cX3_load 46 = .ok (.iadd, 1) := by decide +kernel
theorem dX3_load_47 : decode cX3_load 47 = .ok (.iconst 1, 1) := by decide +kernel
theorem dX3_load_48 : decode cX3_load 48 = .ok (.isub, 1) := by decide +kernel
theorem dX3_load_49 : decode cX3_load 49 = .ok (.ireturn, 1) := by decide +kernel
theorem dX3_load_50 : decode cX3_load 50 = .ok (.bipush 9, 2) := by decide +kernel
theorem dX3_load_52 : decode cX3_load 52 = .ok (.ireturn, 1) := by decide +kernel
theorem dX3_load_53 : decode cX3_load 53 = .ok (.iconst 4, 1) := by decide +kernel
theorem dX3_load_54 : decode cX3_load 54 = .ok (.ireturn, 1) := by decide +kernel
theorem dX3_load_55 : decode cX3_load 55 = .ok (.iconst 2, 1) := by decide +kernel
theorem dX3_load_56 : decode cX3_load 56 = .ok (.ireturn, 1) := by decide +kernel
theorem dX3_uses_0 : decode cX3_uses 0 = .ok (.iload_n 0, 1) := by decide +kernel
theorem dX3_uses_1 : decode cX3_uses 1 = .ok (.lookupswitch 35 #[(3, 27), (6, 29)], 27) := by decide +kernel
theorem dX3_uses_28 : decode cX3_uses 28 = .ok (.iconst 2, 1) := by decide +kernel
theorem dX3_uses_29 : decode cX3_uses 29 = .ok (.ireturn, 1) := by decide +kernel
theorem dX3_uses_30 : decode cX3_uses 30 = .ok (.iconst 2, 1) := by decide +kernel
theorem dX3_uses_31 : decode cX3_uses 31 = .ok (.iload_n 1, 1) := by decide +kernel
theorem dX3_uses_32 : decode cX3_uses 32 = .ok (.iconst 2, 1) := by decide +kernel
theorem dX3_uses_33 : decode cX3_uses 33 = .ok (.irem, 1) := by decide +kernel
theorem dX3_uses_34 : decode cX3_uses 34 = .ok (.iadd, 1) := by decide +kernel
theorem dX3_uses_35 : decode cX3_uses 35 = .ok (.ireturn, 1) := by decide +kernel
theorem dX3_uses_36 : decode cX3_uses 36 = .ok (.iconst 1, 1) := by decide +kernel
theorem dX3_uses_37 : decode cX3_uses 37 = .ok (.ireturn, 1) := by decide +kernel
theorem dX3_minutesFor_0 : decode cX3_minutesFor 0 = .ok (.iload_n 0, 1) := by decide +kernel
theorem dX3_minutesFor_1 : decode cX3_minutesFor 1 = .ok (.iload_n 1, 1) := by decide +kernel
theorem dX3_minutesFor_2 : decode cX3_minutesFor 2 = .ok (.invokestatic 17, 3) := by decide +kernel
theorem dX3_minutesFor_5 : decode cX3_minutesFor 5 = .ok (.istore_n 3, 1) := by decide +kernel
theorem dX3_minutesFor_6 : decode cX3_minutesFor 6 = .ok (.iload_n 2, 1) := by decide +kernel
theorem dX3_minutesFor_7 : decode cX3_minutesFor 7 = .ok (.ifCond .eq 17, 3) := by decide +kernel
theorem dX3_minutesFor_10 : decode cX3_minutesFor 10 = .ok (.iload_n 3, 1) := by decide +kernel
theorem dX3_minutesFor_11 : decode cX3_minutesFor 11 = .ok (.ifCond .le 13, 3) := by decide +kernel
theorem dX3_minutesFor_14 : decode cX3_minutesFor 14 = .ok (.iload_n 2, 1) := by decide +kernel
theorem dX3_minutesFor_15 : decode cX3_minutesFor 15 = .ok (.iload_n 3, 1) := by decide +kernel
theorem dX3_minutesFor_16 : decode cX3_minutesFor 16 = .ok (.irem, 1) := by decide +kernel
theorem dX3_minutesFor_17 : decode cX3_minutesFor 17 = .ok (.ifCond .ne 7, 3) := by decide +kernel
theorem dX3_minutesFor_20 : decode cX3_minutesFor 20 = .ok (.iconst 1, 1) := by decide +kernel
theorem dX3_minutesFor_21 : decode cX3_minutesFor 21 = .ok (.goto 4, 3) := by decide +kernel
theorem dX3_minutesFor_24 : decode cX3_minutesFor 24 = .ok (.iconst 0, 1) := by decide +kernel
theorem dX3_minutesFor_25 : decode cX3_minutesFor 25 = .ok (.istore 4, 2) := by decide +kernel
theorem dX3_minutesFor_27 : decode cX3_minutesFor 27 = .ok (.iload_n 0, 1) := by decide +kernel
theorem dX3_minutesFor_28 : decode cX3_minutesFor 28 = .ok (.iload_n 1, 1) := by decide +kernel
theorem dX3_minutesFor_29 : decode cX3_minutesFor 29 = .ok (.iload_n 2, 1) := by decide +kernel
theorem dX3_minutesFor_30 : decode cX3_minutesFor 30 = .ok (.invokestatic 21, 3) := by decide +kernel
theorem dX3_minutesFor_33 : decode cX3_minutesFor 33 = .ok (.iload 4, 2) := by decide +kernel
theorem dX3_minutesFor_35 : decode cX3_minutesFor 35 = .ok (.ifCond .eq 7, 3) := by decide +kernel
theorem dX3_minutesFor_38 : decode cX3_minutesFor 38 = .ok (.iconst 1, 1) := by decide +kernel
theorem dX3_minutesFor_39 : decode cX3_minutesFor 39 = .ok (.goto 4, 3) := by decide +kernel
theorem dX3_minutesFor_42 : decode cX3_minutesFor 42 = .ok (.iconst 0, 1) := by decide +kernel
theorem dX3_minutesFor_43 : decode cX3_minutesFor 43 = .ok (.iadd, 1) := by decide +kernel
theorem dX3_minutesFor_44 : decode cX3_minutesFor 44 = .ok (.ireturn, 1) := by decide +kernel
theorem dX3_leastBy_0 : decode cX3_leastBy 0 = .ok (.iconst 0, 1) := by decide +kernel
theorem dX3_leastBy_1 : decode cX3_leastBy 1 = .ok (.istore_n 3, 1) := by decide +kernel
theorem dX3_leastBy_2 : decode cX3_leastBy 2 = .ok (.iload_n 3, 1) := by decide +kernel
theorem dX3_leastBy_3 : decode cX3_leastBy 3 = .ok (.bipush 7, 2) := by decide +kernel
theorem dX3_leastBy_5 : decode cX3_leastBy 5 = .ok (.if_icmp .ge 21, 3) := by decide +kernel
theorem dX3_leastBy_8 : decode cX3_leastBy 8 = .ok (.aload_n 0, 1) := by decide +kernel
theorem dX3_leastBy_9 : decode cX3_leastBy 9 = .ok (.iload_n 1, 1) := by decide +kernel
theorem dX3_leastBy_10 : decode cX3_leastBy 10 = .ok (.iload_n 3, 1) := by decide +kernel
theorem dX3_leastBy_11 : decode cX3_leastBy 11 = .ok (.iload_n 2, 1) := by decide +kernel
theorem dX3_leastBy_12 : decode cX3_leastBy 12 = .ok (.invokestatic 25, 3) := by decide +kernel
theorem dX3_leastBy_15 : decode cX3_leastBy 15 = .ok (.ifCond .eq 5, 3) := by decide +kernel
theorem dX3_leastBy_18 : decode cX3_leastBy 18 = .ok (.iload_n 3, 1) := by decide +kernel
theorem dX3_leastBy_19 : decode cX3_leastBy 19 = .ok (.ireturn, 1) := by decide +kernel
theorem dX3_leastBy_20 : decode cX3_leastBy 20 = .ok (.iinc 3 1, 3) := by decide +kernel
theorem dX3_leastBy_23 : decode cX3_leastBy 23 = .ok (.goto (-21), 3) := by decide +kernel
theorem dX3_leastBy_26 : decode cX3_leastBy 26 = .ok (.iconst (-1), 1) := by decide +kernel
theorem dX3_leastBy_27 : decode cX3_leastBy 27 = .ok (.ireturn, 1) := by decide +kernel
theorem dX3_doesAt_0 : decode cX3_doesAt 0 = .ok (.iload_n 1, 1) := by decide +kernel
theorem dX3_doesAt_1 : decode cX3_doesAt 1 = .ok (.istore 4, 2) := by decide +kernel
theorem dX3_doesAt_3 : decode cX3_doesAt 3 = .ok (.iconst 0, 1) := by decide +kernel
theorem dX3_doesAt_4 : decode cX3_doesAt 4 = .ok (.istore 5, 2) := by decide +kernel
theorem dX3_doesAt_6 : decode cX3_doesAt 6 = .ok (.iload 5, 2) := by decide +kernel
theorem dX3_doesAt_8 : decode cX3_doesAt 8 = .ok (.aload_n 0, 1) := by decide +kernel
theorem dX3_doesAt_9 : decode cX3_doesAt 9 = .ok (.invokevirtual 29, 3) := by decide +kernel
theorem dX3_doesAt_12 : decode cX3_doesAt 12 = .ok (.if_icmp .ge 34, 3) := by decide +kernel
theorem dX3_doesAt_15 : decode cX3_doesAt 15 = .ok (.iload 4, 2) := by decide +kernel
theorem dX3_doesAt_17 : decode cX3_doesAt 17 = .ok (.iload_n 2, 1) := by decide +kernel
theorem dX3_doesAt_18 : decode cX3_doesAt 18 = .ok (.iload_n 3, 1) := by decide +kernel
theorem dX3_doesAt_19 : decode cX3_doesAt 19 = .ok (.iload 5, 2) := by decide +kernel
theorem dX3_doesAt_21 : decode cX3_doesAt 21 = .ok (.invokestatic 35, 3) := by decide +kernel
theorem dX3_doesAt_24 : decode cX3_doesAt 24 = .ok (.iadd, 1) := by decide +kernel
theorem dX3_doesAt_25 : decode cX3_doesAt 25 = .ok (.istore 4, 2) := by decide +kernel
theorem dX3_doesAt_27 : decode cX3_doesAt 27 = .ok (.aload_n 0, 1) := by decide +kernel
theorem dX3_doesAt_28 : decode cX3_doesAt 28 = .ok (.iload 5, 2) := by decide +kernel
theorem dX3_doesAt_30 : decode cX3_doesAt 30 = .ok (.invokevirtual 38, 3) := by decide +kernel
theorem dX3_doesAt_33 : decode cX3_doesAt 33 = .ok (.iload 4, 2) := by decide +kernel
theorem dX3_doesAt_35 : decode cX3_doesAt 35 = .ok (.if_icmp .eq 5, 3) := by decide +kernel
theorem dX3_doesAt_38 : decode cX3_doesAt 38 = .ok (.iconst 0, 1) := by decide +kernel
theorem dX3_doesAt_39 : decode cX3_doesAt 39 = .ok (.ireturn, 1) := by decide +kernel
theorem dX3_doesAt_40 : decode cX3_doesAt 40 = .ok (.iinc 5 1, 3) := by decide +kernel
theorem dX3_doesAt_43 : decode cX3_doesAt 43 = .ok (.goto (-37), 3) := by decide +kernel
theorem dX3_doesAt_46 : decode cX3_doesAt 46 = .ok (.iconst 1, 1) := by decide +kernel
theorem dX3_doesAt_47 : decode cX3_doesAt 47 = .ok (.ireturn, 1) := by decide +kernel
theorem dX6_init_0 : decode cX6_init 0 = .ok (.aload_n 0, 1) := by decide +kernel
theorem dX6_init_1 : decode cX6_init 1 = .ok (.invokespecial 1, 3) := by decide +kernel
theorem dX6_init_4 : decode cX6_init 4 = .ok (.aload_n 0, 1) := by decide +kernel
theorem dX6_init_5 : decode cX6_init 5 = .ok (.new 7, 3) := by decide +kernel
theorem dX6_init_8 : decode cX6_init 8 = .ok (.dup, 1) := by decide +kernel
theorem dX6_init_9 : decode cX6_init 9 = .ok (.bipush 40, 2) := by decide +kernel
theorem dX6_init_11 : decode cX6_init 11 = .ok (.invokespecial 11, 3) := by decide +kernel
theorem dX6_init_14 : decode cX6_init 14 = .ok (.putfield 14, 3) := by decide +kernel
theorem dX6_init_17 : decode cX6_init 17 = .ok (.aload_n 0, 1) := by decide +kernel
theorem dX6_init_18 : decode cX6_init 18 = .ok (.iconst 0, 1) := by decide +kernel
theorem dX6_init_19 : decode cX6_init 19 = .ok (.putfield 18, 3) := by decide +kernel
theorem dX6_init_22 : decode cX6_init 22 = .ok (.return_, 1) := by decide +kernel
theorem dX6_isWidth_0 : decode cX6_isWidth 0 = .ok (.iload_n 0, 1) := by decide +kernel
theorem dX6_isWidth_1 : decode cX6_isWidth 1 = .ok (.ifCond .eq 21, 3) := by decide +kernel
theorem dX6_isWidth_4 : decode cX6_isWidth 4 = .ok (.iload_n 0, 1) := by decide +kernel
theorem dX6_isWidth_5 : decode cX6_isWidth 5 = .ok (.bipush 8, 2) := by decide +kernel
theorem dX6_isWidth_7 : decode cX6_isWidth 7 = .ok (.if_icmp .eq 15, 3) := by decide +kernel
theorem dX6_isWidth_10 : decode cX6_isWidth 10 = .ok (.iload_n 0, 1) := by decide +kernel
theorem dX6_isWidth_11 : decode cX6_isWidth 11 = .ok (.bipush 16, 2) := by decide +kernel
theorem dX6_isWidth_13 : decode cX6_isWidth 13 = .ok (.if_icmp .eq 9, 3) := by decide +kernel
theorem dX6_isWidth_16 : decode cX6_isWidth 16 = .ok (.iload_n 0, 1) := by decide +kernel
theorem dX6_isWidth_17 : decode cX6_isWidth 17 = .ok (.bipush 32, 2) := by decide +kernel
theorem dX6_isWidth_19 : decode cX6_isWidth 19 = .ok (.if_icmp .ne 7, 3) := by decide +kernel
theorem dX6_isWidth_22 : decode cX6_isWidth 22 = .ok (.iconst 1, 1) := by decide +kernel
theorem dX6_isWidth_23 : decode cX6_isWidth 23 = .ok (.goto 4, 3) := by decide +kernel
theorem dX6_isWidth_26 : decode cX6_isWidth 26 = .ok (.iconst 0, 1) := by decide +kernel
theorem dX6_isWidth_27 : decode cX6_isWidth 27 = .ok (.ireturn, 1) := by decide +kernel
theorem dX6_isMissing_0 : decode cX6_isMissing 0 = .ok (.aload_n 0, 1) := by decide +kernel
theorem dX6_isMissing_1 : decode cX6_isMissing 1 = .ok (.getfield 18, 3) := by decide +kernel
theorem dX6_isMissing_4 : decode cX6_isMissing 4 = .ok (.ifCond .ne 7, 3) := by decide +kernel
theorem dX6_isMissing_7 : decode cX6_isMissing 7 = .ok (.iconst 1, 1) := by decide +kernel
theorem dX6_isMissing_8 : decode cX6_isMissing 8 = .ok (.goto 4, 3) := by decide +kernel
theorem dX6_isMissing_11 : decode cX6_isMissing 11 = .ok (.iconst 0, 1) := by decide +kernel
theorem dX6_isMissing_12 : decode cX6_isMissing 12 = .ok (.ireturn, 1) := by decide +kernel
theorem dX6_bits_0 : decode cX6_bits 0 = .ok (.aload_n 0, 1) := by decide +kernel
theorem dX6_bits_1 : decode cX6_bits 1 = .ok (.getfield 18, 3) := by decide +kernel
theorem dX6_bits_4 : decode cX6_bits 4 = .ok (.ireturn, 1) := by decide +kernel
theorem dX6_remove_0 : decode cX6_remove 0 = .ok (.aload_n 0, 1) := by decide +kernel
theorem dX6_remove_1 : decode cX6_remove 1 = .ok (.iconst 0, 1) := by decide +kernel
theorem dX6_remove_2 : decode cX6_remove 2 = .ok (.putfield 18, 3) := by decide +kernel
theorem dX6_remove_5 : decode cX6_remove 5 = .ok (.aload_n 0, 1) := by decide +kernel
theorem dX6_remove_6 : decode cX6_remove 6 = .ok (.getfield 14, 3) := by decide +kernel
theorem dX6_remove_9 : decode cX6_remove 9 = .ok (.invokevirtual 22, 3) := by decide +kernel
theorem dX6_remove_12 : decode cX6_remove 12 = .ok (.return_, 1) := by decide +kernel
theorem dX6_renew_0 : decode cX6_renew 0 = .ok (.aload_n 0, 1) := by decide +kernel
theorem dX6_renew_1 : decode cX6_renew 1 = .ok (.iload_n 1, 1) := by decide +kernel
theorem dX6_renew_2 : decode cX6_renew 2 = .ok (.putfield 18, 3) := by decide +kernel
theorem dX6_renew_5 : decode cX6_renew 5 = .ok (.aload_n 0, 1) := by decide +kernel
theorem dX6_renew_6 : decode cX6_renew 6 = .ok (.getfield 14, 3) := by decide +kernel
theorem dX6_renew_9 : decode cX6_renew 9 = .ok (.iload_n 2, 1) := by decide +kernel
theorem dX6_renew_10 : decode cX6_renew 10 = .ok (.iconst 0, 1) := by decide +kernel
theorem dX6_renew_11 : decode cX6_renew 11 = .ok (.invokevirtual 25, 3) := by decide +kernel
theorem dX6_renew_14 : decode cX6_renew 14 = .ok (.return_, 1) := by decide +kernel
theorem dX6_write_0 : decode cX6_write 0 = .ok (.aload_n 0, 1) := by decide +kernel
theorem dX6_write_1 : decode cX6_write 1 = .ok (.getfield 14, 3) := by decide +kernel
theorem dX6_write_4 : decode cX6_write 4 = .ok (.iload_n 1, 1) := by decide +kernel
theorem dX6_write_5 : decode cX6_write 5 = .ok (.aload_n 0, 1) := by decide +kernel
theorem dX6_write_6 : decode cX6_write 6 = .ok (.getfield 18, 3) := by decide +kernel
theorem dX6_write_9 : decode cX6_write 9 = .ok (.bipush 8, 2) := by decide +kernel
theorem dX6_write_11 : decode cX6_write 11 = .ok (.if_icmp .ne 8, 3) := by decide +kernel
theorem dX6_write_14 : decode cX6_write 14 = .ok (.iload_n 2, 1) := by decide +kernel
theorem dX6_write_15 : decode cX6_write 15 = .ok (.i2b, 1) := by decide +kernel
theorem dX6_write_16 : decode cX6_write 16 = .ok (.goto 18, 3) := by decide +kernel
theorem dX6_write_19 : decode cX6_write 19 = .ok (.aload_n 0, 1) := by decide +kernel
theorem dX6_write_20 : decode cX6_write 20 = .ok (.getfield 18, 3) := by decide +kernel
theorem dX6_write_23 : decode cX6_write 23 = .ok (.bipush 16, 2) := by decide +kernel
theorem dX6_write_25 : decode cX6_write 25 = .ok (.if_icmp .ne 8, 3) := by decide +kernel
theorem dX6_write_28 : decode cX6_write 28 = .ok (.iload_n 2, 1) := by decide +kernel
theorem dX6_write_29 : decode cX6_write 29 = .ok (.i2s, 1) := by decide +kernel
theorem dX6_write_30 : decode cX6_write 30 = .ok (.goto 4, 3) := by decide +kernel
theorem dX6_write_33 : decode cX6_write 33 = .ok (.iload_n 2, 1) := by decide +kernel
theorem dX6_write_34 : decode cX6_write 34 = .ok (.invokevirtual 29, 3) := by decide +kernel
theorem dX6_write_37 : decode cX6_write 37 = .ok (.return_, 1) := by decide +kernel
