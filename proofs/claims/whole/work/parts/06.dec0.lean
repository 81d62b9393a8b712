theorem d_FaxLine_init_0 : decode b_FaxLine_init 0 = .ok (.aload_n 0, 1) := by decide +kernel
theorem d_FaxLine_init_1 : decode b_FaxLine_init 1 = .ok (.invokespecial 1, 3) := by decide +kernel
theorem d_FaxLine_init_4 : decode b_FaxLine_init 4 = .ok (.aload_n 0, 1) := by decide +kernel
theorem d_FaxLine_init_5 : decode b_FaxLine_init 5 = .ok (.iload_n 1, 1) := by decide +kernel
theorem d_FaxLine_init_6 : decode b_FaxLine_init 6 = .ok (.putfield 7, 3) := by decide +kernel
theorem d_FaxLine_init_9 : decode b_FaxLine_init 9 = .ok (.return_, 1) := by decide +kernel
theorem d_FaxLine_start_0 : decode b_FaxLine_start 0 = .ok (.aload_n 0, 1) := by decide +kernel
theorem d_FaxLine_start_1 : decode b_FaxLine_start 1 = .ok (.iload_n 1, 1) := by decide +kernel
theorem d_FaxLine_start_2 : decode b_FaxLine_start 2 = .ok (.putfield 13, 3) := by decide +kernel
theorem d_FaxLine_start_5 : decode b_FaxLine_start 5 = .ok (.aload_n 0, 1) := by decide +kernel
theorem d_FaxLine_start_6 : decode b_FaxLine_start 6 = .ok (.iconst (-1), 1) := by decide +kernel
theorem d_FaxLine_start_7 : decode b_FaxLine_start 7 = .ok (.putfield 16, 3) := by decide +kernel
theorem d_FaxLine_start_10 : decode b_FaxLine_start 10 = .ok (.aload_n 0, 1) := by decide +kernel
theorem d_FaxLine_start_11 : decode b_FaxLine_start 11 = .ok (.iconst 0, 1) := by decide +kernel
theorem d_FaxLine_start_12 : decode b_FaxLine_start 12 = .ok (.putfield 19, 3) := by decide +kernel
theorem d_FaxLine_start_15 : decode b_FaxLine_start 15 = .ok (.return_, 1) := by decide +kernel
theorem d_FaxLine_hasEnded_0 : decode b_FaxLine_hasEnded 0 = .ok (.aload_n 0, 1) := by decide +kernel
theorem d_FaxLine_hasEnded_1 : decode b_FaxLine_hasEnded 1 = .ok (.getfield 16, 3) := by decide +kernel
theorem d_FaxLine_hasEnded_4 : decode b_FaxLine_hasEnded 4 = .ok (.aload_n 0, 1) := by decide +kernel
theorem d_FaxLine_hasEnded_5 : decode b_FaxLine_hasEnded 5 = .ok (.getfield 7, 3) := by decide +kernel
theorem d_FaxLine_hasEnded_8 : decode b_FaxLine_hasEnded 8 = .ok (.if_icmp .lt 7, 3) := by decide +kernel
theorem d_FaxLine_hasEnded_11 : decode b_FaxLine_hasEnded 11 = .ok (.iconst 1, 1) := by decide +kernel
theorem d_FaxLine_hasEnded_12 : decode b_FaxLine_hasEnded 12 = .ok (.goto 4, 3) := by decide +kernel
theorem d_FaxLine_hasEnded_15 : decode b_FaxLine_hasEnded 15 = .ok (.iconst 0, 1) := by decide +kernel
theorem d_FaxLine_hasEnded_16 : decode b_FaxLine_hasEnded 16 = .ok (.ireturn, 1) := by decide +kernel
theorem d_FaxLine_place_0 : decode b_FaxLine_place 0 = .ok (.aload_n 0, 1) := by decide +kernel
theorem d_FaxLine_place_1 : decode b_FaxLine_place 1 = .ok (.getfield 16, 3) := by decide +kernel
theorem d_FaxLine_place_4 : decode b_FaxLine_place 4 = .ok (.ireturn, 1) := by decide +kernel
theorem d_FaxLine_black_0 : decode b_FaxLine_black 0 = .ok (.aload_n 0, 1) := by decide +kernel
theorem d_FaxLine_black_1 : decode b_FaxLine_black 1 = .ok (.getfield 19, 3) := by decide +kernel
theorem d_FaxLine_black_4 : decode b_FaxLine_black 4 = .ok (.ireturn, 1) := by decide +kernel
theorem d_FaxLine_goTo_0 : decode b_FaxLine_goTo 0 = .ok (.aload_n 0, 1) := by decide +kernel
theorem d_FaxLine_goTo_1 : decode b_FaxLine_goTo 1 = .ok (.iload_n 1, 1) := by decide +kernel
theorem d_FaxLine_goTo_2 : decode b_FaxLine_goTo 2 = .ok (.putfield 16, 3) := by decide +kernel
theorem d_FaxLine_goTo_5 : decode b_FaxLine_goTo 5 = .ok (.return_, 1) := by decide +kernel
theorem d_FaxLine_turnAt_0 : decode b_FaxLine_turnAt 0 = .ok (.aload_n 0, 1) := by decide +kernel
theorem d_FaxLine_turnAt_1 : decode b_FaxLine_turnAt 1 = .ok (.iload_n 1, 1) := by decide +kernel
theorem d_FaxLine_turnAt_2 : decode b_FaxLine_turnAt 2 = .ok (.putfield 16, 3) := by decide +kernel
theorem d_FaxLine_turnAt_5 : decode b_FaxLine_turnAt 5 = .ok (.aload_n 0, 1) := by decide +kernel
theorem d_FaxLine_turnAt_6 : decode b_FaxLine_turnAt 6 = .ok (.aload_n 0, 1) := by decide +kernel
theorem d_FaxLine_turnAt_7 : decode b_FaxLine_turnAt 7 = .ok (.getfield 19, 3) := by decide +kernel
theorem d_FaxLine_turnAt_10 : decode b_FaxLine_turnAt 10 = .ok (.ifCond .ne 7, 3) := by decide +kernel
theorem d_FaxLine_turnAt_13 : decode b_FaxLine_turnAt 13 = .ok (.iconst 1, 1) := by decide +kernel
theorem d_FaxLine_turnAt_14 : decode b_FaxLine_turnAt 14 = .ok (.goto 4, 3) := by decide +kernel
theorem d_FaxLine_turnAt_17 : decode b_FaxLine_turnAt 17 = .ok (.iconst 0, 1) := by decide +kernel
theorem d_FaxLine_turnAt_18 : decode b_FaxLine_turnAt 18 = .ok (.putfield 19, 3) := by decide +kernel
theorem d_FaxLine_turnAt_21 : decode b_FaxLine_turnAt 21 = .ok (.return_, 1) := by decide +kernel
theorem d_FaxLine_isBlack_0 : decode b_FaxLine_isBlack 0 = .ok (.iload_n 1, 1) := by decide +kernel
theorem d_FaxLine_isBlack_1 : decode b_FaxLine_isBlack 1 = .ok (.ifCond .lt 15, 3) := by decide +kernel
theorem d_FaxLine_isBlack_4 : decode b_FaxLine_isBlack 4 = .ok (.iload_n 0, 1) := by decide +kernel
theorem d_FaxLine_isBlack_5 : decode b_FaxLine_isBlack 5 = .ok (.iload_n 1, 1) := by decide +kernel
theorem d_FaxLine_isBlack_6 : decode b_FaxLine_isBlack 6 = .ok (.iushr, 1) := by decide +kernel
theorem d_FaxLine_isBlack_7 : decode b_FaxLine_isBlack 7 = .ok (.iconst 1, 1) := by decide +kernel
theorem d_FaxLine_isBlack_8 : decode b_FaxLine_isBlack 8 = .ok (.iand, 1) := by decide +kernel
theorem d_FaxLine_isBlack_9 : decode b_FaxLine_isBlack 9 = .ok (.ifCond .eq 7, 3) := by decide +kernel
theorem d_FaxLine_isBlack_12 : decode b_FaxLine_isBlack 12 = .ok (.iconst 1, 1) := by decide +kernel
theorem d_FaxLine_isBlack_13 : decode b_FaxLine_isBlack 13 = .ok (.goto 4, 3) := by decide +kernel
theorem d_FaxLine_isBlack_16 : decode b_FaxLine_isBlack 16 = .ok (.iconst 0, 1) := by decide +kernel
theorem d_FaxLine_isBlack_17 : decode b_FaxLine_isBlack 17 = .ok (.ireturn, 1) := by decide +kernel
theorem d_FaxLine_firstRightOf_0 : decode b_FaxLine_firstRightOf 0 = .ok (.iload_n 1, 1) := by decide +kernel
theorem d_FaxLine_firstRightOf_1 : decode b_FaxLine_firstRightOf 1 = .ok (.iconst 1, 1) := by decide +kernel
theorem d_FaxLine_firstRightOf_2 : decode b_FaxLine_firstRightOf 2 = .ok (.iadd, 1) := by decide +kernel
theorem d_FaxLine_firstRightOf_3 : decode b_FaxLine_firstRightOf 3 = .ok (.istore 4, 2) := by decide +kernel
theorem d_FaxLine_firstRightOf_5 : decode b_FaxLine_firstRightOf 5 = .ok (.iload 4, 2) := by decide +kernel
theorem d_FaxLine_firstRightOf_7 : decode b_FaxLine_firstRightOf 7 = .ok (.aload_n 0, 1) := by decide +kernel
theorem d_FaxLine_firstRightOf_8 : decode b_FaxLine_firstRightOf 8 = .ok (.getfield 7, 3) := by decide +kernel
theorem d_FaxLine_firstRightOf_11 : decode b_FaxLine_firstRightOf 11 = .ok (.if_icmp .ge 22, 3) := by decide +kernel
theorem d_FaxLine_firstRightOf_14 : decode b_FaxLine_firstRightOf 14 = .ok (.iload_n 2, 1) := by decide +kernel
theorem d_FaxLine_firstRightOf_15 : decode b_FaxLine_firstRightOf 15 = .ok (.iload 4, 2) := by decide +kernel
theorem d_FaxLine_firstRightOf_17 : decode b_FaxLine_firstRightOf 17 = .ok (.invokestatic 23, 3) := by decide +kernel
theorem d_FaxLine_firstRightOf_20 : decode b_FaxLine_firstRightOf 20 = .ok (.iload_n 3, 1) := by decide +kernel
theorem d_FaxLine_firstRightOf_21 : decode b_FaxLine_firstRightOf 21 = .ok (.if_icmp .ne 6, 3) := by decide +kernel
theorem d_FaxLine_firstRightOf_24 : decode b_FaxLine_firstRightOf 24 = .ok (.iload 4, 2) := by decide +kernel
theorem d_FaxLine_firstRightOf_26 : decode b_FaxLine_firstRightOf 26 = .ok (.ireturn, 1) := by decide +kernel
theorem d_FaxLine_firstRightOf_27 : decode b_FaxLine_firstRightOf 27 = .ok (.iinc 4 1, 3) := by decide +kernel
theorem d_FaxLine_firstRightOf_30 : decode b_FaxLine_firstRightOf 30 = .ok (.goto (-25), 3) := by decide +kernel
theorem d_FaxLine_firstRightOf_33 : decode b_FaxLine_firstRightOf 33 = .ok (.aload_n 0, 1) := by decide +kernel
theorem d_FaxLine_firstRightOf_34 : decode b_FaxLine_firstRightOf 34 = .ok (.getfield 7, 3) := by decide +kernel
theorem d_FaxLine_firstRightOf_37 : decode b_FaxLine_firstRightOf 37 = .ok (.ireturn, 1) := by decide +kernel
theorem d_FaxLine_b1_0 : decode b_FaxLine_b1 0 = .ok (.aload_n 0, 1) := by decide +kernel
theorem d_FaxLine_b1_1 : decode b_FaxLine_b1 1 = .ok (.getfield 16, 3) := by decide +kernel
theorem d_FaxLine_b1_4 : decode b_FaxLine_b1 4 = .ok (.iconst 1, 1) := by decide +kernel
theorem d_FaxLine_b1_5 : decode b_FaxLine_b1 5 = .ok (.iadd, 1) := by decide +kernel
theorem d_FaxLine_b1_6 : decode b_FaxLine_b1 6 = .ok (.istore_n 1, 1) := by decide +kernel
theorem d_FaxLine_b1_7 : decode b_FaxLine_b1 7 = .ok (.iload_n 1, 1) := by decide +kernel
theorem d_FaxLine_b1_8 : decode b_FaxLine_b1 8 = .ok (.aload_n 0, 1) := by decide +kernel
theorem d_FaxLine_b1_9 : decode b_FaxLine_b1 9 = .ok (.getfield 7, 3) := by decide +kernel
theorem d_FaxLine_b1_12 : decode b_FaxLine_b1 12 = .ok (.if_icmp .ge 43, 3) := by decide +kernel
theorem d_FaxLine_b1_15 : decode b_FaxLine_b1 15 = .ok (.aload_n 0, 1) := by decide +kernel
theorem d_FaxLine_b1_16 : decode b_FaxLine_b1 16 = .ok (.getfield 13, 3) := by decide +kernel
theorem d_FaxLine_b1_19 : decode b_FaxLine_b1 19 = .ok (.iload_n 1, 1) := by decide +kernel
theorem d_FaxLine_b1_20 : decode b_FaxLine_b1 20 = .ok (.invokestatic 23, 3) := by decide +kernel
theorem d_FaxLine_b1_23 : decode b_FaxLine_b1 23 = .ok (.aload_n 0, 1) := by decide +kernel
theorem d_FaxLine_b1_24 : decode b_FaxLine_b1 24 = .ok (.getfield 19, 3) := by decide +kernel
theorem d_FaxLine_b1_27 : decode b_FaxLine_b1 27 = .ok (.if_icmp .eq 22, 3) := by decide +kernel
theorem d_FaxLine_b1_30 : decode b_FaxLine_b1 30 = .ok (.aload_n 0, 1) := by decide +kernel
theorem d_FaxLine_b1_31 : decode b_FaxLine_b1 31 = .ok (.getfield 13, 3) := by decide +kernel
theorem d_FaxLine_b1_34 : decode b_FaxLine_b1 34 = .ok (.iload_n 1, 1) := by decide +kernel
theorem d_FaxLine_b1_35 : decode b_FaxLine_b1 35 = .ok (.iconst 1, 1) := by decide +kernel
theorem d_FaxLine_b1_36 : decode b_FaxLine_b1 36 = .ok (.isub, 1) := by decide +kernel
theorem d_FaxLine_b1_37 : decode b_FaxLine_b1 37 = .ok (.invokestatic 23, 3) := by decide +kernel
theorem d_FaxLine_b1_40 : decode b_FaxLine_b1 40 = .ok (.aload_n 0, 1) := by decide +kernel
theorem d_FaxLine_b1_41 : decode b_FaxLine_b1 41 = .ok (.getfield 19, 3) := by decide +kernel
theorem d_FaxLine_b1_44 : decode b_FaxLine_b1 44 = .ok (.if_icmp .ne 5, 3) := by decide +kernel
theorem d_FaxLine_b1_47 : decode b_FaxLine_b1 47 = .ok (.iload_n 1, 1) := by decide +kernel
theorem d_FaxLine_b1_48 : decode b_FaxLine_b1 48 = .ok (.ireturn, 1) := by decide +kernel
theorem d_FaxLine_b1_49 : decode b_FaxLine_b1 49 = .ok (.iinc 1 1, 3) := by decide +kernel
theorem d_FaxLine_b1_52 : decode b_FaxLine_b1 52 = .ok (.goto (-45), 3) := by decide +kernel
theorem d_FaxLine_b1_55 : decode b_FaxLine_b1 55 = .ok (.aload_n 0, 1) := by decide +kernel
theorem d_FaxLine_b1_56 : decode b_FaxLine_b1 56 = .ok (.getfield 7, 3) := by decide +kernel
theorem d_FaxLine_b1_59 : decode b_FaxLine_b1 59 = .ok (.ireturn, 1) := by decide +kernel
theorem d_FaxLine_b2_0 : decode b_FaxLine_b2 0 = .ok (.aload_n 0, 1) := by decide +kernel
theorem d_FaxLine_b2_1 : decode b_FaxLine_b2 1 = .ok (.iload_n 1, 1) := by decide +kernel
theorem d_FaxLine_b2_2 : decode b_FaxLine_b2 2 = .ok (.aload_n 0, 1) := by decide +kernel
theorem d_FaxLine_b2_3 : decode b_FaxLine_b2 3 = .ok (.getfield 13, 3) := by decide +kernel
theorem d_FaxLine_b2_6 : decode b_FaxLine_b2 6 = .ok (.aload_n 0, 1) := by decide +kernel
theorem d_FaxLine_b2_7 : decode b_FaxLine_b2 7 = .ok (.getfield 19, 3) := by decide +kernel
theorem d_FaxLine_b2_10 : decode b_FaxLine_b2 10 = .ok (.invokevirtual 27, 3) := by decide +kernel
theorem d_FaxLine_b2_13 : decode b_FaxLine_b2 13 = .ok (.ireturn, 1) := by decide +kernel
theorem d_Inflow_init_0 : decode b_Inflow_init 0 = .ok (.aload_n 0, 1) := by decide +kernel
theorem d_Inflow_init_1 : decode b_Inflow_init 1 = .ok (.invokespecial 3, 3) := by decide +kernel
theorem d_Inflow_init_4 : decode b_Inflow_init 4 = .ok (.aload_n 0, 1) := by decide +kernel
theorem d_Inflow_init_5 : decode b_Inflow_init 5 = .ok (.sipush 188, 3) := by decide +kernel
theorem d_Inflow_init_8 : decode b_Inflow_init 8 = .ok (.newarray .int, 2) := by decide +kernel
theorem d_Inflow_init_10 : decode b_Inflow_init 10 = .ok (.putfield 9, 3) := by decide +kernel
theorem d_Inflow_init_13 : decode b_Inflow_init 13 = .ok (.return_, 1) := by decide +kernel
theorem d_Inflow_count_0 : decode b_Inflow_count 0 = .ok (.aload_n 0, 1) := by decide +kernel
theorem d_Inflow_count_1 : decode b_Inflow_count 1 = .ok (.getfield 15, 3) := by decide +kernel
theorem d_Inflow_count_4 : decode b_Inflow_count 4 = .ok (.ireturn, 1) := by decide +kernel
theorem d_Inflow_wipe_0 : decode b_Inflow_wipe 0 = .ok (.aload_n 0, 1) := by decide +kernel
theorem d_Inflow_wipe_1 : decode b_Inflow_wipe 1 = .ok (.iconst 0, 1) := by decide +kernel
theorem d_Inflow_wipe_2 : decode b_Inflow_wipe 2 = .ok (.putfield 15, 3) := by decide +kernel
theorem d_Inflow_wipe_5 : decode b_Inflow_wipe 5 = .ok (.return_, 1) := by decide +kernel
theorem d_Inflow_hasRoomFor_0 : decode b_Inflow_hasRoomFor 0 = .ok (.iload_n 1, 1) := by decide +kernel
theorem d_Inflow_hasRoomFor_1 : decode b_Inflow_hasRoomFor 1 = .ok (.sipush 6000, 3) := by decide +kernel
theorem d_Inflow_hasRoomFor_4 : decode b_Inflow_hasRoomFor 4 = .ok (.aload_n 0, 1) := by decide +kernel
theorem d_Inflow_hasRoomFor_5 : decode b_Inflow_hasRoomFor 5 = .ok (.getfield 15, 3) := by decide +kernel
theorem d_Inflow_hasRoomFor_8 : decode b_Inflow_hasRoomFor 8 = .ok (.isub, 1) := by decide +kernel
theorem d_Inflow_hasRoomFor_9 : decode b_Inflow_hasRoomFor 9 = .ok (.if_icmp .gt 7, 3) := by decide +kernel
theorem d_Inflow_hasRoomFor_12 : decode b_Inflow_hasRoomFor 12 = .ok (.iconst 1, 1) := by decide +kernel
theorem d_Inflow_hasRoomFor_13 : decode b_Inflow_hasRoomFor 13 = .ok (.goto 4, 3) := by decide +kernel
theorem d_Inflow_hasRoomFor_16 : decode b_Inflow_hasRoomFor 16 = .ok (.iconst 0, 1) := by decide +kernel
theorem d_Inflow_hasRoomFor_17 : decode b_Inflow_hasRoomFor 17 = .ok (.ireturn, 1) := by decide +kernel
theorem d_Inflow_add_0 : decode b_Inflow_add 0 = .ok (.aload_n 0, 1) := by decide +kernel
theorem d_Inflow_add_1 : decode b_Inflow_add 1 = .ok (.getfield 15, 3) := by decide +kernel
theorem d_Inflow_add_4 : decode b_Inflow_add 4 = .ok (.iconst 5, 1) := by decide +kernel
theorem d_Inflow_add_5 : decode b_Inflow_add 5 = .ok (.ishr, 1) := by decide +kernel
theorem d_Inflow_add_6 : decode b_Inflow_add 6 = .ok (.istore_n 2, 1) := by decide +kernel
theorem d_Inflow_add_7 : decode b_Inflow_add 7 = .ok (.iload_n 2, 1) := by decide +kernel
theorem d_Inflow_add_8 : decode b_Inflow_add 8 = .ok (.ifCond .lt 64, 3) := by decide +kernel
theorem d_Inflow_add_11 : decode b_Inflow_add 11 = .ok (.iload_n 2, 1) := by decide +kernel
theorem d_Inflow_add_12 : decode b_Inflow_add 12 = .ok (.aload_n 0, 1) := by decide +kernel
theorem d_Inflow_add_13 : decode b_Inflow_add 13 = .ok (.getfield 9, 3) := by decide +kernel
theorem d_Inflow_add_16 : decode b_Inflow_add 16 = .ok (.arraylength, 1) := by decide +kernel
theorem d_Inflow_add_17 : decode b_Inflow_add 17 = .ok (.if_icmp .ge 55, 3) := by decide +kernel
theorem d_Inflow_add_20 : decode b_Inflow_add 20 = .ok (.iconst 1, 1) := by decide +kernel
theorem d_Inflow_add_21 : decode b_Inflow_add 21 = .ok (.aload_n 0, 1) := by decide +kernel
theorem d_Inflow_add_22 : decode b_Inflow_add 22 = .ok (.getfield 15, 3) := by decide +kernel
theorem d_Inflow_add_25 : decode b_Inflow_add 25 = .ok (.bipush 31, 2) := by decide +kernel
theorem d_Inflow_add_27 : decode b_Inflow_add 27 = .ok (.iand, 1) := by decide +kernel
theorem d_Inflow_add_28 : decode b_Inflow_add 28 = .ok (.ishl, 1) := by decide +kernel
theorem d_Inflow_add_29 : decode b_Inflow_add 29 = .ok (.istore_n 3, 1) := by decide +kernel
theorem d_Inflow_add_30 : decode b_Inflow_add 30 = .ok (.aload_n 0, 1) := by decide +kernel
theorem d_Inflow_add_31 : decode b_Inflow_add 31 = .ok (.getfield 9, 3) := by decide +kernel
theorem d_Inflow_add_34 : decode b_Inflow_add 34 = .ok (.iload_n 2, 1) := by decide +kernel
theorem d_Inflow_add_35 : decode b_Inflow_add 35 = .ok (.iload_n 1, 1) := by decide +kernel
theorem d_Inflow_add_36 : decode b_Inflow_add 36 = .ok (.iconst 1, 1) := by decide +kernel
theorem d_Inflow_add_37 : decode b_Inflow_add 37 = .ok (.if_icmp .ne 14, 3) := by decide +kernel
theorem d_Inflow_add_40 : decode b_Inflow_add 40 = .ok (.aload_n 0, 1) := by decide +kernel
theorem d_Inflow_add_41 : decode b_Inflow_add 41 = .ok (.getfield 9, 3) := by decide +kernel
theorem d_Inflow_add_44 : decode b_Inflow_add 44 = .ok (.iload_n 2, 1) := by decide +kernel
theorem d_Inflow_add_45 : decode b_Inflow_add 45 = .ok (.iaload, 1) := by decide +kernel
theorem d_Inflow_add_46 : decode b_Inflow_add 46 = .ok (.iload_n 3, 1) := by decide +kernel
theorem d_Inflow_add_47 : decode b_Inflow_add 47 = .ok (.ior, 1) := by decide +kernel
theorem d_Inflow_add_48 : decode b_Inflow_add 48 = .ok (.goto 13, 3) := by decide +kernel
theorem d_Inflow_add_51 : decode b_Inflow_add 51 = .ok (.aload_n 0, 1) := by decide +kernel
theorem d_Inflow_add_52 : decode b_Inflow_add 52 = .ok (.getfield 9, 3) := by decide +kernel
theorem d_Inflow_add_55 : decode b_Inflow_add 55 = .ok (.iload_n 2, 1) := by decide +kernel
theorem d_Inflow_add_56 : decode b_Inflow_add 56 = .ok (.iaload, 1) := by decide +kernel
theorem d_Inflow_add_57 : decode b_Inflow_add 57 = .ok (.iload_n 3, 1) := by decide +kernel
theorem d_Inflow_add_58 : decode b_Inflow_add 58 = .ok (.iconst (-1), 1) := by decide +kernel
theorem d_Inflow_add_59 : decode b_Inflow_add 59 = .ok (.ixor, 1) := by decide +kernel
theorem d_Inflow_add_60 : decode b_Inflow_add 60 = .ok (.iand, 1) := by decide +kernel
theorem d_Inflow_add_61 : decode b_Inflow_add 61 = .ok (.iastore, 1) := by decide +kernel
theorem d_Inflow_add_62 : decode b_Inflow_add 62 = .ok (.aload_n 0, 1) := by decide +kernel
theorem d_Inflow_add_63 : decode b_Inflow_add 63 = .ok (.dup, 1) := by decide +kernel
theorem d_Inflow_add_64 : decode b_Inflow_add 64 = .ok (.getfield 15, 3) := by decide +kernel
theorem d_Inflow_add_67 : decode b_Inflow_add 67 = .ok (.iconst 1, 1) := by decide +kernel
theorem d_Inflow_add_68 : decode b_Inflow_add 68 = .ok (.iadd, 1) := by decide +kernel
theorem d_Inflow_add_69 : decode b_Inflow_add 69 = .ok (.putfield 15, 3) := by decide +kernel
theorem d_Inflow_add_72 : decode b_Inflow_add 72 = .ok (.return_, 1) := by decide +kernel
theorem d_Inflow_goTo_0 : decode b_Inflow_goTo 0 = .ok (.aload_n 0, 1) := by decide +kernel
theorem d_Inflow_goTo_1 : decode b_Inflow_goTo 1 = .ok (.iload_n 1, 1) := by decide +kernel
theorem d_Inflow_goTo_2 : decode b_Inflow_goTo 2 = .ok (.putfield 19, 3) := by decide +kernel
theorem d_Inflow_goTo_5 : decode b_Inflow_goTo 5 = .ok (.return_, 1) := by decide +kernel
theorem d_Inflow_place_0 : decode b_Inflow_place 0 = .ok (.aload_n 0, 1) := by decide +kernel
theorem d_Inflow_place_1 : decode b_Inflow_place 1 = .ok (.getfield 19, 3) := by decide +kernel
theorem d_Inflow_place_4 : decode b_Inflow_place 4 = .ok (.ireturn, 1) := by decide +kernel
theorem d_Inflow_take_0 : decode b_Inflow_take 0 = .ok (.aload_n 0, 1) := by decide +kernel
theorem d_Inflow_take_1 : decode b_Inflow_take 1 = .ok (.getfield 19, 3) := by decide +kernel
theorem d_Inflow_take_4 : decode b_Inflow_take 4 = .ok (.iconst 5, 1) := by decide +kernel
theorem d_Inflow_take_5 : decode b_Inflow_take 5 = .ok (.ishr, 1) := by decide +kernel
theorem d_Inflow_take_6 : decode b_Inflow_take 6 = .ok (.istore_n 1, 1) := by decide +kernel
theorem d_Inflow_take_7 : decode b_Inflow_take 7 = .ok (.aload_n 0, 1) := by decide +kernel
theorem d_Inflow_take_8 : decode b_Inflow_take 8 = .ok (.getfield 19, 3) := by decide +kernel
theorem d_Inflow_take_11 : decode b_Inflow_take 11 = .ok (.aload_n 0, 1) := by decide +kernel
theorem d_Inflow_take_12 : decode b_Inflow_take 12 = .ok (.getfield 15, 3) := by decide +kernel
theorem d_Inflow_take_15 : decode b_Inflow_take 15 = .ok (.if_icmp .ge 16, 3) := by decide +kernel
theorem d_Inflow_take_18 : decode b_Inflow_take 18 = .ok (.iload_n 1, 1) := by decide +kernel
theorem d_Inflow_take_19 : decode b_Inflow_take 19 = .ok (.ifCond .lt 12, 3) := by decide +kernel
theorem d_Inflow_take_22 : decode b_Inflow_take 22 = .ok (.iload_n 1, 1) := by decide +kernel
theorem d_Inflow_take_23 : decode b_Inflow_take 23 = .ok (.aload_n 0, 1) := by decide +kernel
theorem d_Inflow_take_24 : decode b_Inflow_take 24 = .ok (.getfield 9, 3) := by decide +kernel
theorem d_Inflow_take_27 : decode b_Inflow_take 27 = .ok (.arraylength, 1) := by decide +kernel
theorem d_Inflow_take_28 : decode b_Inflow_take 28 = .ok (.if_icmp .lt 5, 3) := by decide +kernel
theorem d_Inflow_take_31 : decode b_Inflow_take 31 = .ok (.iconst (-1), 1) := by decide +kernel
theorem d_Inflow_take_32 : decode b_Inflow_take 32 = .ok (.ireturn, 1) := by decide +kernel
theorem d_Inflow_take_33 : decode b_Inflow_take 33 = .ok (.aload_n 0, 1) := by decide +kernel
theorem d_Inflow_take_34 : decode b_Inflow_take 34 = .ok (.getfield 9, 3) := by decide +kernel
theorem d_Inflow_take_37 : decode b_Inflow_take 37 = .ok (.iload_n 1, 1) := by decide +kernel
theorem d_Inflow_take_38 : decode b_Inflow_take 38 = .ok (.iaload, 1) := by decide +kernel
theorem d_Inflow_take_39 : decode b_Inflow_take 39 = .ok (.aload_n 0, 1) := by decide +kernel
theorem d_Inflow_take_40 : decode b_Inflow_take 40 = .ok (.getfield 19, 3) := by decide +kernel
theorem d_Inflow_take_43 : decode b_Inflow_take 43 = .ok (.bipush 31, 2) := by decide +kernel
theorem d_Inflow_take_45 : decode b_Inflow_take 45 = .ok (.iand, 1) := by decide +kernel
theorem d_Inflow_take_46 : decode b_Inflow_take 46 = .ok (.iushr, 1) := by decide +kernel
theorem d_Inflow_take_47 : decode b_Inflow_take 47 = .ok (.iconst 1, 1) := by decide +kernel
theorem d_Inflow_take_48 : decode b_Inflow_take 48 = .ok (.iand, 1) := by decide +kernel
theorem d_Inflow_take_49 : decode b_Inflow_take 49 = .ok (.istore_n 2, 1) := by decide +kernel
theorem d_Inflow_take_50 : decode b_Inflow_take 50 = .ok (.aload_n 0, 1) := by decide +kernel
theorem d_Inflow_take_51 : decode b_Inflow_take 51 = .ok (.dup, 1) := by decide +kernel
theorem d_Inflow_take_52 : decode b_Inflow_take 52 = .ok (.getfield 19, 3) := by decide +kernel
theorem d_Inflow_take_55 : decode b_Inflow_take 55 = .ok (.iconst 1, 1) := by decide +kernel
theorem d_Inflow_take_56 : decode b_Inflow_take 56 = .ok (.iadd, 1) := by decide +kernel
theorem d_Inflow_take_57 : decode b_Inflow_take 57 = .ok (.putfield 19, 3) := by decide +kernel
theorem d_Inflow_take_60 : decode b_Inflow_take 60 = .ok (.iload_n 2, 1) := by decide +kernel
theorem d_Inflow_take_61 : decode b_Inflow_take 61 = .ok (.ireturn, 1) := by decide +kernel
theorem d_Places_firstOf_0 : decode b_Places_firstOf 0 = .ok (.iload_n 0, 1) := by decide +kernel
theorem d_Places_firstOf_1 : decode b_Places_firstOf 1 = .ok (.tableswitch 39 0 2 #[27, 31, 35], 27) := by decide +kernel
theorem d_Places_firstOf_28 : decode b_Places_firstOf 28 = .ok (.getstatic 35, 3) := by decide +kernel
theorem d_Places_firstOf_31 : decode b_Places_firstOf 31 = .ok (.areturn, 1) := by decide +kernel
theorem d_Places_firstOf_32 : decode b_Places_firstOf 32 = .ok (.getstatic 38, 3) := by decide +kernel
theorem d_Places_firstOf_35 : decode b_Places_firstOf 35 = .ok (.areturn, 1) := by decide +kernel
theorem d_Places_firstOf_36 : decode b_Places_firstOf 36 = .ok (.getstatic 41, 3) := by decide +kernel
theorem d_Places_firstOf_39 : decode b_Places_firstOf 39 = .ok (.areturn, 1) := by decide +kernel
theorem d_Places_firstOf_40 : decode b_Places_firstOf 40 = .ok (.getstatic 44, 3) := by decide +kernel
theorem d_Places_firstOf_43 : decode b_Places_firstOf 43 = .ok (.areturn, 1) := by decide +kernel
theorem d_Places_looseOf_0 : decode b_Places_looseOf 0 = .ok (.iload_n 0, 1) := by decide +kernel
theorem d_Places_looseOf_1 : decode b_Places_looseOf 1 = .ok (.tableswitch 39 0 2 #[27, 31, 35], 27) := by decide +kernel
theorem d_Places_looseOf_28 : decode b_Places_looseOf 28 = .ok (.getstatic 47, 3) := by decide +kernel
theorem d_Places_looseOf_31 : decode b_Places_looseOf 31 = .ok (.areturn, 1) := by decide +kernel
theorem d_Places_looseOf_32 : decode b_Places_looseOf 32 = .ok (.getstatic 50, 3) := by decide +kernel
theorem d_Places_looseOf_35 : decode b_Places_looseOf 35 = .ok (.areturn, 1) := by decide +kernel
theorem d_Places_looseOf_36 : decode b_Places_looseOf 36 = .ok (.getstatic 53, 3) := by decide +kernel
theorem d_Places_looseOf_39 : decode b_Places_looseOf 39 = .ok (.areturn, 1) := by decide +kernel
theorem d_Places_looseOf_40 : decode b_Places_looseOf 40 = .ok (.getstatic 56, 3) := by decide +kernel
theorem d_Places_looseOf_43 : decode b_Places_looseOf 43 = .ok (.areturn, 1) := by decide +kernel
theorem d_Places_init_0 : decode b_Places_init 0 = .ok (.aload_n 0, 1) := by decide +kernel
theorem d_Places_init_1 : decode b_Places_init 1 = .ok (.invokespecial 1, 3) := by decide +kernel
theorem d_Places_init_4 : decode b_Places_init 4 = .ok (.aload_n 0, 1) := by decide +kernel
theorem d_Places_init_5 : decode b_Places_init 5 = .ok (.iload_n 1, 1) := by decide +kernel
theorem d_Places_init_6 : decode b_Places_init 6 = .ok (.putfield 7, 3) := by decide +kernel
theorem d_Places_init_9 : decode b_Places_init 9 = .ok (.aload_n 0, 1) := by decide +kernel
theorem d_Places_init_10 : decode b_Places_init 10 = .ok (.iload_n 1, 1) := by decide +kernel
theorem d_Places_init_11 : decode b_Places_init 11 = .ok (.invokestatic 13, 3) := by decide +kernel
theorem d_Places_init_14 : decode b_Places_init 14 = .ok (.putfield 17, 3) := by decide +kernel
theorem d_Places_init_17 : decode b_Places_init 17 = .ok (.aload_n 0, 1) := by decide +kernel
theorem d_Places_init_18 : decode b_Places_init 18 = .ok (.aload_n 0, 1) := by decide +kernel
theorem d_Places_init_19 : decode b_Places_init 19 = .ok (.getfield 17, 3) := by decide +kernel
theorem d_Places_init_22 : decode b_Places_init 22 = .ok (.invokevirtual 21, 3) := by decide +kernel
theorem d_Places_init_25 : decode b_Places_init 25 = .ok (.checkcast 22, 3) := by decide +kernel
theorem d_Places_init_28 : decode b_Places_init 28 = .ok (.putfield 26, 3) := by decide +kernel
theorem d_Places_init_31 : decode b_Places_init 31 = .ok (.aload_n 0, 1) := by decide +kernel
theorem d_Places_init_32 : decode b_Places_init 32 = .ok (.iload_n 1, 1) := by decide +kernel
theorem d_Places_init_33 : decode b_Places_init 33 = .ok (.invokestatic 29, 3) := by decide +kernel
theorem d_Places_init_36 : decode b_Places_init 36 = .ok (.putfield 32, 3) := by decide +kernel
theorem d_Places_init_39 : decode b_Places_init 39 = .ok (.return_, 1) := by decide +kernel
theorem d_Places_typicalContext_0 : decode b_Places_typicalContext 0 = .ok (.aload_n 0, 1) := by decide +kernel
theorem d_Places_typicalContext_1 : decode b_Places_typicalContext 1 = .ok (.getfield 7, 3) := by decide +kernel
theorem d_Places_typicalContext_4 : decode b_Places_typicalContext 4 = .ok (.ifCond .lt 25, 3) := by decide +kernel
theorem d_Places_typicalContext_7 : decode b_Places_typicalContext 7 = .ok (.aload_n 0, 1) := by decide +kernel
theorem d_Places_typicalContext_8 : decode b_Places_typicalContext 8 = .ok (.getfield 7, 3) := by decide +kernel
theorem d_Places_typicalContext_11 : decode b_Places_typicalContext 11 = .ok (.getstatic 59, 3) := by decide +kernel
theorem d_Places_typicalContext_14 : decode b_Places_typicalContext 14 = .ok (.arraylength, 1) := by decide +kernel
theorem d_Places_typicalContext_15 : decode b_Places_typicalContext 15 = .ok (.if_icmp .ge 14, 3) := by decide +kernel
theorem d_Places_typicalContext_18 : decode b_Places_typicalContext 18 = .ok (.getstatic 59, 3) := by decide +kernel
theorem d_Places_typicalContext_21 : decode b_Places_typicalContext 21 = .ok (.aload_n 0, 1) := by decide +kernel
theorem d_Places_typicalContext_22 : decode b_Places_typicalContext 22 = .ok (.getfield 7, 3) := by decide +kernel
theorem d_Places_typicalContext_25 : decode b_Places_typicalContext 25 = .ok (.iaload, 1) := by decide +kernel
theorem d_Places_typicalContext_26 : decode b_Places_typicalContext 26 = .ok (.goto 4, 3) := by decide +kernel
theorem d_Places_typicalContext_29 : decode b_Places_typicalContext 29 = .ok (.iconst 0, 1) := by decide +kernel
theorem d_Places_typicalContext_30 : decode b_Places_typicalContext 30 = .ok (.ireturn, 1) := by decide +kernel
theorem d_Places_looseCount_0 : decode b_Places_looseCount 0 = .ok (.aload_n 0, 1) := by decide +kernel
theorem d_Places_looseCount_1 : decode b_Places_looseCount 1 = .ok (.getfield 32, 3) := by decide +kernel
theorem d_Places_looseCount_4 : decode b_Places_looseCount 4 = .ok (.arraylength, 1) := by decide +kernel
theorem d_Places_looseCount_5 : decode b_Places_looseCount 5 = .ok (.ireturn, 1) := by decide +kernel
theorem d_Places_move_0 : decode b_Places_move 0 = .ok (.iload_n 1, 1) := by decide +kernel
theorem d_Places_move_1 : decode b_Places_move 1 = .ok (.ifCond .lt 23, 3) := by decide +kernel
theorem d_Places_move_4 : decode b_Places_move 4 = .ok (.iload_n 1, 1) := by decide +kernel
theorem d_Places_move_5 : decode b_Places_move 5 = .ok (.aload_n 0, 1) := by decide +kernel
theorem d_Places_move_6 : decode b_Places_move 6 = .ok (.getfield 32, 3) := by decide +kernel
theorem d_Places_move_9 : decode b_Places_move 9 = .ok (.arraylength, 1) := by decide +kernel
theorem d_Places_move_10 : decode b_Places_move 10 = .ok (.if_icmp .ge 14, 3) := by decide +kernel
theorem d_Places_move_13 : decode b_Places_move 13 = .ok (.iconst 2, 1) := by decide +kernel
theorem d_Places_move_14 : decode b_Places_move 14 = .ok (.aload_n 0, 1) := by decide +kernel
theorem d_Places_move_15 : decode b_Places_move 15 = .ok (.getfield 32, 3) := by decide +kernel
theorem d_Places_move_18 : decode b_Places_move 18 = .ok (.iload_n 1, 1) := by decide +kernel
theorem d_Places_move_19 : decode b_Places_move 19 = .ok (.iaload, 1) := by decide +kernel
theorem d_Places_move_20 : decode b_Places_move 20 = .ok (.imul, 1) := by decide +kernel
theorem d_Places_move_21 : decode b_Places_move 21 = .ok (.goto 4, 3) := by decide +kernel
theorem d_Places_move_24 : decode b_Places_move 24 = .ok (.iconst 0, 1) := by decide +kernel
theorem d_Places_move_25 : decode b_Places_move 25 = .ok (.istore 4, 2) := by decide +kernel
theorem d_Places_move_27 : decode b_Places_move 27 = .ok (.iload 4, 2) := by decide +kernel
theorem d_Places_move_29 : decode b_Places_move 29 = .ok (.iconst 1, 1) := by decide +kernel
theorem d_Places_move_30 : decode b_Places_move 30 = .ok (.iadd, 1) := by decide +kernel
theorem d_Places_move_31 : decode b_Places_move 31 = .ok (.aload_n 0, 1) := by decide +kernel
theorem d_Places_move_32 : decode b_Places_move 32 = .ok (.getfield 26, 3) := by decide +kernel
theorem d_Places_move_35 : decode b_Places_move 35 = .ok (.arraylength, 1) := by decide +kernel
theorem d_Places_move_36 : decode b_Places_move 36 = .ok (.if_icmp .ge 27, 3) := by decide +kernel
theorem d_Places_move_39 : decode b_Places_move 39 = .ok (.aload_n 0, 1) := by decide +kernel
theorem d_Places_move_40 : decode b_Places_move 40 = .ok (.getfield 26, 3) := by decide +kernel
theorem d_Places_move_43 : decode b_Places_move 43 = .ok (.iload 4, 2) := by decide +kernel
theorem d_Places_move_45 : decode b_Places_move 45 = .ok (.iaload, 1) := by decide +kernel
theorem d_Places_move_46 : decode b_Places_move 46 = .ok (.iload_n 2, 1) := by decide +kernel
theorem d_Places_move_47 : decode b_Places_move 47 = .ok (.if_icmp .ne 18, 3) := by decide +kernel
theorem d_Places_move_50 : decode b_Places_move 50 = .ok (.aload_n 0, 1) := by decide +kernel
theorem d_Places_move_51 : decode b_Places_move 51 = .ok (.getfield 26, 3) := by decide +kernel
theorem d_Places_move_54 : decode b_Places_move 54 = .ok (.iload 4, 2) := by decide +kernel
theorem d_Places_move_56 : decode b_Places_move 56 = .ok (.iconst 1, 1) := by decide +kernel
theorem d_Places_move_57 : decode b_Places_move 57 = .ok (.iadd, 1) := by decide +kernel
theorem d_Places_move_58 : decode b_Places_move 58 = .ok (.iaload, 1) := by decide +kernel
theorem d_Places_move_59 : decode b_Places_move 59 = .ok (.iload_n 3, 1) := by decide +kernel
theorem d_Places_move_60 : decode b_Places_move 60 = .ok (.if_icmp .ne 5, 3) := by decide +kernel
theorem d_Places_move_63 : decode b_Places_move 63 = .ok (.iconst 0, 1) := by decide +kernel
theorem d_Places_move_64 : decode b_Places_move 64 = .ok (.ireturn, 1) := by decide +kernel
theorem d_Places_move_65 : decode b_Places_move 65 = .ok (.aload_n 0, 1) := by decide +kernel
theorem d_Places_move_66 : decode b_Places_move 66 = .ok (.getfield 26, 3) := by decide +kernel
theorem d_Places_move_69 : decode b_Places_move 69 = .ok (.iload 4, 2) := by decide +kernel
theorem d_Places_move_71 : decode b_Places_move 71 = .ok (.iload_n 2, 1) := by decide +kernel
theorem d_Places_move_72 : decode b_Places_move 72 = .ok (.iastore, 1) := by decide +kernel
theorem d_Places_move_73 : decode b_Places_move 73 = .ok (.aload_n 0, 1) := by decide +kernel
theorem d_Places_move_74 : decode b_Places_move 74 = .ok (.getfield 26, 3) := by decide +kernel
theorem d_Places_move_77 : decode b_Places_move 77 = .ok (.iload 4, 2) := by decide +kernel
theorem d_Places_move_79 : decode b_Places_move 79 = .ok (.iconst 1, 1) := by decide +kernel
theorem d_Places_move_80 : decode b_Places_move 80 = .ok (.iadd, 1) := by decide +kernel
theorem d_Places_move_81 : decode b_Places_move 81 = .ok (.iload_n 3, 1) := by decide +kernel
theorem d_Places_move_82 : decode b_Places_move 82 = .ok (.iastore, 1) := by decide +kernel
theorem d_Places_move_83 : decode b_Places_move 83 = .ok (.iconst 1, 1) := by decide +kernel
theorem d_Places_move_84 : decode b_Places_move 84 = .ok (.ireturn, 1) := by decide +kernel
theorem d_Places_reset_0 : decode b_Places_reset 0 = .ok (.iconst 0, 1) := by decide +kernel
theorem d_Places_reset_1 : decode b_Places_reset 1 = .ok (.istore_n 1, 1) := by decide +kernel
theorem d_Places_reset_2 : decode b_Places_reset 2 = .ok (.iload_n 1, 1) := by decide +kernel
theorem d_Places_reset_3 : decode b_Places_reset 3 = .ok (.aload_n 0, 1) := by decide +kernel
theorem d_Places_reset_4 : decode b_Places_reset 4 = .ok (.getfield 26, 3) := by decide +kernel
theorem d_Places_reset_7 : decode b_Places_reset 7 = .ok (.arraylength, 1) := by decide +kernel
theorem d_Places_reset_8 : decode b_Places_reset 8 = .ok (.if_icmp .ge 30, 3) := by decide +kernel
theorem d_Places_reset_11 : decode b_Places_reset 11 = .ok (.iload_n 1, 1) := by decide +kernel
theorem d_Places_reset_12 : decode b_Places_reset 12 = .ok (.aload_n 0, 1) := by decide +kernel
theorem d_Places_reset_13 : decode b_Places_reset 13 = .ok (.getfield 17, 3) := by decide +kernel
theorem d_Places_reset_16 : decode b_Places_reset 16 = .ok (.arraylength, 1) := by decide +kernel
theorem d_Places_reset_17 : decode b_Places_reset 17 = .ok (.if_icmp .ge 21, 3) := by decide +kernel
theorem d_Places_reset_20 : decode b_Places_reset 20 = .ok (.aload_n 0, 1) := by decide +kernel
theorem d_Places_reset_21 : decode b_Places_reset 21 = .ok (.getfield 26, 3) := by decide +kernel
theorem d_Places_reset_24 : decode b_Places_reset 24 = .ok (.iload_n 1, 1) := by decide +kernel
theorem d_Places_reset_25 : decode b_Places_reset 25 = .ok (.aload_n 0, 1) := by decide +kernel
theorem d_Places_reset_26 : decode b_Places_reset 26 = .ok (.getfield 17, 3) := by decide +kernel
theorem d_Places_reset_29 : decode b_Places_reset 29 = .ok (.iload_n 1, 1) := by decide +kernel
theorem d_Places_reset_30 : decode b_Places_reset 30 = .ok (.iaload, 1) := by decide +kernel
theorem d_Places_reset_31 : decode b_Places_reset 31 = .ok (.iastore, 1) := by decide +kernel
theorem d_Places_reset_32 : decode b_Places_reset 32 = .ok (.iinc 1 1, 3) := by decide +kernel
theorem d_Places_reset_35 : decode b_Places_reset 35 = .ok (.goto (-33), 3) := by decide +kernel
theorem d_Places_reset_38 : decode b_Places_reset 38 = .ok (.return_, 1) := by decide +kernel
theorem d_Plane_mask_0 : decode b_Plane_mask 0 = .ok (.iload_n 1, 1) := by decide +kernel
theorem d_Plane_mask_1 : decode b_Plane_mask 1 = .ok (.ifCond .lt 21, 3) := by decide +kernel
theorem d_Plane_mask_4 : decode b_Plane_mask 4 = .ok (.iload_n 1, 1) := by decide +kernel
theorem d_Plane_mask_5 : decode b_Plane_mask 5 = .ok (.aload_n 0, 1) := by decide +kernel
theorem d_Plane_mask_6 : decode b_Plane_mask 6 = .ok (.getfield 19, 3) := by decide +kernel
theorem d_Plane_mask_9 : decode b_Plane_mask 9 = .ok (.arraylength, 1) := by decide +kernel
theorem d_Plane_mask_10 : decode b_Plane_mask 10 = .ok (.if_icmp .ge 12, 3) := by decide +kernel
theorem d_Plane_mask_13 : decode b_Plane_mask 13 = .ok (.aload_n 0, 1) := by decide +kernel
theorem d_Plane_mask_14 : decode b_Plane_mask 14 = .ok (.getfield 19, 3) := by decide +kernel
theorem d_Plane_mask_17 : decode b_Plane_mask 17 = .ok (.iload_n 1, 1) := by decide +kernel
theorem d_Plane_mask_18 : decode b_Plane_mask 18 = .ok (.iaload, 1) := by decide +kernel
theorem d_Plane_mask_19 : decode b_Plane_mask 19 = .ok (.goto 4, 3) := by decide +kernel
theorem d_Plane_mask_22 : decode b_Plane_mask 22 = .ok (.iconst 0, 1) := by decide +kernel
theorem d_Plane_mask_23 : decode b_Plane_mask 23 = .ok (.ireturn, 1) := by decide +kernel
theorem d_Plane_has_0 : decode b_Plane_has 0 = .ok (.iload_n 1, 1) := by decide +kernel
theorem d_Plane_has_1 : decode b_Plane_has 1 = .ok (.ifCond .lt 27, 3) := by decide +kernel
theorem d_Plane_has_4 : decode b_Plane_has 4 = .ok (.iload_n 1, 1) := by decide +kernel
theorem d_Plane_has_5 : decode b_Plane_has 5 = .ok (.aload_n 0, 1) := by decide +kernel
theorem d_Plane_has_6 : decode b_Plane_has 6 = .ok (.getfield 7, 3) := by decide +kernel
theorem d_Plane_has_9 : decode b_Plane_has 9 = .ok (.if_icmp .ge 19, 3) := by decide +kernel
theorem d_Plane_has_12 : decode b_Plane_has 12 = .ok (.aload_n 0, 1) := by decide +kernel
theorem d_Plane_has_13 : decode b_Plane_has 13 = .ok (.iload_n 2, 1) := by decide +kernel
theorem d_Plane_has_14 : decode b_Plane_has 14 = .ok (.invokevirtual 23, 3) := by decide +kernel
theorem d_Plane_has_17 : decode b_Plane_has 17 = .ok (.iload_n 1, 1) := by decide +kernel
theorem d_Plane_has_18 : decode b_Plane_has 18 = .ok (.iushr, 1) := by decide +kernel
theorem d_Plane_has_19 : decode b_Plane_has 19 = .ok (.iconst 1, 1) := by decide +kernel
theorem d_Plane_has_20 : decode b_Plane_has 20 = .ok (.iand, 1) := by decide +kernel
theorem d_Plane_has_21 : decode b_Plane_has 21 = .ok (.ifCond .eq 7, 3) := by decide +kernel
theorem d_Plane_has_24 : decode b_Plane_has 24 = .ok (.iconst 1, 1) := by decide +kernel
theorem d_Plane_has_25 : decode b_Plane_has 25 = .ok (.goto 4, 3) := by decide +kernel
theorem d_Plane_has_28 : decode b_Plane_has 28 = .ok (.iconst 0, 1) := by decide +kernel
theorem d_Plane_has_29 : decode b_Plane_has 29 = .ok (.ireturn, 1) := by decide +kernel
theorem d_Places_contextIn_0 : decode b_Places_contextIn 0 = .ok (.iconst 0, 1) := by decide +kernel
theorem d_Places_contextIn_1 : decode b_Places_contextIn 1 = .ok (.istore 4, 2) := by decide +kernel
theorem d_Places_contextIn_3 : decode b_Places_contextIn 3 = .ok (.iconst 0, 1) := by decide +kernel
theorem d_Places_contextIn_4 : decode b_Places_contextIn 4 = .ok (.istore 5, 2) := by decide +kernel
theorem d_Places_contextIn_6 : decode b_Places_contextIn 6 = .ok (.iload 5, 2) := by decide +kernel
theorem d_Places_contextIn_8 : decode b_Places_contextIn 8 = .ok (.iconst 1, 1) := by decide +kernel
theorem d_Places_contextIn_9 : decode b_Places_contextIn 9 = .ok (.iadd, 1) := by decide +kernel
theorem d_Places_contextIn_10 : decode b_Places_contextIn 10 = .ok (.aload_n 0, 1) := by decide +kernel
theorem d_Places_contextIn_11 : decode b_Places_contextIn 11 = .ok (.getfield 26, 3) := by decide +kernel
theorem d_Places_contextIn_14 : decode b_Places_contextIn 14 = .ok (.arraylength, 1) := by decide +kernel
theorem d_Places_contextIn_15 : decode b_Places_contextIn 15 = .ok (.if_icmp .ge 47, 3) := by decide +kernel
theorem d_Places_contextIn_18 : decode b_Places_contextIn 18 = .ok (.aload_n 1, 1) := by decide +kernel
theorem d_Places_contextIn_19 : decode b_Places_contextIn 19 = .ok (.iload_n 2, 1) := by decide +kernel
theorem d_Places_contextIn_20 : decode b_Places_contextIn 20 = .ok (.aload_n 0, 1) := by decide +kernel
theorem d_Places_contextIn_21 : decode b_Places_contextIn 21 = .ok (.getfield 26, 3) := by decide +kernel
theorem d_Places_contextIn_24 : decode b_Places_contextIn 24 = .ok (.iload 5, 2) := by decide +kernel
theorem d_Places_contextIn_26 : decode b_Places_contextIn 26 = .ok (.iaload, 1) := by decide +kernel
theorem d_Places_contextIn_27 : decode b_Places_contextIn 27 = .ok (.iadd, 1) := by decide +kernel
theorem d_Places_contextIn_28 : decode b_Places_contextIn 28 = .ok (.iload_n 3, 1) := by decide +kernel
theorem d_Places_contextIn_29 : decode b_Places_contextIn 29 = .ok (.aload_n 0, 1) := by decide +kernel
theorem d_Places_contextIn_30 : decode b_Places_contextIn 30 = .ok (.getfield 26, 3) := by decide +kernel
theorem d_Places_contextIn_33 : decode b_Places_contextIn 33 = .ok (.iload 5, 2) := by decide +kernel
theorem d_Places_contextIn_35 : decode b_Places_contextIn 35 = .ok (.iconst 1, 1) := by decide +kernel
theorem d_Places_contextIn_36 : decode b_Places_contextIn 36 = .ok (.iadd, 1) := by decide +kernel
theorem d_Places_contextIn_37 : decode b_Places_contextIn 37 = .ok (.iaload, 1) := by decide +kernel
theorem d_Places_contextIn_38 : decode b_Places_contextIn 38 = .ok (.iadd, 1) := by decide +kernel
theorem d_Places_contextIn_39 : decode b_Places_contextIn 39 = .ok (.invokevirtual 62, 3) := by decide +kernel
theorem d_Places_contextIn_42 : decode b_Places_contextIn 42 = .ok (.ifCond .eq 14, 3) := by decide +kernel
theorem d_Places_contextIn_45 : decode b_Places_contextIn 45 = .ok (.iload 4, 2) := by decide +kernel
theorem d_Places_contextIn_47 : decode b_Places_contextIn 47 = .ok (.iconst 1, 1) := by decide +kernel
theorem d_Places_contextIn_48 : decode b_Places_contextIn 48 = .ok (.iload 5, 2) := by decide +kernel
theorem d_Places_contextIn_50 : decode b_Places_contextIn 50 = .ok (.iconst 1, 1) := by decide +kernel
theorem d_Places_contextIn_51 : decode b_Places_contextIn 51 = .ok (.ishr, 1) := by decide +kernel
theorem d_Places_contextIn_52 : decode b_Places_contextIn 52 = .ok (.ishl, 1) := by decide +kernel
theorem d_Places_contextIn_53 : decode b_Places_contextIn 53 = .ok (.ior, 1) := by decide +kernel
theorem d_Places_contextIn_54 : decode b_Places_contextIn 54 = .ok (.istore 4, 2) := by decide +kernel
theorem d_Places_contextIn_56 : decode b_Places_contextIn 56 = .ok (.iinc 5 2, 3) := by decide +kernel
theorem d_Places_contextIn_59 : decode b_Places_contextIn 59 = .ok (.goto (-53), 3) := by decide +kernel
theorem d_Places_contextIn_62 : decode b_Places_contextIn 62 = .ok (.iload 4, 2) := by decide +kernel
theorem d_Places_contextIn_64 : decode b_Places_contextIn 64 = .ok (.ireturn, 1) := by decide +kernel
theorem d_Plane_init_0 : decode b_Plane_init 0 = .ok (.aload_n 0, 1) := by decide +kernel
theorem d_Plane_init_1 : decode b_Plane_init 1 = .ok (.invokespecial 1, 3) := by decide +kernel
theorem d_Plane_init_4 : decode b_Plane_init 4 = .ok (.aload_n 0, 1) := by decide +kernel
theorem d_Plane_init_5 : decode b_Plane_init 5 = .ok (.iload_n 1, 1) := by decide +kernel
theorem d_Plane_init_6 : decode b_Plane_init 6 = .ok (.putfield 7, 3) := by decide +kernel
theorem d_Plane_init_9 : decode b_Plane_init 9 = .ok (.aload_n 0, 1) := by decide +kernel
theorem d_Plane_init_10 : decode b_Plane_init 10 = .ok (.iload_n 2, 1) := by decide +kernel
theorem d_Plane_init_11 : decode b_Plane_init 11 = .ok (.iconst 0, 1) := by decide +kernel
theorem d_Plane_init_12 : decode b_Plane_init 12 = .ok (.invokestatic 13, 3) := by decide +kernel
theorem d_Plane_init_15 : decode b_Plane_init 15 = .ok (.newarray .int, 2) := by decide +kernel
theorem d_Plane_init_17 : decode b_Plane_init 17 = .ok (.putfield 19, 3) := by decide +kernel
theorem d_Plane_init_20 : decode b_Plane_init 20 = .ok (.return_, 1) := by decide +kernel
theorem d_Plane_width_0 : decode b_Plane_width 0 = .ok (.aload_n 0, 1) := by decide +kernel
theorem d_Plane_width_1 : decode b_Plane_width 1 = .ok (.getfield 7, 3) := by decide +kernel
theorem d_Plane_width_4 : decode b_Plane_width 4 = .ok (.ireturn, 1) := by decide +kernel
theorem d_Plane_height_0 : decode b_Plane_height 0 = .ok (.aload_n 0, 1) := by decide +kernel
theorem d_Plane_height_1 : decode b_Plane_height 1 = .ok (.getfield 19, 3) := by decide +kernel
theorem d_Plane_height_4 : decode b_Plane_height 4 = .ok (.arraylength, 1) := by decide +kernel
theorem d_Plane_height_5 : decode b_Plane_height 5 = .ok (.ireturn, 1) := by decide +kernel
theorem d_Plane_setMask_0 : decode b_Plane_setMask 0 = .ok (.iload_n 1, 1) := by decide +kernel
theorem d_Plane_setMask_1 : decode b_Plane_setMask 1 = .ok (.ifCond .lt 28, 3) := by decide +kernel
theorem d_Plane_setMask_4 : decode b_Plane_setMask 4 = .ok (.iload_n 1, 1) := by decide +kernel
theorem d_Plane_setMask_5 : decode b_Plane_setMask 5 = .ok (.aload_n 0, 1) := by decide +kernel
theorem d_Plane_setMask_6 : decode b_Plane_setMask 6 = .ok (.getfield 19, 3) := by decide +kernel
theorem d_Plane_setMask_9 : decode b_Plane_setMask 9 = .ok (.arraylength, 1) := by decide +kernel
theorem d_Plane_setMask_10 : decode b_Plane_setMask 10 = .ok (.if_icmp .ge 19, 3) := by decide +kernel
theorem d_Plane_setMask_13 : decode b_Plane_setMask 13 = .ok (.aload_n 0, 1) := by decide +kernel
theorem d_Plane_setMask_14 : decode b_Plane_setMask 14 = .ok (.getfield 19, 3) := by decide +kernel
theorem d_Plane_setMask_17 : decode b_Plane_setMask 17 = .ok (.iload_n 1, 1) := by decide +kernel
theorem d_Plane_setMask_18 : decode b_Plane_setMask 18 = .ok (.iload_n 2, 1) := by decide +kernel
theorem d_Plane_setMask_19 : decode b_Plane_setMask 19 = .ok (.iconst 1, 1) := by decide +kernel
theorem d_Plane_setMask_20 : decode b_Plane_setMask 20 = .ok (.aload_n 0, 1) := by decide +kernel
theorem d_Plane_setMask_21 : decode b_Plane_setMask 21 = .ok (.getfield 7, 3) := by decide +kernel
theorem d_Plane_setMask_24 : decode b_Plane_setMask 24 = .ok (.ishl, 1) := by decide +kernel
theorem d_Plane_setMask_25 : decode b_Plane_setMask 25 = .ok (.iconst 1, 1) := by decide +kernel
theorem d_Plane_setMask_26 : decode b_Plane_setMask 26 = .ok (.isub, 1) := by decide +kernel
theorem d_Plane_setMask_27 : decode b_Plane_setMask 27 = .ok (.iand, 1) := by decide +kernel
theorem d_Plane_setMask_28 : decode b_Plane_setMask 28 = .ok (.iastore, 1) := by decide +kernel
theorem d_Plane_setMask_29 : decode b_Plane_setMask 29 = .ok (.return_, 1) := by decide +kernel
theorem d_Plane_change_0 : decode b_Plane_change 0 = .ok (.aload_n 0, 1) := by decide +kernel
theorem d_Plane_change_1 : decode b_Plane_change 1 = .ok (.iload_n 1, 1) := by decide +kernel
theorem d_Plane_change_2 : decode b_Plane_change 2 = .ok (.iload_n 2, 1) := by decide +kernel
theorem d_Plane_change_3 : decode b_Plane_change 3 = .ok (.invokevirtual 27, 3) := by decide +kernel
theorem d_Plane_change_6 : decode b_Plane_change 6 = .ok (.iload_n 3, 1) := by decide +kernel
theorem d_Plane_change_7 : decode b_Plane_change 7 = .ok (.if_icmp .eq 7, 3) := by decide +kernel
theorem d_Plane_change_10 : decode b_Plane_change 10 = .ok (.iconst 1, 1) := by decide +kernel
theorem d_Plane_change_11 : decode b_Plane_change 11 = .ok (.goto 4, 3) := by decide +kernel
theorem d_Plane_change_14 : decode b_Plane_change 14 = .ok (.iconst 0, 1) := by decide +kernel
theorem d_Plane_change_15 : decode b_Plane_change 15 = .ok (.istore 4, 2) := by decide +kernel
theorem d_Plane_change_17 : decode b_Plane_change 17 = .ok (.iload 4, 2) := by decide +kernel
theorem d_Plane_change_19 : decode b_Plane_change 19 = .ok (.ifCond .eq 17, 3) := by decide +kernel
theorem d_Plane_change_22 : decode b_Plane_change 22 = .ok (.aload_n 0, 1) := by decide +kernel
theorem d_Plane_change_23 : decode b_Plane_change 23 = .ok (.iload_n 2, 1) := by decide +kernel
theorem d_Plane_change_24 : decode b_Plane_change 24 = .ok (.aload_n 0, 1) := by decide +kernel
theorem d_Plane_change_25 : decode b_Plane_change 25 = .ok (.iload_n 2, 1) := by decide +kernel
theorem d_Plane_change_26 : decode b_Plane_change 26 = .ok (.invokevirtual 23, 3) := by decide +kernel
