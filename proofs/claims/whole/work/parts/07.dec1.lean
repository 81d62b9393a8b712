theorem d_Plane_change_29 : decode b_Plane_change 29 = .ok (.iconst 1, 1) := by decide +kernel
theorem d_Plane_change_30 : decode b_Plane_change 30 = .ok (.iload_n 1, 1) := by decide +kernel
theorem d_Plane_change_31 : decode b_Plane_change 31 = .ok (.ishl, 1) := by decide +kernel
theorem d_Plane_change_32 : decode b_Plane_change 32 = .ok (.ixor, 1) := by decide +kernel
theorem d_Plane_change_33 : decode b_Plane_change 33 = .ok (.invokevirtual 31, 3) := by decide +kernel
theorem d_Plane_change_36 : decode b_Plane_change 36 = .ok (.iload 4, 2) := by decide +kernel
theorem d_Plane_change_38 : decode b_Plane_change 38 = .ok (.ireturn, 1) := by decide +kernel
theorem d_Plane_wipe_0 : decode b_Plane_wipe 0 = .ok (.iconst 0, 1) := by decide +kernel
theorem d_Plane_wipe_1 : decode b_Plane_wipe 1 = .ok (.istore_n 1, 1) := by decide +kernel
theorem d_Plane_wipe_2 : decode b_Plane_wipe 2 = .ok (.iload_n 1, 1) := by decide +kernel
theorem d_Plane_wipe_3 : decode b_Plane_wipe 3 = .ok (.aload_n 0, 1) := by decide +kernel
theorem d_Plane_wipe_4 : decode b_Plane_wipe 4 = .ok (.getfield 19, 3) := by decide +kernel
theorem d_Plane_wipe_7 : decode b_Plane_wipe 7 = .ok (.arraylength, 1) := by decide +kernel
theorem d_Plane_wipe_8 : decode b_Plane_wipe 8 = .ok (.if_icmp .ge 16, 3) := by decide +kernel
theorem d_Plane_wipe_11 : decode b_Plane_wipe 11 = .ok (.aload_n 0, 1) := by decide +kernel
theorem d_Plane_wipe_12 : decode b_Plane_wipe 12 = .ok (.getfield 19, 3) := by decide +kernel
theorem d_Plane_wipe_15 : decode b_Plane_wipe 15 = .ok (.iload_n 1, 1) := by decide +kernel
theorem d_Plane_wipe_16 : decode b_Plane_wipe 16 = .ok (.iconst 0, 1) := by decide +kernel
theorem d_Plane_wipe_17 : decode b_Plane_wipe 17 = .ok (.iastore, 1) := by decide +kernel
theorem d_Plane_wipe_18 : decode b_Plane_wipe 18 = .ok (.iinc 1 1, 3) := by decide +kernel
theorem d_Plane_wipe_21 : decode b_Plane_wipe 21 = .ok (.goto (-19), 3) := by decide +kernel
theorem d_Plane_wipe_24 : decode b_Plane_wipe 24 = .ok (.return_, 1) := by decide +kernel
theorem d_Reader_init_0 : decode b_Reader_init 0 = .ok (.aload_n 0, 1) := by decide +kernel
theorem d_Reader_init_1 : decode b_Reader_init 1 = .ok (.invokespecial 3, 3) := by decide +kernel
theorem d_Reader_init_4 : decode b_Reader_init 4 = .ok (.aload_n 0, 1) := by decide +kernel
theorem d_Reader_init_5 : decode b_Reader_init 5 = .ok (.iconst (-1), 1) := by decide +kernel
theorem d_Reader_init_6 : decode b_Reader_init 6 = .ok (.putfield 9, 3) := by decide +kernel
theorem d_Reader_init_9 : decode b_Reader_init 9 = .ok (.aload_n 0, 1) := by decide +kernel
theorem d_Reader_init_10 : decode b_Reader_init 10 = .ok (.iload_n 1, 1) := by decide +kernel
theorem d_Reader_init_11 : decode b_Reader_init 11 = .ok (.putfield 15, 3) := by decide +kernel
theorem d_Reader_init_14 : decode b_Reader_init 14 = .ok (.aload_n 0, 1) := by decide +kernel
theorem d_Reader_init_15 : decode b_Reader_init 15 = .ok (.iload_n 2, 1) := by decide +kernel
theorem d_Reader_init_16 : decode b_Reader_init 16 = .ok (.putfield 18, 3) := by decide +kernel
theorem d_Reader_init_19 : decode b_Reader_init 19 = .ok (.aload_n 0, 1) := by decide +kernel
theorem d_Reader_init_20 : decode b_Reader_init 20 = .ok (.aload_n 3, 1) := by decide +kernel
theorem d_Reader_init_21 : decode b_Reader_init 21 = .ok (.putfield 21, 3) := by decide +kernel
theorem d_Reader_init_24 : decode b_Reader_init 24 = .ok (.aload_n 0, 1) := by decide +kernel
theorem d_Reader_init_25 : decode b_Reader_init 25 = .ok (.aload 4, 2) := by decide +kernel
theorem d_Reader_init_27 : decode b_Reader_init 27 = .ok (.putfield 25, 3) := by decide +kernel
theorem d_Reader_init_30 : decode b_Reader_init 30 = .ok (.aload_n 0, 1) := by decide +kernel
theorem d_Reader_init_31 : decode b_Reader_init 31 = .ok (.aload 5, 2) := by decide +kernel
theorem d_Reader_init_33 : decode b_Reader_init 33 = .ok (.putfield 29, 3) := by decide +kernel
theorem d_Reader_init_36 : decode b_Reader_init 36 = .ok (.aload_n 0, 1) := by decide +kernel
theorem d_Reader_init_37 : decode b_Reader_init 37 = .ok (.new 33, 3) := by decide +kernel
theorem d_Reader_init_40 : decode b_Reader_init 40 = .ok (.dup, 1) := by decide +kernel
theorem d_Reader_init_41 : decode b_Reader_init 41 = .ok (.iload_n 1, 1) := by decide +kernel
theorem d_Reader_init_42 : decode b_Reader_init 42 = .ok (.iload_n 2, 1) := by decide +kernel
theorem d_Reader_init_43 : decode b_Reader_init 43 = .ok (.invokespecial 35, 3) := by decide +kernel
theorem d_Reader_init_46 : decode b_Reader_init 46 = .ok (.putfield 38, 3) := by decide +kernel
theorem d_Reader_init_49 : decode b_Reader_init 49 = .ok (.aload_n 0, 1) := by decide +kernel
theorem d_Reader_init_50 : decode b_Reader_init 50 = .ok (.new 41, 3) := by decide +kernel
theorem d_Reader_init_53 : decode b_Reader_init 53 = .ok (.dup, 1) := by decide +kernel
theorem d_Reader_init_54 : decode b_Reader_init 54 = .ok (.iload_n 1, 1) := by decide +kernel
theorem d_Reader_init_55 : decode b_Reader_init 55 = .ok (.invokespecial 43, 3) := by decide +kernel
theorem d_Reader_init_58 : decode b_Reader_init 58 = .ok (.putfield 46, 3) := by decide +kernel
theorem d_Reader_init_61 : decode b_Reader_init 61 = .ok (.return_, 1) := by decide +kernel
theorem d_Reader_restart_0 : decode b_Reader_restart 0 = .ok (.aload_n 0, 1) := by decide +kernel
theorem d_Reader_restart_1 : decode b_Reader_restart 1 = .ok (.getfield 38, 3) := by decide +kernel
theorem d_Reader_restart_4 : decode b_Reader_restart 4 = .ok (.invokevirtual 50, 3) := by decide +kernel
theorem d_Reader_restart_7 : decode b_Reader_restart 7 = .ok (.aload_n 0, 1) := by decide +kernel
theorem d_Reader_restart_8 : decode b_Reader_restart 8 = .ok (.iconst 0, 1) := by decide +kernel
theorem d_Reader_restart_9 : decode b_Reader_restart 9 = .ok (.putfield 53, 3) := by decide +kernel
theorem d_Reader_restart_12 : decode b_Reader_restart 12 = .ok (.aload_n 0, 1) := by decide +kernel
theorem d_Reader_restart_13 : decode b_Reader_restart 13 = .ok (.iconst 0, 1) := by decide +kernel
theorem d_Reader_restart_14 : decode b_Reader_restart 14 = .ok (.putfield 56, 3) := by decide +kernel
theorem d_Reader_restart_17 : decode b_Reader_restart 17 = .ok (.aload_n 0, 1) := by decide +kernel
theorem d_Reader_restart_18 : decode b_Reader_restart 18 = .ok (.iconst 0, 1) := by decide +kernel
theorem d_Reader_restart_19 : decode b_Reader_restart 19 = .ok (.putfield 59, 3) := by decide +kernel
theorem d_Reader_restart_22 : decode b_Reader_restart 22 = .ok (.aload_n 0, 1) := by decide +kernel
theorem d_Reader_restart_23 : decode b_Reader_restart 23 = .ok (.iconst 0, 1) := by decide +kernel
theorem d_Reader_restart_24 : decode b_Reader_restart 24 = .ok (.putfield 63, 3) := by decide +kernel
theorem d_Reader_restart_27 : decode b_Reader_restart 27 = .ok (.aload_n 0, 1) := by decide +kernel
theorem d_Reader_restart_28 : decode b_Reader_restart 28 = .ok (.iconst (-1), 1) := by decide +kernel
theorem d_Reader_restart_29 : decode b_Reader_restart 29 = .ok (.putfield 9, 3) := by decide +kernel
theorem d_Reader_restart_32 : decode b_Reader_restart 32 = .ok (.return_, 1) := by decide +kernel
theorem d_Reader_bitsRead_0 : decode b_Reader_bitsRead 0 = .ok (.aload_n 0, 1) := by decide +kernel
theorem d_Reader_bitsRead_1 : decode b_Reader_bitsRead 1 = .ok (.getfield 53, 3) := by decide +kernel
theorem d_Reader_bitsRead_4 : decode b_Reader_bitsRead 4 = .ok (.ireturn, 1) := by decide +kernel
theorem d_Reader_rowsRead_0 : decode b_Reader_rowsRead 0 = .ok (.aload_n 0, 1) := by decide +kernel
theorem d_Reader_rowsRead_1 : decode b_Reader_rowsRead 1 = .ok (.getfield 56, 3) := by decide +kernel
theorem d_Reader_rowsRead_4 : decode b_Reader_rowsRead 4 = .ok (.ireturn, 1) := by decide +kernel
theorem d_Reader_hasEnded_0 : decode b_Reader_hasEnded 0 = .ok (.aload_n 0, 1) := by decide +kernel
theorem d_Reader_hasEnded_1 : decode b_Reader_hasEnded 1 = .ok (.getfield 63, 3) := by decide +kernel
theorem d_Reader_hasEnded_4 : decode b_Reader_hasEnded 4 = .ok (.ireturn, 1) := by decide +kernel
theorem d_Reader_isBlack_0 : decode b_Reader_isBlack 0 = .ok (.aload_n 0, 1) := by decide +kernel
theorem d_Reader_isBlack_1 : decode b_Reader_isBlack 1 = .ok (.getfield 38, 3) := by decide +kernel
theorem d_Reader_isBlack_4 : decode b_Reader_isBlack 4 = .ok (.iload_n 1, 1) := by decide +kernel
theorem d_Reader_isBlack_5 : decode b_Reader_isBlack 5 = .ok (.iload_n 2, 1) := by decide +kernel
theorem d_Reader_isBlack_6 : decode b_Reader_isBlack 6 = .ok (.invokevirtual 66, 3) := by decide +kernel
theorem d_Reader_isBlack_9 : decode b_Reader_isBlack 9 = .ok (.ireturn, 1) := by decide +kernel
theorem d_Ways_open_0 : decode b_Ways_open 0 = .ok (.aload_n 0, 1) := by decide +kernel
theorem d_Ways_open_1 : decode b_Ways_open 1 = .ok (.getfield 16, 3) := by decide +kernel
theorem d_Ways_open_4 : decode b_Ways_open 4 = .ok (.ireturn, 1) := by decide +kernel
theorem d_Reader_readOpening_0 : decode b_Reader_readOpening 0 = .ok (.aload_n 0, 1) := by decide +kernel
theorem d_Reader_readOpening_1 : decode b_Reader_readOpening 1 = .ok (.getfield 29, 3) := by decide +kernel
theorem d_Reader_readOpening_4 : decode b_Reader_readOpening 4 = .ok (.invokevirtual 105, 3) := by decide +kernel
theorem d_Reader_readOpening_7 : decode b_Reader_readOpening 7 = .ok (.istore_n 1, 1) := by decide +kernel
theorem d_Reader_readOpening_8 : decode b_Reader_readOpening 8 = .ok (.iload_n 1, 1) := by decide +kernel
theorem d_Reader_readOpening_9 : decode b_Reader_readOpening 9 = .ok (.iconst 1, 1) := by decide +kernel
theorem d_Reader_readOpening_10 : decode b_Reader_readOpening 10 = .ok (.if_icmp .ne 22, 3) := by decide +kernel
theorem d_Reader_readOpening_13 : decode b_Reader_readOpening 13 = .ok (.aload_n 0, 1) := by decide +kernel
theorem d_Reader_readOpening_14 : decode b_Reader_readOpening 14 = .ok (.iconst 1, 1) := by decide +kernel
theorem d_Reader_readOpening_15 : decode b_Reader_readOpening 15 = .ok (.putfield 63, 3) := by decide +kernel
theorem d_Reader_readOpening_18 : decode b_Reader_readOpening 18 = .ok (.aload_n 0, 1) := by decide +kernel
theorem d_Reader_readOpening_19 : decode b_Reader_readOpening 19 = .ok (.aload_n 0, 1) := by decide +kernel
theorem d_Reader_readOpening_20 : decode b_Reader_readOpening 20 = .ok (.getfield 29, 3) := by decide +kernel
theorem d_Reader_readOpening_23 : decode b_Reader_readOpening 23 = .ok (.invokevirtual 109, 3) := by decide +kernel
theorem d_Reader_readOpening_26 : decode b_Reader_readOpening 26 = .ok (.putfield 53, 3) := by decide +kernel
theorem d_Reader_readOpening_29 : decode b_Reader_readOpening 29 = .ok (.goto 23, 3) := by decide +kernel
theorem d_Reader_readOpening_32 : decode b_Reader_readOpening 32 = .ok (.iload_n 1, 1) := by decide +kernel
theorem d_Reader_readOpening_33 : decode b_Reader_readOpening 33 = .ok (.ifCond .ne 19, 3) := by decide +kernel
theorem d_Reader_readOpening_36 : decode b_Reader_readOpening 36 = .ok (.aload_n 0, 1) := by decide +kernel
theorem d_Reader_readOpening_37 : decode b_Reader_readOpening 37 = .ok (.getfield 56, 3) := by decide +kernel
theorem d_Reader_readOpening_40 : decode b_Reader_readOpening 40 = .ok (.aload_n 0, 1) := by decide +kernel
theorem d_Reader_readOpening_41 : decode b_Reader_readOpening 41 = .ok (.getfield 18, 3) := by decide +kernel
theorem d_Reader_readOpening_44 : decode b_Reader_readOpening 44 = .ok (.if_icmp .lt 8, 3) := by decide +kernel
theorem d_Reader_readOpening_47 : decode b_Reader_readOpening 47 = .ok (.aload_n 0, 1) := by decide +kernel
theorem d_Reader_readOpening_48 : decode b_Reader_readOpening 48 = .ok (.iconst 3, 1) := by decide +kernel
theorem d_Reader_readOpening_49 : decode b_Reader_readOpening 49 = .ok (.putfield 9, 3) := by decide +kernel
theorem d_Reader_readOpening_52 : decode b_Reader_readOpening 52 = .ok (.iload_n 1, 1) := by decide +kernel
theorem d_Reader_readOpening_53 : decode b_Reader_readOpening 53 = .ok (.ifCond .ne 15, 3) := by decide +kernel
theorem d_Reader_readOpening_56 : decode b_Reader_readOpening 56 = .ok (.aload_n 0, 1) := by decide +kernel
theorem d_Reader_readOpening_57 : decode b_Reader_readOpening 57 = .ok (.getfield 9, 3) := by decide +kernel
theorem d_Reader_readOpening_60 : decode b_Reader_readOpening 60 = .ok (.iconst (-1), 1) := by decide +kernel
theorem d_Reader_readOpening_61 : decode b_Reader_readOpening 61 = .ok (.if_icmp .ne 7, 3) := by decide +kernel
theorem d_Reader_readOpening_64 : decode b_Reader_readOpening 64 = .ok (.iconst 1, 1) := by decide +kernel
theorem d_Reader_readOpening_65 : decode b_Reader_readOpening 65 = .ok (.goto 4, 3) := by decide +kernel
theorem d_Reader_readOpening_68 : decode b_Reader_readOpening 68 = .ok (.iconst 0, 1) := by decide +kernel
theorem d_Reader_readOpening_69 : decode b_Reader_readOpening 69 = .ok (.ireturn, 1) := by decide +kernel
theorem d_Reader_startRow_0 : decode b_Reader_startRow 0 = .ok (.aload_n 0, 1) := by decide +kernel
theorem d_Reader_startRow_1 : decode b_Reader_startRow 1 = .ok (.getfield 29, 3) := by decide +kernel
theorem d_Reader_startRow_4 : decode b_Reader_startRow 4 = .ok (.aload_n 0, 1) := by decide +kernel
theorem d_Reader_startRow_5 : decode b_Reader_startRow 5 = .ok (.getfield 53, 3) := by decide +kernel
theorem d_Reader_startRow_8 : decode b_Reader_startRow 8 = .ok (.invokevirtual 88, 3) := by decide +kernel
theorem d_Reader_startRow_11 : decode b_Reader_startRow 11 = .ok (.aload_n 0, 1) := by decide +kernel
theorem d_Reader_startRow_12 : decode b_Reader_startRow 12 = .ok (.iconst 0, 1) := by decide +kernel
theorem d_Reader_startRow_13 : decode b_Reader_startRow 13 = .ok (.putfield 93, 3) := by decide +kernel
theorem d_Reader_startRow_16 : decode b_Reader_startRow 16 = .ok (.aload_n 0, 1) := by decide +kernel
theorem d_Reader_startRow_17 : decode b_Reader_startRow 17 = .ok (.iconst 0, 1) := by decide +kernel
theorem d_Reader_startRow_18 : decode b_Reader_startRow 18 = .ok (.putfield 96, 3) := by decide +kernel
theorem d_Reader_startRow_21 : decode b_Reader_startRow 21 = .ok (.aload_n 0, 1) := by decide +kernel
theorem d_Reader_startRow_22 : decode b_Reader_startRow 22 = .ok (.getfield 25, 3) := by decide +kernel
theorem d_Reader_startRow_25 : decode b_Reader_startRow 25 = .ok (.invokevirtual 99, 3) := by decide +kernel
theorem d_Reader_startRow_28 : decode b_Reader_startRow 28 = .ok (.ifCond .eq 10, 3) := by decide +kernel
theorem d_Reader_startRow_31 : decode b_Reader_startRow 31 = .ok (.aload_n 0, 1) := by decide +kernel
theorem d_Reader_startRow_32 : decode b_Reader_startRow 32 = .ok (.invokevirtual 102, 3) := by decide +kernel
theorem d_Reader_startRow_35 : decode b_Reader_startRow 35 = .ok (.ifCond .eq 7, 3) := by decide +kernel
theorem d_Reader_startRow_38 : decode b_Reader_startRow 38 = .ok (.iconst 1, 1) := by decide +kernel
theorem d_Reader_startRow_39 : decode b_Reader_startRow 39 = .ok (.goto 4, 3) := by decide +kernel
theorem d_Reader_startRow_42 : decode b_Reader_startRow 42 = .ok (.iconst 0, 1) := by decide +kernel
theorem d_Reader_startRow_43 : decode b_Reader_startRow 43 = .ok (.ireturn, 1) := by decide +kernel
theorem d_Ways_byFax_0 : decode b_Ways_byFax 0 = .ok (.aload_n 0, 1) := by decide +kernel
theorem d_Ways_byFax_1 : decode b_Ways_byFax 1 = .ok (.getfield 13, 3) := by decide +kernel
theorem d_Ways_byFax_4 : decode b_Ways_byFax 4 = .ok (.ireturn, 1) := by decide +kernel
theorem d_Reader_stepOf_0 : decode b_Reader_stepOf 0 = .ok (.iload_n 0, 1) := by decide +kernel
theorem d_Reader_stepOf_1 : decode b_Reader_stepOf 1 = .ok (.iconst 1, 1) := by decide +kernel
theorem d_Reader_stepOf_2 : decode b_Reader_stepOf 2 = .ok (.if_icmp .ne 11, 3) := by decide +kernel
theorem d_Reader_stepOf_5 : decode b_Reader_stepOf 5 = .ok (.iload_n 1, 1) := by decide +kernel
theorem d_Reader_stepOf_6 : decode b_Reader_stepOf 6 = .ok (.iconst 4, 1) := by decide +kernel
theorem d_Reader_stepOf_7 : decode b_Reader_stepOf 7 = .ok (.if_icmp .ne 6, 3) := by decide +kernel
theorem d_Reader_stepOf_10 : decode b_Reader_stepOf 10 = .ok (.bipush 10, 2) := by decide +kernel
theorem d_Reader_stepOf_12 : decode b_Reader_stepOf 12 = .ok (.ireturn, 1) := by decide +kernel
theorem d_Reader_stepOf_13 : decode b_Reader_stepOf 13 = .ok (.iload_n 0, 1) := by decide +kernel
theorem d_Reader_stepOf_14 : decode b_Reader_stepOf 14 = .ok (.iconst 1, 1) := by decide +kernel
theorem d_Reader_stepOf_15 : decode b_Reader_stepOf 15 = .ok (.if_icmp .ne 11, 3) := by decide +kernel
theorem d_Reader_stepOf_18 : decode b_Reader_stepOf 18 = .ok (.iload_n 1, 1) := by decide +kernel
theorem d_Reader_stepOf_19 : decode b_Reader_stepOf 19 = .ok (.iconst 3, 1) := by decide +kernel
theorem d_Reader_stepOf_20 : decode b_Reader_stepOf 20 = .ok (.if_icmp .ne 6, 3) := by decide +kernel
theorem d_Reader_stepOf_23 : decode b_Reader_stepOf 23 = .ok (.bipush 11, 2) := by decide +kernel
theorem d_Reader_stepOf_25 : decode b_Reader_stepOf 25 = .ok (.ireturn, 1) := by decide +kernel
theorem d_Reader_stepOf_26 : decode b_Reader_stepOf 26 = .ok (.iconst 0, 1) := by decide +kernel
theorem d_Reader_stepOf_27 : decode b_Reader_stepOf 27 = .ok (.istore_n 2, 1) := by decide +kernel
theorem d_Reader_stepOf_28 : decode b_Reader_stepOf 28 = .ok (.iload_n 2, 1) := by decide +kernel
theorem d_Reader_stepOf_29 : decode b_Reader_stepOf 29 = .ok (.getstatic 157, 3) := by decide +kernel
theorem d_Reader_stepOf_32 : decode b_Reader_stepOf 32 = .ok (.arraylength, 1) := by decide +kernel
theorem d_Reader_stepOf_33 : decode b_Reader_stepOf 33 = .ok (.if_icmp .ge 39, 3) := by decide +kernel
theorem d_Reader_stepOf_36 : decode b_Reader_stepOf 36 = .ok (.iload_n 2, 1) := by decide +kernel
theorem d_Reader_stepOf_37 : decode b_Reader_stepOf 37 = .ok (.getstatic 161, 3) := by decide +kernel
theorem d_Reader_stepOf_40 : decode b_Reader_stepOf 40 = .ok (.arraylength, 1) := by decide +kernel
theorem d_Reader_stepOf_41 : decode b_Reader_stepOf 41 = .ok (.if_icmp .ge 31, 3) := by decide +kernel
theorem d_Reader_stepOf_44 : decode b_Reader_stepOf 44 = .ok (.iload_n 0, 1) := by decide +kernel
theorem d_Reader_stepOf_45 : decode b_Reader_stepOf 45 = .ok (.getstatic 157, 3) := by decide +kernel
theorem d_Reader_stepOf_48 : decode b_Reader_stepOf 48 = .ok (.iload_n 2, 1) := by decide +kernel
theorem d_Reader_stepOf_49 : decode b_Reader_stepOf 49 = .ok (.iaload, 1) := by decide +kernel
theorem d_Reader_stepOf_50 : decode b_Reader_stepOf 50 = .ok (.if_icmp .ne 16, 3) := by decide +kernel
theorem d_Reader_stepOf_53 : decode b_Reader_stepOf 53 = .ok (.iload_n 1, 1) := by decide +kernel
theorem d_Reader_stepOf_54 : decode b_Reader_stepOf 54 = .ok (.getstatic 161, 3) := by decide +kernel
theorem d_Reader_stepOf_57 : decode b_Reader_stepOf 57 = .ok (.iload_n 2, 1) := by decide +kernel
theorem d_Reader_stepOf_58 : decode b_Reader_stepOf 58 = .ok (.iaload, 1) := by decide +kernel
theorem d_Reader_stepOf_59 : decode b_Reader_stepOf 59 = .ok (.if_icmp .ne 7, 3) := by decide +kernel
theorem d_Reader_stepOf_62 : decode b_Reader_stepOf 62 = .ok (.iload_n 2, 1) := by decide +kernel
theorem d_Reader_stepOf_63 : decode b_Reader_stepOf 63 = .ok (.iconst 3, 1) := by decide +kernel
theorem d_Reader_stepOf_64 : decode b_Reader_stepOf 64 = .ok (.isub, 1) := by decide +kernel
theorem d_Reader_stepOf_65 : decode b_Reader_stepOf 65 = .ok (.ireturn, 1) := by decide +kernel
theorem d_Reader_stepOf_66 : decode b_Reader_stepOf 66 = .ok (.iinc 2 1, 3) := by decide +kernel
theorem d_Reader_stepOf_69 : decode b_Reader_stepOf 69 = .ok (.goto (-41), 3) := by decide +kernel
theorem d_Reader_stepOf_72 : decode b_Reader_stepOf 72 = .ok (.bipush 12, 2) := by decide +kernel
theorem d_Reader_stepOf_74 : decode b_Reader_stepOf 74 = .ok (.ireturn, 1) := by decide +kernel
theorem d_Reader_nextStep_0 : decode b_Reader_nextStep 0 = .ok (.iconst 0, 1) := by decide +kernel
theorem d_Reader_nextStep_1 : decode b_Reader_nextStep 1 = .ok (.istore_n 1, 1) := by decide +kernel
theorem d_Reader_nextStep_2 : decode b_Reader_nextStep 2 = .ok (.iconst 1, 1) := by decide +kernel
theorem d_Reader_nextStep_3 : decode b_Reader_nextStep 3 = .ok (.istore_n 2, 1) := by decide +kernel
theorem d_Reader_nextStep_4 : decode b_Reader_nextStep 4 = .ok (.iload_n 2, 1) := by decide +kernel
theorem d_Reader_nextStep_5 : decode b_Reader_nextStep 5 = .ok (.bipush 7, 2) := by decide +kernel
theorem d_Reader_nextStep_7 : decode b_Reader_nextStep 7 = .ok (.if_icmp .gt 48, 3) := by decide +kernel
theorem d_Reader_nextStep_10 : decode b_Reader_nextStep 10 = .ok (.aload_n 0, 1) := by decide +kernel
theorem d_Reader_nextStep_11 : decode b_Reader_nextStep 11 = .ok (.getfield 29, 3) := by decide +kernel
theorem d_Reader_nextStep_14 : decode b_Reader_nextStep 14 = .ok (.invokevirtual 105, 3) := by decide +kernel
theorem d_Reader_nextStep_17 : decode b_Reader_nextStep 17 = .ok (.istore_n 3, 1) := by decide +kernel
theorem d_Reader_nextStep_18 : decode b_Reader_nextStep 18 = .ok (.iload_n 3, 1) := by decide +kernel
theorem d_Reader_nextStep_19 : decode b_Reader_nextStep 19 = .ok (.iconst (-1), 1) := by decide +kernel
theorem d_Reader_nextStep_20 : decode b_Reader_nextStep 20 = .ok (.if_icmp .ne 6, 3) := by decide +kernel
theorem d_Reader_nextStep_23 : decode b_Reader_nextStep 23 = .ok (.bipush 12, 2) := by decide +kernel
theorem d_Reader_nextStep_25 : decode b_Reader_nextStep 25 = .ok (.ireturn, 1) := by decide +kernel
theorem d_Reader_nextStep_26 : decode b_Reader_nextStep 26 = .ok (.iload_n 1, 1) := by decide +kernel
theorem d_Reader_nextStep_27 : decode b_Reader_nextStep 27 = .ok (.iconst 1, 1) := by decide +kernel
theorem d_Reader_nextStep_28 : decode b_Reader_nextStep 28 = .ok (.ishl, 1) := by decide +kernel
theorem d_Reader_nextStep_29 : decode b_Reader_nextStep 29 = .ok (.iload_n 3, 1) := by decide +kernel
theorem d_Reader_nextStep_30 : decode b_Reader_nextStep 30 = .ok (.ior, 1) := by decide +kernel
theorem d_Reader_nextStep_31 : decode b_Reader_nextStep 31 = .ok (.istore_n 1, 1) := by decide +kernel
theorem d_Reader_nextStep_32 : decode b_Reader_nextStep 32 = .ok (.iload_n 1, 1) := by decide +kernel
theorem d_Reader_nextStep_33 : decode b_Reader_nextStep 33 = .ok (.iload_n 2, 1) := by decide +kernel
theorem d_Reader_nextStep_34 : decode b_Reader_nextStep 34 = .ok (.invokestatic 153, 3) := by decide +kernel
theorem d_Reader_nextStep_37 : decode b_Reader_nextStep 37 = .ok (.istore 4, 2) := by decide +kernel
theorem d_Reader_nextStep_39 : decode b_Reader_nextStep 39 = .ok (.iload 4, 2) := by decide +kernel
theorem d_Reader_nextStep_41 : decode b_Reader_nextStep 41 = .ok (.bipush 12, 2) := by decide +kernel
theorem d_Reader_nextStep_43 : decode b_Reader_nextStep 43 = .ok (.if_icmp .eq 6, 3) := by decide +kernel
theorem d_Reader_nextStep_46 : decode b_Reader_nextStep 46 = .ok (.iload 4, 2) := by decide +kernel
theorem d_Reader_nextStep_48 : decode b_Reader_nextStep 48 = .ok (.ireturn, 1) := by decide +kernel
theorem d_Reader_nextStep_49 : decode b_Reader_nextStep 49 = .ok (.iinc 2 1, 3) := by decide +kernel
theorem d_Reader_nextStep_52 : decode b_Reader_nextStep 52 = .ok (.goto (-48), 3) := by decide +kernel
theorem d_Reader_nextStep_55 : decode b_Reader_nextStep 55 = .ok (.aload_n 0, 1) := by decide +kernel
theorem d_Reader_nextStep_56 : decode b_Reader_nextStep 56 = .ok (.iconst 0, 1) := by decide +kernel
theorem d_Reader_nextStep_57 : decode b_Reader_nextStep 57 = .ok (.putfield 9, 3) := by decide +kernel
theorem d_Reader_nextStep_60 : decode b_Reader_nextStep 60 = .ok (.bipush 12, 2) := by decide +kernel
theorem d_Reader_nextStep_62 : decode b_Reader_nextStep 62 = .ok (.ireturn, 1) := by decide +kernel
theorem d_Reader_readNumber_0 : decode b_Reader_readNumber 0 = .ok (.iconst 0, 1) := by decide +kernel
theorem d_Reader_readNumber_1 : decode b_Reader_readNumber 1 = .ok (.istore_n 1, 1) := by decide +kernel
theorem d_Reader_readNumber_2 : decode b_Reader_readNumber 2 = .ok (.aload_n 0, 1) := by decide +kernel
theorem d_Reader_readNumber_3 : decode b_Reader_readNumber 3 = .ok (.getfield 29, 3) := by decide +kernel
theorem d_Reader_readNumber_6 : decode b_Reader_readNumber 6 = .ok (.invokevirtual 105, 3) := by decide +kernel
theorem d_Reader_readNumber_9 : decode b_Reader_readNumber 9 = .ok (.istore_n 2, 1) := by decide +kernel
theorem d_Reader_readNumber_10 : decode b_Reader_readNumber 10 = .ok (.iload_n 2, 1) := by decide +kernel
theorem d_Reader_readNumber_11 : decode b_Reader_readNumber 11 = .ok (.ifCond .ne 22, 3) := by decide +kernel
theorem d_Reader_readNumber_14 : decode b_Reader_readNumber 14 = .ok (.iload_n 1, 1) := by decide +kernel
theorem d_Reader_readNumber_15 : decode b_Reader_readNumber 15 = .ok (.iconst 4, 1) := by decide +kernel
theorem d_Reader_readNumber_16 : decode b_Reader_readNumber 16 = .ok (.if_icmp .ge 17, 3) := by decide +kernel
theorem d_Reader_readNumber_19 : decode b_Reader_readNumber 19 = .ok (.iinc 1 1, 3) := by decide +kernel
theorem d_Reader_readNumber_22 : decode b_Reader_readNumber 22 = .ok (.aload_n 0, 1) := by decide +kernel
theorem d_Reader_readNumber_23 : decode b_Reader_readNumber 23 = .ok (.getfield 29, 3) := by decide +kernel
theorem d_Reader_readNumber_26 : decode b_Reader_readNumber 26 = .ok (.invokevirtual 105, 3) := by decide +kernel
theorem d_Reader_readNumber_29 : decode b_Reader_readNumber 29 = .ok (.istore_n 2, 1) := by decide +kernel
theorem d_Reader_readNumber_30 : decode b_Reader_readNumber 30 = .ok (.goto (-20), 3) := by decide +kernel
theorem d_Reader_readNumber_33 : decode b_Reader_readNumber 33 = .ok (.iload_n 2, 1) := by decide +kernel
theorem d_Reader_readNumber_34 : decode b_Reader_readNumber 34 = .ok (.ifCond .ne 8, 3) := by decide +kernel
theorem d_Reader_readNumber_37 : decode b_Reader_readNumber 37 = .ok (.aload_n 0, 1) := by decide +kernel
theorem d_Reader_readNumber_38 : decode b_Reader_readNumber 38 = .ok (.iconst 2, 1) := by decide +kernel
theorem d_Reader_readNumber_39 : decode b_Reader_readNumber 39 = .ok (.putfield 9, 3) := by decide +kernel
theorem d_Reader_readNumber_42 : decode b_Reader_readNumber 42 = .ok (.iload_n 2, 1) := by decide +kernel
theorem d_Reader_readNumber_43 : decode b_Reader_readNumber 43 = .ok (.istore_n 3, 1) := by decide +kernel
theorem d_Reader_readNumber_44 : decode b_Reader_readNumber 44 = .ok (.iconst 0, 1) := by decide +kernel
theorem d_Reader_readNumber_45 : decode b_Reader_readNumber 45 = .ok (.istore 4, 2) := by decide +kernel
theorem d_Reader_readNumber_47 : decode b_Reader_readNumber 47 = .ok (.iload 4, 2) := by decide +kernel
theorem d_Reader_readNumber_49 : decode b_Reader_readNumber 49 = .ok (.iload_n 1, 1) := by decide +kernel
theorem d_Reader_readNumber_50 : decode b_Reader_readNumber 50 = .ok (.if_icmp .ge 36, 3) := by decide +kernel
theorem d_Reader_readNumber_53 : decode b_Reader_readNumber 53 = .ok (.iload_n 3, 1) := by decide +kernel
theorem d_Reader_readNumber_54 : decode b_Reader_readNumber 54 = .ok (.ifCond .le 32, 3) := by decide +kernel
theorem d_Reader_readNumber_57 : decode b_Reader_readNumber 57 = .ok (.aload_n 0, 1) := by decide +kernel
theorem d_Reader_readNumber_58 : decode b_Reader_readNumber 58 = .ok (.getfield 29, 3) := by decide +kernel
theorem d_Reader_readNumber_61 : decode b_Reader_readNumber 61 = .ok (.invokevirtual 105, 3) := by decide +kernel
theorem d_Reader_readNumber_64 : decode b_Reader_readNumber 64 = .ok (.istore_n 2, 1) := by decide +kernel
theorem d_Reader_readNumber_65 : decode b_Reader_readNumber 65 = .ok (.iload_n 2, 1) := by decide +kernel
theorem d_Reader_readNumber_66 : decode b_Reader_readNumber 66 = .ok (.iconst (-1), 1) := by decide +kernel
theorem d_Reader_readNumber_67 : decode b_Reader_readNumber 67 = .ok (.if_icmp .ne 7, 3) := by decide +kernel
theorem d_Reader_readNumber_70 : decode b_Reader_readNumber 70 = .ok (.iconst (-1), 1) := by decide +kernel
theorem d_Reader_readNumber_71 : decode b_Reader_readNumber 71 = .ok (.goto 8, 3) := by decide +kernel
theorem d_Reader_readNumber_74 : decode b_Reader_readNumber 74 = .ok (.iload_n 3, 1) := by decide +kernel
theorem d_Reader_readNumber_75 : decode b_Reader_readNumber 75 = .ok (.iconst 1, 1) := by decide +kernel
theorem d_Reader_readNumber_76 : decode b_Reader_readNumber 76 = .ok (.ishl, 1) := by decide +kernel
theorem d_Reader_readNumber_77 : decode b_Reader_readNumber 77 = .ok (.iload_n 2, 1) := by decide +kernel
theorem d_Reader_readNumber_78 : decode b_Reader_readNumber 78 = .ok (.ior, 1) := by decide +kernel
theorem d_Reader_readNumber_79 : decode b_Reader_readNumber 79 = .ok (.istore_n 3, 1) := by decide +kernel
theorem d_Reader_readNumber_80 : decode b_Reader_readNumber 80 = .ok (.iinc 4 1, 3) := by decide +kernel
theorem d_Reader_readNumber_83 : decode b_Reader_readNumber 83 = .ok (.goto (-36), 3) := by decide +kernel
theorem d_Reader_readNumber_86 : decode b_Reader_readNumber 86 = .ok (.iload_n 3, 1) := by decide +kernel
theorem d_Reader_readNumber_87 : decode b_Reader_readNumber 87 = .ok (.ifCond .le 9, 3) := by decide +kernel
theorem d_Reader_readNumber_90 : decode b_Reader_readNumber 90 = .ok (.iload_n 3, 1) := by decide +kernel
theorem d_Reader_readNumber_91 : decode b_Reader_readNumber 91 = .ok (.iconst 1, 1) := by decide +kernel
theorem d_Reader_readNumber_92 : decode b_Reader_readNumber 92 = .ok (.isub, 1) := by decide +kernel
theorem d_Reader_readNumber_93 : decode b_Reader_readNumber 93 = .ok (.goto 4, 3) := by decide +kernel
theorem d_Reader_readNumber_96 : decode b_Reader_readNumber 96 = .ok (.iconst (-1), 1) := by decide +kernel
theorem d_Reader_readNumber_97 : decode b_Reader_readNumber 97 = .ok (.ireturn, 1) := by decide +kernel
theorem d_Reader_paint_0 : decode b_Reader_paint 0 = .ok (.iload_n 1, 1) := by decide +kernel
theorem d_Reader_paint_1 : decode b_Reader_paint 1 = .ok (.iconst 0, 1) := by decide +kernel
theorem d_Reader_paint_2 : decode b_Reader_paint 2 = .ok (.invokestatic 179, 3) := by decide +kernel
theorem d_Reader_paint_5 : decode b_Reader_paint 5 = .ok (.istore 4, 2) := by decide +kernel
theorem d_Reader_paint_7 : decode b_Reader_paint 7 = .ok (.iload 4, 2) := by decide +kernel
theorem d_Reader_paint_9 : decode b_Reader_paint 9 = .ok (.iload_n 2, 1) := by decide +kernel
theorem d_Reader_paint_10 : decode b_Reader_paint 10 = .ok (.if_icmp .ge 26, 3) := by decide +kernel
theorem d_Reader_paint_13 : decode b_Reader_paint 13 = .ok (.iload_n 3, 1) := by decide +kernel
theorem d_Reader_paint_14 : decode b_Reader_paint 14 = .ok (.ifCond .eq 22, 3) := by decide +kernel
theorem d_Reader_paint_17 : decode b_Reader_paint 17 = .ok (.aload_n 0, 1) := by decide +kernel
theorem d_Reader_paint_18 : decode b_Reader_paint 18 = .ok (.dup, 1) := by decide +kernel
theorem d_Reader_paint_19 : decode b_Reader_paint 19 = .ok (.getfield 93, 3) := by decide +kernel
theorem d_Reader_paint_22 : decode b_Reader_paint 22 = .ok (.iconst 1, 1) := by decide +kernel
theorem d_Reader_paint_23 : decode b_Reader_paint 23 = .ok (.iload 4, 2) := by decide +kernel
theorem d_Reader_paint_25 : decode b_Reader_paint 25 = .ok (.ishl, 1) := by decide +kernel
theorem d_Reader_paint_26 : decode b_Reader_paint 26 = .ok (.ior, 1) := by decide +kernel
theorem d_Reader_paint_27 : decode b_Reader_paint 27 = .ok (.putfield 93, 3) := by decide +kernel
theorem d_Reader_paint_30 : decode b_Reader_paint 30 = .ok (.iinc 4 1, 3) := by decide +kernel
theorem d_Reader_paint_33 : decode b_Reader_paint 33 = .ok (.goto (-26), 3) := by decide +kernel
theorem d_Reader_paint_36 : decode b_Reader_paint 36 = .ok (.return_, 1) := by decide +kernel
theorem d_Reader_readRuns_0 : decode b_Reader_readRuns 0 = .ok (.aload_n 0, 1) := by decide +kernel
theorem d_Reader_readRuns_1 : decode b_Reader_readRuns 1 = .ok (.invokevirtual 176, 3) := by decide +kernel
theorem d_Reader_readRuns_4 : decode b_Reader_readRuns 4 = .ok (.istore_n 1, 1) := by decide +kernel
theorem d_Reader_readRuns_5 : decode b_Reader_readRuns 5 = .ok (.iload_n 1, 1) := by decide +kernel
theorem d_Reader_readRuns_6 : decode b_Reader_readRuns 6 = .ok (.iconst (-1), 1) := by decide +kernel
theorem d_Reader_readRuns_7 : decode b_Reader_readRuns 7 = .ok (.if_icmp .ne 7, 3) := by decide +kernel
theorem d_Reader_readRuns_10 : decode b_Reader_readRuns 10 = .ok (.iconst (-1), 1) := by decide +kernel
theorem d_Reader_readRuns_11 : decode b_Reader_readRuns 11 = .ok (.goto 7, 3) := by decide +kernel
theorem d_Reader_readRuns_14 : decode b_Reader_readRuns 14 = .ok (.aload_n 0, 1) := by decide +kernel
theorem d_Reader_readRuns_15 : decode b_Reader_readRuns 15 = .ok (.invokevirtual 176, 3) := by decide +kernel
theorem d_Reader_readRuns_18 : decode b_Reader_readRuns 18 = .ok (.istore_n 2, 1) := by decide +kernel
theorem d_Reader_readRuns_19 : decode b_Reader_readRuns 19 = .ok (.iload_n 2, 1) := by decide +kernel
theorem d_Reader_readRuns_20 : decode b_Reader_readRuns 20 = .ok (.iconst (-1), 1) := by decide +kernel
theorem d_Reader_readRuns_21 : decode b_Reader_readRuns 21 = .ok (.if_icmp .ne 5, 3) := by decide +kernel
theorem d_Reader_readRuns_24 : decode b_Reader_readRuns 24 = .ok (.iconst 0, 1) := by decide +kernel
theorem d_Reader_readRuns_25 : decode b_Reader_readRuns 25 = .ok (.ireturn, 1) := by decide +kernel
theorem d_Reader_readRuns_26 : decode b_Reader_readRuns 26 = .ok (.aload_n 0, 1) := by decide +kernel
theorem d_Reader_readRuns_27 : decode b_Reader_readRuns 27 = .ok (.getfield 46, 3) := by decide +kernel
theorem d_Reader_readRuns_30 : decode b_Reader_readRuns 30 = .ok (.invokevirtual 164, 3) := by decide +kernel
theorem d_Reader_readRuns_33 : decode b_Reader_readRuns 33 = .ok (.iconst 0, 1) := by decide +kernel
theorem d_Reader_readRuns_34 : decode b_Reader_readRuns 34 = .ok (.invokestatic 179, 3) := by decide +kernel
theorem d_Reader_readRuns_37 : decode b_Reader_readRuns 37 = .ok (.istore_n 3, 1) := by decide +kernel
theorem d_Reader_readRuns_38 : decode b_Reader_readRuns 38 = .ok (.iload_n 3, 1) := by decide +kernel
theorem d_Reader_readRuns_39 : decode b_Reader_readRuns 39 = .ok (.iload_n 1, 1) := by decide +kernel
theorem d_Reader_readRuns_40 : decode b_Reader_readRuns 40 = .ok (.iadd, 1) := by decide +kernel
theorem d_Reader_readRuns_41 : decode b_Reader_readRuns 41 = .ok (.istore 4, 2) := by decide +kernel
theorem d_Reader_readRuns_43 : decode b_Reader_readRuns 43 = .ok (.iload 4, 2) := by decide +kernel
theorem d_Reader_readRuns_45 : decode b_Reader_readRuns 45 = .ok (.iload_n 2, 1) := by decide +kernel
theorem d_Reader_readRuns_46 : decode b_Reader_readRuns 46 = .ok (.iadd, 1) := by decide +kernel
theorem d_Reader_readRuns_47 : decode b_Reader_readRuns 47 = .ok (.istore 5, 2) := by decide +kernel
theorem d_Reader_readRuns_49 : decode b_Reader_readRuns 49 = .ok (.iload 5, 2) := by decide +kernel
theorem d_Reader_readRuns_51 : decode b_Reader_readRuns 51 = .ok (.aload_n 0, 1) := by decide +kernel
theorem d_Reader_readRuns_52 : decode b_Reader_readRuns 52 = .ok (.getfield 15, 3) := by decide +kernel
theorem d_Reader_readRuns_55 : decode b_Reader_readRuns 55 = .ok (.if_icmp .gt 15, 3) := by decide +kernel
theorem d_Reader_readRuns_58 : decode b_Reader_readRuns 58 = .ok (.iload 5, 2) := by decide +kernel
theorem d_Reader_readRuns_60 : decode b_Reader_readRuns 60 = .ok (.aload_n 0, 1) := by decide +kernel
theorem d_Reader_readRuns_61 : decode b_Reader_readRuns 61 = .ok (.getfield 46, 3) := by decide +kernel
theorem d_Reader_readRuns_64 : decode b_Reader_readRuns 64 = .ok (.invokevirtual 164, 3) := by decide +kernel
theorem d_Reader_readRuns_67 : decode b_Reader_readRuns 67 = .ok (.if_icmp .gt 10, 3) := by decide +kernel
theorem d_Reader_readRuns_70 : decode b_Reader_readRuns 70 = .ok (.aload_n 0, 1) := by decide +kernel
theorem d_Reader_readRuns_71 : decode b_Reader_readRuns 71 = .ok (.iconst 2, 1) := by decide +kernel
theorem d_Reader_readRuns_72 : decode b_Reader_readRuns 72 = .ok (.putfield 9, 3) := by decide +kernel
theorem d_Reader_readRuns_75 : decode b_Reader_readRuns 75 = .ok (.iconst 0, 1) := by decide +kernel
theorem d_Reader_readRuns_76 : decode b_Reader_readRuns 76 = .ok (.ireturn, 1) := by decide +kernel
theorem d_Reader_readRuns_77 : decode b_Reader_readRuns 77 = .ok (.aload_n 0, 1) := by decide +kernel
theorem d_Reader_readRuns_78 : decode b_Reader_readRuns 78 = .ok (.iload_n 3, 1) := by decide +kernel
theorem d_Reader_readRuns_79 : decode b_Reader_readRuns 79 = .ok (.iload 4, 2) := by decide +kernel
theorem d_Reader_readRuns_81 : decode b_Reader_readRuns 81 = .ok (.aload_n 0, 1) := by decide +kernel
theorem d_Reader_readRuns_82 : decode b_Reader_readRuns 82 = .ok (.getfield 46, 3) := by decide +kernel
theorem d_Reader_readRuns_85 : decode b_Reader_readRuns 85 = .ok (.invokevirtual 165, 3) := by decide +kernel
theorem d_Reader_readRuns_88 : decode b_Reader_readRuns 88 = .ok (.invokevirtual 168, 3) := by decide +kernel
theorem d_Reader_readRuns_91 : decode b_Reader_readRuns 91 = .ok (.aload_n 0, 1) := by decide +kernel
theorem d_Reader_readRuns_92 : decode b_Reader_readRuns 92 = .ok (.iload 4, 2) := by decide +kernel
theorem d_Reader_readRuns_94 : decode b_Reader_readRuns 94 = .ok (.iload 5, 2) := by decide +kernel
theorem d_Reader_readRuns_96 : decode b_Reader_readRuns 96 = .ok (.aload_n 0, 1) := by decide +kernel
theorem d_Reader_readRuns_97 : decode b_Reader_readRuns 97 = .ok (.getfield 46, 3) := by decide +kernel
theorem d_Reader_readRuns_100 : decode b_Reader_readRuns 100 = .ok (.invokevirtual 165, 3) := by decide +kernel
theorem d_Reader_readRuns_103 : decode b_Reader_readRuns 103 = .ok (.ifCond .ne 7, 3) := by decide +kernel
theorem d_Reader_readRuns_106 : decode b_Reader_readRuns 106 = .ok (.iconst 1, 1) := by decide +kernel
theorem d_Reader_readRuns_107 : decode b_Reader_readRuns 107 = .ok (.goto 4, 3) := by decide +kernel
theorem d_Reader_readRuns_110 : decode b_Reader_readRuns 110 = .ok (.iconst 0, 1) := by decide +kernel
theorem d_Reader_readRuns_111 : decode b_Reader_readRuns 111 = .ok (.invokevirtual 168, 3) := by decide +kernel
theorem d_Reader_readRuns_114 : decode b_Reader_readRuns 114 = .ok (.aload_n 0, 1) := by decide +kernel
theorem d_Reader_readRuns_115 : decode b_Reader_readRuns 115 = .ok (.getfield 46, 3) := by decide +kernel
theorem d_Reader_readRuns_118 : decode b_Reader_readRuns 118 = .ok (.iload 5, 2) := by decide +kernel
theorem d_Reader_readRuns_120 : decode b_Reader_readRuns 120 = .ok (.invokevirtual 172, 3) := by decide +kernel
theorem d_Reader_readRuns_123 : decode b_Reader_readRuns 123 = .ok (.iconst 1, 1) := by decide +kernel
theorem d_Reader_readRuns_124 : decode b_Reader_readRuns 124 = .ok (.ireturn, 1) := by decide +kernel
theorem d_Reader_passBelow_0 : decode b_Reader_passBelow 0 = .ok (.iload_n 1, 1) := by decide +kernel
theorem d_Reader_passBelow_1 : decode b_Reader_passBelow 1 = .ok (.aload_n 0, 1) := by decide +kernel
theorem d_Reader_passBelow_2 : decode b_Reader_passBelow 2 = .ok (.getfield 46, 3) := by decide +kernel
theorem d_Reader_passBelow_5 : decode b_Reader_passBelow 5 = .ok (.invokevirtual 164, 3) := by decide +kernel
theorem d_Reader_passBelow_8 : decode b_Reader_passBelow 8 = .ok (.if_icmp .le 11, 3) := by decide +kernel
theorem d_Reader_passBelow_11 : decode b_Reader_passBelow 11 = .ok (.iload_n 1, 1) := by decide +kernel
theorem d_Reader_passBelow_12 : decode b_Reader_passBelow 12 = .ok (.aload_n 0, 1) := by decide +kernel
theorem d_Reader_passBelow_13 : decode b_Reader_passBelow 13 = .ok (.getfield 15, 3) := by decide +kernel
theorem d_Reader_passBelow_16 : decode b_Reader_passBelow 16 = .ok (.if_icmp .lt 10, 3) := by decide +kernel
theorem d_Reader_passBelow_19 : decode b_Reader_passBelow 19 = .ok (.aload_n 0, 1) := by decide +kernel
theorem d_Reader_passBelow_20 : decode b_Reader_passBelow 20 = .ok (.iconst 1, 1) := by decide +kernel
theorem d_Reader_passBelow_21 : decode b_Reader_passBelow 21 = .ok (.putfield 9, 3) := by decide +kernel
theorem d_Reader_passBelow_24 : decode b_Reader_passBelow 24 = .ok (.iconst 0, 1) := by decide +kernel
theorem d_Reader_passBelow_25 : decode b_Reader_passBelow 25 = .ok (.ireturn, 1) := by decide +kernel
theorem d_Reader_passBelow_26 : decode b_Reader_passBelow 26 = .ok (.aload_n 0, 1) := by decide +kernel
theorem d_Reader_passBelow_27 : decode b_Reader_passBelow 27 = .ok (.aload_n 0, 1) := by decide +kernel
theorem d_Reader_passBelow_28 : decode b_Reader_passBelow 28 = .ok (.getfield 46, 3) := by decide +kernel
theorem d_Reader_passBelow_31 : decode b_Reader_passBelow 31 = .ok (.invokevirtual 164, 3) := by decide +kernel
theorem d_Reader_passBelow_34 : decode b_Reader_passBelow 34 = .ok (.iload_n 1, 1) := by decide +kernel
theorem d_Reader_passBelow_35 : decode b_Reader_passBelow 35 = .ok (.aload_n 0, 1) := by decide +kernel
theorem d_Reader_passBelow_36 : decode b_Reader_passBelow 36 = .ok (.getfield 46, 3) := by decide +kernel
theorem d_Reader_passBelow_39 : decode b_Reader_passBelow 39 = .ok (.invokevirtual 165, 3) := by decide +kernel
theorem d_Reader_passBelow_42 : decode b_Reader_passBelow 42 = .ok (.invokevirtual 168, 3) := by decide +kernel
theorem d_Reader_passBelow_45 : decode b_Reader_passBelow 45 = .ok (.aload_n 0, 1) := by decide +kernel
theorem d_Reader_passBelow_46 : decode b_Reader_passBelow 46 = .ok (.getfield 46, 3) := by decide +kernel
theorem d_Reader_passBelow_49 : decode b_Reader_passBelow 49 = .ok (.iload_n 1, 1) := by decide +kernel
theorem d_Reader_passBelow_50 : decode b_Reader_passBelow 50 = .ok (.invokevirtual 172, 3) := by decide +kernel
theorem d_Reader_passBelow_53 : decode b_Reader_passBelow 53 = .ok (.iconst 1, 1) := by decide +kernel
theorem d_Reader_passBelow_54 : decode b_Reader_passBelow 54 = .ok (.ireturn, 1) := by decide +kernel
theorem d_Reader_turnNear_0 : decode b_Reader_turnNear 0 = .ok (.iload_n 1, 1) := by decide +kernel
theorem d_Reader_turnNear_1 : decode b_Reader_turnNear 1 = .ok (.aload_n 0, 1) := by decide +kernel
theorem d_Reader_turnNear_2 : decode b_Reader_turnNear 2 = .ok (.getfield 46, 3) := by decide +kernel
theorem d_Reader_turnNear_5 : decode b_Reader_turnNear 5 = .ok (.invokevirtual 164, 3) := by decide +kernel
theorem d_Reader_turnNear_8 : decode b_Reader_turnNear 8 = .ok (.if_icmp .le 11, 3) := by decide +kernel
theorem d_Reader_turnNear_11 : decode b_Reader_turnNear 11 = .ok (.iload_n 1, 1) := by decide +kernel
theorem d_Reader_turnNear_12 : decode b_Reader_turnNear 12 = .ok (.aload_n 0, 1) := by decide +kernel
theorem d_Reader_turnNear_13 : decode b_Reader_turnNear 13 = .ok (.getfield 15, 3) := by decide +kernel
theorem d_Reader_turnNear_16 : decode b_Reader_turnNear 16 = .ok (.if_icmp .le 10, 3) := by decide +kernel
theorem d_Reader_turnNear_19 : decode b_Reader_turnNear 19 = .ok (.aload_n 0, 1) := by decide +kernel
theorem d_Reader_turnNear_20 : decode b_Reader_turnNear 20 = .ok (.iconst 1, 1) := by decide +kernel
theorem d_Reader_turnNear_21 : decode b_Reader_turnNear 21 = .ok (.putfield 9, 3) := by decide +kernel
theorem d_Reader_turnNear_24 : decode b_Reader_turnNear 24 = .ok (.iconst 0, 1) := by decide +kernel
theorem d_Reader_turnNear_25 : decode b_Reader_turnNear 25 = .ok (.ireturn, 1) := by decide +kernel
theorem d_Reader_turnNear_26 : decode b_Reader_turnNear 26 = .ok (.aload_n 0, 1) := by decide +kernel
theorem d_Reader_turnNear_27 : decode b_Reader_turnNear 27 = .ok (.aload_n 0, 1) := by decide +kernel
theorem d_Reader_turnNear_28 : decode b_Reader_turnNear 28 = .ok (.getfield 46, 3) := by decide +kernel
theorem d_Reader_turnNear_31 : decode b_Reader_turnNear 31 = .ok (.invokevirtual 164, 3) := by decide +kernel
theorem d_Reader_turnNear_34 : decode b_Reader_turnNear 34 = .ok (.iload_n 1, 1) := by decide +kernel
theorem d_Reader_turnNear_35 : decode b_Reader_turnNear 35 = .ok (.aload_n 0, 1) := by decide +kernel
theorem d_Reader_turnNear_36 : decode b_Reader_turnNear 36 = .ok (.getfield 46, 3) := by decide +kernel
theorem d_Reader_turnNear_39 : decode b_Reader_turnNear 39 = .ok (.invokevirtual 165, 3) := by decide +kernel
theorem d_Reader_turnNear_42 : decode b_Reader_turnNear 42 = .ok (.invokevirtual 168, 3) := by decide +kernel
theorem d_Reader_turnNear_45 : decode b_Reader_turnNear 45 = .ok (.aload_n 0, 1) := by decide +kernel
theorem d_Reader_turnNear_46 : decode b_Reader_turnNear 46 = .ok (.getfield 46, 3) := by decide +kernel
theorem d_Reader_turnNear_49 : decode b_Reader_turnNear 49 = .ok (.iload_n 1, 1) := by decide +kernel
theorem d_Reader_turnNear_50 : decode b_Reader_turnNear 50 = .ok (.invokevirtual 173, 3) := by decide +kernel
theorem d_Reader_turnNear_53 : decode b_Reader_turnNear 53 = .ok (.iconst 1, 1) := by decide +kernel
theorem d_Reader_turnNear_54 : decode b_Reader_turnNear 54 = .ok (.ireturn, 1) := by decide +kernel
theorem d_Reader_readStep_0 : decode b_Reader_readStep 0 = .ok (.aload_n 0, 1) := by decide +kernel
theorem d_Reader_readStep_1 : decode b_Reader_readStep 1 = .ok (.invokevirtual 134, 3) := by decide +kernel
theorem d_Reader_readStep_4 : decode b_Reader_readStep 4 = .ok (.istore_n 1, 1) := by decide +kernel
theorem d_Reader_readStep_5 : decode b_Reader_readStep 5 = .ok (.iload_n 1, 1) := by decide +kernel
theorem d_Reader_readStep_6 : decode b_Reader_readStep 6 = .ok (.bipush 12, 2) := by decide +kernel
theorem d_Reader_readStep_8 : decode b_Reader_readStep 8 = .ok (.if_icmp .ne 5, 3) := by decide +kernel
theorem d_Reader_readStep_11 : decode b_Reader_readStep 11 = .ok (.iconst 0, 1) := by decide +kernel
theorem d_Reader_readStep_12 : decode b_Reader_readStep 12 = .ok (.ireturn, 1) := by decide +kernel
theorem d_Reader_readStep_13 : decode b_Reader_readStep 13 = .ok (.iload_n 1, 1) := by decide +kernel
theorem d_Reader_readStep_14 : decode b_Reader_readStep 14 = .ok (.bipush 11, 2) := by decide +kernel
theorem d_Reader_readStep_16 : decode b_Reader_readStep 16 = .ok (.if_icmp .ne 8, 3) := by decide +kernel
theorem d_Reader_readStep_19 : decode b_Reader_readStep 19 = .ok (.aload_n 0, 1) := by decide +kernel
theorem d_Reader_readStep_20 : decode b_Reader_readStep 20 = .ok (.invokevirtual 137, 3) := by decide +kernel
theorem d_Reader_readStep_23 : decode b_Reader_readStep 23 = .ok (.ireturn, 1) := by decide +kernel
theorem d_Reader_readStep_24 : decode b_Reader_readStep 24 = .ok (.aload_n 0, 1) := by decide +kernel
theorem d_Reader_readStep_25 : decode b_Reader_readStep 25 = .ok (.getfield 46, 3) := by decide +kernel
theorem d_Reader_readStep_28 : decode b_Reader_readStep 28 = .ok (.invokevirtual 140, 3) := by decide +kernel
theorem d_Reader_readStep_31 : decode b_Reader_readStep 31 = .ok (.istore_n 2, 1) := by decide +kernel
theorem d_Reader_readStep_32 : decode b_Reader_readStep 32 = .ok (.iload_n 1, 1) := by decide +kernel
theorem d_Reader_readStep_33 : decode b_Reader_readStep 33 = .ok (.bipush 10, 2) := by decide +kernel
theorem d_Reader_readStep_35 : decode b_Reader_readStep 35 = .ok (.if_icmp .ne 18, 3) := by decide +kernel
theorem d_Reader_readStep_38 : decode b_Reader_readStep 38 = .ok (.aload_n 0, 1) := by decide +kernel
theorem d_Reader_readStep_39 : decode b_Reader_readStep 39 = .ok (.aload_n 0, 1) := by decide +kernel
theorem d_Reader_readStep_40 : decode b_Reader_readStep 40 = .ok (.getfield 46, 3) := by decide +kernel
theorem d_Reader_readStep_43 : decode b_Reader_readStep 43 = .ok (.iload_n 2, 1) := by decide +kernel
theorem d_Reader_readStep_44 : decode b_Reader_readStep 44 = .ok (.invokevirtual 143, 3) := by decide +kernel
theorem d_Reader_readStep_47 : decode b_Reader_readStep 47 = .ok (.invokevirtual 146, 3) := by decide +kernel
theorem d_Reader_readStep_50 : decode b_Reader_readStep 50 = .ok (.goto 10, 3) := by decide +kernel
theorem d_Reader_readStep_53 : decode b_Reader_readStep 53 = .ok (.aload_n 0, 1) := by decide +kernel
theorem d_Reader_readStep_54 : decode b_Reader_readStep 54 = .ok (.iload_n 2, 1) := by decide +kernel
theorem d_Reader_readStep_55 : decode b_Reader_readStep 55 = .ok (.iload_n 1, 1) := by decide +kernel
theorem d_Reader_readStep_56 : decode b_Reader_readStep 56 = .ok (.iadd, 1) := by decide +kernel
theorem d_Reader_readStep_57 : decode b_Reader_readStep 57 = .ok (.invokevirtual 150, 3) := by decide +kernel
theorem d_Reader_readStep_60 : decode b_Reader_readStep 60 = .ok (.ireturn, 1) := by decide +kernel
theorem d_Reader_readByFax_0 : decode b_Reader_readByFax 0 = .ok (.aload_n 0, 1) := by decide +kernel
theorem d_Reader_readByFax_1 : decode b_Reader_readByFax 1 = .ok (.getfield 46, 3) := by decide +kernel
theorem d_Reader_readByFax_4 : decode b_Reader_readByFax 4 = .ok (.aload_n 0, 1) := by decide +kernel
theorem d_Reader_readByFax_5 : decode b_Reader_readByFax 5 = .ok (.getfield 38, 3) := by decide +kernel
theorem d_Reader_readByFax_8 : decode b_Reader_readByFax 8 = .ok (.aload_n 0, 1) := by decide +kernel
theorem d_Reader_readByFax_9 : decode b_Reader_readByFax 9 = .ok (.getfield 56, 3) := by decide +kernel
theorem d_Reader_readByFax_12 : decode b_Reader_readByFax 12 = .ok (.iconst 1, 1) := by decide +kernel
theorem d_Reader_readByFax_13 : decode b_Reader_readByFax 13 = .ok (.isub, 1) := by decide +kernel
theorem d_Reader_readByFax_14 : decode b_Reader_readByFax 14 = .ok (.invokevirtual 118, 3) := by decide +kernel
theorem d_Reader_readByFax_17 : decode b_Reader_readByFax 17 = .ok (.invokevirtual 125, 3) := by decide +kernel
theorem d_Reader_readByFax_20 : decode b_Reader_readByFax 20 = .ok (.iconst 1, 1) := by decide +kernel
theorem d_Reader_readByFax_21 : decode b_Reader_readByFax 21 = .ok (.istore_n 1, 1) := by decide +kernel
theorem d_Reader_readByFax_22 : decode b_Reader_readByFax 22 = .ok (.iconst 0, 1) := by decide +kernel
theorem d_Reader_readByFax_23 : decode b_Reader_readByFax 23 = .ok (.istore_n 2, 1) := by decide +kernel
theorem d_Reader_readByFax_24 : decode b_Reader_readByFax 24 = .ok (.iload_n 2, 1) := by decide +kernel
theorem d_Reader_readByFax_25 : decode b_Reader_readByFax 25 = .ok (.aload_n 0, 1) := by decide +kernel
theorem d_Reader_readByFax_26 : decode b_Reader_readByFax 26 = .ok (.getfield 15, 3) := by decide +kernel
theorem d_Reader_readByFax_29 : decode b_Reader_readByFax 29 = .ok (.if_icmp .gt 28, 3) := by decide +kernel
theorem d_Reader_readByFax_32 : decode b_Reader_readByFax 32 = .ok (.iload_n 1, 1) := by decide +kernel
theorem d_Reader_readByFax_33 : decode b_Reader_readByFax 33 = .ok (.ifCond .eq 24, 3) := by decide +kernel
theorem d_Reader_readByFax_36 : decode b_Reader_readByFax 36 = .ok (.aload_n 0, 1) := by decide +kernel
theorem d_Reader_readByFax_37 : decode b_Reader_readByFax 37 = .ok (.getfield 46, 3) := by decide +kernel
theorem d_Reader_readByFax_40 : decode b_Reader_readByFax 40 = .ok (.invokevirtual 128, 3) := by decide +kernel
theorem d_Reader_readByFax_43 : decode b_Reader_readByFax 43 = .ok (.ifCond .ne 14, 3) := by decide +kernel
theorem d_Reader_readByFax_46 : decode b_Reader_readByFax 46 = .ok (.aload_n 0, 1) := by decide +kernel
theorem d_Reader_readByFax_47 : decode b_Reader_readByFax 47 = .ok (.invokevirtual 131, 3) := by decide +kernel
theorem d_Reader_readByFax_50 : decode b_Reader_readByFax 50 = .ok (.istore_n 1, 1) := by decide +kernel
theorem d_Reader_readByFax_51 : decode b_Reader_readByFax 51 = .ok (.iinc 2 1, 3) := by decide +kernel
