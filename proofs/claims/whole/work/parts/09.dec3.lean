theorem d_Teller_tellSamples_66 : decode b_Teller_tellSamples 66 = .ok (.goto (-64), 3) := by decide +kernel
theorem d_Teller_tellSamples_69 : decode b_Teller_tellSamples 69 = .ok (.return_, 1) := by decide +kernel
theorem d_Teller_tellBySamples_0 : decode b_Teller_tellBySamples 0 = .ok (.aload_n 0, 1) := by decide +kernel
theorem d_Teller_tellBySamples_1 : decode b_Teller_tellBySamples 1 = .ok (.getfield 22, 3) := by decide +kernel
theorem d_Teller_tellBySamples_4 : decode b_Teller_tellBySamples 4 = .ok (.invokevirtual 103, 3) := by decide +kernel
theorem d_Teller_tellBySamples_7 : decode b_Teller_tellBySamples 7 = .ok (.ifCond .eq 28, 3) := by decide +kernel
theorem d_Teller_tellBySamples_10 : decode b_Teller_tellBySamples 10 = .ok (.aload_n 0, 1) := by decide +kernel
theorem d_Teller_tellBySamples_11 : decode b_Teller_tellBySamples 11 = .ok (.getfield 42, 3) := by decide +kernel
theorem d_Teller_tellBySamples_14 : decode b_Teller_tellBySamples 14 = .ok (.iload_n 1, 1) := by decide +kernel
theorem d_Teller_tellBySamples_15 : decode b_Teller_tellBySamples 15 = .ok (.invokevirtual 69, 3) := by decide +kernel
theorem d_Teller_tellBySamples_18 : decode b_Teller_tellBySamples 18 = .ok (.aload_n 0, 1) := by decide +kernel
theorem d_Teller_tellBySamples_19 : decode b_Teller_tellBySamples 19 = .ok (.getfield 42, 3) := by decide +kernel
theorem d_Teller_tellBySamples_22 : decode b_Teller_tellBySamples 22 = .ok (.iload_n 1, 1) := by decide +kernel
theorem d_Teller_tellBySamples_23 : decode b_Teller_tellBySamples 23 = .ok (.iconst 1, 1) := by decide +kernel
theorem d_Teller_tellBySamples_24 : decode b_Teller_tellBySamples 24 = .ok (.isub, 1) := by decide +kernel
theorem d_Teller_tellBySamples_25 : decode b_Teller_tellBySamples 25 = .ok (.invokevirtual 69, 3) := by decide +kernel
theorem d_Teller_tellBySamples_28 : decode b_Teller_tellBySamples 28 = .ok (.if_icmp .ne 7, 3) := by decide +kernel
theorem d_Teller_tellBySamples_31 : decode b_Teller_tellBySamples 31 = .ok (.iconst 1, 1) := by decide +kernel
theorem d_Teller_tellBySamples_32 : decode b_Teller_tellBySamples 32 = .ok (.goto 4, 3) := by decide +kernel
theorem d_Teller_tellBySamples_35 : decode b_Teller_tellBySamples 35 = .ok (.iconst 0, 1) := by decide +kernel
theorem d_Teller_tellBySamples_36 : decode b_Teller_tellBySamples 36 = .ok (.istore_n 3, 1) := by decide +kernel
theorem d_Teller_tellBySamples_37 : decode b_Teller_tellBySamples 37 = .ok (.aload_n 0, 1) := by decide +kernel
theorem d_Teller_tellBySamples_38 : decode b_Teller_tellBySamples 38 = .ok (.getfield 22, 3) := by decide +kernel
theorem d_Teller_tellBySamples_41 : decode b_Teller_tellBySamples 41 = .ok (.invokevirtual 103, 3) := by decide +kernel
theorem d_Teller_tellBySamples_44 : decode b_Teller_tellBySamples 44 = .ok (.ifCond .eq 28, 3) := by decide +kernel
theorem d_Teller_tellBySamples_47 : decode b_Teller_tellBySamples 47 = .ok (.aload_n 0, 1) := by decide +kernel
theorem d_Teller_tellBySamples_48 : decode b_Teller_tellBySamples 48 = .ok (.getfield 26, 3) := by decide +kernel
theorem d_Teller_tellBySamples_51 : decode b_Teller_tellBySamples 51 = .ok (.iload_n 3, 1) := by decide +kernel
theorem d_Teller_tellBySamples_52 : decode b_Teller_tellBySamples 52 = .ok (.iload_n 2, 1) := by decide +kernel
theorem d_Teller_tellBySamples_53 : decode b_Teller_tellBySamples 53 = .ok (.if_icmp .eq 7, 3) := by decide +kernel
theorem d_Teller_tellBySamples_56 : decode b_Teller_tellBySamples 56 = .ok (.iconst 1, 1) := by decide +kernel
theorem d_Teller_tellBySamples_57 : decode b_Teller_tellBySamples 57 = .ok (.goto 4, 3) := by decide +kernel
theorem d_Teller_tellBySamples_60 : decode b_Teller_tellBySamples 60 = .ok (.iconst 0, 1) := by decide +kernel
theorem d_Teller_tellBySamples_61 : decode b_Teller_tellBySamples 61 = .ok (.aload_n 0, 1) := by decide +kernel
theorem d_Teller_tellBySamples_62 : decode b_Teller_tellBySamples 62 = .ok (.getfield 18, 3) := by decide +kernel
theorem d_Teller_tellBySamples_65 : decode b_Teller_tellBySamples 65 = .ok (.invokevirtual 106, 3) := by decide +kernel
theorem d_Teller_tellBySamples_68 : decode b_Teller_tellBySamples 68 = .ok (.iload_n 1, 1) := by decide +kernel
theorem d_Teller_tellBySamples_69 : decode b_Teller_tellBySamples 69 = .ok (.invokevirtual 92, 3) := by decide +kernel
theorem d_Teller_tellBySamples_72 : decode b_Teller_tellBySamples 72 = .ok (.iload_n 3, 1) := by decide +kernel
theorem d_Teller_tellBySamples_73 : decode b_Teller_tellBySamples 73 = .ok (.ifCond .eq 16, 3) := by decide +kernel
theorem d_Teller_tellBySamples_76 : decode b_Teller_tellBySamples 76 = .ok (.aload_n 0, 1) := by decide +kernel
theorem d_Teller_tellBySamples_77 : decode b_Teller_tellBySamples 77 = .ok (.dup, 1) := by decide +kernel
theorem d_Teller_tellBySamples_78 : decode b_Teller_tellBySamples 78 = .ok (.getfield 54, 3) := by decide +kernel
theorem d_Teller_tellBySamples_81 : decode b_Teller_tellBySamples 81 = .ok (.iconst 1, 1) := by decide +kernel
theorem d_Teller_tellBySamples_82 : decode b_Teller_tellBySamples 82 = .ok (.iadd, 1) := by decide +kernel
theorem d_Teller_tellBySamples_83 : decode b_Teller_tellBySamples 83 = .ok (.putfield 54, 3) := by decide +kernel
theorem d_Teller_tellBySamples_86 : decode b_Teller_tellBySamples 86 = .ok (.goto 8, 3) := by decide +kernel
theorem d_Teller_tellBySamples_89 : decode b_Teller_tellBySamples 89 = .ok (.aload_n 0, 1) := by decide +kernel
theorem d_Teller_tellBySamples_90 : decode b_Teller_tellBySamples 90 = .ok (.iload_n 1, 1) := by decide +kernel
theorem d_Teller_tellBySamples_91 : decode b_Teller_tellBySamples 91 = .ok (.invokevirtual 109, 3) := by decide +kernel
theorem d_Teller_tellBySamples_94 : decode b_Teller_tellBySamples 94 = .ok (.iload_n 3, 1) := by decide +kernel
theorem d_Teller_tellBySamples_95 : decode b_Teller_tellBySamples 95 = .ok (.ireturn, 1) := by decide +kernel
theorem d_Teller_tellAll_0 : decode b_Teller_tellAll 0 = .ok (.aload_n 0, 1) := by decide +kernel
theorem d_Teller_tellAll_1 : decode b_Teller_tellAll 1 = .ok (.invokevirtual 82, 3) := by decide +kernel
theorem d_Teller_tellAll_4 : decode b_Teller_tellAll 4 = .ok (.aload_n 0, 1) := by decide +kernel
theorem d_Teller_tellAll_5 : decode b_Teller_tellAll 5 = .ok (.invokevirtual 85, 3) := by decide +kernel
theorem d_Teller_tellAll_8 : decode b_Teller_tellAll 8 = .ok (.iconst 0, 1) := by decide +kernel
theorem d_Teller_tellAll_9 : decode b_Teller_tellAll 9 = .ok (.istore_n 1, 1) := by decide +kernel
theorem d_Teller_tellAll_10 : decode b_Teller_tellAll 10 = .ok (.iconst 0, 1) := by decide +kernel
theorem d_Teller_tellAll_11 : decode b_Teller_tellAll 11 = .ok (.istore_n 2, 1) := by decide +kernel
theorem d_Teller_tellAll_12 : decode b_Teller_tellAll 12 = .ok (.iload_n 2, 1) := by decide +kernel
theorem d_Teller_tellAll_13 : decode b_Teller_tellAll 13 = .ok (.aload_n 0, 1) := by decide +kernel
theorem d_Teller_tellAll_14 : decode b_Teller_tellAll 14 = .ok (.getfield 42, 3) := by decide +kernel
theorem d_Teller_tellAll_17 : decode b_Teller_tellAll 17 = .ok (.invokevirtual 36, 3) := by decide +kernel
theorem d_Teller_tellAll_20 : decode b_Teller_tellAll 20 = .ok (.if_icmp .ge 55, 3) := by decide +kernel
theorem d_Teller_tellAll_23 : decode b_Teller_tellAll 23 = .ok (.aload_n 0, 1) := by decide +kernel
theorem d_Teller_tellAll_24 : decode b_Teller_tellAll 24 = .ok (.getfield 22, 3) := by decide +kernel
theorem d_Teller_tellAll_27 : decode b_Teller_tellAll 27 = .ok (.invokevirtual 88, 3) := by decide +kernel
theorem d_Teller_tellAll_30 : decode b_Teller_tellAll 30 = .ok (.ifCond .eq 14, 3) := by decide +kernel
theorem d_Teller_tellAll_33 : decode b_Teller_tellAll 33 = .ok (.aload_n 0, 1) := by decide +kernel
theorem d_Teller_tellAll_34 : decode b_Teller_tellAll 34 = .ok (.getfield 26, 3) := by decide +kernel
theorem d_Teller_tellAll_37 : decode b_Teller_tellAll 37 = .ok (.iconst 0, 1) := by decide +kernel
theorem d_Teller_tellAll_38 : decode b_Teller_tellAll 38 = .ok (.ldc 91, 2) := by decide +kernel
theorem d_Teller_tellAll_40 : decode b_Teller_tellAll 40 = .ok (.iload_n 2, 1) := by decide +kernel
theorem d_Teller_tellAll_41 : decode b_Teller_tellAll 41 = .ok (.invokevirtual 92, 3) := by decide +kernel
theorem d_Teller_tellAll_44 : decode b_Teller_tellAll 44 = .ok (.aload_n 0, 1) := by decide +kernel
theorem d_Teller_tellAll_45 : decode b_Teller_tellAll 45 = .ok (.getfield 22, 3) := by decide +kernel
theorem d_Teller_tellAll_48 : decode b_Teller_tellAll 48 = .ok (.invokevirtual 63, 3) := by decide +kernel
theorem d_Teller_tellAll_51 : decode b_Teller_tellAll 51 = .ok (.ifCond .eq 11, 3) := by decide +kernel
theorem d_Teller_tellAll_54 : decode b_Teller_tellAll 54 = .ok (.aload_n 0, 1) := by decide +kernel
theorem d_Teller_tellAll_55 : decode b_Teller_tellAll 55 = .ok (.iload_n 2, 1) := by decide +kernel
theorem d_Teller_tellAll_56 : decode b_Teller_tellAll 56 = .ok (.invokevirtual 96, 3) := by decide +kernel
theorem d_Teller_tellAll_59 : decode b_Teller_tellAll 59 = .ok (.goto 10, 3) := by decide +kernel
theorem d_Teller_tellAll_62 : decode b_Teller_tellAll 62 = .ok (.aload_n 0, 1) := by decide +kernel
theorem d_Teller_tellAll_63 : decode b_Teller_tellAll 63 = .ok (.iload_n 2, 1) := by decide +kernel
theorem d_Teller_tellAll_64 : decode b_Teller_tellAll 64 = .ok (.iload_n 1, 1) := by decide +kernel
theorem d_Teller_tellAll_65 : decode b_Teller_tellAll 65 = .ok (.invokevirtual 99, 3) := by decide +kernel
theorem d_Teller_tellAll_68 : decode b_Teller_tellAll 68 = .ok (.istore_n 1, 1) := by decide +kernel
theorem d_Teller_tellAll_69 : decode b_Teller_tellAll 69 = .ok (.iinc 2 1, 3) := by decide +kernel
theorem d_Teller_tellAll_72 : decode b_Teller_tellAll 72 = .ok (.goto (-60), 3) := by decide +kernel
theorem d_Teller_tellAll_75 : decode b_Teller_tellAll 75 = .ok (.aload_n 0, 1) := by decide +kernel
theorem d_Teller_tellAll_76 : decode b_Teller_tellAll 76 = .ok (.getfield 22, 3) := by decide +kernel
theorem d_Teller_tellAll_79 : decode b_Teller_tellAll 79 = .ok (.invokevirtual 88, 3) := by decide +kernel
theorem d_Teller_tellAll_82 : decode b_Teller_tellAll 82 = .ok (.ifCond .eq 20, 3) := by decide +kernel
theorem d_Teller_tellAll_85 : decode b_Teller_tellAll 85 = .ok (.aload_n 0, 1) := by decide +kernel
theorem d_Teller_tellAll_86 : decode b_Teller_tellAll 86 = .ok (.getfield 26, 3) := by decide +kernel
theorem d_Teller_tellAll_89 : decode b_Teller_tellAll 89 = .ok (.iconst 1, 1) := by decide +kernel
theorem d_Teller_tellAll_90 : decode b_Teller_tellAll 90 = .ok (.ldc 91, 2) := by decide +kernel
theorem d_Teller_tellAll_92 : decode b_Teller_tellAll 92 = .ok (.aload_n 0, 1) := by decide +kernel
theorem d_Teller_tellAll_93 : decode b_Teller_tellAll 93 = .ok (.getfield 42, 3) := by decide +kernel
theorem d_Teller_tellAll_96 : decode b_Teller_tellAll 96 = .ok (.invokevirtual 36, 3) := by decide +kernel
theorem d_Teller_tellAll_99 : decode b_Teller_tellAll 99 = .ok (.invokevirtual 92, 3) := by decide +kernel
theorem d_Teller_tellAll_102 : decode b_Teller_tellAll 102 = .ok (.return_, 1) := by decide +kernel
theorem d_Ways_init_0 : decode b_Ways_init 0 = .ok (.aload_n 0, 1) := by decide +kernel
theorem d_Ways_init_1 : decode b_Ways_init 1 = .ok (.invokespecial 1, 3) := by decide +kernel
theorem d_Ways_init_4 : decode b_Ways_init 4 = .ok (.return_, 1) := by decide +kernel
theorem d_Ways_change_0 : decode b_Ways_change 0 = .ok (.iload_n 1, 1) := by decide +kernel
theorem d_Ways_change_1 : decode b_Ways_change 1 = .ok (.ifCond .ne 16, 3) := by decide +kernel
theorem d_Ways_change_4 : decode b_Ways_change 4 = .ok (.aload_n 0, 1) := by decide +kernel
theorem d_Ways_change_5 : decode b_Ways_change 5 = .ok (.getfield 7, 3) := by decide +kernel
theorem d_Ways_change_8 : decode b_Ways_change 8 = .ok (.istore_n 3, 1) := by decide +kernel
theorem d_Ways_change_9 : decode b_Ways_change 9 = .ok (.aload_n 0, 1) := by decide +kernel
theorem d_Ways_change_10 : decode b_Ways_change 10 = .ok (.iload_n 2, 1) := by decide +kernel
theorem d_Ways_change_11 : decode b_Ways_change 11 = .ok (.putfield 7, 3) := by decide +kernel
theorem d_Ways_change_14 : decode b_Ways_change 14 = .ok (.goto 31, 3) := by decide +kernel
theorem d_Ways_change_17 : decode b_Ways_change 17 = .ok (.iload_n 1, 1) := by decide +kernel
theorem d_Ways_change_18 : decode b_Ways_change 18 = .ok (.iconst 1, 1) := by decide +kernel
theorem d_Ways_change_19 : decode b_Ways_change 19 = .ok (.if_icmp .ne 16, 3) := by decide +kernel
theorem d_Ways_change_22 : decode b_Ways_change 22 = .ok (.aload_n 0, 1) := by decide +kernel
theorem d_Ways_change_23 : decode b_Ways_change 23 = .ok (.getfield 13, 3) := by decide +kernel
theorem d_Ways_change_26 : decode b_Ways_change 26 = .ok (.istore_n 3, 1) := by decide +kernel
theorem d_Ways_change_27 : decode b_Ways_change 27 = .ok (.aload_n 0, 1) := by decide +kernel
theorem d_Ways_change_28 : decode b_Ways_change 28 = .ok (.iload_n 2, 1) := by decide +kernel
theorem d_Ways_change_29 : decode b_Ways_change 29 = .ok (.putfield 13, 3) := by decide +kernel
theorem d_Ways_change_32 : decode b_Ways_change 32 = .ok (.goto 13, 3) := by decide +kernel
theorem d_Ways_change_35 : decode b_Ways_change 35 = .ok (.aload_n 0, 1) := by decide +kernel
theorem d_Ways_change_36 : decode b_Ways_change 36 = .ok (.getfield 16, 3) := by decide +kernel
theorem d_Ways_change_39 : decode b_Ways_change 39 = .ok (.istore_n 3, 1) := by decide +kernel
theorem d_Ways_change_40 : decode b_Ways_change 40 = .ok (.aload_n 0, 1) := by decide +kernel
theorem d_Ways_change_41 : decode b_Ways_change 41 = .ok (.iload_n 2, 1) := by decide +kernel
theorem d_Ways_change_42 : decode b_Ways_change 42 = .ok (.putfield 16, 3) := by decide +kernel
theorem d_Ways_change_45 : decode b_Ways_change 45 = .ok (.iload_n 3, 1) := by decide +kernel
theorem d_Ways_change_46 : decode b_Ways_change 46 = .ok (.iload_n 2, 1) := by decide +kernel
theorem d_Ways_change_47 : decode b_Ways_change 47 = .ok (.if_icmp .eq 7, 3) := by decide +kernel
theorem d_Ways_change_50 : decode b_Ways_change 50 = .ok (.iconst 1, 1) := by decide +kernel
theorem d_Ways_change_51 : decode b_Ways_change 51 = .ok (.goto 4, 3) := by decide +kernel
theorem d_Ways_change_54 : decode b_Ways_change 54 = .ok (.iconst 0, 1) := by decide +kernel
theorem d_Ways_change_55 : decode b_Ways_change 55 = .ok (.ireturn, 1) := by decide +kernel
theorem d_Ways_reset_0 : decode b_Ways_reset 0 = .ok (.aload_n 0, 1) := by decide +kernel
theorem d_Ways_reset_1 : decode b_Ways_reset 1 = .ok (.iconst 0, 1) := by decide +kernel
theorem d_Ways_reset_2 : decode b_Ways_reset 2 = .ok (.putfield 7, 3) := by decide +kernel
theorem d_Ways_reset_5 : decode b_Ways_reset 5 = .ok (.aload_n 0, 1) := by decide +kernel
theorem d_Ways_reset_6 : decode b_Ways_reset 6 = .ok (.iconst 0, 1) := by decide +kernel
theorem d_Ways_reset_7 : decode b_Ways_reset 7 = .ok (.putfield 13, 3) := by decide +kernel
theorem d_Ways_reset_10 : decode b_Ways_reset 10 = .ok (.aload_n 0, 1) := by decide +kernel
theorem d_Ways_reset_11 : decode b_Ways_reset 11 = .ok (.iconst 0, 1) := by decide +kernel
theorem d_Ways_reset_12 : decode b_Ways_reset 12 = .ok (.putfield 16, 3) := by decide +kernel
theorem d_Ways_reset_15 : decode b_Ways_reset 15 = .ok (.return_, 1) := by decide +kernel
theorem d_GR_nearest_0 : decode b_GR_nearest 0 = .ok (.iload_n 1, 1) := by decide +kernel
theorem d_GR_nearest_1 : decode b_GR_nearest 1 = .ok (.iload_n 2, 1) := by decide +kernel
theorem d_GR_nearest_2 : decode b_GR_nearest 2 = .ok (.iload_n 0, 1) := by decide +kernel
theorem d_GR_nearest_3 : decode b_GR_nearest 3 = .ok (.invokestatic 186, 3) := by decide +kernel
theorem d_GR_nearest_6 : decode b_GR_nearest 6 = .ok (.invokestatic 221, 3) := by decide +kernel
theorem d_GR_nearest_9 : decode b_GR_nearest 9 = .ok (.ireturn, 1) := by decide +kernel
theorem d_GR_mostTold_0 : decode b_GR_mostTold 0 = .ok (.iload_n 1, 1) := by decide +kernel
theorem d_GR_mostTold_1 : decode b_GR_mostTold 1 = .ok (.bipush 7, 2) := by decide +kernel
theorem d_GR_mostTold_3 : decode b_GR_mostTold 3 = .ok (.iload_n 0, 1) := by decide +kernel
theorem d_GR_mostTold_4 : decode b_GR_mostTold 4 = .ok (.iconst 1, 1) := by decide +kernel
theorem d_GR_mostTold_5 : decode b_GR_mostTold 5 = .ok (.iadd, 1) := by decide +kernel
theorem d_GR_mostTold_6 : decode b_GR_mostTold 6 = .ok (.imul, 1) := by decide +kernel
theorem d_GR_mostTold_7 : decode b_GR_mostTold 7 = .ok (.iconst 2, 1) := by decide +kernel
theorem d_GR_mostTold_8 : decode b_GR_mostTold 8 = .ok (.iadd, 1) := by decide +kernel
theorem d_GR_mostTold_9 : decode b_GR_mostTold 9 = .ok (.imul, 1) := by decide +kernel
theorem d_GR_mostTold_10 : decode b_GR_mostTold 10 = .ok (.iconst 1, 1) := by decide +kernel
theorem d_GR_mostTold_11 : decode b_GR_mostTold 11 = .ok (.iadd, 1) := by decide +kernel
theorem d_GR_mostTold_12 : decode b_GR_mostTold 12 = .ok (.ireturn, 1) := by decide +kernel
theorem d_JInt_bitCount_0 : decode b_JInt_bitCount 0 = .ok (.iload_n 0, 1) := by decide +kernel
theorem d_JInt_bitCount_1 : decode b_JInt_bitCount 1 = .ok (.iload_n 0, 1) := by decide +kernel
theorem d_JInt_bitCount_2 : decode b_JInt_bitCount 2 = .ok (.iconst 1, 1) := by decide +kernel
theorem d_JInt_bitCount_3 : decode b_JInt_bitCount 3 = .ok (.iushr, 1) := by decide +kernel
theorem d_JInt_bitCount_4 : decode b_JInt_bitCount 4 = .ok (.ldc_w 265, 3) := by decide +kernel
theorem d_JInt_bitCount_7 : decode b_JInt_bitCount 7 = .ok (.iand, 1) := by decide +kernel
theorem d_JInt_bitCount_8 : decode b_JInt_bitCount 8 = .ok (.isub, 1) := by decide +kernel
theorem d_JInt_bitCount_9 : decode b_JInt_bitCount 9 = .ok (.istore_n 0, 1) := by decide +kernel
theorem d_JInt_bitCount_10 : decode b_JInt_bitCount 10 = .ok (.iload_n 0, 1) := by decide +kernel
theorem d_JInt_bitCount_11 : decode b_JInt_bitCount 11 = .ok (.ldc_w 266, 3) := by decide +kernel
theorem d_JInt_bitCount_14 : decode b_JInt_bitCount 14 = .ok (.iand, 1) := by decide +kernel
theorem d_JInt_bitCount_15 : decode b_JInt_bitCount 15 = .ok (.iload_n 0, 1) := by decide +kernel
theorem d_JInt_bitCount_16 : decode b_JInt_bitCount 16 = .ok (.iconst 2, 1) := by decide +kernel
theorem d_JInt_bitCount_17 : decode b_JInt_bitCount 17 = .ok (.iushr, 1) := by decide +kernel
theorem d_JInt_bitCount_18 : decode b_JInt_bitCount 18 = .ok (.ldc_w 266, 3) := by decide +kernel
theorem d_JInt_bitCount_21 : decode b_JInt_bitCount 21 = .ok (.iand, 1) := by decide +kernel
theorem d_JInt_bitCount_22 : decode b_JInt_bitCount 22 = .ok (.iadd, 1) := by decide +kernel
theorem d_JInt_bitCount_23 : decode b_JInt_bitCount 23 = .ok (.istore_n 0, 1) := by decide +kernel
theorem d_JInt_bitCount_24 : decode b_JInt_bitCount 24 = .ok (.iload_n 0, 1) := by decide +kernel
theorem d_JInt_bitCount_25 : decode b_JInt_bitCount 25 = .ok (.iload_n 0, 1) := by decide +kernel
theorem d_JInt_bitCount_26 : decode b_JInt_bitCount 26 = .ok (.iconst 4, 1) := by decide +kernel
theorem d_JInt_bitCount_27 : decode b_JInt_bitCount 27 = .ok (.iushr, 1) := by decide +kernel
theorem d_JInt_bitCount_28 : decode b_JInt_bitCount 28 = .ok (.iadd, 1) := by decide +kernel
theorem d_JInt_bitCount_29 : decode b_JInt_bitCount 29 = .ok (.ldc_w 267, 3) := by decide +kernel
theorem d_JInt_bitCount_32 : decode b_JInt_bitCount 32 = .ok (.iand, 1) := by decide +kernel
theorem d_JInt_bitCount_33 : decode b_JInt_bitCount 33 = .ok (.istore_n 0, 1) := by decide +kernel
theorem d_JInt_bitCount_34 : decode b_JInt_bitCount 34 = .ok (.iload_n 0, 1) := by decide +kernel
theorem d_JInt_bitCount_35 : decode b_JInt_bitCount 35 = .ok (.iload_n 0, 1) := by decide +kernel
theorem d_JInt_bitCount_36 : decode b_JInt_bitCount 36 = .ok (.bipush 8, 2) := by decide +kernel
theorem d_JInt_bitCount_38 : decode b_JInt_bitCount 38 = .ok (.iushr, 1) := by decide +kernel
theorem d_JInt_bitCount_39 : decode b_JInt_bitCount 39 = .ok (.iadd, 1) := by decide +kernel
theorem d_JInt_bitCount_40 : decode b_JInt_bitCount 40 = .ok (.istore_n 0, 1) := by decide +kernel
theorem d_JInt_bitCount_41 : decode b_JInt_bitCount 41 = .ok (.iload_n 0, 1) := by decide +kernel
theorem d_JInt_bitCount_42 : decode b_JInt_bitCount 42 = .ok (.iload_n 0, 1) := by decide +kernel
theorem d_JInt_bitCount_43 : decode b_JInt_bitCount 43 = .ok (.bipush 16, 2) := by decide +kernel
theorem d_JInt_bitCount_45 : decode b_JInt_bitCount 45 = .ok (.iushr, 1) := by decide +kernel
theorem d_JInt_bitCount_46 : decode b_JInt_bitCount 46 = .ok (.iadd, 1) := by decide +kernel
theorem d_JInt_bitCount_47 : decode b_JInt_bitCount 47 = .ok (.istore_n 0, 1) := by decide +kernel
theorem d_JInt_bitCount_48 : decode b_JInt_bitCount 48 = .ok (.iload_n 0, 1) := by decide +kernel
theorem d_JInt_bitCount_49 : decode b_JInt_bitCount 49 = .ok (.bipush 63, 2) := by decide +kernel
theorem d_JInt_bitCount_51 : decode b_JInt_bitCount 51 = .ok (.iand, 1) := by decide +kernel
theorem d_JInt_bitCount_52 : decode b_JInt_bitCount 52 = .ok (.ireturn, 1) := by decide +kernel
theorem d_GR_mayBeAt_0 : decode b_GR_mayBeAt 0 = .ok (.iload_n 1, 1) := by decide +kernel
theorem d_GR_mayBeAt_1 : decode b_GR_mayBeAt 1 = .ok (.ifCond .ne 7, 3) := by decide +kernel
theorem d_GR_mayBeAt_4 : decode b_GR_mayBeAt 4 = .ok (.iconst (-1), 1) := by decide +kernel
theorem d_GR_mayBeAt_5 : decode b_GR_mayBeAt 5 = .ok (.goto 5, 3) := by decide +kernel
theorem d_GR_mayBeAt_8 : decode b_GR_mayBeAt 8 = .ok (.bipush 8, 2) := by decide +kernel
theorem d_GR_mayBeAt_10 : decode b_GR_mayBeAt 10 = .ok (.istore_n 2, 1) := by decide +kernel
theorem d_GR_mayBeAt_11 : decode b_GR_mayBeAt 11 = .ok (.iload_n 1, 1) := by decide +kernel
theorem d_GR_mayBeAt_12 : decode b_GR_mayBeAt 12 = .ok (.bipush (-8), 2) := by decide +kernel
theorem d_GR_mayBeAt_14 : decode b_GR_mayBeAt 14 = .ok (.if_icmp .lt 22, 3) := by decide +kernel
theorem d_GR_mayBeAt_17 : decode b_GR_mayBeAt 17 = .ok (.iload_n 1, 1) := by decide +kernel
theorem d_GR_mayBeAt_18 : decode b_GR_mayBeAt 18 = .ok (.ifCond .gt 18, 3) := by decide +kernel
theorem d_GR_mayBeAt_21 : decode b_GR_mayBeAt 21 = .ok (.iload_n 0, 1) := by decide +kernel
theorem d_GR_mayBeAt_22 : decode b_GR_mayBeAt 22 = .ok (.bipush (-8), 2) := by decide +kernel
theorem d_GR_mayBeAt_24 : decode b_GR_mayBeAt 24 = .ok (.if_icmp .lt 12, 3) := by decide +kernel
theorem d_GR_mayBeAt_27 : decode b_GR_mayBeAt 27 = .ok (.iload_n 0, 1) := by decide +kernel
theorem d_GR_mayBeAt_28 : decode b_GR_mayBeAt 28 = .ok (.iload_n 2, 1) := by decide +kernel
theorem d_GR_mayBeAt_29 : decode b_GR_mayBeAt 29 = .ok (.if_icmp .gt 7, 3) := by decide +kernel
theorem d_GR_mayBeAt_32 : decode b_GR_mayBeAt 32 = .ok (.iconst 1, 1) := by decide +kernel
theorem d_GR_mayBeAt_33 : decode b_GR_mayBeAt 33 = .ok (.goto 4, 3) := by decide +kernel
theorem d_GR_mayBeAt_36 : decode b_GR_mayBeAt 36 = .ok (.iconst 0, 1) := by decide +kernel
theorem d_GR_mayBeAt_37 : decode b_GR_mayBeAt 37 = .ok (.ireturn, 1) := by decide +kernel
theorem d_GR_tell_0 : decode b_GR_tell 0 = .ok (.aload_n 0, 1) := by decide +kernel
theorem d_GR_tell_1 : decode b_GR_tell 1 = .ok (.iconst 0, 1) := by decide +kernel
theorem d_GR_tell_2 : decode b_GR_tell 2 = .ok (.putfield 150, 3) := by decide +kernel
theorem d_GR_tell_5 : decode b_GR_tell 5 = .ok (.aload_n 0, 1) := by decide +kernel
theorem d_GR_tell_6 : decode b_GR_tell 6 = .ok (.getfield 67, 3) := by decide +kernel
theorem d_GR_tell_9 : decode b_GR_tell 9 = .ok (.invokevirtual 153, 3) := by decide +kernel
theorem d_GR_tell_12 : decode b_GR_tell 12 = .ok (.aload_n 0, 1) := by decide +kernel
theorem d_GR_tell_13 : decode b_GR_tell 13 = .ok (.getfield 58, 3) := by decide +kernel
theorem d_GR_tell_16 : decode b_GR_tell 16 = .ok (.invokevirtual 156, 3) := by decide +kernel
theorem d_GR_tell_19 : decode b_GR_tell 19 = .ok (.ireturn, 1) := by decide +kernel
theorem d_GR_copies_0 : decode b_GR_copies 0 = .ok (.aload_n 0, 1) := by decide +kernel
theorem d_GR_copies_1 : decode b_GR_copies 1 = .ok (.getfield 67, 3) := by decide +kernel
theorem d_GR_copies_4 : decode b_GR_copies 4 = .ok (.invokevirtual 172, 3) := by decide +kernel
theorem d_GR_copies_7 : decode b_GR_copies 7 = .ok (.ireturn, 1) := by decide +kernel
theorem d_GR_read_0 : decode b_GR_read 0 = .ok (.aload_n 0, 1) := by decide +kernel
theorem d_GR_read_1 : decode b_GR_read 1 = .ok (.getfield 83, 3) := by decide +kernel
theorem d_GR_read_4 : decode b_GR_read 4 = .ok (.invokevirtual 191, 3) := by decide +kernel
theorem d_GR_read_7 : decode b_GR_read 7 = .ok (.ireturn, 1) := by decide +kernel
theorem d_GR_begin_0 : decode b_GR_begin 0 = .ok (.aload_n 0, 1) := by decide +kernel
theorem d_GR_begin_1 : decode b_GR_begin 1 = .ok (.getfield 74, 3) := by decide +kernel
theorem d_GR_begin_4 : decode b_GR_begin 4 = .ok (.invokevirtual 183, 3) := by decide +kernel
theorem d_GR_begin_7 : decode b_GR_begin 7 = .ok (.istore_n 1, 1) := by decide +kernel
theorem d_GR_begin_8 : decode b_GR_begin 8 = .ok (.aload_n 0, 1) := by decide +kernel
theorem d_GR_begin_9 : decode b_GR_begin 9 = .ok (.getfield 74, 3) := by decide +kernel
theorem d_GR_begin_12 : decode b_GR_begin 12 = .ok (.invokevirtual 197, 3) := by decide +kernel
theorem d_GR_begin_15 : decode b_GR_begin 15 = .ok (.aload_n 0, 1) := by decide +kernel
theorem d_GR_begin_16 : decode b_GR_begin 16 = .ok (.iconst 0, 1) := by decide +kernel
theorem d_GR_begin_17 : decode b_GR_begin 17 = .ok (.putfield 150, 3) := by decide +kernel
theorem d_GR_begin_20 : decode b_GR_begin 20 = .ok (.aload_n 0, 1) := by decide +kernel
theorem d_GR_begin_21 : decode b_GR_begin 21 = .ok (.getfield 83, 3) := by decide +kernel
theorem d_GR_begin_24 : decode b_GR_begin 24 = .ok (.invokevirtual 113, 3) := by decide +kernel
theorem d_GR_begin_27 : decode b_GR_begin 27 = .ok (.iload_n 1, 1) := by decide +kernel
theorem d_GR_begin_28 : decode b_GR_begin 28 = .ok (.ireturn, 1) := by decide +kernel
theorem d_GR_told_0 : decode b_GR_told 0 = .ok (.iload_n 1, 1) := by decide +kernel
theorem d_GR_told_1 : decode b_GR_told 1 = .ok (.tableswitch 122 0 8 #[51, 56, 61, 66, 74, 82, 90, 98, 106], 51) := by decide +kernel
theorem d_GR_told_52 : decode b_GR_told 52 = .ok (.aload_n 0, 1) := by decide +kernel
theorem d_GR_told_53 : decode b_GR_told 53 = .ok (.getfield 13, 3) := by decide +kernel
theorem d_GR_told_56 : decode b_GR_told 56 = .ok (.ireturn, 1) := by decide +kernel
theorem d_GR_told_57 : decode b_GR_told 57 = .ok (.aload_n 0, 1) := by decide +kernel
theorem d_GR_told_58 : decode b_GR_told 58 = .ok (.getfield 17, 3) := by decide +kernel
theorem d_GR_told_61 : decode b_GR_told 61 = .ok (.ireturn, 1) := by decide +kernel
theorem d_GR_told_62 : decode b_GR_told 62 = .ok (.aload_n 0, 1) := by decide +kernel
theorem d_GR_told_63 : decode b_GR_told 63 = .ok (.getfield 20, 3) := by decide +kernel
theorem d_GR_told_66 : decode b_GR_told 66 = .ok (.ireturn, 1) := by decide +kernel
theorem d_GR_told_67 : decode b_GR_told 67 = .ok (.aload_n 0, 1) := by decide +kernel
theorem d_GR_told_68 : decode b_GR_told 68 = .ok (.getfield 40, 3) := by decide +kernel
theorem d_GR_told_71 : decode b_GR_told 71 = .ok (.invokevirtual 116, 3) := by decide +kernel
theorem d_GR_told_74 : decode b_GR_told 74 = .ok (.ireturn, 1) := by decide +kernel
theorem d_GR_told_75 : decode b_GR_told 75 = .ok (.aload_n 0, 1) := by decide +kernel
theorem d_GR_told_76 : decode b_GR_told 76 = .ok (.getfield 58, 3) := by decide +kernel
theorem d_GR_told_79 : decode b_GR_told 79 = .ok (.invokevirtual 156, 3) := by decide +kernel
theorem d_GR_told_82 : decode b_GR_told 82 = .ok (.ireturn, 1) := by decide +kernel
theorem d_GR_told_83 : decode b_GR_told 83 = .ok (.aload_n 0, 1) := by decide +kernel
theorem d_GR_told_84 : decode b_GR_told 84 = .ok (.getfield 74, 3) := by decide +kernel
theorem d_GR_told_87 : decode b_GR_told 87 = .ok (.invokevirtual 183, 3) := by decide +kernel
theorem d_GR_told_90 : decode b_GR_told 90 = .ok (.ireturn, 1) := by decide +kernel
theorem d_GR_told_91 : decode b_GR_told 91 = .ok (.aload_n 0, 1) := by decide +kernel
theorem d_GR_told_92 : decode b_GR_told 92 = .ok (.getfield 83, 3) := by decide +kernel
theorem d_GR_told_95 : decode b_GR_told 95 = .ok (.invokevirtual 200, 3) := by decide +kernel
theorem d_GR_told_98 : decode b_GR_told 98 = .ok (.ireturn, 1) := by decide +kernel
theorem d_GR_told_99 : decode b_GR_told 99 = .ok (.aload_n 0, 1) := by decide +kernel
theorem d_GR_told_100 : decode b_GR_told 100 = .ok (.getfield 83, 3) := by decide +kernel
theorem d_GR_told_103 : decode b_GR_told 103 = .ok (.invokevirtual 203, 3) := by decide +kernel
theorem d_GR_told_106 : decode b_GR_told 106 = .ok (.ireturn, 1) := by decide +kernel
theorem d_GR_told_107 : decode b_GR_told 107 = .ok (.aload_n 0, 1) := by decide +kernel
theorem d_GR_told_108 : decode b_GR_told 108 = .ok (.getfield 83, 3) := by decide +kernel
theorem d_GR_told_111 : decode b_GR_told 111 = .ok (.invokevirtual 206, 3) := by decide +kernel
theorem d_GR_told_114 : decode b_GR_told 114 = .ok (.ifCond .eq 7, 3) := by decide +kernel
theorem d_GR_told_117 : decode b_GR_told 117 = .ok (.iconst 1, 1) := by decide +kernel
theorem d_GR_told_118 : decode b_GR_told 118 = .ok (.goto 4, 3) := by decide +kernel
theorem d_GR_told_121 : decode b_GR_told 121 = .ok (.iconst 0, 1) := by decide +kernel
theorem d_GR_told_122 : decode b_GR_told 122 = .ok (.ireturn, 1) := by decide +kernel
theorem d_GR_told_123 : decode b_GR_told 123 = .ok (.iconst (-1), 1) := by decide +kernel
theorem d_GR_told_124 : decode b_GR_told 124 = .ok (.ireturn, 1) := by decide +kernel
theorem d_GR_clear_0 : decode b_GR_clear 0 = .ok (.aload_n 0, 1) := by decide +kernel
theorem d_GR_clear_1 : decode b_GR_clear 1 = .ok (.getfield 28, 3) := by decide +kernel
theorem d_GR_clear_4 : decode b_GR_clear 4 = .ok (.invokevirtual 210, 3) := by decide +kernel
theorem d_GR_clear_7 : decode b_GR_clear 7 = .ok (.aload_n 0, 1) := by decide +kernel
theorem d_GR_clear_8 : decode b_GR_clear 8 = .ok (.getfield 32, 3) := by decide +kernel
theorem d_GR_clear_11 : decode b_GR_clear 11 = .ok (.invokevirtual 210, 3) := by decide +kernel
theorem d_GR_clear_14 : decode b_GR_clear 14 = .ok (.aload_n 0, 1) := by decide +kernel
theorem d_GR_clear_15 : decode b_GR_clear 15 = .ok (.getfield 40, 3) := by decide +kernel
theorem d_GR_clear_18 : decode b_GR_clear 18 = .ok (.invokevirtual 211, 3) := by decide +kernel
theorem d_GR_clear_21 : decode b_GR_clear 21 = .ok (.aload_n 0, 1) := by decide +kernel
theorem d_GR_clear_22 : decode b_GR_clear 22 = .ok (.getfield 47, 3) := by decide +kernel
theorem d_GR_clear_25 : decode b_GR_clear 25 = .ok (.invokevirtual 214, 3) := by decide +kernel
theorem d_GR_clear_28 : decode b_GR_clear 28 = .ok (.aload_n 0, 1) := by decide +kernel
theorem d_GR_clear_29 : decode b_GR_clear 29 = .ok (.getfield 67, 3) := by decide +kernel
theorem d_GR_clear_32 : decode b_GR_clear 32 = .ok (.invokevirtual 215, 3) := by decide +kernel
theorem d_GR_clear_35 : decode b_GR_clear 35 = .ok (.aload_n 0, 1) := by decide +kernel
theorem d_GR_clear_36 : decode b_GR_clear 36 = .ok (.invokevirtual 218, 3) := by decide +kernel
theorem d_GR_clear_39 : decode b_GR_clear 39 = .ok (.pop, 1) := by decide +kernel
theorem d_GR_clear_40 : decode b_GR_clear 40 = .ok (.return_, 1) := by decide +kernel
theorem d_Md_near_0 : decode b_Md_near 0 = .ok (.iload_n 0, 1) := by decide +kernel
theorem d_Md_near_1 : decode b_Md_near 1 = .ok (.iload_n 1, 1) := by decide +kernel
theorem d_Md_near_2 : decode b_Md_near 2 = .ok (.if_icmp .ge 7, 3) := by decide +kernel
theorem d_Md_near_5 : decode b_Md_near 5 = .ok (.iload_n 1, 1) := by decide +kernel
theorem d_Md_near_6 : decode b_Md_near 6 = .ok (.goto 13, 3) := by decide +kernel
theorem d_Md_near_9 : decode b_Md_near 9 = .ok (.iload_n 0, 1) := by decide +kernel
theorem d_Md_near_10 : decode b_Md_near 10 = .ok (.iload_n 2, 1) := by decide +kernel
theorem d_Md_near_11 : decode b_Md_near 11 = .ok (.if_icmp .le 7, 3) := by decide +kernel
theorem d_Md_near_14 : decode b_Md_near 14 = .ok (.iload_n 2, 1) := by decide +kernel
theorem d_Md_near_15 : decode b_Md_near 15 = .ok (.goto 4, 3) := by decide +kernel
theorem d_Md_near_18 : decode b_Md_near 18 = .ok (.iload_n 0, 1) := by decide +kernel
theorem d_Md_near_19 : decode b_Md_near 19 = .ok (.ireturn, 1) := by decide +kernel
theorem d_Md_layPlaces_0 : decode b_Md_layPlaces 0 = .ok (.aload_n 0, 1) := by decide +kernel
theorem d_Md_layPlaces_1 : decode b_Md_layPlaces 1 = .ok (.iload_n 2, 1) := by decide +kernel
theorem d_Md_layPlaces_2 : decode b_Md_layPlaces 2 = .ok (.putfield 114, 3) := by decide +kernel
theorem d_Md_layPlaces_5 : decode b_Md_layPlaces 5 = .ok (.iconst 0, 1) := by decide +kernel
theorem d_Md_layPlaces_6 : decode b_Md_layPlaces 6 = .ok (.istore_n 3, 1) := by decide +kernel
theorem d_Md_layPlaces_7 : decode b_Md_layPlaces 7 = .ok (.iload_n 3, 1) := by decide +kernel
theorem d_Md_layPlaces_8 : decode b_Md_layPlaces 8 = .ok (.iconst 2, 1) := by decide +kernel
theorem d_Md_layPlaces_9 : decode b_Md_layPlaces 9 = .ok (.iload_n 2, 1) := by decide +kernel
theorem d_Md_layPlaces_10 : decode b_Md_layPlaces 10 = .ok (.imul, 1) := by decide +kernel
theorem d_Md_layPlaces_11 : decode b_Md_layPlaces 11 = .ok (.if_icmp .ge 18, 3) := by decide +kernel
theorem d_Md_layPlaces_14 : decode b_Md_layPlaces 14 = .ok (.aload_n 0, 1) := by decide +kernel
theorem d_Md_layPlaces_15 : decode b_Md_layPlaces 15 = .ok (.getfield 25, 3) := by decide +kernel
theorem d_Md_layPlaces_18 : decode b_Md_layPlaces 18 = .ok (.iload_n 3, 1) := by decide +kernel
theorem d_Md_layPlaces_19 : decode b_Md_layPlaces 19 = .ok (.aload_n 1, 1) := by decide +kernel
theorem d_Md_layPlaces_20 : decode b_Md_layPlaces 20 = .ok (.iload_n 3, 1) := by decide +kernel
theorem d_Md_layPlaces_21 : decode b_Md_layPlaces 21 = .ok (.iaload, 1) := by decide +kernel
theorem d_Md_layPlaces_22 : decode b_Md_layPlaces 22 = .ok (.iastore, 1) := by decide +kernel
theorem d_Md_layPlaces_23 : decode b_Md_layPlaces 23 = .ok (.iinc 3 1, 3) := by decide +kernel
theorem d_Md_layPlaces_26 : decode b_Md_layPlaces 26 = .ok (.goto (-19), 3) := by decide +kernel
theorem d_Md_layPlaces_29 : decode b_Md_layPlaces 29 = .ok (.return_, 1) := by decide +kernel
theorem d_Md_again_0 : decode b_Md_again 0 = .ok (.iconst 0, 1) := by decide +kernel
theorem d_Md_again_1 : decode b_Md_again 1 = .ok (.istore_n 1, 1) := by decide +kernel
theorem d_Md_again_2 : decode b_Md_again 2 = .ok (.iload_n 1, 1) := by decide +kernel
theorem d_Md_again_3 : decode b_Md_again 3 = .ok (.sipush 576, 3) := by decide +kernel
theorem d_Md_again_6 : decode b_Md_again 6 = .ok (.if_icmp .ge 16, 3) := by decide +kernel
theorem d_Md_again_9 : decode b_Md_again 9 = .ok (.aload_n 0, 1) := by decide +kernel
theorem d_Md_again_10 : decode b_Md_again 10 = .ok (.getfield 50, 3) := by decide +kernel
theorem d_Md_again_13 : decode b_Md_again 13 = .ok (.iload_n 1, 1) := by decide +kernel
theorem d_Md_again_14 : decode b_Md_again 14 = .ok (.iconst 0, 1) := by decide +kernel
theorem d_Md_again_15 : decode b_Md_again 15 = .ok (.bastore, 1) := by decide +kernel
theorem d_Md_again_16 : decode b_Md_again 16 = .ok (.iinc 1 1, 3) := by decide +kernel
theorem d_Md_again_19 : decode b_Md_again 19 = .ok (.goto (-17), 3) := by decide +kernel
theorem d_Md_again_22 : decode b_Md_again 22 = .ok (.aload_n 0, 1) := by decide +kernel
theorem d_Md_again_23 : decode b_Md_again 23 = .ok (.iconst 0, 1) := by decide +kernel
theorem d_Md_again_24 : decode b_Md_again 24 = .ok (.putfield 77, 3) := by decide +kernel
theorem d_Md_again_27 : decode b_Md_again 27 = .ok (.aload_n 0, 1) := by decide +kernel
theorem d_Md_again_28 : decode b_Md_again 28 = .ok (.iconst 0, 1) := by decide +kernel
theorem d_Md_again_29 : decode b_Md_again 29 = .ok (.putfield 80, 3) := by decide +kernel
theorem d_Md_again_32 : decode b_Md_again 32 = .ok (.aload_n 0, 1) := by decide +kernel
theorem d_Md_again_33 : decode b_Md_again 33 = .ok (.iconst 0, 1) := by decide +kernel
theorem d_Md_again_34 : decode b_Md_again 34 = .ok (.putfield 83, 3) := by decide +kernel
theorem d_Md_again_37 : decode b_Md_again 37 = .ok (.aload_n 0, 1) := by decide +kernel
theorem d_Md_again_38 : decode b_Md_again 38 = .ok (.iconst (-1), 1) := by decide +kernel
theorem d_Md_again_39 : decode b_Md_again 39 = .ok (.putfield 87, 3) := by decide +kernel
theorem d_Md_again_42 : decode b_Md_again 42 = .ok (.return_, 1) := by decide +kernel
theorem d_Md_begin_0 : decode b_Md_begin 0 = .ok (.aload_n 0, 1) := by decide +kernel
theorem d_Md_begin_1 : decode b_Md_begin 1 = .ok (.iconst 0, 1) := by decide +kernel
theorem d_Md_begin_2 : decode b_Md_begin 2 = .ok (.putfield 70, 3) := by decide +kernel
theorem d_Md_begin_5 : decode b_Md_begin 5 = .ok (.aload_n 0, 1) := by decide +kernel
theorem d_Md_begin_6 : decode b_Md_begin 6 = .ok (.getfield 178, 3) := by decide +kernel
theorem d_Md_begin_9 : decode b_Md_begin 9 = .ok (.istore_n 1, 1) := by decide +kernel
theorem d_Md_begin_10 : decode b_Md_begin 10 = .ok (.aload_n 0, 1) := by decide +kernel
theorem d_Md_begin_11 : decode b_Md_begin 11 = .ok (.iconst 0, 1) := by decide +kernel
theorem d_Md_begin_12 : decode b_Md_begin 12 = .ok (.putfield 178, 3) := by decide +kernel
theorem d_Md_begin_15 : decode b_Md_begin 15 = .ok (.aload_n 0, 1) := by decide +kernel
theorem d_Md_begin_16 : decode b_Md_begin 16 = .ok (.iconst 0, 1) := by decide +kernel
theorem d_Md_begin_17 : decode b_Md_begin 17 = .ok (.putfield 167, 3) := by decide +kernel
theorem d_Md_begin_20 : decode b_Md_begin 20 = .ok (.aload_n 0, 1) := by decide +kernel
theorem d_Md_begin_21 : decode b_Md_begin 21 = .ok (.invokevirtual 94, 3) := by decide +kernel
theorem d_Md_begin_24 : decode b_Md_begin 24 = .ok (.iload_n 1, 1) := by decide +kernel
theorem d_Md_begin_25 : decode b_Md_begin 25 = .ok (.ireturn, 1) := by decide +kernel
theorem d_Md_clear_0 : decode b_Md_clear 0 = .ok (.aload_n 0, 1) := by decide +kernel
theorem d_Md_clear_1 : decode b_Md_clear 1 = .ok (.iconst 0, 1) := by decide +kernel
theorem d_Md_clear_2 : decode b_Md_clear 2 = .ok (.putfield 70, 3) := by decide +kernel
theorem d_Md_clear_5 : decode b_Md_clear 5 = .ok (.iconst 0, 1) := by decide +kernel
theorem d_Md_clear_6 : decode b_Md_clear 6 = .ok (.istore_n 1, 1) := by decide +kernel
theorem d_Md_clear_7 : decode b_Md_clear 7 = .ok (.iload_n 1, 1) := by decide +kernel
theorem d_Md_clear_8 : decode b_Md_clear 8 = .ok (.sipush 576, 3) := by decide +kernel
theorem d_Md_clear_11 : decode b_Md_clear 11 = .ok (.if_icmp .ge 23, 3) := by decide +kernel
theorem d_Md_clear_14 : decode b_Md_clear 14 = .ok (.aload_n 0, 1) := by decide +kernel
theorem d_Md_clear_15 : decode b_Md_clear 15 = .ok (.getfield 28, 3) := by decide +kernel
theorem d_Md_clear_18 : decode b_Md_clear 18 = .ok (.iload_n 1, 1) := by decide +kernel
theorem d_Md_clear_19 : decode b_Md_clear 19 = .ok (.iconst 0, 1) := by decide +kernel
theorem d_Md_clear_20 : decode b_Md_clear 20 = .ok (.bastore, 1) := by decide +kernel
theorem d_Md_clear_21 : decode b_Md_clear 21 = .ok (.aload_n 0, 1) := by decide +kernel
theorem d_Md_clear_22 : decode b_Md_clear 22 = .ok (.getfield 32, 3) := by decide +kernel
theorem d_Md_clear_25 : decode b_Md_clear 25 = .ok (.iload_n 1, 1) := by decide +kernel
theorem d_Md_clear_26 : decode b_Md_clear 26 = .ok (.iconst 0, 1) := by decide +kernel
theorem d_Md_clear_27 : decode b_Md_clear 27 = .ok (.bastore, 1) := by decide +kernel
theorem d_Md_clear_28 : decode b_Md_clear 28 = .ok (.iinc 1 1, 3) := by decide +kernel
theorem d_Md_clear_31 : decode b_Md_clear 31 = .ok (.goto (-24), 3) := by decide +kernel
theorem d_Md_clear_34 : decode b_Md_clear 34 = .ok (.aload_n 0, 1) := by decide +kernel
theorem d_Md_clear_35 : decode b_Md_clear 35 = .ok (.getfield 64, 3) := by decide +kernel
theorem d_Md_clear_38 : decode b_Md_clear 38 = .ok (.tableswitch 65 0 2 #[26, 39, 52], 26) := by decide +kernel
theorem d_Md_clear_64 : decode b_Md_clear 64 = .ok (.aload_n 0, 1) := by decide +kernel
theorem d_Md_clear_65 : decode b_Md_clear 65 = .ok (.aload_n 0, 1) := by decide +kernel
theorem d_Md_clear_66 : decode b_Md_clear 66 = .ok (.getfield 7, 3) := by decide +kernel
theorem d_Md_clear_69 : decode b_Md_clear 69 = .ok (.bipush 16, 2) := by decide +kernel
theorem d_Md_clear_71 : decode b_Md_clear 71 = .ok (.invokevirtual 223, 3) := by decide +kernel
theorem d_Md_clear_74 : decode b_Md_clear 74 = .ok (.goto 39, 3) := by decide +kernel
theorem d_Md_clear_77 : decode b_Md_clear 77 = .ok (.aload_n 0, 1) := by decide +kernel
theorem d_Md_clear_78 : decode b_Md_clear 78 = .ok (.aload_n 0, 1) := by decide +kernel
theorem d_Md_clear_79 : decode b_Md_clear 79 = .ok (.getfield 13, 3) := by decide +kernel
theorem d_Md_clear_82 : decode b_Md_clear 82 = .ok (.bipush 13, 2) := by decide +kernel
theorem d_Md_clear_84 : decode b_Md_clear 84 = .ok (.invokevirtual 223, 3) := by decide +kernel
theorem d_Md_clear_87 : decode b_Md_clear 87 = .ok (.goto 26, 3) := by decide +kernel
theorem d_Md_clear_90 : decode b_Md_clear 90 = .ok (.aload_n 0, 1) := by decide +kernel
theorem d_Md_clear_91 : decode b_Md_clear 91 = .ok (.aload_n 0, 1) := by decide +kernel
theorem d_Md_clear_92 : decode b_Md_clear 92 = .ok (.getfield 16, 3) := by decide +kernel
theorem d_Md_clear_95 : decode b_Md_clear 95 = .ok (.bipush 10, 2) := by decide +kernel
theorem d_Md_clear_97 : decode b_Md_clear 97 = .ok (.invokevirtual 223, 3) := by decide +kernel
theorem d_Md_clear_100 : decode b_Md_clear 100 = .ok (.goto 13, 3) := by decide +kernel
theorem d_Md_clear_103 : decode b_Md_clear 103 = .ok (.aload_n 0, 1) := by decide +kernel
theorem d_Md_clear_104 : decode b_Md_clear 104 = .ok (.aload_n 0, 1) := by decide +kernel
theorem d_Md_clear_105 : decode b_Md_clear 105 = .ok (.getfield 19, 3) := by decide +kernel
theorem d_Md_clear_108 : decode b_Md_clear 108 = .ok (.bipush 10, 2) := by decide +kernel
theorem d_Md_clear_110 : decode b_Md_clear 110 = .ok (.invokevirtual 223, 3) := by decide +kernel
theorem d_Md_clear_113 : decode b_Md_clear 113 = .ok (.aload_n 0, 1) := by decide +kernel
theorem d_Md_clear_114 : decode b_Md_clear 114 = .ok (.iconst 0, 1) := by decide +kernel
theorem d_Md_clear_115 : decode b_Md_clear 115 = .ok (.putfield 105, 3) := by decide +kernel
theorem d_Md_clear_118 : decode b_Md_clear 118 = .ok (.aload_n 0, 1) := by decide +kernel
theorem d_Md_clear_119 : decode b_Md_clear 119 = .ok (.iconst 0, 1) := by decide +kernel
theorem d_Md_clear_120 : decode b_Md_clear 120 = .ok (.putfield 108, 3) := by decide +kernel
theorem d_Md_clear_123 : decode b_Md_clear 123 = .ok (.aload_n 0, 1) := by decide +kernel
theorem d_Md_clear_124 : decode b_Md_clear 124 = .ok (.iconst 0, 1) := by decide +kernel
theorem d_Md_clear_125 : decode b_Md_clear 125 = .ok (.putfield 111, 3) := by decide +kernel
theorem d_Md_clear_128 : decode b_Md_clear 128 = .ok (.aload_n 0, 1) := by decide +kernel
theorem d_Md_clear_129 : decode b_Md_clear 129 = .ok (.iconst 0, 1) := by decide +kernel
theorem d_Md_clear_130 : decode b_Md_clear 130 = .ok (.putfield 129, 3) := by decide +kernel
theorem d_Md_clear_133 : decode b_Md_clear 133 = .ok (.aload_n 0, 1) := by decide +kernel
theorem d_Md_clear_134 : decode b_Md_clear 134 = .ok (.iconst 0, 1) := by decide +kernel
theorem d_Md_clear_135 : decode b_Md_clear 135 = .ok (.putfield 142, 3) := by decide +kernel
theorem d_Md_clear_138 : decode b_Md_clear 138 = .ok (.aload_n 0, 1) := by decide +kernel
theorem d_Md_clear_139 : decode b_Md_clear 139 = .ok (.invokevirtual 227, 3) := by decide +kernel
theorem d_Md_clear_142 : decode b_Md_clear 142 = .ok (.istore_n 1, 1) := by decide +kernel
theorem d_Md_clear_143 : decode b_Md_clear 143 = .ok (.return_, 1) := by decide +kernel
theorem d_Md_thrown_0 : decode b_Md_thrown 0 = .ok (.aload_n 0, 1) := by decide +kernel
theorem d_Md_thrown_1 : decode b_Md_thrown 1 = .ok (.getfield 70, 3) := by decide +kernel
theorem d_Md_thrown_4 : decode b_Md_thrown 4 = .ok (.ireturn, 1) := by decide +kernel
theorem d_Md_in_0 : decode b_Md_in 0 = .ok (.iload_n 0, 1) := by decide +kernel
theorem d_Md_in_1 : decode b_Md_in 1 = .ok (.iload_n 1, 1) := by decide +kernel
theorem d_Md_in_2 : decode b_Md_in 2 = .ok (.if_icmp .lt 12, 3) := by decide +kernel
theorem d_Md_in_5 : decode b_Md_in 5 = .ok (.iload_n 0, 1) := by decide +kernel
theorem d_Md_in_6 : decode b_Md_in 6 = .ok (.iload_n 2, 1) := by decide +kernel
theorem d_Md_in_7 : decode b_Md_in 7 = .ok (.if_icmp .gt 7, 3) := by decide +kernel
theorem d_Md_in_10 : decode b_Md_in 10 = .ok (.iconst 1, 1) := by decide +kernel
theorem d_Md_in_11 : decode b_Md_in 11 = .ok (.goto 4, 3) := by decide +kernel
theorem d_Md_in_14 : decode b_Md_in 14 = .ok (.iconst 0, 1) := by decide +kernel
theorem d_Md_in_15 : decode b_Md_in 15 = .ok (.ireturn, 1) := by decide +kernel
theorem d_Md_isSample_0 : decode b_Md_isSample 0 = .ok (.aload_n 0, 1) := by decide +kernel
theorem d_Md_isSample_1 : decode b_Md_isSample 1 = .ok (.iload_n 1, 1) := by decide +kernel
theorem d_Md_isSample_2 : decode b_Md_isSample 2 = .ok (.iconst 0, 1) := by decide +kernel
theorem d_Md_isSample_3 : decode b_Md_isSample 3 = .ok (.aload_n 0, 1) := by decide +kernel
theorem d_Md_isSample_4 : decode b_Md_isSample 4 = .ok (.getfield 57, 3) := by decide +kernel
theorem d_Md_isSample_7 : decode b_Md_isSample 7 = .ok (.iconst 1, 1) := by decide +kernel
theorem d_Md_isSample_8 : decode b_Md_isSample 8 = .ok (.isub, 1) := by decide +kernel
theorem d_Md_isSample_9 : decode b_Md_isSample 9 = .ok (.invokestatic 73, 3) := by decide +kernel
theorem d_Md_isSample_12 : decode b_Md_isSample 12 = .ok (.ifCond .eq 21, 3) := by decide +kernel
theorem d_Md_isSample_15 : decode b_Md_isSample 15 = .ok (.iload_n 2, 1) := by decide +kernel
theorem d_Md_isSample_16 : decode b_Md_isSample 16 = .ok (.iconst 0, 1) := by decide +kernel
theorem d_Md_isSample_17 : decode b_Md_isSample 17 = .ok (.aload_n 0, 1) := by decide +kernel
theorem d_Md_isSample_18 : decode b_Md_isSample 18 = .ok (.getfield 61, 3) := by decide +kernel
theorem d_Md_isSample_21 : decode b_Md_isSample 21 = .ok (.iconst 1, 1) := by decide +kernel
theorem d_Md_isSample_22 : decode b_Md_isSample 22 = .ok (.isub, 1) := by decide +kernel
theorem d_Md_isSample_23 : decode b_Md_isSample 23 = .ok (.invokestatic 73, 3) := by decide +kernel
theorem d_Md_isSample_26 : decode b_Md_isSample 26 = .ok (.ifCond .eq 7, 3) := by decide +kernel
theorem d_Md_isSample_29 : decode b_Md_isSample 29 = .ok (.iconst 0, 1) := by decide +kernel
theorem d_Md_isSample_30 : decode b_Md_isSample 30 = .ok (.goto 4, 3) := by decide +kernel
theorem d_Md_isSample_33 : decode b_Md_isSample 33 = .ok (.iconst 1, 1) := by decide +kernel
theorem d_Md_isSample_34 : decode b_Md_isSample 34 = .ok (.putfield 70, 3) := by decide +kernel
theorem d_Md_isSample_37 : decode b_Md_isSample 37 = .ok (.aload_n 0, 1) := by decide +kernel
theorem d_Md_isSample_38 : decode b_Md_isSample 38 = .ok (.getfield 70, 3) := by decide +kernel
theorem d_Md_isSample_41 : decode b_Md_isSample 41 = .ok (.ifCond .ne 7, 3) := by decide +kernel
theorem d_Md_isSample_44 : decode b_Md_isSample 44 = .ok (.iconst 1, 1) := by decide +kernel
theorem d_Md_isSample_45 : decode b_Md_isSample 45 = .ok (.goto 4, 3) := by decide +kernel
theorem d_Md_isSample_48 : decode b_Md_isSample 48 = .ok (.iconst 0, 1) := by decide +kernel
