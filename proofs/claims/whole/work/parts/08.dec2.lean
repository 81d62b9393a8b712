theorem d_Reader_readByFax_54 : decode b_Reader_readByFax 54 = .ok (.goto (-30), 3) := by decide +kernel
theorem d_Reader_readByFax_57 : decode b_Reader_readByFax 57 = .ok (.iload_n 1, 1) := by decide +kernel
theorem d_Reader_readByFax_58 : decode b_Reader_readByFax 58 = .ok (.ifCond .eq 17, 3) := by decide +kernel
theorem d_Reader_readByFax_61 : decode b_Reader_readByFax 61 = .ok (.aload_n 0, 1) := by decide +kernel
theorem d_Reader_readByFax_62 : decode b_Reader_readByFax 62 = .ok (.getfield 46, 3) := by decide +kernel
theorem d_Reader_readByFax_65 : decode b_Reader_readByFax 65 = .ok (.invokevirtual 128, 3) := by decide +kernel
theorem d_Reader_readByFax_68 : decode b_Reader_readByFax 68 = .ok (.ifCond .eq 7, 3) := by decide +kernel
theorem d_Reader_readByFax_71 : decode b_Reader_readByFax 71 = .ok (.iconst 1, 1) := by decide +kernel
theorem d_Reader_readByFax_72 : decode b_Reader_readByFax 72 = .ok (.goto 4, 3) := by decide +kernel
theorem d_Reader_readByFax_75 : decode b_Reader_readByFax 75 = .ok (.iconst 0, 1) := by decide +kernel
theorem d_Reader_readByFax_76 : decode b_Reader_readByFax 76 = .ok (.ireturn, 1) := by decide +kernel
theorem d_Ways_typical_0 : decode b_Ways_typical 0 = .ok (.aload_n 0, 1) := by decide +kernel
theorem d_Ways_typical_1 : decode b_Ways_typical 1 = .ok (.getfield 7, 3) := by decide +kernel
theorem d_Ways_typical_4 : decode b_Ways_typical 4 = .ok (.ireturn, 1) := by decide +kernel
theorem d_Reader_readSamples_0 : decode b_Reader_readSamples 0 = .ok (.iconst 0, 1) := by decide +kernel
theorem d_Reader_readSamples_1 : decode b_Reader_readSamples 1 = .ok (.istore_n 1, 1) := by decide +kernel
theorem d_Reader_readSamples_2 : decode b_Reader_readSamples 2 = .ok (.iload_n 1, 1) := by decide +kernel
theorem d_Reader_readSamples_3 : decode b_Reader_readSamples 3 = .ok (.aload_n 0, 1) := by decide +kernel
theorem d_Reader_readSamples_4 : decode b_Reader_readSamples 4 = .ok (.getfield 15, 3) := by decide +kernel
theorem d_Reader_readSamples_7 : decode b_Reader_readSamples 7 = .ok (.if_icmp .ge 51, 3) := by decide +kernel
theorem d_Reader_readSamples_10 : decode b_Reader_readSamples 10 = .ok (.aload_n 0, 1) := by decide +kernel
theorem d_Reader_readSamples_11 : decode b_Reader_readSamples 11 = .ok (.getfield 21, 3) := by decide +kernel
theorem d_Reader_readSamples_14 : decode b_Reader_readSamples 14 = .ok (.iload_n 1, 1) := by decide +kernel
theorem d_Reader_readSamples_15 : decode b_Reader_readSamples 15 = .ok (.aload_n 0, 1) := by decide +kernel
theorem d_Reader_readSamples_16 : decode b_Reader_readSamples 16 = .ok (.getfield 56, 3) := by decide +kernel
theorem d_Reader_readSamples_19 : decode b_Reader_readSamples 19 = .ok (.invokevirtual 66, 3) := by decide +kernel
theorem d_Reader_readSamples_22 : decode b_Reader_readSamples 22 = .ok (.ifCond .ne 30, 3) := by decide +kernel
theorem d_Reader_readSamples_25 : decode b_Reader_readSamples 25 = .ok (.aload_n 0, 1) := by decide +kernel
theorem d_Reader_readSamples_26 : decode b_Reader_readSamples 26 = .ok (.getfield 29, 3) := by decide +kernel
theorem d_Reader_readSamples_29 : decode b_Reader_readSamples 29 = .ok (.invokevirtual 105, 3) := by decide +kernel
theorem d_Reader_readSamples_32 : decode b_Reader_readSamples 32 = .ok (.istore_n 2, 1) := by decide +kernel
theorem d_Reader_readSamples_33 : decode b_Reader_readSamples 33 = .ok (.iload_n 2, 1) := by decide +kernel
theorem d_Reader_readSamples_34 : decode b_Reader_readSamples 34 = .ok (.iconst (-1), 1) := by decide +kernel
theorem d_Reader_readSamples_35 : decode b_Reader_readSamples 35 = .ok (.if_icmp .ne 5, 3) := by decide +kernel
theorem d_Reader_readSamples_38 : decode b_Reader_readSamples 38 = .ok (.iconst 0, 1) := by decide +kernel
theorem d_Reader_readSamples_39 : decode b_Reader_readSamples 39 = .ok (.ireturn, 1) := by decide +kernel
theorem d_Reader_readSamples_40 : decode b_Reader_readSamples 40 = .ok (.aload_n 0, 1) := by decide +kernel
theorem d_Reader_readSamples_41 : decode b_Reader_readSamples 41 = .ok (.dup, 1) := by decide +kernel
theorem d_Reader_readSamples_42 : decode b_Reader_readSamples 42 = .ok (.getfield 93, 3) := by decide +kernel
theorem d_Reader_readSamples_45 : decode b_Reader_readSamples 45 = .ok (.iload_n 2, 1) := by decide +kernel
theorem d_Reader_readSamples_46 : decode b_Reader_readSamples 46 = .ok (.iload_n 1, 1) := by decide +kernel
theorem d_Reader_readSamples_47 : decode b_Reader_readSamples 47 = .ok (.ishl, 1) := by decide +kernel
theorem d_Reader_readSamples_48 : decode b_Reader_readSamples 48 = .ok (.ior, 1) := by decide +kernel
theorem d_Reader_readSamples_49 : decode b_Reader_readSamples 49 = .ok (.putfield 93, 3) := by decide +kernel
theorem d_Reader_readSamples_52 : decode b_Reader_readSamples 52 = .ok (.iinc 1 1, 3) := by decide +kernel
theorem d_Reader_readSamples_55 : decode b_Reader_readSamples 55 = .ok (.goto (-53), 3) := by decide +kernel
theorem d_Reader_readSamples_58 : decode b_Reader_readSamples 58 = .ok (.iconst 1, 1) := by decide +kernel
theorem d_Reader_readSamples_59 : decode b_Reader_readSamples 59 = .ok (.ireturn, 1) := by decide +kernel
theorem d_Reader_readBySamples_0 : decode b_Reader_readBySamples 0 = .ok (.aload_n 0, 1) := by decide +kernel
theorem d_Reader_readBySamples_1 : decode b_Reader_readBySamples 1 = .ok (.getfield 25, 3) := by decide +kernel
theorem d_Reader_readBySamples_4 : decode b_Reader_readBySamples 4 = .ok (.invokevirtual 115, 3) := by decide +kernel
theorem d_Reader_readBySamples_7 : decode b_Reader_readBySamples 7 = .ok (.ifCond .eq 44, 3) := by decide +kernel
theorem d_Reader_readBySamples_10 : decode b_Reader_readBySamples 10 = .ok (.aload_n 0, 1) := by decide +kernel
theorem d_Reader_readBySamples_11 : decode b_Reader_readBySamples 11 = .ok (.getfield 29, 3) := by decide +kernel
theorem d_Reader_readBySamples_14 : decode b_Reader_readBySamples 14 = .ok (.invokevirtual 105, 3) := by decide +kernel
theorem d_Reader_readBySamples_17 : decode b_Reader_readBySamples 17 = .ok (.istore_n 1, 1) := by decide +kernel
theorem d_Reader_readBySamples_18 : decode b_Reader_readBySamples 18 = .ok (.iload_n 1, 1) := by decide +kernel
theorem d_Reader_readBySamples_19 : decode b_Reader_readBySamples 19 = .ok (.iconst (-1), 1) := by decide +kernel
theorem d_Reader_readBySamples_20 : decode b_Reader_readBySamples 20 = .ok (.if_icmp .ne 5, 3) := by decide +kernel
theorem d_Reader_readBySamples_23 : decode b_Reader_readBySamples 23 = .ok (.iconst 0, 1) := by decide +kernel
theorem d_Reader_readBySamples_24 : decode b_Reader_readBySamples 24 = .ok (.ireturn, 1) := by decide +kernel
theorem d_Reader_readBySamples_25 : decode b_Reader_readBySamples 25 = .ok (.aload_n 0, 1) := by decide +kernel
theorem d_Reader_readBySamples_26 : decode b_Reader_readBySamples 26 = .ok (.aload_n 0, 1) := by decide +kernel
theorem d_Reader_readBySamples_27 : decode b_Reader_readBySamples 27 = .ok (.getfield 59, 3) := by decide +kernel
theorem d_Reader_readBySamples_30 : decode b_Reader_readBySamples 30 = .ok (.iload_n 1, 1) := by decide +kernel
theorem d_Reader_readBySamples_31 : decode b_Reader_readBySamples 31 = .ok (.iconst 1, 1) := by decide +kernel
theorem d_Reader_readBySamples_32 : decode b_Reader_readBySamples 32 = .ok (.if_icmp .ne 7, 3) := by decide +kernel
theorem d_Reader_readBySamples_35 : decode b_Reader_readBySamples 35 = .ok (.iconst 1, 1) := by decide +kernel
theorem d_Reader_readBySamples_36 : decode b_Reader_readBySamples 36 = .ok (.goto 4, 3) := by decide +kernel
theorem d_Reader_readBySamples_39 : decode b_Reader_readBySamples 39 = .ok (.iconst 0, 1) := by decide +kernel
theorem d_Reader_readBySamples_40 : decode b_Reader_readBySamples 40 = .ok (.if_icmp .eq 7, 3) := by decide +kernel
theorem d_Reader_readBySamples_43 : decode b_Reader_readBySamples 43 = .ok (.iconst 1, 1) := by decide +kernel
theorem d_Reader_readBySamples_44 : decode b_Reader_readBySamples 44 = .ok (.goto 4, 3) := by decide +kernel
theorem d_Reader_readBySamples_47 : decode b_Reader_readBySamples 47 = .ok (.iconst 0, 1) := by decide +kernel
theorem d_Reader_readBySamples_48 : decode b_Reader_readBySamples 48 = .ok (.putfield 96, 3) := by decide +kernel
theorem d_Reader_readBySamples_51 : decode b_Reader_readBySamples 51 = .ok (.aload_n 0, 1) := by decide +kernel
theorem d_Reader_readBySamples_52 : decode b_Reader_readBySamples 52 = .ok (.getfield 96, 3) := by decide +kernel
theorem d_Reader_readBySamples_55 : decode b_Reader_readBySamples 55 = .ok (.ifCond .eq 22, 3) := by decide +kernel
theorem d_Reader_readBySamples_58 : decode b_Reader_readBySamples 58 = .ok (.aload_n 0, 1) := by decide +kernel
theorem d_Reader_readBySamples_59 : decode b_Reader_readBySamples 59 = .ok (.aload_n 0, 1) := by decide +kernel
theorem d_Reader_readBySamples_60 : decode b_Reader_readBySamples 60 = .ok (.getfield 38, 3) := by decide +kernel
theorem d_Reader_readBySamples_63 : decode b_Reader_readBySamples 63 = .ok (.aload_n 0, 1) := by decide +kernel
theorem d_Reader_readBySamples_64 : decode b_Reader_readBySamples 64 = .ok (.getfield 56, 3) := by decide +kernel
theorem d_Reader_readBySamples_67 : decode b_Reader_readBySamples 67 = .ok (.iconst 1, 1) := by decide +kernel
theorem d_Reader_readBySamples_68 : decode b_Reader_readBySamples 68 = .ok (.isub, 1) := by decide +kernel
theorem d_Reader_readBySamples_69 : decode b_Reader_readBySamples 69 = .ok (.invokevirtual 118, 3) := by decide +kernel
theorem d_Reader_readBySamples_72 : decode b_Reader_readBySamples 72 = .ok (.putfield 93, 3) := by decide +kernel
theorem d_Reader_readBySamples_75 : decode b_Reader_readBySamples 75 = .ok (.iconst 1, 1) := by decide +kernel
theorem d_Reader_readBySamples_76 : decode b_Reader_readBySamples 76 = .ok (.ireturn, 1) := by decide +kernel
theorem d_Reader_readBySamples_77 : decode b_Reader_readBySamples 77 = .ok (.aload_n 0, 1) := by decide +kernel
theorem d_Reader_readBySamples_78 : decode b_Reader_readBySamples 78 = .ok (.invokevirtual 122, 3) := by decide +kernel
theorem d_Reader_readBySamples_81 : decode b_Reader_readBySamples 81 = .ok (.ireturn, 1) := by decide +kernel
theorem d_Reader_keepRow_0 : decode b_Reader_keepRow 0 = .ok (.aload_n 0, 1) := by decide +kernel
theorem d_Reader_keepRow_1 : decode b_Reader_keepRow 1 = .ok (.getfield 38, 3) := by decide +kernel
theorem d_Reader_keepRow_4 : decode b_Reader_keepRow 4 = .ok (.aload_n 0, 1) := by decide +kernel
theorem d_Reader_keepRow_5 : decode b_Reader_keepRow 5 = .ok (.getfield 56, 3) := by decide +kernel
theorem d_Reader_keepRow_8 : decode b_Reader_keepRow 8 = .ok (.aload_n 0, 1) := by decide +kernel
theorem d_Reader_keepRow_9 : decode b_Reader_keepRow 9 = .ok (.getfield 93, 3) := by decide +kernel
theorem d_Reader_keepRow_12 : decode b_Reader_keepRow 12 = .ok (.invokevirtual 112, 3) := by decide +kernel
theorem d_Reader_keepRow_15 : decode b_Reader_keepRow 15 = .ok (.aload_n 0, 1) := by decide +kernel
theorem d_Reader_keepRow_16 : decode b_Reader_keepRow 16 = .ok (.dup, 1) := by decide +kernel
theorem d_Reader_keepRow_17 : decode b_Reader_keepRow 17 = .ok (.getfield 56, 3) := by decide +kernel
theorem d_Reader_keepRow_20 : decode b_Reader_keepRow 20 = .ok (.iconst 1, 1) := by decide +kernel
theorem d_Reader_keepRow_21 : decode b_Reader_keepRow 21 = .ok (.iadd, 1) := by decide +kernel
theorem d_Reader_keepRow_22 : decode b_Reader_keepRow 22 = .ok (.putfield 56, 3) := by decide +kernel
theorem d_Reader_keepRow_25 : decode b_Reader_keepRow 25 = .ok (.aload_n 0, 1) := by decide +kernel
theorem d_Reader_keepRow_26 : decode b_Reader_keepRow 26 = .ok (.aload_n 0, 1) := by decide +kernel
theorem d_Reader_keepRow_27 : decode b_Reader_keepRow 27 = .ok (.getfield 29, 3) := by decide +kernel
theorem d_Reader_keepRow_30 : decode b_Reader_keepRow 30 = .ok (.invokevirtual 109, 3) := by decide +kernel
theorem d_Reader_keepRow_33 : decode b_Reader_keepRow 33 = .ok (.putfield 53, 3) := by decide +kernel
theorem d_Reader_keepRow_36 : decode b_Reader_keepRow 36 = .ok (.aload_n 0, 1) := by decide +kernel
theorem d_Reader_keepRow_37 : decode b_Reader_keepRow 37 = .ok (.aload_n 0, 1) := by decide +kernel
theorem d_Reader_keepRow_38 : decode b_Reader_keepRow 38 = .ok (.getfield 96, 3) := by decide +kernel
theorem d_Reader_keepRow_41 : decode b_Reader_keepRow 41 = .ok (.putfield 59, 3) := by decide +kernel
theorem d_Reader_keepRow_44 : decode b_Reader_keepRow 44 = .ok (.aload_n 0, 1) := by decide +kernel
theorem d_Reader_keepRow_45 : decode b_Reader_keepRow 45 = .ok (.aload_n 0, 1) := by decide +kernel
theorem d_Reader_keepRow_46 : decode b_Reader_keepRow 46 = .ok (.getfield 25, 3) := by decide +kernel
theorem d_Reader_keepRow_49 : decode b_Reader_keepRow 49 = .ok (.invokevirtual 99, 3) := by decide +kernel
theorem d_Reader_keepRow_52 : decode b_Reader_keepRow 52 = .ok (.ifCond .ne 18, 3) := by decide +kernel
theorem d_Reader_keepRow_55 : decode b_Reader_keepRow 55 = .ok (.aload_n 0, 1) := by decide +kernel
theorem d_Reader_keepRow_56 : decode b_Reader_keepRow 56 = .ok (.getfield 56, 3) := by decide +kernel
theorem d_Reader_keepRow_59 : decode b_Reader_keepRow 59 = .ok (.aload_n 0, 1) := by decide +kernel
theorem d_Reader_keepRow_60 : decode b_Reader_keepRow 60 = .ok (.getfield 18, 3) := by decide +kernel
theorem d_Reader_keepRow_63 : decode b_Reader_keepRow 63 = .ok (.if_icmp .lt 7, 3) := by decide +kernel
theorem d_Reader_keepRow_66 : decode b_Reader_keepRow 66 = .ok (.iconst 1, 1) := by decide +kernel
theorem d_Reader_keepRow_67 : decode b_Reader_keepRow 67 = .ok (.goto 4, 3) := by decide +kernel
theorem d_Reader_keepRow_70 : decode b_Reader_keepRow 70 = .ok (.iconst 0, 1) := by decide +kernel
theorem d_Reader_keepRow_71 : decode b_Reader_keepRow 71 = .ok (.putfield 63, 3) := by decide +kernel
theorem d_Reader_keepRow_74 : decode b_Reader_keepRow 74 = .ok (.return_, 1) := by decide +kernel
theorem d_Reader_readOn_0 : decode b_Reader_readOn 0 = .ok (.iconst 1, 1) := by decide +kernel
theorem d_Reader_readOn_1 : decode b_Reader_readOn 1 = .ok (.istore_n 1, 1) := by decide +kernel
theorem d_Reader_readOn_2 : decode b_Reader_readOn 2 = .ok (.iconst 0, 1) := by decide +kernel
theorem d_Reader_readOn_3 : decode b_Reader_readOn 3 = .ok (.istore_n 2, 1) := by decide +kernel
theorem d_Reader_readOn_4 : decode b_Reader_readOn 4 = .ok (.iload_n 2, 1) := by decide +kernel
theorem d_Reader_readOn_5 : decode b_Reader_readOn 5 = .ok (.aload_n 0, 1) := by decide +kernel
theorem d_Reader_readOn_6 : decode b_Reader_readOn 6 = .ok (.getfield 18, 3) := by decide +kernel
theorem d_Reader_readOn_9 : decode b_Reader_readOn 9 = .ok (.if_icmp .gt 76, 3) := by decide +kernel
theorem d_Reader_readOn_12 : decode b_Reader_readOn 12 = .ok (.iload_n 1, 1) := by decide +kernel
theorem d_Reader_readOn_13 : decode b_Reader_readOn 13 = .ok (.ifCond .eq 72, 3) := by decide +kernel
theorem d_Reader_readOn_16 : decode b_Reader_readOn 16 = .ok (.aload_n 0, 1) := by decide +kernel
theorem d_Reader_readOn_17 : decode b_Reader_readOn 17 = .ok (.getfield 63, 3) := by decide +kernel
theorem d_Reader_readOn_20 : decode b_Reader_readOn 20 = .ok (.ifCond .ne 49, 3) := by decide +kernel
theorem d_Reader_readOn_23 : decode b_Reader_readOn 23 = .ok (.aload_n 0, 1) := by decide +kernel
theorem d_Reader_readOn_24 : decode b_Reader_readOn 24 = .ok (.getfield 9, 3) := by decide +kernel
theorem d_Reader_readOn_27 : decode b_Reader_readOn 27 = .ok (.iconst (-1), 1) := by decide +kernel
theorem d_Reader_readOn_28 : decode b_Reader_readOn 28 = .ok (.if_icmp .ne 41, 3) := by decide +kernel
theorem d_Reader_readOn_31 : decode b_Reader_readOn 31 = .ok (.aload_n 0, 1) := by decide +kernel
theorem d_Reader_readOn_32 : decode b_Reader_readOn 32 = .ok (.invokevirtual 70, 3) := by decide +kernel
theorem d_Reader_readOn_35 : decode b_Reader_readOn 35 = .ok (.ifCond .eq 34, 3) := by decide +kernel
theorem d_Reader_readOn_38 : decode b_Reader_readOn 38 = .ok (.aload_n 0, 1) := by decide +kernel
theorem d_Reader_readOn_39 : decode b_Reader_readOn 39 = .ok (.getfield 25, 3) := by decide +kernel
theorem d_Reader_readOn_42 : decode b_Reader_readOn 42 = .ok (.invokevirtual 74, 3) := by decide +kernel
theorem d_Reader_readOn_45 : decode b_Reader_readOn 45 = .ok (.ifCond .eq 13, 3) := by decide +kernel
theorem d_Reader_readOn_48 : decode b_Reader_readOn 48 = .ok (.aload_n 0, 1) := by decide +kernel
theorem d_Reader_readOn_49 : decode b_Reader_readOn 49 = .ok (.invokevirtual 79, 3) := by decide +kernel
theorem d_Reader_readOn_52 : decode b_Reader_readOn 52 = .ok (.ifCond .eq 17, 3) := by decide +kernel
theorem d_Reader_readOn_55 : decode b_Reader_readOn 55 = .ok (.goto 10, 3) := by decide +kernel
theorem d_Reader_readOn_58 : decode b_Reader_readOn 58 = .ok (.aload_n 0, 1) := by decide +kernel
theorem d_Reader_readOn_59 : decode b_Reader_readOn 59 = .ok (.invokevirtual 82, 3) := by decide +kernel
theorem d_Reader_readOn_62 : decode b_Reader_readOn 62 = .ok (.ifCond .eq 7, 3) := by decide +kernel
theorem d_Reader_readOn_65 : decode b_Reader_readOn 65 = .ok (.iconst 1, 1) := by decide +kernel
theorem d_Reader_readOn_66 : decode b_Reader_readOn 66 = .ok (.goto 4, 3) := by decide +kernel
theorem d_Reader_readOn_69 : decode b_Reader_readOn 69 = .ok (.iconst 0, 1) := by decide +kernel
theorem d_Reader_readOn_70 : decode b_Reader_readOn 70 = .ok (.istore_n 1, 1) := by decide +kernel
theorem d_Reader_readOn_71 : decode b_Reader_readOn 71 = .ok (.iload_n 1, 1) := by decide +kernel
theorem d_Reader_readOn_72 : decode b_Reader_readOn 72 = .ok (.ifCond .eq 7, 3) := by decide +kernel
theorem d_Reader_readOn_75 : decode b_Reader_readOn 75 = .ok (.aload_n 0, 1) := by decide +kernel
theorem d_Reader_readOn_76 : decode b_Reader_readOn 76 = .ok (.invokevirtual 85, 3) := by decide +kernel
theorem d_Reader_readOn_79 : decode b_Reader_readOn 79 = .ok (.iinc 2 1, 3) := by decide +kernel
theorem d_Reader_readOn_82 : decode b_Reader_readOn 82 = .ok (.goto (-78), 3) := by decide +kernel
theorem d_Reader_readOn_85 : decode b_Reader_readOn 85 = .ok (.aload_n 0, 1) := by decide +kernel
theorem d_Reader_readOn_86 : decode b_Reader_readOn 86 = .ok (.getfield 9, 3) := by decide +kernel
theorem d_Reader_readOn_89 : decode b_Reader_readOn 89 = .ok (.iconst (-1), 1) := by decide +kernel
theorem d_Reader_readOn_90 : decode b_Reader_readOn 90 = .ok (.if_icmp .ne 10, 3) := by decide +kernel
theorem d_Reader_readOn_93 : decode b_Reader_readOn 93 = .ok (.aload_n 0, 1) := by decide +kernel
theorem d_Reader_readOn_94 : decode b_Reader_readOn 94 = .ok (.getfield 56, 3) := by decide +kernel
theorem d_Reader_readOn_97 : decode b_Reader_readOn 97 = .ok (.goto 9, 3) := by decide +kernel
theorem d_Reader_readOn_100 : decode b_Reader_readOn 100 = .ok (.iconst (-1), 1) := by decide +kernel
theorem d_Reader_readOn_101 : decode b_Reader_readOn 101 = .ok (.aload_n 0, 1) := by decide +kernel
theorem d_Reader_readOn_102 : decode b_Reader_readOn 102 = .ok (.getfield 9, 3) := by decide +kernel
theorem d_Reader_readOn_105 : decode b_Reader_readOn 105 = .ok (.isub, 1) := by decide +kernel
theorem d_Reader_readOn_106 : decode b_Reader_readOn 106 = .ok (.ireturn, 1) := by decide +kernel
theorem d_Tape_init_0 : decode b_Tape_init 0 = .ok (.aload_n 0, 1) := by decide +kernel
theorem d_Tape_init_1 : decode b_Tape_init 1 = .ok (.invokespecial 3, 3) := by decide +kernel
theorem d_Tape_init_4 : decode b_Tape_init 4 = .ok (.aload_n 0, 1) := by decide +kernel
theorem d_Tape_init_5 : decode b_Tape_init 5 = .ok (.iload_n 1, 1) := by decide +kernel
theorem d_Tape_init_6 : decode b_Tape_init 6 = .ok (.iconst 0, 1) := by decide +kernel
theorem d_Tape_init_7 : decode b_Tape_init 7 = .ok (.invokestatic 9, 3) := by decide +kernel
theorem d_Tape_init_10 : decode b_Tape_init 10 = .ok (.newarray .int, 2) := by decide +kernel
theorem d_Tape_init_12 : decode b_Tape_init 12 = .ok (.putfield 15, 3) := by decide +kernel
theorem d_Tape_init_15 : decode b_Tape_init 15 = .ok (.return_, 1) := by decide +kernel
theorem d_Tape_count_0 : decode b_Tape_count 0 = .ok (.aload_n 0, 1) := by decide +kernel
theorem d_Tape_count_1 : decode b_Tape_count 1 = .ok (.getfield 21, 3) := by decide +kernel
theorem d_Tape_count_4 : decode b_Tape_count 4 = .ok (.ireturn, 1) := by decide +kernel
theorem d_Tape_wipe_0 : decode b_Tape_wipe 0 = .ok (.aload_n 0, 1) := by decide +kernel
theorem d_Tape_wipe_1 : decode b_Tape_wipe 1 = .ok (.iconst 0, 1) := by decide +kernel
theorem d_Tape_wipe_2 : decode b_Tape_wipe 2 = .ok (.putfield 21, 3) := by decide +kernel
theorem d_Tape_wipe_5 : decode b_Tape_wipe 5 = .ok (.return_, 1) := by decide +kernel
theorem d_Tape_add_0 : decode b_Tape_add 0 = .ok (.aload_n 0, 1) := by decide +kernel
theorem d_Tape_add_1 : decode b_Tape_add 1 = .ok (.getfield 21, 3) := by decide +kernel
theorem d_Tape_add_4 : decode b_Tape_add 4 = .ok (.ifCond .lt 44, 3) := by decide +kernel
theorem d_Tape_add_7 : decode b_Tape_add 7 = .ok (.aload_n 0, 1) := by decide +kernel
theorem d_Tape_add_8 : decode b_Tape_add 8 = .ok (.getfield 21, 3) := by decide +kernel
theorem d_Tape_add_11 : decode b_Tape_add 11 = .ok (.aload_n 0, 1) := by decide +kernel
theorem d_Tape_add_12 : decode b_Tape_add 12 = .ok (.getfield 15, 3) := by decide +kernel
theorem d_Tape_add_15 : decode b_Tape_add 15 = .ok (.arraylength, 1) := by decide +kernel
theorem d_Tape_add_16 : decode b_Tape_add 16 = .ok (.if_icmp .ge 32, 3) := by decide +kernel
theorem d_Tape_add_19 : decode b_Tape_add 19 = .ok (.aload_n 0, 1) := by decide +kernel
theorem d_Tape_add_20 : decode b_Tape_add 20 = .ok (.getfield 15, 3) := by decide +kernel
theorem d_Tape_add_23 : decode b_Tape_add 23 = .ok (.aload_n 0, 1) := by decide +kernel
theorem d_Tape_add_24 : decode b_Tape_add 24 = .ok (.getfield 21, 3) := by decide +kernel
theorem d_Tape_add_27 : decode b_Tape_add 27 = .ok (.iload_n 3, 1) := by decide +kernel
theorem d_Tape_add_28 : decode b_Tape_add 28 = .ok (.bipush 18, 2) := by decide +kernel
theorem d_Tape_add_30 : decode b_Tape_add 30 = .ok (.ishl, 1) := by decide +kernel
theorem d_Tape_add_31 : decode b_Tape_add 31 = .ok (.iload_n 2, 1) := by decide +kernel
theorem d_Tape_add_32 : decode b_Tape_add 32 = .ok (.iconst 1, 1) := by decide +kernel
theorem d_Tape_add_33 : decode b_Tape_add 33 = .ok (.ishl, 1) := by decide +kernel
theorem d_Tape_add_34 : decode b_Tape_add 34 = .ok (.ior, 1) := by decide +kernel
theorem d_Tape_add_35 : decode b_Tape_add 35 = .ok (.iload_n 1, 1) := by decide +kernel
theorem d_Tape_add_36 : decode b_Tape_add 36 = .ok (.ior, 1) := by decide +kernel
theorem d_Tape_add_37 : decode b_Tape_add 37 = .ok (.iastore, 1) := by decide +kernel
theorem d_Tape_add_38 : decode b_Tape_add 38 = .ok (.aload_n 0, 1) := by decide +kernel
theorem d_Tape_add_39 : decode b_Tape_add 39 = .ok (.dup, 1) := by decide +kernel
theorem d_Tape_add_40 : decode b_Tape_add 40 = .ok (.getfield 21, 3) := by decide +kernel
theorem d_Tape_add_43 : decode b_Tape_add 43 = .ok (.iconst 1, 1) := by decide +kernel
theorem d_Tape_add_44 : decode b_Tape_add 44 = .ok (.iadd, 1) := by decide +kernel
theorem d_Tape_add_45 : decode b_Tape_add 45 = .ok (.putfield 21, 3) := by decide +kernel
theorem d_Tape_add_48 : decode b_Tape_add 48 = .ok (.return_, 1) := by decide +kernel
theorem d_Tape_addByFax_0 : decode b_Tape_addByFax 0 = .ok (.iload_n 2, 1) := by decide +kernel
theorem d_Tape_addByFax_1 : decode b_Tape_addByFax 1 = .ok (.iconst 1, 1) := by decide +kernel
theorem d_Tape_addByFax_2 : decode b_Tape_addByFax 2 = .ok (.isub, 1) := by decide +kernel
theorem d_Tape_addByFax_3 : decode b_Tape_addByFax 3 = .ok (.istore 4, 2) := by decide +kernel
theorem d_Tape_addByFax_5 : decode b_Tape_addByFax 5 = .ok (.iload 4, 2) := by decide +kernel
theorem d_Tape_addByFax_7 : decode b_Tape_addByFax 7 = .ok (.ifCond .lt 22, 3) := by decide +kernel
theorem d_Tape_addByFax_10 : decode b_Tape_addByFax 10 = .ok (.aload_n 0, 1) := by decide +kernel
theorem d_Tape_addByFax_11 : decode b_Tape_addByFax 11 = .ok (.iload_n 1, 1) := by decide +kernel
theorem d_Tape_addByFax_12 : decode b_Tape_addByFax 12 = .ok (.iload 4, 2) := by decide +kernel
theorem d_Tape_addByFax_14 : decode b_Tape_addByFax 14 = .ok (.iushr, 1) := by decide +kernel
theorem d_Tape_addByFax_15 : decode b_Tape_addByFax 15 = .ok (.iconst 1, 1) := by decide +kernel
theorem d_Tape_addByFax_16 : decode b_Tape_addByFax 16 = .ok (.iand, 1) := by decide +kernel
theorem d_Tape_addByFax_17 : decode b_Tape_addByFax 17 = .ok (.ldc 25, 2) := by decide +kernel
theorem d_Tape_addByFax_19 : decode b_Tape_addByFax 19 = .ok (.iload_n 3, 1) := by decide +kernel
theorem d_Tape_addByFax_20 : decode b_Tape_addByFax 20 = .ok (.invokevirtual 26, 3) := by decide +kernel
theorem d_Tape_addByFax_23 : decode b_Tape_addByFax 23 = .ok (.iinc 4 (-1), 3) := by decide +kernel
theorem d_Tape_addByFax_26 : decode b_Tape_addByFax 26 = .ok (.goto (-21), 3) := by decide +kernel
theorem d_Tape_addByFax_29 : decode b_Tape_addByFax 29 = .ok (.return_, 1) := by decide +kernel
theorem d_Tape_entryAt_0 : decode b_Tape_entryAt 0 = .ok (.iload_n 1, 1) := by decide +kernel
theorem d_Tape_entryAt_1 : decode b_Tape_entryAt 1 = .ok (.ifCond .lt 21, 3) := by decide +kernel
theorem d_Tape_entryAt_4 : decode b_Tape_entryAt 4 = .ok (.iload_n 1, 1) := by decide +kernel
theorem d_Tape_entryAt_5 : decode b_Tape_entryAt 5 = .ok (.aload_n 0, 1) := by decide +kernel
theorem d_Tape_entryAt_6 : decode b_Tape_entryAt 6 = .ok (.getfield 15, 3) := by decide +kernel
theorem d_Tape_entryAt_9 : decode b_Tape_entryAt 9 = .ok (.arraylength, 1) := by decide +kernel
theorem d_Tape_entryAt_10 : decode b_Tape_entryAt 10 = .ok (.if_icmp .ge 12, 3) := by decide +kernel
theorem d_Tape_entryAt_13 : decode b_Tape_entryAt 13 = .ok (.aload_n 0, 1) := by decide +kernel
theorem d_Tape_entryAt_14 : decode b_Tape_entryAt 14 = .ok (.getfield 15, 3) := by decide +kernel
theorem d_Tape_entryAt_17 : decode b_Tape_entryAt 17 = .ok (.iload_n 1, 1) := by decide +kernel
theorem d_Tape_entryAt_18 : decode b_Tape_entryAt 18 = .ok (.iaload, 1) := by decide +kernel
theorem d_Tape_entryAt_19 : decode b_Tape_entryAt 19 = .ok (.goto 4, 3) := by decide +kernel
theorem d_Tape_entryAt_22 : decode b_Tape_entryAt 22 = .ok (.iconst 0, 1) := by decide +kernel
theorem d_Tape_entryAt_23 : decode b_Tape_entryAt 23 = .ok (.ireturn, 1) := by decide +kernel
theorem d_Tape_bitAt_0 : decode b_Tape_bitAt 0 = .ok (.aload_n 0, 1) := by decide +kernel
theorem d_Tape_bitAt_1 : decode b_Tape_bitAt 1 = .ok (.iload_n 1, 1) := by decide +kernel
theorem d_Tape_bitAt_2 : decode b_Tape_bitAt 2 = .ok (.invokevirtual 30, 3) := by decide +kernel
theorem d_Tape_bitAt_5 : decode b_Tape_bitAt 5 = .ok (.iconst 1, 1) := by decide +kernel
theorem d_Tape_bitAt_6 : decode b_Tape_bitAt 6 = .ok (.iand, 1) := by decide +kernel
theorem d_Tape_bitAt_7 : decode b_Tape_bitAt 7 = .ok (.ireturn, 1) := by decide +kernel
theorem d_Tape_contextAt_0 : decode b_Tape_contextAt 0 = .ok (.aload_n 0, 1) := by decide +kernel
theorem d_Tape_contextAt_1 : decode b_Tape_contextAt 1 = .ok (.iload_n 1, 1) := by decide +kernel
theorem d_Tape_contextAt_2 : decode b_Tape_contextAt 2 = .ok (.invokevirtual 30, 3) := by decide +kernel
theorem d_Tape_contextAt_5 : decode b_Tape_contextAt 5 = .ok (.iconst 1, 1) := by decide +kernel
theorem d_Tape_contextAt_6 : decode b_Tape_contextAt 6 = .ok (.iushr, 1) := by decide +kernel
theorem d_Tape_contextAt_7 : decode b_Tape_contextAt 7 = .ok (.ldc 34, 2) := by decide +kernel
theorem d_Tape_contextAt_9 : decode b_Tape_contextAt 9 = .ok (.iand, 1) := by decide +kernel
theorem d_Tape_contextAt_10 : decode b_Tape_contextAt 10 = .ok (.ireturn, 1) := by decide +kernel
theorem d_Tape_rowAt_0 : decode b_Tape_rowAt 0 = .ok (.aload_n 0, 1) := by decide +kernel
theorem d_Tape_rowAt_1 : decode b_Tape_rowAt 1 = .ok (.iload_n 1, 1) := by decide +kernel
theorem d_Tape_rowAt_2 : decode b_Tape_rowAt 2 = .ok (.invokevirtual 30, 3) := by decide +kernel
theorem d_Tape_rowAt_5 : decode b_Tape_rowAt 5 = .ok (.bipush 18, 2) := by decide +kernel
theorem d_Tape_rowAt_7 : decode b_Tape_rowAt 7 = .ok (.iushr, 1) := by decide +kernel
theorem d_Tape_rowAt_8 : decode b_Tape_rowAt 8 = .ok (.ireturn, 1) := by decide +kernel
theorem d_Teller_init_0 : decode b_Teller_init 0 = .ok (.aload_n 0, 1) := by decide +kernel
theorem d_Teller_init_1 : decode b_Teller_init 1 = .ok (.invokespecial 3, 3) := by decide +kernel
theorem d_Teller_init_4 : decode b_Teller_init 4 = .ok (.aload_n 0, 1) := by decide +kernel
theorem d_Teller_init_5 : decode b_Teller_init 5 = .ok (.aload_n 1, 1) := by decide +kernel
theorem d_Teller_init_6 : decode b_Teller_init 6 = .ok (.putfield 9, 3) := by decide +kernel
theorem d_Teller_init_9 : decode b_Teller_init 9 = .ok (.aload_n 0, 1) := by decide +kernel
theorem d_Teller_init_10 : decode b_Teller_init 10 = .ok (.aload_n 2, 1) := by decide +kernel
theorem d_Teller_init_11 : decode b_Teller_init 11 = .ok (.putfield 15, 3) := by decide +kernel
theorem d_Teller_init_14 : decode b_Teller_init 14 = .ok (.aload_n 0, 1) := by decide +kernel
theorem d_Teller_init_15 : decode b_Teller_init 15 = .ok (.aload_n 3, 1) := by decide +kernel
theorem d_Teller_init_16 : decode b_Teller_init 16 = .ok (.putfield 18, 3) := by decide +kernel
theorem d_Teller_init_19 : decode b_Teller_init 19 = .ok (.aload_n 0, 1) := by decide +kernel
theorem d_Teller_init_20 : decode b_Teller_init 20 = .ok (.aload 4, 2) := by decide +kernel
theorem d_Teller_init_22 : decode b_Teller_init 22 = .ok (.putfield 22, 3) := by decide +kernel
theorem d_Teller_init_25 : decode b_Teller_init 25 = .ok (.aload_n 0, 1) := by decide +kernel
theorem d_Teller_init_26 : decode b_Teller_init 26 = .ok (.aload 5, 2) := by decide +kernel
theorem d_Teller_init_28 : decode b_Teller_init 28 = .ok (.putfield 26, 3) := by decide +kernel
theorem d_Teller_init_31 : decode b_Teller_init 31 = .ok (.aload_n 0, 1) := by decide +kernel
theorem d_Teller_init_32 : decode b_Teller_init 32 = .ok (.new 30, 3) := by decide +kernel
theorem d_Teller_init_35 : decode b_Teller_init 35 = .ok (.dup, 1) := by decide +kernel
theorem d_Teller_init_36 : decode b_Teller_init 36 = .ok (.aload_n 1, 1) := by decide +kernel
theorem d_Teller_init_37 : decode b_Teller_init 37 = .ok (.invokevirtual 32, 3) := by decide +kernel
theorem d_Teller_init_40 : decode b_Teller_init 40 = .ok (.aload_n 1, 1) := by decide +kernel
theorem d_Teller_init_41 : decode b_Teller_init 41 = .ok (.invokevirtual 36, 3) := by decide +kernel
theorem d_Teller_init_44 : decode b_Teller_init 44 = .ok (.invokespecial 39, 3) := by decide +kernel
theorem d_Teller_init_47 : decode b_Teller_init 47 = .ok (.putfield 42, 3) := by decide +kernel
theorem d_Teller_init_50 : decode b_Teller_init 50 = .ok (.aload_n 0, 1) := by decide +kernel
theorem d_Teller_init_51 : decode b_Teller_init 51 = .ok (.new 45, 3) := by decide +kernel
theorem d_Teller_init_54 : decode b_Teller_init 54 = .ok (.dup, 1) := by decide +kernel
theorem d_Teller_init_55 : decode b_Teller_init 55 = .ok (.aload_n 1, 1) := by decide +kernel
theorem d_Teller_init_56 : decode b_Teller_init 56 = .ok (.invokevirtual 32, 3) := by decide +kernel
theorem d_Teller_init_59 : decode b_Teller_init 59 = .ok (.invokespecial 47, 3) := by decide +kernel
theorem d_Teller_init_62 : decode b_Teller_init 62 = .ok (.putfield 50, 3) := by decide +kernel
theorem d_Teller_init_65 : decode b_Teller_init 65 = .ok (.return_, 1) := by decide +kernel
theorem d_Teller_copyCount_0 : decode b_Teller_copyCount 0 = .ok (.aload_n 0, 1) := by decide +kernel
theorem d_Teller_copyCount_1 : decode b_Teller_copyCount 1 = .ok (.getfield 54, 3) := by decide +kernel
theorem d_Teller_copyCount_4 : decode b_Teller_copyCount 4 = .ok (.ireturn, 1) := by decide +kernel
theorem d_Teller_forget_0 : decode b_Teller_forget 0 = .ok (.aload_n 0, 1) := by decide +kernel
theorem d_Teller_forget_1 : decode b_Teller_forget 1 = .ok (.iconst 0, 1) := by decide +kernel
theorem d_Teller_forget_2 : decode b_Teller_forget 2 = .ok (.putfield 54, 3) := by decide +kernel
theorem d_Teller_forget_5 : decode b_Teller_forget 5 = .ok (.aload_n 0, 1) := by decide +kernel
theorem d_Teller_forget_6 : decode b_Teller_forget 6 = .ok (.getfield 26, 3) := by decide +kernel
theorem d_Teller_forget_9 : decode b_Teller_forget 9 = .ok (.invokevirtual 58, 3) := by decide +kernel
theorem d_Teller_forget_12 : decode b_Teller_forget 12 = .ok (.return_, 1) := by decide +kernel
theorem d_Teller_look_0 : decode b_Teller_look 0 = .ok (.iconst 0, 1) := by decide +kernel
theorem d_Teller_look_1 : decode b_Teller_look 1 = .ok (.istore_n 1, 1) := by decide +kernel
theorem d_Teller_look_2 : decode b_Teller_look 2 = .ok (.iload_n 1, 1) := by decide +kernel
theorem d_Teller_look_3 : decode b_Teller_look 3 = .ok (.aload_n 0, 1) := by decide +kernel
theorem d_Teller_look_4 : decode b_Teller_look 4 = .ok (.getfield 42, 3) := by decide +kernel
theorem d_Teller_look_7 : decode b_Teller_look 7 = .ok (.invokevirtual 36, 3) := by decide +kernel
theorem d_Teller_look_10 : decode b_Teller_look 10 = .ok (.if_icmp .ge 52, 3) := by decide +kernel
theorem d_Teller_look_13 : decode b_Teller_look 13 = .ok (.aload_n 0, 1) := by decide +kernel
theorem d_Teller_look_14 : decode b_Teller_look 14 = .ok (.getfield 22, 3) := by decide +kernel
theorem d_Teller_look_17 : decode b_Teller_look 17 = .ok (.invokevirtual 63, 3) := by decide +kernel
theorem d_Teller_look_20 : decode b_Teller_look 20 = .ok (.ifCond .eq 7, 3) := by decide +kernel
theorem d_Teller_look_23 : decode b_Teller_look 23 = .ok (.iconst 0, 1) := by decide +kernel
theorem d_Teller_look_24 : decode b_Teller_look 24 = .ok (.goto 11, 3) := by decide +kernel
theorem d_Teller_look_27 : decode b_Teller_look 27 = .ok (.aload_n 0, 1) := by decide +kernel
theorem d_Teller_look_28 : decode b_Teller_look 28 = .ok (.getfield 15, 3) := by decide +kernel
theorem d_Teller_look_31 : decode b_Teller_look 31 = .ok (.iload_n 1, 1) := by decide +kernel
theorem d_Teller_look_32 : decode b_Teller_look 32 = .ok (.invokevirtual 69, 3) := by decide +kernel
theorem d_Teller_look_35 : decode b_Teller_look 35 = .ok (.istore_n 2, 1) := by decide +kernel
theorem d_Teller_look_36 : decode b_Teller_look 36 = .ok (.aload_n 0, 1) := by decide +kernel
theorem d_Teller_look_37 : decode b_Teller_look 37 = .ok (.getfield 42, 3) := by decide +kernel
theorem d_Teller_look_40 : decode b_Teller_look 40 = .ok (.iload_n 1, 1) := by decide +kernel
theorem d_Teller_look_41 : decode b_Teller_look 41 = .ok (.aload_n 0, 1) := by decide +kernel
theorem d_Teller_look_42 : decode b_Teller_look 42 = .ok (.getfield 9, 3) := by decide +kernel
theorem d_Teller_look_45 : decode b_Teller_look 45 = .ok (.iload_n 1, 1) := by decide +kernel
theorem d_Teller_look_46 : decode b_Teller_look 46 = .ok (.invokevirtual 69, 3) := by decide +kernel
theorem d_Teller_look_49 : decode b_Teller_look 49 = .ok (.iload_n 2, 1) := by decide +kernel
theorem d_Teller_look_50 : decode b_Teller_look 50 = .ok (.iconst (-1), 1) := by decide +kernel
theorem d_Teller_look_51 : decode b_Teller_look 51 = .ok (.ixor, 1) := by decide +kernel
theorem d_Teller_look_52 : decode b_Teller_look 52 = .ok (.iand, 1) := by decide +kernel
theorem d_Teller_look_53 : decode b_Teller_look 53 = .ok (.invokevirtual 73, 3) := by decide +kernel
theorem d_Teller_look_56 : decode b_Teller_look 56 = .ok (.iinc 1 1, 3) := by decide +kernel
theorem d_Teller_look_59 : decode b_Teller_look 59 = .ok (.goto (-57), 3) := by decide +kernel
theorem d_Teller_look_62 : decode b_Teller_look 62 = .ok (.return_, 1) := by decide +kernel
theorem d_Teller_contextOf_0 : decode b_Teller_contextOf 0 = .ok (.aload_n 0, 1) := by decide +kernel
theorem d_Teller_contextOf_1 : decode b_Teller_contextOf 1 = .ok (.getfield 18, 3) := by decide +kernel
theorem d_Teller_contextOf_4 : decode b_Teller_contextOf 4 = .ok (.aload_n 0, 1) := by decide +kernel
theorem d_Teller_contextOf_5 : decode b_Teller_contextOf 5 = .ok (.getfield 42, 3) := by decide +kernel
theorem d_Teller_contextOf_8 : decode b_Teller_contextOf 8 = .ok (.iload_n 1, 1) := by decide +kernel
theorem d_Teller_contextOf_9 : decode b_Teller_contextOf 9 = .ok (.iload_n 2, 1) := by decide +kernel
theorem d_Teller_contextOf_10 : decode b_Teller_contextOf 10 = .ok (.invokevirtual 76, 3) := by decide +kernel
theorem d_Teller_contextOf_13 : decode b_Teller_contextOf 13 = .ok (.ireturn, 1) := by decide +kernel
theorem d_JInt_numberOfLeadingZeros_0 : decode b_JInt_numberOfLeadingZeros 0 = .ok (.iload_n 0, 1) := by decide +kernel
theorem d_JInt_numberOfLeadingZeros_1 : decode b_JInt_numberOfLeadingZeros 1 = .ok (.ifCond .gt 14, 3) := by decide +kernel
theorem d_JInt_numberOfLeadingZeros_4 : decode b_JInt_numberOfLeadingZeros 4 = .ok (.iload_n 0, 1) := by decide +kernel
theorem d_JInt_numberOfLeadingZeros_5 : decode b_JInt_numberOfLeadingZeros 5 = .ok (.ifCond .ne 8, 3) := by decide +kernel
theorem d_JInt_numberOfLeadingZeros_8 : decode b_JInt_numberOfLeadingZeros 8 = .ok (.bipush 32, 2) := by decide +kernel
theorem d_JInt_numberOfLeadingZeros_10 : decode b_JInt_numberOfLeadingZeros 10 = .ok (.goto 4, 3) := by decide +kernel
theorem d_JInt_numberOfLeadingZeros_13 : decode b_JInt_numberOfLeadingZeros 13 = .ok (.iconst 0, 1) := by decide +kernel
theorem d_JInt_numberOfLeadingZeros_14 : decode b_JInt_numberOfLeadingZeros 14 = .ok (.ireturn, 1) := by decide +kernel
theorem d_JInt_numberOfLeadingZeros_15 : decode b_JInt_numberOfLeadingZeros 15 = .ok (.bipush 31, 2) := by decide +kernel
theorem d_JInt_numberOfLeadingZeros_17 : decode b_JInt_numberOfLeadingZeros 17 = .ok (.istore_n 1, 1) := by decide +kernel
theorem d_JInt_numberOfLeadingZeros_18 : decode b_JInt_numberOfLeadingZeros 18 = .ok (.iload_n 0, 1) := by decide +kernel
theorem d_JInt_numberOfLeadingZeros_19 : decode b_JInt_numberOfLeadingZeros 19 = .ok (.ldc_w 264, 3) := by decide +kernel
theorem d_JInt_numberOfLeadingZeros_22 : decode b_JInt_numberOfLeadingZeros 22 = .ok (.if_icmp .lt 11, 3) := by decide +kernel
theorem d_JInt_numberOfLeadingZeros_25 : decode b_JInt_numberOfLeadingZeros 25 = .ok (.iinc 1 (-16), 3) := by decide +kernel
theorem d_JInt_numberOfLeadingZeros_28 : decode b_JInt_numberOfLeadingZeros 28 = .ok (.iload_n 0, 1) := by decide +kernel
theorem d_JInt_numberOfLeadingZeros_29 : decode b_JInt_numberOfLeadingZeros 29 = .ok (.bipush 16, 2) := by decide +kernel
theorem d_JInt_numberOfLeadingZeros_31 : decode b_JInt_numberOfLeadingZeros 31 = .ok (.iushr, 1) := by decide +kernel
theorem d_JInt_numberOfLeadingZeros_32 : decode b_JInt_numberOfLeadingZeros 32 = .ok (.istore_n 0, 1) := by decide +kernel
theorem d_JInt_numberOfLeadingZeros_33 : decode b_JInt_numberOfLeadingZeros 33 = .ok (.iload_n 0, 1) := by decide +kernel
theorem d_JInt_numberOfLeadingZeros_34 : decode b_JInt_numberOfLeadingZeros 34 = .ok (.sipush 256, 3) := by decide +kernel
theorem d_JInt_numberOfLeadingZeros_37 : decode b_JInt_numberOfLeadingZeros 37 = .ok (.if_icmp .lt 11, 3) := by decide +kernel
theorem d_JInt_numberOfLeadingZeros_40 : decode b_JInt_numberOfLeadingZeros 40 = .ok (.iinc 1 (-8), 3) := by decide +kernel
theorem d_JInt_numberOfLeadingZeros_43 : decode b_JInt_numberOfLeadingZeros 43 = .ok (.iload_n 0, 1) := by decide +kernel
theorem d_JInt_numberOfLeadingZeros_44 : decode b_JInt_numberOfLeadingZeros 44 = .ok (.bipush 8, 2) := by decide +kernel
theorem d_JInt_numberOfLeadingZeros_46 : decode b_JInt_numberOfLeadingZeros 46 = .ok (.iushr, 1) := by decide +kernel
theorem d_JInt_numberOfLeadingZeros_47 : decode b_JInt_numberOfLeadingZeros 47 = .ok (.istore_n 0, 1) := by decide +kernel
theorem d_JInt_numberOfLeadingZeros_48 : decode b_JInt_numberOfLeadingZeros 48 = .ok (.iload_n 0, 1) := by decide +kernel
theorem d_JInt_numberOfLeadingZeros_49 : decode b_JInt_numberOfLeadingZeros 49 = .ok (.bipush 16, 2) := by decide +kernel
theorem d_JInt_numberOfLeadingZeros_51 : decode b_JInt_numberOfLeadingZeros 51 = .ok (.if_icmp .lt 10, 3) := by decide +kernel
theorem d_JInt_numberOfLeadingZeros_54 : decode b_JInt_numberOfLeadingZeros 54 = .ok (.iinc 1 (-4), 3) := by decide +kernel
theorem d_JInt_numberOfLeadingZeros_57 : decode b_JInt_numberOfLeadingZeros 57 = .ok (.iload_n 0, 1) := by decide +kernel
theorem d_JInt_numberOfLeadingZeros_58 : decode b_JInt_numberOfLeadingZeros 58 = .ok (.iconst 4, 1) := by decide +kernel
theorem d_JInt_numberOfLeadingZeros_59 : decode b_JInt_numberOfLeadingZeros 59 = .ok (.iushr, 1) := by decide +kernel
theorem d_JInt_numberOfLeadingZeros_60 : decode b_JInt_numberOfLeadingZeros 60 = .ok (.istore_n 0, 1) := by decide +kernel
theorem d_JInt_numberOfLeadingZeros_61 : decode b_JInt_numberOfLeadingZeros 61 = .ok (.iload_n 0, 1) := by decide +kernel
theorem d_JInt_numberOfLeadingZeros_62 : decode b_JInt_numberOfLeadingZeros 62 = .ok (.iconst 4, 1) := by decide +kernel
theorem d_JInt_numberOfLeadingZeros_63 : decode b_JInt_numberOfLeadingZeros 63 = .ok (.if_icmp .lt 10, 3) := by decide +kernel
theorem d_JInt_numberOfLeadingZeros_66 : decode b_JInt_numberOfLeadingZeros 66 = .ok (.iinc 1 (-2), 3) := by decide +kernel
theorem d_JInt_numberOfLeadingZeros_69 : decode b_JInt_numberOfLeadingZeros 69 = .ok (.iload_n 0, 1) := by decide +kernel
theorem d_JInt_numberOfLeadingZeros_70 : decode b_JInt_numberOfLeadingZeros 70 = .ok (.iconst 2, 1) := by decide +kernel
theorem d_JInt_numberOfLeadingZeros_71 : decode b_JInt_numberOfLeadingZeros 71 = .ok (.iushr, 1) := by decide +kernel
theorem d_JInt_numberOfLeadingZeros_72 : decode b_JInt_numberOfLeadingZeros 72 = .ok (.istore_n 0, 1) := by decide +kernel
theorem d_JInt_numberOfLeadingZeros_73 : decode b_JInt_numberOfLeadingZeros 73 = .ok (.iload_n 1, 1) := by decide +kernel
theorem d_JInt_numberOfLeadingZeros_74 : decode b_JInt_numberOfLeadingZeros 74 = .ok (.iload_n 0, 1) := by decide +kernel
theorem d_JInt_numberOfLeadingZeros_75 : decode b_JInt_numberOfLeadingZeros 75 = .ok (.iconst 1, 1) := by decide +kernel
theorem d_JInt_numberOfLeadingZeros_76 : decode b_JInt_numberOfLeadingZeros 76 = .ok (.iushr, 1) := by decide +kernel
theorem d_JInt_numberOfLeadingZeros_77 : decode b_JInt_numberOfLeadingZeros 77 = .ok (.isub, 1) := by decide +kernel
theorem d_JInt_numberOfLeadingZeros_78 : decode b_JInt_numberOfLeadingZeros 78 = .ok (.ireturn, 1) := by decide +kernel
theorem d_Teller_numberLength_0 : decode b_Teller_numberLength 0 = .ok (.bipush 32, 2) := by decide +kernel
theorem d_Teller_numberLength_2 : decode b_Teller_numberLength 2 = .ok (.iload_n 0, 1) := by decide +kernel
theorem d_Teller_numberLength_3 : decode b_Teller_numberLength 3 = .ok (.iconst 1, 1) := by decide +kernel
theorem d_Teller_numberLength_4 : decode b_Teller_numberLength 4 = .ok (.iadd, 1) := by decide +kernel
theorem d_Teller_numberLength_5 : decode b_Teller_numberLength 5 = .ok (.invokestatic 169, 3) := by decide +kernel
theorem d_Teller_numberLength_8 : decode b_Teller_numberLength 8 = .ok (.isub, 1) := by decide +kernel
theorem d_Teller_numberLength_9 : decode b_Teller_numberLength 9 = .ok (.istore_n 1, 1) := by decide +kernel
theorem d_Teller_numberLength_10 : decode b_Teller_numberLength 10 = .ok (.iconst 2, 1) := by decide +kernel
theorem d_Teller_numberLength_11 : decode b_Teller_numberLength 11 = .ok (.iload_n 1, 1) := by decide +kernel
theorem d_Teller_numberLength_12 : decode b_Teller_numberLength 12 = .ok (.imul, 1) := by decide +kernel
theorem d_Teller_numberLength_13 : decode b_Teller_numberLength 13 = .ok (.iconst 1, 1) := by decide +kernel
theorem d_Teller_numberLength_14 : decode b_Teller_numberLength 14 = .ok (.isub, 1) := by decide +kernel
theorem d_Teller_numberLength_15 : decode b_Teller_numberLength 15 = .ok (.ireturn, 1) := by decide +kernel
theorem d_Teller_tellRuns_0 : decode b_Teller_tellRuns 0 = .ok (.aload_n 0, 1) := by decide +kernel
theorem d_Teller_tellRuns_1 : decode b_Teller_tellRuns 1 = .ok (.getfield 50, 3) := by decide +kernel
theorem d_Teller_tellRuns_4 : decode b_Teller_tellRuns 4 = .ok (.iload_n 1, 1) := by decide +kernel
theorem d_Teller_tellRuns_5 : decode b_Teller_tellRuns 5 = .ok (.aload_n 0, 1) := by decide +kernel
theorem d_Teller_tellRuns_6 : decode b_Teller_tellRuns 6 = .ok (.getfield 42, 3) := by decide +kernel
theorem d_Teller_tellRuns_9 : decode b_Teller_tellRuns 9 = .ok (.iload_n 2, 1) := by decide +kernel
theorem d_Teller_tellRuns_10 : decode b_Teller_tellRuns 10 = .ok (.invokevirtual 69, 3) := by decide +kernel
theorem d_Teller_tellRuns_13 : decode b_Teller_tellRuns 13 = .ok (.aload_n 0, 1) := by decide +kernel
theorem d_Teller_tellRuns_14 : decode b_Teller_tellRuns 14 = .ok (.getfield 50, 3) := by decide +kernel
theorem d_Teller_tellRuns_17 : decode b_Teller_tellRuns 17 = .ok (.invokevirtual 134, 3) := by decide +kernel
theorem d_Teller_tellRuns_20 : decode b_Teller_tellRuns 20 = .ok (.invokevirtual 137, 3) := by decide +kernel
theorem d_Teller_tellRuns_23 : decode b_Teller_tellRuns 23 = .ok (.istore_n 3, 1) := by decide +kernel
theorem d_Teller_tellRuns_24 : decode b_Teller_tellRuns 24 = .ok (.aload_n 0, 1) := by decide +kernel
theorem d_Teller_tellRuns_25 : decode b_Teller_tellRuns 25 = .ok (.getfield 26, 3) := by decide +kernel
theorem d_Teller_tellRuns_28 : decode b_Teller_tellRuns 28 = .ok (.iconst 1, 1) := by decide +kernel
theorem d_Teller_tellRuns_29 : decode b_Teller_tellRuns 29 = .ok (.iconst 3, 1) := by decide +kernel
theorem d_Teller_tellRuns_30 : decode b_Teller_tellRuns 30 = .ok (.iload_n 2, 1) := by decide +kernel
theorem d_Teller_tellRuns_31 : decode b_Teller_tellRuns 31 = .ok (.invokevirtual 141, 3) := by decide +kernel
theorem d_Teller_tellRuns_34 : decode b_Teller_tellRuns 34 = .ok (.iload_n 1, 1) := by decide +kernel
theorem d_Teller_tellRuns_35 : decode b_Teller_tellRuns 35 = .ok (.aload_n 0, 1) := by decide +kernel
theorem d_Teller_tellRuns_36 : decode b_Teller_tellRuns 36 = .ok (.getfield 50, 3) := by decide +kernel
theorem d_Teller_tellRuns_39 : decode b_Teller_tellRuns 39 = .ok (.invokevirtual 131, 3) := by decide +kernel
theorem d_Teller_tellRuns_42 : decode b_Teller_tellRuns 42 = .ok (.iconst 0, 1) := by decide +kernel
theorem d_Teller_tellRuns_43 : decode b_Teller_tellRuns 43 = .ok (.invokestatic 160, 3) := by decide +kernel
theorem d_Teller_tellRuns_46 : decode b_Teller_tellRuns 46 = .ok (.isub, 1) := by decide +kernel
theorem d_Teller_tellRuns_47 : decode b_Teller_tellRuns 47 = .ok (.istore 4, 2) := by decide +kernel
theorem d_Teller_tellRuns_49 : decode b_Teller_tellRuns 49 = .ok (.aload_n 0, 1) := by decide +kernel
theorem d_Teller_tellRuns_50 : decode b_Teller_tellRuns 50 = .ok (.getfield 26, 3) := by decide +kernel
theorem d_Teller_tellRuns_53 : decode b_Teller_tellRuns 53 = .ok (.iload 4, 2) := by decide +kernel
theorem d_Teller_tellRuns_55 : decode b_Teller_tellRuns 55 = .ok (.iconst 1, 1) := by decide +kernel
theorem d_Teller_tellRuns_56 : decode b_Teller_tellRuns 56 = .ok (.iadd, 1) := by decide +kernel
theorem d_Teller_tellRuns_57 : decode b_Teller_tellRuns 57 = .ok (.iload 4, 2) := by decide +kernel
theorem d_Teller_tellRuns_59 : decode b_Teller_tellRuns 59 = .ok (.invokestatic 166, 3) := by decide +kernel
theorem d_Teller_tellRuns_62 : decode b_Teller_tellRuns 62 = .ok (.iload_n 2, 1) := by decide +kernel
theorem d_Teller_tellRuns_63 : decode b_Teller_tellRuns 63 = .ok (.invokevirtual 141, 3) := by decide +kernel
theorem d_Teller_tellRuns_66 : decode b_Teller_tellRuns 66 = .ok (.iload_n 3, 1) := by decide +kernel
theorem d_Teller_tellRuns_67 : decode b_Teller_tellRuns 67 = .ok (.iload_n 1, 1) := by decide +kernel
theorem d_Teller_tellRuns_68 : decode b_Teller_tellRuns 68 = .ok (.isub, 1) := by decide +kernel
theorem d_Teller_tellRuns_69 : decode b_Teller_tellRuns 69 = .ok (.istore 5, 2) := by decide +kernel
theorem d_Teller_tellRuns_71 : decode b_Teller_tellRuns 71 = .ok (.aload_n 0, 1) := by decide +kernel
theorem d_Teller_tellRuns_72 : decode b_Teller_tellRuns 72 = .ok (.getfield 26, 3) := by decide +kernel
theorem d_Teller_tellRuns_75 : decode b_Teller_tellRuns 75 = .ok (.iload 5, 2) := by decide +kernel
theorem d_Teller_tellRuns_77 : decode b_Teller_tellRuns 77 = .ok (.iconst 1, 1) := by decide +kernel
theorem d_Teller_tellRuns_78 : decode b_Teller_tellRuns 78 = .ok (.iadd, 1) := by decide +kernel
theorem d_Teller_tellRuns_79 : decode b_Teller_tellRuns 79 = .ok (.iload 5, 2) := by decide +kernel
theorem d_Teller_tellRuns_81 : decode b_Teller_tellRuns 81 = .ok (.invokestatic 166, 3) := by decide +kernel
theorem d_Teller_tellRuns_84 : decode b_Teller_tellRuns 84 = .ok (.iload_n 2, 1) := by decide +kernel
theorem d_Teller_tellRuns_85 : decode b_Teller_tellRuns 85 = .ok (.invokevirtual 141, 3) := by decide +kernel
theorem d_Teller_tellRuns_88 : decode b_Teller_tellRuns 88 = .ok (.aload_n 0, 1) := by decide +kernel
theorem d_Teller_tellRuns_89 : decode b_Teller_tellRuns 89 = .ok (.getfield 50, 3) := by decide +kernel
theorem d_Teller_tellRuns_92 : decode b_Teller_tellRuns 92 = .ok (.iload_n 3, 1) := by decide +kernel
theorem d_Teller_tellRuns_93 : decode b_Teller_tellRuns 93 = .ok (.invokevirtual 144, 3) := by decide +kernel
theorem d_Teller_tellRuns_96 : decode b_Teller_tellRuns 96 = .ok (.return_, 1) := by decide +kernel
theorem d_Teller_tellStep_0 : decode b_Teller_tellStep 0 = .ok (.aload_n 0, 1) := by decide +kernel
theorem d_Teller_tellStep_1 : decode b_Teller_tellStep 1 = .ok (.getfield 50, 3) := by decide +kernel
theorem d_Teller_tellStep_4 : decode b_Teller_tellStep 4 = .ok (.invokevirtual 125, 3) := by decide +kernel
theorem d_Teller_tellStep_7 : decode b_Teller_tellStep 7 = .ok (.istore_n 2, 1) := by decide +kernel
theorem d_Teller_tellStep_8 : decode b_Teller_tellStep 8 = .ok (.aload_n 0, 1) := by decide +kernel
theorem d_Teller_tellStep_9 : decode b_Teller_tellStep 9 = .ok (.getfield 50, 3) := by decide +kernel
theorem d_Teller_tellStep_12 : decode b_Teller_tellStep 12 = .ok (.iload_n 2, 1) := by decide +kernel
theorem d_Teller_tellStep_13 : decode b_Teller_tellStep 13 = .ok (.invokevirtual 128, 3) := by decide +kernel
theorem d_Teller_tellStep_16 : decode b_Teller_tellStep 16 = .ok (.istore_n 3, 1) := by decide +kernel
theorem d_Teller_tellStep_17 : decode b_Teller_tellStep 17 = .ok (.aload_n 0, 1) := by decide +kernel
theorem d_Teller_tellStep_18 : decode b_Teller_tellStep 18 = .ok (.getfield 50, 3) := by decide +kernel
theorem d_Teller_tellStep_21 : decode b_Teller_tellStep 21 = .ok (.aload_n 0, 1) := by decide +kernel
theorem d_Teller_tellStep_22 : decode b_Teller_tellStep 22 = .ok (.getfield 50, 3) := by decide +kernel
theorem d_Teller_tellStep_25 : decode b_Teller_tellStep 25 = .ok (.invokevirtual 131, 3) := by decide +kernel
theorem d_Teller_tellStep_28 : decode b_Teller_tellStep 28 = .ok (.aload_n 0, 1) := by decide +kernel
theorem d_Teller_tellStep_29 : decode b_Teller_tellStep 29 = .ok (.getfield 42, 3) := by decide +kernel
theorem d_Teller_tellStep_32 : decode b_Teller_tellStep 32 = .ok (.iload_n 1, 1) := by decide +kernel
theorem d_Teller_tellStep_33 : decode b_Teller_tellStep 33 = .ok (.invokevirtual 69, 3) := by decide +kernel
theorem d_Teller_tellStep_36 : decode b_Teller_tellStep 36 = .ok (.aload_n 0, 1) := by decide +kernel
theorem d_Teller_tellStep_37 : decode b_Teller_tellStep 37 = .ok (.getfield 50, 3) := by decide +kernel
theorem d_Teller_tellStep_40 : decode b_Teller_tellStep 40 = .ok (.invokevirtual 134, 3) := by decide +kernel
