theorem d_Teller_tellStep_43 : decode b_Teller_tellStep 43 = .ok (.ifCond .ne 7, 3) := by decide +kernel
theorem d_Teller_tellStep_46 : decode b_Teller_tellStep 46 = .ok (.iconst 1, 1) := by decide +kernel
theorem d_Teller_tellStep_47 : decode b_Teller_tellStep 47 = .ok (.goto 4, 3) := by decide +kernel
theorem d_Teller_tellStep_50 : decode b_Teller_tellStep 50 = .ok (.iconst 0, 1) := by decide +kernel
theorem d_Teller_tellStep_51 : decode b_Teller_tellStep 51 = .ok (.invokevirtual 137, 3) := by decide +kernel
theorem d_Teller_tellStep_54 : decode b_Teller_tellStep 54 = .ok (.istore 4, 2) := by decide +kernel
theorem d_Teller_tellStep_56 : decode b_Teller_tellStep 56 = .ok (.iload 4, 2) := by decide +kernel
theorem d_Teller_tellStep_58 : decode b_Teller_tellStep 58 = .ok (.iload_n 2, 1) := by decide +kernel
theorem d_Teller_tellStep_59 : decode b_Teller_tellStep 59 = .ok (.isub, 1) := by decide +kernel
theorem d_Teller_tellStep_60 : decode b_Teller_tellStep 60 = .ok (.iconst 3, 1) := by decide +kernel
theorem d_Teller_tellStep_61 : decode b_Teller_tellStep 61 = .ok (.iadd, 1) := by decide +kernel
theorem d_Teller_tellStep_62 : decode b_Teller_tellStep 62 = .ok (.istore 5, 2) := by decide +kernel
theorem d_Teller_tellStep_64 : decode b_Teller_tellStep 64 = .ok (.iload_n 3, 1) := by decide +kernel
theorem d_Teller_tellStep_65 : decode b_Teller_tellStep 65 = .ok (.iload 4, 2) := by decide +kernel
theorem d_Teller_tellStep_67 : decode b_Teller_tellStep 67 = .ok (.if_icmp .ge 24, 3) := by decide +kernel
theorem d_Teller_tellStep_70 : decode b_Teller_tellStep 70 = .ok (.aload_n 0, 1) := by decide +kernel
theorem d_Teller_tellStep_71 : decode b_Teller_tellStep 71 = .ok (.getfield 26, 3) := by decide +kernel
theorem d_Teller_tellStep_74 : decode b_Teller_tellStep 74 = .ok (.iconst 1, 1) := by decide +kernel
theorem d_Teller_tellStep_75 : decode b_Teller_tellStep 75 = .ok (.iconst 4, 1) := by decide +kernel
theorem d_Teller_tellStep_76 : decode b_Teller_tellStep 76 = .ok (.iload_n 1, 1) := by decide +kernel
theorem d_Teller_tellStep_77 : decode b_Teller_tellStep 77 = .ok (.invokevirtual 141, 3) := by decide +kernel
theorem d_Teller_tellStep_80 : decode b_Teller_tellStep 80 = .ok (.aload_n 0, 1) := by decide +kernel
theorem d_Teller_tellStep_81 : decode b_Teller_tellStep 81 = .ok (.getfield 50, 3) := by decide +kernel
theorem d_Teller_tellStep_84 : decode b_Teller_tellStep 84 = .ok (.iload_n 3, 1) := by decide +kernel
theorem d_Teller_tellStep_85 : decode b_Teller_tellStep 85 = .ok (.invokevirtual 144, 3) := by decide +kernel
theorem d_Teller_tellStep_88 : decode b_Teller_tellStep 88 = .ok (.goto 65, 3) := by decide +kernel
theorem d_Teller_tellStep_91 : decode b_Teller_tellStep 91 = .ok (.iload 5, 2) := by decide +kernel
theorem d_Teller_tellStep_93 : decode b_Teller_tellStep 93 = .ok (.ifCond .lt 53, 3) := by decide +kernel
theorem d_Teller_tellStep_96 : decode b_Teller_tellStep 96 = .ok (.iload 5, 2) := by decide +kernel
theorem d_Teller_tellStep_98 : decode b_Teller_tellStep 98 = .ok (.getstatic 147, 3) := by decide +kernel
theorem d_Teller_tellStep_101 : decode b_Teller_tellStep 101 = .ok (.arraylength, 1) := by decide +kernel
theorem d_Teller_tellStep_102 : decode b_Teller_tellStep 102 = .ok (.if_icmp .ge 44, 3) := by decide +kernel
theorem d_Teller_tellStep_105 : decode b_Teller_tellStep 105 = .ok (.iload 5, 2) := by decide +kernel
theorem d_Teller_tellStep_107 : decode b_Teller_tellStep 107 = .ok (.getstatic 151, 3) := by decide +kernel
theorem d_Teller_tellStep_110 : decode b_Teller_tellStep 110 = .ok (.arraylength, 1) := by decide +kernel
theorem d_Teller_tellStep_111 : decode b_Teller_tellStep 111 = .ok (.if_icmp .ge 35, 3) := by decide +kernel
theorem d_Teller_tellStep_114 : decode b_Teller_tellStep 114 = .ok (.aload_n 0, 1) := by decide +kernel
theorem d_Teller_tellStep_115 : decode b_Teller_tellStep 115 = .ok (.getfield 26, 3) := by decide +kernel
theorem d_Teller_tellStep_118 : decode b_Teller_tellStep 118 = .ok (.getstatic 147, 3) := by decide +kernel
theorem d_Teller_tellStep_121 : decode b_Teller_tellStep 121 = .ok (.iload 5, 2) := by decide +kernel
theorem d_Teller_tellStep_123 : decode b_Teller_tellStep 123 = .ok (.iaload, 1) := by decide +kernel
theorem d_Teller_tellStep_124 : decode b_Teller_tellStep 124 = .ok (.getstatic 151, 3) := by decide +kernel
theorem d_Teller_tellStep_127 : decode b_Teller_tellStep 127 = .ok (.iload 5, 2) := by decide +kernel
theorem d_Teller_tellStep_129 : decode b_Teller_tellStep 129 = .ok (.iaload, 1) := by decide +kernel
theorem d_Teller_tellStep_130 : decode b_Teller_tellStep 130 = .ok (.iload_n 1, 1) := by decide +kernel
theorem d_Teller_tellStep_131 : decode b_Teller_tellStep 131 = .ok (.invokevirtual 141, 3) := by decide +kernel
theorem d_Teller_tellStep_134 : decode b_Teller_tellStep 134 = .ok (.aload_n 0, 1) := by decide +kernel
theorem d_Teller_tellStep_135 : decode b_Teller_tellStep 135 = .ok (.getfield 50, 3) := by decide +kernel
theorem d_Teller_tellStep_138 : decode b_Teller_tellStep 138 = .ok (.iload 4, 2) := by decide +kernel
theorem d_Teller_tellStep_140 : decode b_Teller_tellStep 140 = .ok (.invokevirtual 154, 3) := by decide +kernel
theorem d_Teller_tellStep_143 : decode b_Teller_tellStep 143 = .ok (.goto 10, 3) := by decide +kernel
theorem d_Teller_tellStep_146 : decode b_Teller_tellStep 146 = .ok (.aload_n 0, 1) := by decide +kernel
theorem d_Teller_tellStep_147 : decode b_Teller_tellStep 147 = .ok (.iload 4, 2) := by decide +kernel
theorem d_Teller_tellStep_149 : decode b_Teller_tellStep 149 = .ok (.iload_n 1, 1) := by decide +kernel
theorem d_Teller_tellStep_150 : decode b_Teller_tellStep 150 = .ok (.invokevirtual 157, 3) := by decide +kernel
theorem d_Teller_tellStep_153 : decode b_Teller_tellStep 153 = .ok (.return_, 1) := by decide +kernel
theorem d_Teller_tellByFax_0 : decode b_Teller_tellByFax 0 = .ok (.aload_n 0, 1) := by decide +kernel
theorem d_Teller_tellByFax_1 : decode b_Teller_tellByFax 1 = .ok (.getfield 50, 3) := by decide +kernel
theorem d_Teller_tellByFax_4 : decode b_Teller_tellByFax 4 = .ok (.aload_n 0, 1) := by decide +kernel
theorem d_Teller_tellByFax_5 : decode b_Teller_tellByFax 5 = .ok (.getfield 42, 3) := by decide +kernel
theorem d_Teller_tellByFax_8 : decode b_Teller_tellByFax 8 = .ok (.iload_n 1, 1) := by decide +kernel
theorem d_Teller_tellByFax_9 : decode b_Teller_tellByFax 9 = .ok (.iconst 1, 1) := by decide +kernel
theorem d_Teller_tellByFax_10 : decode b_Teller_tellByFax 10 = .ok (.isub, 1) := by decide +kernel
theorem d_Teller_tellByFax_11 : decode b_Teller_tellByFax 11 = .ok (.invokevirtual 69, 3) := by decide +kernel
theorem d_Teller_tellByFax_14 : decode b_Teller_tellByFax 14 = .ok (.invokevirtual 116, 3) := by decide +kernel
theorem d_Teller_tellByFax_17 : decode b_Teller_tellByFax 17 = .ok (.iconst 0, 1) := by decide +kernel
theorem d_Teller_tellByFax_18 : decode b_Teller_tellByFax 18 = .ok (.istore_n 2, 1) := by decide +kernel
theorem d_Teller_tellByFax_19 : decode b_Teller_tellByFax 19 = .ok (.iload_n 2, 1) := by decide +kernel
theorem d_Teller_tellByFax_20 : decode b_Teller_tellByFax 20 = .ok (.aload_n 0, 1) := by decide +kernel
theorem d_Teller_tellByFax_21 : decode b_Teller_tellByFax 21 = .ok (.getfield 42, 3) := by decide +kernel
theorem d_Teller_tellByFax_24 : decode b_Teller_tellByFax 24 = .ok (.invokevirtual 32, 3) := by decide +kernel
theorem d_Teller_tellByFax_27 : decode b_Teller_tellByFax 27 = .ok (.if_icmp .gt 24, 3) := by decide +kernel
theorem d_Teller_tellByFax_30 : decode b_Teller_tellByFax 30 = .ok (.aload_n 0, 1) := by decide +kernel
theorem d_Teller_tellByFax_31 : decode b_Teller_tellByFax 31 = .ok (.getfield 50, 3) := by decide +kernel
theorem d_Teller_tellByFax_34 : decode b_Teller_tellByFax 34 = .ok (.invokevirtual 119, 3) := by decide +kernel
theorem d_Teller_tellByFax_37 : decode b_Teller_tellByFax 37 = .ok (.ifCond .ne 14, 3) := by decide +kernel
theorem d_Teller_tellByFax_40 : decode b_Teller_tellByFax 40 = .ok (.aload_n 0, 1) := by decide +kernel
theorem d_Teller_tellByFax_41 : decode b_Teller_tellByFax 41 = .ok (.iload_n 1, 1) := by decide +kernel
theorem d_Teller_tellByFax_42 : decode b_Teller_tellByFax 42 = .ok (.invokevirtual 122, 3) := by decide +kernel
theorem d_Teller_tellByFax_45 : decode b_Teller_tellByFax 45 = .ok (.iinc 2 1, 3) := by decide +kernel
theorem d_Teller_tellByFax_48 : decode b_Teller_tellByFax 48 = .ok (.goto (-29), 3) := by decide +kernel
theorem d_Teller_tellByFax_51 : decode b_Teller_tellByFax 51 = .ok (.return_, 1) := by decide +kernel
theorem d_Teller_tellSamples_0 : decode b_Teller_tellSamples 0 = .ok (.iconst 0, 1) := by decide +kernel
theorem d_Teller_tellSamples_1 : decode b_Teller_tellSamples 1 = .ok (.istore_n 2, 1) := by decide +kernel
theorem d_Teller_tellSamples_2 : decode b_Teller_tellSamples 2 = .ok (.iload_n 2, 1) := by decide +kernel
theorem d_Teller_tellSamples_3 : decode b_Teller_tellSamples 3 = .ok (.aload_n 0, 1) := by decide +kernel
theorem d_Teller_tellSamples_4 : decode b_Teller_tellSamples 4 = .ok (.getfield 42, 3) := by decide +kernel
theorem d_Teller_tellSamples_7 : decode b_Teller_tellSamples 7 = .ok (.invokevirtual 32, 3) := by decide +kernel
theorem d_Teller_tellSamples_10 : decode b_Teller_tellSamples 10 = .ok (.if_icmp .ge 59, 3) := by decide +kernel
theorem d_Teller_tellSamples_13 : decode b_Teller_tellSamples 13 = .ok (.aload_n 0, 1) := by decide +kernel
theorem d_Teller_tellSamples_14 : decode b_Teller_tellSamples 14 = .ok (.getfield 15, 3) := by decide +kernel
theorem d_Teller_tellSamples_17 : decode b_Teller_tellSamples 17 = .ok (.iload_n 2, 1) := by decide +kernel
theorem d_Teller_tellSamples_18 : decode b_Teller_tellSamples 18 = .ok (.iload_n 1, 1) := by decide +kernel
theorem d_Teller_tellSamples_19 : decode b_Teller_tellSamples 19 = .ok (.invokevirtual 112, 3) := by decide +kernel
theorem d_Teller_tellSamples_22 : decode b_Teller_tellSamples 22 = .ok (.ifCond .ne 41, 3) := by decide +kernel
theorem d_Teller_tellSamples_25 : decode b_Teller_tellSamples 25 = .ok (.aload_n 0, 1) := by decide +kernel
theorem d_Teller_tellSamples_26 : decode b_Teller_tellSamples 26 = .ok (.getfield 26, 3) := by decide +kernel
theorem d_Teller_tellSamples_29 : decode b_Teller_tellSamples 29 = .ok (.aload_n 0, 1) := by decide +kernel
theorem d_Teller_tellSamples_30 : decode b_Teller_tellSamples 30 = .ok (.getfield 42, 3) := by decide +kernel
theorem d_Teller_tellSamples_33 : decode b_Teller_tellSamples 33 = .ok (.iload_n 2, 1) := by decide +kernel
theorem d_Teller_tellSamples_34 : decode b_Teller_tellSamples 34 = .ok (.iload_n 1, 1) := by decide +kernel
theorem d_Teller_tellSamples_35 : decode b_Teller_tellSamples 35 = .ok (.invokevirtual 112, 3) := by decide +kernel
theorem d_Teller_tellSamples_38 : decode b_Teller_tellSamples 38 = .ok (.ifCond .eq 7, 3) := by decide +kernel
theorem d_Teller_tellSamples_41 : decode b_Teller_tellSamples 41 = .ok (.iconst 1, 1) := by decide +kernel
theorem d_Teller_tellSamples_42 : decode b_Teller_tellSamples 42 = .ok (.goto 4, 3) := by decide +kernel
theorem d_Teller_tellSamples_45 : decode b_Teller_tellSamples 45 = .ok (.iconst 0, 1) := by decide +kernel
theorem d_Teller_tellSamples_46 : decode b_Teller_tellSamples 46 = .ok (.aload_n 0, 1) := by decide +kernel
theorem d_Teller_tellSamples_47 : decode b_Teller_tellSamples 47 = .ok (.getfield 18, 3) := by decide +kernel
theorem d_Teller_tellSamples_50 : decode b_Teller_tellSamples 50 = .ok (.aload_n 0, 1) := by decide +kernel
theorem d_Teller_tellSamples_51 : decode b_Teller_tellSamples 51 = .ok (.getfield 42, 3) := by decide +kernel
theorem d_Teller_tellSamples_54 : decode b_Teller_tellSamples 54 = .ok (.iload_n 2, 1) := by decide +kernel
theorem d_Teller_tellSamples_55 : decode b_Teller_tellSamples 55 = .ok (.iload_n 1, 1) := by decide +kernel
theorem d_Teller_tellSamples_56 : decode b_Teller_tellSamples 56 = .ok (.invokevirtual 76, 3) := by decide +kernel
theorem d_Teller_tellSamples_59 : decode b_Teller_tellSamples 59 = .ok (.iload_n 1, 1) := by decide +kernel
theorem d_Teller_tellSamples_60 : decode b_Teller_tellSamples 60 = .ok (.invokevirtual 92, 3) := by decide +kernel
theorem d_Teller_tellSamples_63 : decode b_Teller_tellSamples 63 = .ok (.iinc 2 1, 3) := by decide +kernel
theorem d_Teller_tellSamples_66 : decode b_Teller_tellSamples 66 = .ok (.goto (-64), 3) := by decide +kernel
theorem d_Teller_tellSamples_69 : decode b_Teller_tellSamples 69 = .ok (.return_, 1) := by decide +kernel
theorem d_Teller_tellBySamples_0 : decode b_Teller_tellBySamples 0 = .ok (.aload_n 0, 1) := by decide +kernel
theorem d_Teller_tellBySamples_1 : decode b_Teller_tellBySamples 1 = .ok (.getfield 22, 3) := by decide +kernel
theorem d_Teller_tellBySamples_4 : decode b_Teller_tellBySamples 4 = .ok (.invokevirtual 103, 3) := by decide +kernel
theorem d_Teller_tellBySamples_7 : decode b_Teller_tellBySamples 7 = .ok (.ifCond .eq 28, 3) := by decide +kernel
theorem d_Teller_tellBySamples_10 : decode b_Teller_tellBySamples 10 = .ok (.aload_n 0, 1) := by decide +kernel
theorem d_Teller_tellBySamples_11 : decode b_Teller_tellBySamples 11 = .ok (.getfield 42, 3) := by decide +kernel
theorem d_Teller_tellBySamples_14 : decode b_Teller_tellBySamples 14 = .ok (.iload_n 1, 1) := by decide +kernel
theorem d_Teller_tellBySamples_15 : decode b_Teller_tellBySamples 15 = .ok (.invokevirtual 69, 3) := by decide +kernel
theorem d_Teller_tellBySamples_18 : decode b_Teller_tellBySamples 18 = .ok (.aload_n 0, 1) := by decide +kernel
theorem d_Teller_tellBySamples_19 : decode b_Teller_tellBySamples 19 = .ok (.getfield 42, 3) := by decide +kernel
theorem d_Teller_tellBySamples_22 : decode b_Teller_tellBySamples 22 = .ok (.iload_n 1, 1) := by decide +kernel
theorem d_Teller_tellBySamples_23 : decode b_Teller_tellBySamples 23 = .ok (.iconst 1, 1) := by decide +kernel
theorem d_Teller_tellBySamples_24 : decode b_Teller_tellBySamples 24 = .ok (.isub, 1) := by decide +kernel
theorem d_Teller_tellBySamples_25 : decode b_Teller_tellBySamples 25 = .ok (.invokevirtual 69, 3) := by decide +kernel
theorem d_Teller_tellBySamples_28 : decode b_Teller_tellBySamples 28 = .ok (.if_icmp .ne 7, 3) := by decide +kernel
theorem d_Teller_tellBySamples_31 : decode b_Teller_tellBySamples 31 = .ok (.iconst 1, 1) := by decide +kernel
theorem d_Teller_tellBySamples_32 : decode b_Teller_tellBySamples 32 = .ok (.goto 4, 3) := by decide +kernel
theorem d_Teller_tellBySamples_35 : decode b_Teller_tellBySamples 35 = .ok (.iconst 0, 1) := by decide +kernel
theorem d_Teller_tellBySamples_36 : decode b_Teller_tellBySamples 36 = .ok (.istore_n 3, 1) := by decide +kernel
theorem d_Teller_tellBySamples_37 : decode b_Teller_tellBySamples 37 = .ok (.aload_n 0, 1) := by decide +kernel
theorem d_Teller_tellBySamples_38 : decode b_Teller_tellBySamples 38 = .ok (.getfield 22, 3) := by decide +kernel
theorem d_Teller_tellBySamples_41 : decode b_Teller_tellBySamples 41 = .ok (.invokevirtual 103, 3) := by decide +kernel
theorem d_Teller_tellBySamples_44 : decode b_Teller_tellBySamples 44 = .ok (.ifCond .eq 28, 3) := by decide +kernel
theorem d_Teller_tellBySamples_47 : decode b_Teller_tellBySamples 47 = .ok (.aload_n 0, 1) := by decide +kernel
theorem d_Teller_tellBySamples_48 : decode b_Teller_tellBySamples 48 = .ok (.getfield 26, 3) := by decide +kernel
theorem d_Teller_tellBySamples_51 : decode b_Teller_tellBySamples 51 = .ok (.iload_n 3, 1) := by decide +kernel
theorem d_Teller_tellBySamples_52 : decode b_Teller_tellBySamples 52 = .ok (.iload_n 2, 1) := by decide +kernel
theorem d_Teller_tellBySamples_53 : decode b_Teller_tellBySamples 53 = .ok (.if_icmp .eq 7, 3) := by decide +kernel
theorem d_Teller_tellBySamples_56 : decode b_Teller_tellBySamples 56 = .ok (.iconst 1, 1) := by decide +kernel
theorem d_Teller_tellBySamples_57 : decode b_Teller_tellBySamples 57 = .ok (.goto 4, 3) := by decide +kernel
theorem d_Teller_tellBySamples_60 : decode b_Teller_tellBySamples 60 = .ok (.iconst 0, 1) := by decide +kernel
theorem d_Teller_tellBySamples_61 : decode b_Teller_tellBySamples 61 = .ok (.aload_n 0, 1) := by decide +kernel
theorem d_Teller_tellBySamples_62 : decode b_Teller_tellBySamples 62 = .ok (.getfield 18, 3) := by decide +kernel
theorem d_Teller_tellBySamples_65 : decode b_Teller_tellBySamples 65 = .ok (.invokevirtual 106, 3) := by decide +kernel
theorem d_Teller_tellBySamples_68 : decode b_Teller_tellBySamples 68 = .ok (.iload_n 1, 1) := by decide +kernel
theorem d_Teller_tellBySamples_69 : decode b_Teller_tellBySamples 69 = .ok (.invokevirtual 92, 3) := by decide +kernel
theorem d_Teller_tellBySamples_72 : decode b_Teller_tellBySamples 72 = .ok (.iload_n 3, 1) := by decide +kernel
theorem d_Teller_tellBySamples_73 : decode b_Teller_tellBySamples 73 = .ok (.ifCond .eq 16, 3) := by decide +kernel
theorem d_Teller_tellBySamples_76 : decode b_Teller_tellBySamples 76 = .ok (.aload_n 0, 1) := by decide +kernel
theorem d_Teller_tellBySamples_77 : decode b_Teller_tellBySamples 77 = .ok (.dup, 1) := by decide +kernel
theorem d_Teller_tellBySamples_78 : decode b_Teller_tellBySamples 78 = .ok (.getfield 54, 3) := by decide +kernel
theorem d_Teller_tellBySamples_81 : decode b_Teller_tellBySamples 81 = .ok (.iconst 1, 1) := by decide +kernel
theorem d_Teller_tellBySamples_82 : decode b_Teller_tellBySamples 82 = .ok (.iadd, 1) := by decide +kernel
theorem d_Teller_tellBySamples_83 : decode b_Teller_tellBySamples 83 = .ok (.putfield 54, 3) := by decide +kernel
theorem d_Teller_tellBySamples_86 : decode b_Teller_tellBySamples 86 = .ok (.goto 8, 3) := by decide +kernel
theorem d_Teller_tellBySamples_89 : decode b_Teller_tellBySamples 89 = .ok (.aload_n 0, 1) := by decide +kernel
theorem d_Teller_tellBySamples_90 : decode b_Teller_tellBySamples 90 = .ok (.iload_n 1, 1) := by decide +kernel
theorem d_Teller_tellBySamples_91 : decode b_Teller_tellBySamples 91 = .ok (.invokevirtual 109, 3) := by decide +kernel
theorem d_Teller_tellBySamples_94 : decode b_Teller_tellBySamples 94 = .ok (.iload_n 3, 1) := by decide +kernel
theorem d_Teller_tellBySamples_95 : decode b_Teller_tellBySamples 95 = .ok (.ireturn, 1) := by decide +kernel
theorem d_Teller_tellAll_0 : decode b_Teller_tellAll 0 = .ok (.aload_n 0, 1) := by decide +kernel
theorem d_Teller_tellAll_1 : decode b_Teller_tellAll 1 = .ok (.invokevirtual 82, 3) := by decide +kernel
theorem d_Teller_tellAll_4 : decode b_Teller_tellAll 4 = .ok (.aload_n 0, 1) := by decide +kernel
theorem d_Teller_tellAll_5 : decode b_Teller_tellAll 5 = .ok (.invokevirtual 85, 3) := by decide +kernel
theorem d_Teller_tellAll_8 : decode b_Teller_tellAll 8 = .ok (.iconst 0, 1) := by decide +kernel
theorem d_Teller_tellAll_9 : decode b_Teller_tellAll 9 = .ok (.istore_n 1, 1) := by decide +kernel
theorem d_Teller_tellAll_10 : decode b_Teller_tellAll 10 = .ok (.iconst 0, 1) := by decide +kernel
theorem d_Teller_tellAll_11 : decode b_Teller_tellAll 11 = .ok (.istore_n 2, 1) := by decide +kernel
theorem d_Teller_tellAll_12 : decode b_Teller_tellAll 12 = .ok (.iload_n 2, 1) := by decide +kernel
theorem d_Teller_tellAll_13 : decode b_Teller_tellAll 13 = .ok (.aload_n 0, 1) := by decide +kernel
theorem d_Teller_tellAll_14 : decode b_Teller_tellAll 14 = .ok (.getfield 42, 3) := by decide +kernel
theorem d_Teller_tellAll_17 : decode b_Teller_tellAll 17 = .ok (.invokevirtual 36, 3) := by decide +kernel
theorem d_Teller_tellAll_20 : decode b_Teller_tellAll 20 = .ok (.if_icmp .ge 55, 3) := by decide +kernel
theorem d_Teller_tellAll_23 : decode b_Teller_tellAll 23 = .ok (.aload_n 0, 1) := by decide +kernel
theorem d_Teller_tellAll_24 : decode b_Teller_tellAll 24 = .ok (.getfield 22, 3) := by decide +kernel
theorem d_Teller_tellAll_27 : decode b_Teller_tellAll 27 = .ok (.invokevirtual 88, 3) := by decide +kernel
theorem d_Teller_tellAll_30 : decode b_Teller_tellAll 30 = .ok (.ifCond .eq 14, 3) := by decide +kernel
theorem d_Teller_tellAll_33 : decode b_Teller_tellAll 33 = .ok (.aload_n 0, 1) := by decide +kernel
theorem d_Teller_tellAll_34 : decode b_Teller_tellAll 34 = .ok (.getfield 26, 3) := by decide +kernel
theorem d_Teller_tellAll_37 : decode b_Teller_tellAll 37 = .ok (.iconst 0, 1) := by decide +kernel
theorem d_Teller_tellAll_38 : decode b_Teller_tellAll 38 = .ok (.ldc 91, 2) := by decide +kernel
theorem d_Teller_tellAll_40 : decode b_Teller_tellAll 40 = .ok (.iload_n 2, 1) := by decide +kernel
theorem d_Teller_tellAll_41 : decode b_Teller_tellAll 41 = .ok (.invokevirtual 92, 3) := by decide +kernel
theorem d_Teller_tellAll_44 : decode b_Teller_tellAll 44 = .ok (.aload_n 0, 1) := by decide +kernel
theorem d_Teller_tellAll_45 : decode b_Teller_tellAll 45 = .ok (.getfield 22, 3) := by decide +kernel
theorem d_Teller_tellAll_48 : decode b_Teller_tellAll 48 = .ok (.invokevirtual 63, 3) := by decide +kernel
theorem d_Teller_tellAll_51 : decode b_Teller_tellAll 51 = .ok (.ifCond .eq 11, 3) := by decide +kernel
theorem d_Teller_tellAll_54 : decode b_Teller_tellAll 54 = .ok (.aload_n 0, 1) := by decide +kernel
theorem d_Teller_tellAll_55 : decode b_Teller_tellAll 55 = .ok (.iload_n 2, 1) := by decide +kernel
theorem d_Teller_tellAll_56 : decode b_Teller_tellAll 56 = .ok (.invokevirtual 96, 3) := by decide +kernel
theorem d_Teller_tellAll_59 : decode b_Teller_tellAll 59 = .ok (.goto 10, 3) := by decide +kernel
theorem d_Teller_tellAll_62 : decode b_Teller_tellAll 62 = .ok (.aload_n 0, 1) := by decide +kernel
theorem d_Teller_tellAll_63 : decode b_Teller_tellAll 63 = .ok (.iload_n 2, 1) := by decide +kernel
theorem d_Teller_tellAll_64 : decode b_Teller_tellAll 64 = .ok (.iload_n 1, 1) := by decide +kernel
theorem d_Teller_tellAll_65 : decode b_Teller_tellAll 65 = .ok (.invokevirtual 99, 3) := by decide +kernel
theorem d_Teller_tellAll_68 : decode b_Teller_tellAll 68 = .ok (.istore_n 1, 1) := by decide +kernel
theorem d_Teller_tellAll_69 : decode b_Teller_tellAll 69 = .ok (.iinc 2 1, 3) := by decide +kernel
theorem d_Teller_tellAll_72 : decode b_Teller_tellAll 72 = .ok (.goto (-60), 3) := by decide +kernel
theorem d_Teller_tellAll_75 : decode b_Teller_tellAll 75 = .ok (.aload_n 0, 1) := by decide +kernel
theorem d_Teller_tellAll_76 : decode b_Teller_tellAll 76 = .ok (.getfield 22, 3) := by decide +kernel
theorem d_Teller_tellAll_79 : decode b_Teller_tellAll 79 = .ok (.invokevirtual 88, 3) := by decide +kernel
theorem d_Teller_tellAll_82 : decode b_Teller_tellAll 82 = .ok (.ifCond .eq 20, 3) := by decide +kernel
theorem d_Teller_tellAll_85 : decode b_Teller_tellAll 85 = .ok (.aload_n 0, 1) := by decide +kernel
theorem d_Teller_tellAll_86 : decode b_Teller_tellAll 86 = .ok (.getfield 26, 3) := by decide +kernel
theorem d_Teller_tellAll_89 : decode b_Teller_tellAll 89 = .ok (.iconst 1, 1) := by decide +kernel
theorem d_Teller_tellAll_90 : decode b_Teller_tellAll 90 = .ok (.ldc 91, 2) := by decide +kernel
theorem d_Teller_tellAll_92 : decode b_Teller_tellAll 92 = .ok (.aload_n 0, 1) := by decide +kernel
theorem d_Teller_tellAll_93 : decode b_Teller_tellAll 93 = .ok (.getfield 42, 3) := by decide +kernel
theorem d_Teller_tellAll_96 : decode b_Teller_tellAll 96 = .ok (.invokevirtual 36, 3) := by decide +kernel
theorem d_Teller_tellAll_99 : decode b_Teller_tellAll 99 = .ok (.invokevirtual 92, 3) := by decide +kernel
theorem d_Teller_tellAll_102 : decode b_Teller_tellAll 102 = .ok (.return_, 1) := by decide +kernel
theorem d_Ways_init_0 : decode b_Ways_init 0 = .ok (.aload_n 0, 1) := by decide +kernel
theorem d_Ways_init_1 : decode b_Ways_init 1 = .ok (.invokespecial 1, 3) := by decide +kernel
theorem d_Ways_init_4 : decode b_Ways_init 4 = .ok (.return_, 1) := by decide +kernel
theorem d_Ways_change_0 : decode b_Ways_change 0 = .ok (.iload_n 1, 1) := by decide +kernel
theorem d_Ways_change_1 : decode b_Ways_change 1 = .ok (.ifCond .ne 16, 3) := by decide +kernel
theorem d_Ways_change_4 : decode b_Ways_change 4 = .ok (.aload_n 0, 1) := by decide +kernel
theorem d_Ways_change_5 : decode b_Ways_change 5 = .ok (.getfield 7, 3) := by decide +kernel
theorem d_Ways_change_8 : decode b_Ways_change 8 = .ok (.istore_n 3, 1) := by decide +kernel
theorem d_Ways_change_9 : decode b_Ways_change 9 = .ok (.aload_n 0, 1) := by decide +kernel
theorem d_Ways_change_10 : decode b_Ways_change 10 = .ok (.iload_n 2, 1) := by decide +kernel
theorem d_Ways_change_11 : decode b_Ways_change 11 = .ok (.putfield 7, 3) := by decide +kernel
theorem d_Ways_change_14 : decode b_Ways_change 14 = .ok (.goto 31, 3) := by decide +kernel
theorem d_Ways_change_17 : decode b_Ways_change 17 = .ok (.iload_n 1, 1) := by decide +kernel
theorem d_Ways_change_18 : decode b_Ways_change 18 = .ok (.iconst 1, 1) := by decide +kernel
theorem d_Ways_change_19 : decode b_Ways_change 19 = .ok (.if_icmp .ne 16, 3) := by decide +kernel
theorem d_Ways_change_22 : decode b_Ways_change 22 = .ok (.aload_n 0, 1) := by decide +kernel
theorem d_Ways_change_23 : decode b_Ways_change 23 = .ok (.getfield 13, 3) := by decide +kernel
theorem d_Ways_change_26 : decode b_Ways_change 26 = .ok (.istore_n 3, 1) := by decide +kernel
theorem d_Ways_change_27 : decode b_Ways_change 27 = .ok (.aload_n 0, 1) := by decide +kernel
theorem d_Ways_change_28 : decode b_Ways_change 28 = .ok (.iload_n 2, 1) := by decide +kernel
theorem d_Ways_change_29 : decode b_Ways_change 29 = .ok (.putfield 13, 3) := by decide +kernel
theorem d_Ways_change_32 : decode b_Ways_change 32 = .ok (.goto 13, 3) := by decide +kernel
theorem d_Ways_change_35 : decode b_Ways_change 35 = .ok (.aload_n 0, 1) := by decide +kernel
theorem d_Ways_change_36 : decode b_Ways_change 36 = .ok (.getfield 16, 3) := by decide +kernel
theorem d_Ways_change_39 : decode b_Ways_change 39 = .ok (.istore_n 3, 1) := by decide +kernel
theorem d_Ways_change_40 : decode b_Ways_change 40 = .ok (.aload_n 0, 1) := by decide +kernel
theorem d_Ways_change_41 : decode b_Ways_change 41 = .ok (.iload_n 2, 1) := by decide +kernel
theorem d_Ways_change_42 : decode b_Ways_change 42 = .ok (.putfield 16, 3) := by decide +kernel
theorem d_Ways_change_45 : decode b_Ways_change 45 = .ok (.iload_n 3, 1) := by decide +kernel
theorem d_Ways_change_46 : decode b_Ways_change 46 = .ok (.iload_n 2, 1) := by decide +kernel
theorem d_Ways_change_47 : decode b_Ways_change 47 = .ok (.if_icmp .eq 7, 3) := by decide +kernel
theorem d_Ways_change_50 : decode b_Ways_change 50 = .ok (.iconst 1, 1) := by decide +kernel
theorem d_Ways_change_51 : decode b_Ways_change 51 = .ok (.goto 4, 3) := by decide +kernel
theorem d_Ways_change_54 : decode b_Ways_change 54 = .ok (.iconst 0, 1) := by decide +kernel
theorem d_Ways_change_55 : decode b_Ways_change 55 = .ok (.ireturn, 1) := by decide +kernel
theorem d_Ways_reset_0 : decode b_Ways_reset 0 = .ok (.aload_n 0, 1) := by decide +kernel
theorem d_Ways_reset_1 : decode b_Ways_reset 1 = .ok (.iconst 0, 1) := by decide +kernel
theorem d_Ways_reset_2 : decode b_Ways_reset 2 = .ok (.putfield 7, 3) := by decide +kernel
theorem d_Ways_reset_5 : decode b_Ways_reset 5 = .ok (.aload_n 0, 1) := by decide +kernel
theorem d_Ways_reset_6 : decode b_Ways_reset 6 = .ok (.iconst 0, 1) := by decide +kernel
theorem d_Ways_reset_7 : decode b_Ways_reset 7 = .ok (.putfield 13, 3) := by decide +kernel
theorem d_Ways_reset_10 : decode b_Ways_reset 10 = .ok (.aload_n 0, 1) := by decide +kernel
theorem d_Ways_reset_11 : decode b_Ways_reset 11 = .ok (.iconst 0, 1) := by decide +kernel
theorem d_Ways_reset_12 : decode b_Ways_reset 12 = .ok (.putfield 16, 3) := by decide +kernel
theorem d_Ways_reset_15 : decode b_Ways_reset 15 = .ok (.return_, 1) := by decide +kernel
theorem d_GR_nearest_0 : decode b_GR_nearest 0 = .ok (.iload_n 1, 1) := by decide +kernel
theorem d_GR_nearest_1 : decode b_GR_nearest 1 = .ok (.iload_n 2, 1) := by decide +kernel
theorem d_GR_nearest_2 : decode b_GR_nearest 2 = .ok (.iload_n 0, 1) := by decide +kernel
theorem d_GR_nearest_3 : decode b_GR_nearest 3 = .ok (.invokestatic 186, 3) := by decide +kernel
theorem d_GR_nearest_6 : decode b_GR_nearest 6 = .ok (.invokestatic 221, 3) := by decide +kernel
theorem d_GR_nearest_9 : decode b_GR_nearest 9 = .ok (.ireturn, 1) := by decide +kernel
theorem d_GR_mostTold_0 : decode b_GR_mostTold 0 = .ok (.iload_n 1, 1) := by decide +kernel
theorem d_GR_mostTold_1 : decode b_GR_mostTold 1 = .ok (.bipush 7, 2) := by decide +kernel
theorem d_GR_mostTold_3 : decode b_GR_mostTold 3 = .ok (.iload_n 0, 1) := by decide +kernel
theorem d_GR_mostTold_4 : decode b_GR_mostTold 4 = .ok (.iconst 1, 1) := by decide +kernel
theorem d_GR_mostTold_5 : decode b_GR_mostTold 5 = .ok (.iadd, 1) := by decide +kernel
theorem d_GR_mostTold_6 : decode b_GR_mostTold 6 = .ok (.imul, 1) := by decide +kernel
theorem d_GR_mostTold_7 : decode b_GR_mostTold 7 = .ok (.iconst 2, 1) := by decide +kernel
theorem d_GR_mostTold_8 : decode b_GR_mostTold 8 = .ok (.iadd, 1) := by decide +kernel
theorem d_GR_mostTold_9 : decode b_GR_mostTold 9 = .ok (.imul, 1) := by decide +kernel
theorem d_GR_mostTold_10 : decode b_GR_mostTold 10 = .ok (.iconst 1, 1) := by decide +kernel
theorem d_GR_mostTold_11 : decode b_GR_mostTold 11 = .ok (.iadd, 1) := by decide +kernel
theorem d_GR_mostTold_12 : decode b_GR_mostTold 12 = .ok (.ireturn, 1) := by decide +kernel
theorem d_GR_init_0 : decode b_GR_init 0 = .ok (.aload_n 0, 1) := by decide +kernel
theorem d_GR_init_1 : decode b_GR_init 1 = .ok (.invokespecial 1, 3) := by decide +kernel
theorem d_GR_init_4 : decode b_GR_init 4 = .ok (.aload_n 0, 1) := by decide +kernel
theorem d_GR_init_5 : decode b_GR_init 5 = .ok (.iload_n 1, 1) := by decide +kernel
theorem d_GR_init_6 : decode b_GR_init 6 = .ok (.iconst 1, 1) := by decide +kernel
theorem d_GR_init_7 : decode b_GR_init 7 = .ok (.bipush 24, 2) := by decide +kernel
theorem d_GR_init_9 : decode b_GR_init 9 = .ok (.invokestatic 9, 3) := by decide +kernel
theorem d_GR_init_12 : decode b_GR_init 12 = .ok (.putfield 13, 3) := by decide +kernel
theorem d_GR_init_15 : decode b_GR_init 15 = .ok (.aload_n 0, 1) := by decide +kernel
theorem d_GR_init_16 : decode b_GR_init 16 = .ok (.iload_n 2, 1) := by decide +kernel
theorem d_GR_init_17 : decode b_GR_init 17 = .ok (.iconst 1, 1) := by decide +kernel
theorem d_GR_init_18 : decode b_GR_init 18 = .ok (.bipush 24, 2) := by decide +kernel
theorem d_GR_init_20 : decode b_GR_init 20 = .ok (.invokestatic 9, 3) := by decide +kernel
theorem d_GR_init_23 : decode b_GR_init 23 = .ok (.putfield 17, 3) := by decide +kernel
theorem d_GR_init_26 : decode b_GR_init 26 = .ok (.aload_n 0, 1) := by decide +kernel
theorem d_GR_init_27 : decode b_GR_init 27 = .ok (.iload_n 3, 1) := by decide +kernel
theorem d_GR_init_28 : decode b_GR_init 28 = .ok (.iconst 0, 1) := by decide +kernel
theorem d_GR_init_29 : decode b_GR_init 29 = .ok (.iconst 3, 1) := by decide +kernel
theorem d_GR_init_30 : decode b_GR_init 30 = .ok (.invokestatic 9, 3) := by decide +kernel
theorem d_GR_init_33 : decode b_GR_init 33 = .ok (.putfield 20, 3) := by decide +kernel
theorem d_GR_init_36 : decode b_GR_init 36 = .ok (.aload_n 0, 1) := by decide +kernel
theorem d_GR_init_37 : decode b_GR_init 37 = .ok (.new 23, 3) := by decide +kernel
theorem d_GR_init_40 : decode b_GR_init 40 = .ok (.dup, 1) := by decide +kernel
theorem d_GR_init_41 : decode b_GR_init 41 = .ok (.aload_n 0, 1) := by decide +kernel
theorem d_GR_init_42 : decode b_GR_init 42 = .ok (.getfield 13, 3) := by decide +kernel
theorem d_GR_init_45 : decode b_GR_init 45 = .ok (.aload_n 0, 1) := by decide +kernel
theorem d_GR_init_46 : decode b_GR_init 46 = .ok (.getfield 17, 3) := by decide +kernel
theorem d_GR_init_49 : decode b_GR_init 49 = .ok (.invokespecial 25, 3) := by decide +kernel
theorem d_GR_init_52 : decode b_GR_init 52 = .ok (.putfield 28, 3) := by decide +kernel
theorem d_GR_init_55 : decode b_GR_init 55 = .ok (.aload_n 0, 1) := by decide +kernel
theorem d_GR_init_56 : decode b_GR_init 56 = .ok (.new 23, 3) := by decide +kernel
theorem d_GR_init_59 : decode b_GR_init 59 = .ok (.dup, 1) := by decide +kernel
theorem d_GR_init_60 : decode b_GR_init 60 = .ok (.aload_n 0, 1) := by decide +kernel
theorem d_GR_init_61 : decode b_GR_init 61 = .ok (.getfield 13, 3) := by decide +kernel
theorem d_GR_init_64 : decode b_GR_init 64 = .ok (.aload_n 0, 1) := by decide +kernel
theorem d_GR_init_65 : decode b_GR_init 65 = .ok (.getfield 17, 3) := by decide +kernel
theorem d_GR_init_68 : decode b_GR_init 68 = .ok (.invokespecial 25, 3) := by decide +kernel
theorem d_GR_init_71 : decode b_GR_init 71 = .ok (.putfield 32, 3) := by decide +kernel
theorem d_GR_init_74 : decode b_GR_init 74 = .ok (.aload_n 0, 1) := by decide +kernel
theorem d_GR_init_75 : decode b_GR_init 75 = .ok (.new 35, 3) := by decide +kernel
theorem d_GR_init_78 : decode b_GR_init 78 = .ok (.dup, 1) := by decide +kernel
theorem d_GR_init_79 : decode b_GR_init 79 = .ok (.aload_n 0, 1) := by decide +kernel
theorem d_GR_init_80 : decode b_GR_init 80 = .ok (.getfield 20, 3) := by decide +kernel
theorem d_GR_init_83 : decode b_GR_init 83 = .ok (.invokespecial 37, 3) := by decide +kernel
theorem d_GR_init_86 : decode b_GR_init 86 = .ok (.putfield 40, 3) := by decide +kernel
theorem d_GR_init_89 : decode b_GR_init 89 = .ok (.aload_n 0, 1) := by decide +kernel
theorem d_GR_init_90 : decode b_GR_init 90 = .ok (.new 44, 3) := by decide +kernel
theorem d_GR_init_93 : decode b_GR_init 93 = .ok (.dup, 1) := by decide +kernel
theorem d_GR_init_94 : decode b_GR_init 94 = .ok (.invokespecial 46, 3) := by decide +kernel
theorem d_GR_init_97 : decode b_GR_init 97 = .ok (.putfield 47, 3) := by decide +kernel
theorem d_GR_init_100 : decode b_GR_init 100 = .ok (.aload_n 0, 1) := by decide +kernel
theorem d_GR_init_101 : decode b_GR_init 101 = .ok (.new 51, 3) := by decide +kernel
theorem d_GR_init_104 : decode b_GR_init 104 = .ok (.dup, 1) := by decide +kernel
theorem d_GR_init_105 : decode b_GR_init 105 = .ok (.aload_n 0, 1) := by decide +kernel
theorem d_GR_init_106 : decode b_GR_init 106 = .ok (.getfield 13, 3) := by decide +kernel
theorem d_GR_init_109 : decode b_GR_init 109 = .ok (.aload_n 0, 1) := by decide +kernel
theorem d_GR_init_110 : decode b_GR_init 110 = .ok (.getfield 17, 3) := by decide +kernel
theorem d_GR_init_113 : decode b_GR_init 113 = .ok (.invokestatic 53, 3) := by decide +kernel
theorem d_GR_init_116 : decode b_GR_init 116 = .ok (.invokespecial 57, 3) := by decide +kernel
theorem d_GR_init_119 : decode b_GR_init 119 = .ok (.putfield 58, 3) := by decide +kernel
theorem d_GR_init_122 : decode b_GR_init 122 = .ok (.aload_n 0, 1) := by decide +kernel
theorem d_GR_init_123 : decode b_GR_init 123 = .ok (.new 62, 3) := by decide +kernel
theorem d_GR_init_126 : decode b_GR_init 126 = .ok (.dup, 1) := by decide +kernel
theorem d_GR_init_127 : decode b_GR_init 127 = .ok (.aload_n 0, 1) := by decide +kernel
theorem d_GR_init_128 : decode b_GR_init 128 = .ok (.getfield 28, 3) := by decide +kernel
theorem d_GR_init_131 : decode b_GR_init 131 = .ok (.aload_n 0, 1) := by decide +kernel
theorem d_GR_init_132 : decode b_GR_init 132 = .ok (.getfield 32, 3) := by decide +kernel
theorem d_GR_init_135 : decode b_GR_init 135 = .ok (.aload_n 0, 1) := by decide +kernel
theorem d_GR_init_136 : decode b_GR_init 136 = .ok (.getfield 40, 3) := by decide +kernel
theorem d_GR_init_139 : decode b_GR_init 139 = .ok (.aload_n 0, 1) := by decide +kernel
theorem d_GR_init_140 : decode b_GR_init 140 = .ok (.getfield 47, 3) := by decide +kernel
theorem d_GR_init_143 : decode b_GR_init 143 = .ok (.aload_n 0, 1) := by decide +kernel
theorem d_GR_init_144 : decode b_GR_init 144 = .ok (.getfield 58, 3) := by decide +kernel
theorem d_GR_init_147 : decode b_GR_init 147 = .ok (.invokespecial 64, 3) := by decide +kernel
theorem d_GR_init_150 : decode b_GR_init 150 = .ok (.putfield 67, 3) := by decide +kernel
theorem d_GR_init_153 : decode b_GR_init 153 = .ok (.aload_n 0, 1) := by decide +kernel
theorem d_GR_init_154 : decode b_GR_init 154 = .ok (.new 71, 3) := by decide +kernel
theorem d_GR_init_157 : decode b_GR_init 157 = .ok (.dup, 1) := by decide +kernel
theorem d_GR_init_158 : decode b_GR_init 158 = .ok (.invokespecial 73, 3) := by decide +kernel
theorem d_GR_init_161 : decode b_GR_init 161 = .ok (.putfield 74, 3) := by decide +kernel
theorem d_GR_init_164 : decode b_GR_init 164 = .ok (.aload_n 0, 1) := by decide +kernel
theorem d_GR_init_165 : decode b_GR_init 165 = .ok (.new 78, 3) := by decide +kernel
theorem d_GR_init_168 : decode b_GR_init 168 = .ok (.dup, 1) := by decide +kernel
theorem d_GR_init_169 : decode b_GR_init 169 = .ok (.aload_n 0, 1) := by decide +kernel
theorem d_GR_init_170 : decode b_GR_init 170 = .ok (.getfield 13, 3) := by decide +kernel
theorem d_GR_init_173 : decode b_GR_init 173 = .ok (.aload_n 0, 1) := by decide +kernel
theorem d_GR_init_174 : decode b_GR_init 174 = .ok (.getfield 17, 3) := by decide +kernel
theorem d_GR_init_177 : decode b_GR_init 177 = .ok (.aload_n 0, 1) := by decide +kernel
theorem d_GR_init_178 : decode b_GR_init 178 = .ok (.getfield 32, 3) := by decide +kernel
theorem d_GR_init_181 : decode b_GR_init 181 = .ok (.aload_n 0, 1) := by decide +kernel
theorem d_GR_init_182 : decode b_GR_init 182 = .ok (.getfield 47, 3) := by decide +kernel
theorem d_GR_init_185 : decode b_GR_init 185 = .ok (.aload_n 0, 1) := by decide +kernel
theorem d_GR_init_186 : decode b_GR_init 186 = .ok (.getfield 74, 3) := by decide +kernel
theorem d_GR_init_189 : decode b_GR_init 189 = .ok (.invokespecial 80, 3) := by decide +kernel
theorem d_GR_init_192 : decode b_GR_init 192 = .ok (.putfield 83, 3) := by decide +kernel
theorem d_GR_init_195 : decode b_GR_init 195 = .ok (.return_, 1) := by decide +kernel
theorem d_JInt_bitCount_0 : decode b_JInt_bitCount 0 = .ok (.iload_n 0, 1) := by decide +kernel
theorem d_JInt_bitCount_1 : decode b_JInt_bitCount 1 = .ok (.iload_n 0, 1) := by decide +kernel
theorem d_JInt_bitCount_2 : decode b_JInt_bitCount 2 = .ok (.iconst 1, 1) := by decide +kernel
theorem d_JInt_bitCount_3 : decode b_JInt_bitCount 3 = .ok (.iushr, 1) := by decide +kernel
theorem d_JInt_bitCount_4 : decode b_JInt_bitCount 4 = .ok (.ldc_w 265, 3) := by decide +kernel
theorem d_JInt_bitCount_7 : decode b_JInt_bitCount 7 = .ok (.iand, 1) := by decide +kernel
theorem d_JInt_bitCount_8 : decode b_JInt_bitCount 8 = .ok (.isub, 1) := by decide +kernel
theorem d_JInt_bitCount_9 : decode b_JInt_bitCount 9 = .ok (.istore_n 0, 1) := by decide +kernel
theorem d_JInt_bitCount_10 : decode b_JInt_bitCount 10 = .ok (.iload_n 0, 1) := by decide +kernel
theorem d_JInt_bitCount_11 : decode b_JInt_bitCount 11 = .ok (.ldc_w 266, 3) := by decide +kernel
theorem d_JInt_bitCount_14 : decode b_JInt_bitCount 14 = .ok (.iand, 1) := by decide +kernel
theorem d_JInt_bitCount_15 : decode b_JInt_bitCount 15 = .ok (.iload_n 0, 1) := by decide +kernel
theorem d_JInt_bitCount_16 : decode b_JInt_bitCount 16 = .ok (.iconst 2, 1) := by decide +kernel
theorem d_JInt_bitCount_17 : decode b_JInt_bitCount 17 = .ok (.iushr, 1) := by decide +kernel
theorem d_JInt_bitCount_18 : decode b_JInt_bitCount 18 = .ok (.ldc_w 266, 3) := by decide +kernel
theorem d_JInt_bitCount_21 : decode b_JInt_bitCount 21 = .ok (.iand, 1) := by decide +kernel
theorem d_JInt_bitCount_22 : decode b_JInt_bitCount 22 = .ok (.iadd, 1) := by decide +kernel
theorem d_JInt_bitCount_23 : decode b_JInt_bitCount 23 = .ok (.istore_n 0, 1) := by decide +kernel
theorem d_JInt_bitCount_24 : decode b_JInt_bitCount 24 = .ok (.iload_n 0, 1) := by decide +kernel
theorem d_JInt_bitCount_25 : decode b_JInt_bitCount 25 = .ok (.iload_n 0, 1) := by decide +kernel
theorem d_JInt_bitCount_26 : decode b_JInt_bitCount 26 = .ok (.iconst 4, 1) := by decide +kernel
theorem d_JInt_bitCount_27 : decode b_JInt_bitCount 27 = .ok (.iushr, 1) := by decide +kernel
theorem d_JInt_bitCount_28 : decode b_JInt_bitCount 28 = .ok (.iadd, 1) := by decide +kernel
theorem d_JInt_bitCount_29 : decode b_JInt_bitCount 29 = .ok (.ldc_w 267, 3) := by decide +kernel
theorem d_JInt_bitCount_32 : decode b_JInt_bitCount 32 = .ok (.iand, 1) := by decide +kernel
theorem d_JInt_bitCount_33 : decode b_JInt_bitCount 33 = .ok (.istore_n 0, 1) := by decide +kernel
theorem d_JInt_bitCount_34 : decode b_JInt_bitCount 34 = .ok (.iload_n 0, 1) := by decide +kernel
theorem d_JInt_bitCount_35 : decode b_JInt_bitCount 35 = .ok (.iload_n 0, 1) := by decide +kernel
theorem d_JInt_bitCount_36 : decode b_JInt_bitCount 36 = .ok (.bipush 8, 2) := by decide +kernel
theorem d_JInt_bitCount_38 : decode b_JInt_bitCount 38 = .ok (.iushr, 1) := by decide +kernel
theorem d_JInt_bitCount_39 : decode b_JInt_bitCount 39 = .ok (.iadd, 1) := by decide +kernel
theorem d_JInt_bitCount_40 : decode b_JInt_bitCount 40 = .ok (.istore_n 0, 1) := by decide +kernel
theorem d_JInt_bitCount_41 : decode b_JInt_bitCount 41 = .ok (.iload_n 0, 1) := by decide +kernel
theorem d_JInt_bitCount_42 : decode b_JInt_bitCount 42 = .ok (.iload_n 0, 1) := by decide +kernel
theorem d_JInt_bitCount_43 : decode b_JInt_bitCount 43 = .ok (.bipush 16, 2) := by decide +kernel
theorem d_JInt_bitCount_45 : decode b_JInt_bitCount 45 = .ok (.iushr, 1) := by decide +kernel
theorem d_JInt_bitCount_46 : decode b_JInt_bitCount 46 = .ok (.iadd, 1) := by decide +kernel
theorem d_JInt_bitCount_47 : decode b_JInt_bitCount 47 = .ok (.istore_n 0, 1) := by decide +kernel
theorem d_JInt_bitCount_48 : decode b_JInt_bitCount 48 = .ok (.iload_n 0, 1) := by decide +kernel
theorem d_JInt_bitCount_49 : decode b_JInt_bitCount 49 = .ok (.bipush 63, 2) := by decide +kernel
theorem d_JInt_bitCount_51 : decode b_JInt_bitCount 51 = .ok (.iand, 1) := by decide +kernel
theorem d_JInt_bitCount_52 : decode b_JInt_bitCount 52 = .ok (.ireturn, 1) := by decide +kernel
theorem d_GR_mayBeAt_0 : decode b_GR_mayBeAt 0 = .ok (.iload_n 1, 1) := by decide +kernel
theorem d_GR_mayBeAt_1 : decode b_GR_mayBeAt 1 = .ok (.ifCond .ne 7, 3) := by decide +kernel
theorem d_GR_mayBeAt_4 : decode b_GR_mayBeAt 4 = .ok (.iconst (-1), 1) := by decide +kernel
theorem d_GR_mayBeAt_5 : decode b_GR_mayBeAt 5 = .ok (.goto 5, 3) := by decide +kernel
theorem d_GR_mayBeAt_8 : decode b_GR_mayBeAt 8 = .ok (.bipush 8, 2) := by decide +kernel
theorem d_GR_mayBeAt_10 : decode b_GR_mayBeAt 10 = .ok (.istore_n 2, 1) := by decide +kernel
theorem d_GR_mayBeAt_11 : decode b_GR_mayBeAt 11 = .ok (.iload_n 1, 1) := by decide +kernel
theorem d_GR_mayBeAt_12 : decode b_GR_mayBeAt 12 = .ok (.bipush (-8), 2) := by decide +kernel
theorem d_GR_mayBeAt_14 : decode b_GR_mayBeAt 14 = .ok (.if_icmp .lt 22, 3) := by decide +kernel
theorem d_GR_mayBeAt_17 : decode b_GR_mayBeAt 17 = .ok (.iload_n 1, 1) := by decide +kernel
theorem d_GR_mayBeAt_18 : decode b_GR_mayBeAt 18 = .ok (.ifCond .gt 18, 3) := by decide +kernel
theorem d_GR_mayBeAt_21 : decode b_GR_mayBeAt 21 = .ok (.iload_n 0, 1) := by decide +kernel
theorem d_GR_mayBeAt_22 : decode b_GR_mayBeAt 22 = .ok (.bipush (-8), 2) := by decide +kernel
theorem d_GR_mayBeAt_24 : decode b_GR_mayBeAt 24 = .ok (.if_icmp .lt 12, 3) := by decide +kernel
theorem d_GR_mayBeAt_27 : decode b_GR_mayBeAt 27 = .ok (.iload_n 0, 1) := by decide +kernel
theorem d_GR_mayBeAt_28 : decode b_GR_mayBeAt 28 = .ok (.iload_n 2, 1) := by decide +kernel
theorem d_GR_mayBeAt_29 : decode b_GR_mayBeAt 29 = .ok (.if_icmp .gt 7, 3) := by decide +kernel
theorem d_GR_mayBeAt_32 : decode b_GR_mayBeAt 32 = .ok (.iconst 1, 1) := by decide +kernel
theorem d_GR_mayBeAt_33 : decode b_GR_mayBeAt 33 = .ok (.goto 4, 3) := by decide +kernel
theorem d_GR_mayBeAt_36 : decode b_GR_mayBeAt 36 = .ok (.iconst 0, 1) := by decide +kernel
theorem d_GR_mayBeAt_37 : decode b_GR_mayBeAt 37 = .ok (.ireturn, 1) := by decide +kernel
theorem d_GR_tell_0 : decode b_GR_tell 0 = .ok (.aload_n 0, 1) := by decide +kernel
theorem d_GR_tell_1 : decode b_GR_tell 1 = .ok (.iconst 0, 1) := by decide +kernel
theorem d_GR_tell_2 : decode b_GR_tell 2 = .ok (.putfield 150, 3) := by decide +kernel
theorem d_GR_tell_5 : decode b_GR_tell 5 = .ok (.aload_n 0, 1) := by decide +kernel
theorem d_GR_tell_6 : decode b_GR_tell 6 = .ok (.getfield 67, 3) := by decide +kernel
theorem d_GR_tell_9 : decode b_GR_tell 9 = .ok (.invokevirtual 153, 3) := by decide +kernel
theorem d_GR_tell_12 : decode b_GR_tell 12 = .ok (.aload_n 0, 1) := by decide +kernel
theorem d_GR_tell_13 : decode b_GR_tell 13 = .ok (.getfield 58, 3) := by decide +kernel
theorem d_GR_tell_16 : decode b_GR_tell 16 = .ok (.invokevirtual 156, 3) := by decide +kernel
theorem d_GR_tell_19 : decode b_GR_tell 19 = .ok (.ireturn, 1) := by decide +kernel
theorem d_GR_copies_0 : decode b_GR_copies 0 = .ok (.aload_n 0, 1) := by decide +kernel
theorem d_GR_copies_1 : decode b_GR_copies 1 = .ok (.getfield 67, 3) := by decide +kernel
theorem d_GR_copies_4 : decode b_GR_copies 4 = .ok (.invokevirtual 172, 3) := by decide +kernel
theorem d_GR_copies_7 : decode b_GR_copies 7 = .ok (.ireturn, 1) := by decide +kernel
theorem d_GR_read_0 : decode b_GR_read 0 = .ok (.aload_n 0, 1) := by decide +kernel
theorem d_GR_read_1 : decode b_GR_read 1 = .ok (.getfield 83, 3) := by decide +kernel
theorem d_GR_read_4 : decode b_GR_read 4 = .ok (.invokevirtual 191, 3) := by decide +kernel
theorem d_GR_read_7 : decode b_GR_read 7 = .ok (.ireturn, 1) := by decide +kernel
theorem d_GR_begin_0 : decode b_GR_begin 0 = .ok (.aload_n 0, 1) := by decide +kernel
theorem d_GR_begin_1 : decode b_GR_begin 1 = .ok (.getfield 74, 3) := by decide +kernel
theorem d_GR_begin_4 : decode b_GR_begin 4 = .ok (.invokevirtual 183, 3) := by decide +kernel
theorem d_GR_begin_7 : decode b_GR_begin 7 = .ok (.istore_n 1, 1) := by decide +kernel
theorem d_GR_begin_8 : decode b_GR_begin 8 = .ok (.aload_n 0, 1) := by decide +kernel
theorem d_GR_begin_9 : decode b_GR_begin 9 = .ok (.getfield 74, 3) := by decide +kernel
theorem d_GR_begin_12 : decode b_GR_begin 12 = .ok (.invokevirtual 197, 3) := by decide +kernel
theorem d_GR_begin_15 : decode b_GR_begin 15 = .ok (.aload_n 0, 1) := by decide +kernel
theorem d_GR_begin_16 : decode b_GR_begin 16 = .ok (.iconst 0, 1) := by decide +kernel
theorem d_GR_begin_17 : decode b_GR_begin 17 = .ok (.putfield 150, 3) := by decide +kernel
theorem d_GR_begin_20 : decode b_GR_begin 20 = .ok (.aload_n 0, 1) := by decide +kernel
theorem d_GR_begin_21 : decode b_GR_begin 21 = .ok (.getfield 83, 3) := by decide +kernel
theorem d_GR_begin_24 : decode b_GR_begin 24 = .ok (.invokevirtual 113, 3) := by decide +kernel
theorem d_GR_begin_27 : decode b_GR_begin 27 = .ok (.iload_n 1, 1) := by decide +kernel
theorem d_GR_begin_28 : decode b_GR_begin 28 = .ok (.ireturn, 1) := by decide +kernel
theorem d_GR_told_0 : decode b_GR_told 0 = .ok (.iload_n 1, 1) := by decide +kernel
theorem d_GR_told_1 : decode b_GR_told 1 = .ok (.tableswitch 122 0 8 #[51, 56, 61, 66, 74, 82, 90, 98, 106], 51) := by decide +kernel
theorem d_GR_told_52 : decode b_GR_told 52 = .ok (.aload_n 0, 1) := by decide +kernel
theorem d_GR_told_53 : decode b_GR_told 53 = .ok (.getfield 13, 3) := by decide +kernel
theorem d_GR_told_56 : decode b_GR_told 56 = .ok (.ireturn, 1) := by decide +kernel
theorem d_GR_told_57 : decode b_GR_told 57 = .ok (.aload_n 0, 1) := by decide +kernel
theorem d_GR_told_58 : decode b_GR_told 58 = .ok (.getfield 17, 3) := by decide +kernel
theorem d_GR_told_61 : decode b_GR_told 61 = .ok (.ireturn, 1) := by decide +kernel
theorem d_GR_told_62 : decode b_GR_told 62 = .ok (.aload_n 0, 1) := by decide +kernel
theorem d_GR_told_63 : decode b_GR_told 63 = .ok (.getfield 20, 3) := by decide +kernel
theorem d_GR_told_66 : decode b_GR_told 66 = .ok (.ireturn, 1) := by decide +kernel
theorem d_GR_told_67 : decode b_GR_told 67 = .ok (.aload_n 0, 1) := by decide +kernel
theorem d_GR_told_68 : decode b_GR_told 68 = .ok (.getfield 40, 3) := by decide +kernel
theorem d_GR_told_71 : decode b_GR_told 71 = .ok (.invokevirtual 116, 3) := by decide +kernel
theorem d_GR_told_74 : decode b_GR_told 74 = .ok (.ireturn, 1) := by decide +kernel
theorem d_GR_told_75 : decode b_GR_told 75 = .ok (.aload_n 0, 1) := by decide +kernel
theorem d_GR_told_76 : decode b_GR_told 76 = .ok (.getfield 58, 3) := by decide +kernel
theorem d_GR_told_79 : decode b_GR_told 79 = .ok (.invokevirtual 156, 3) := by decide +kernel
theorem d_GR_told_82 : decode b_GR_told 82 = .ok (.ireturn, 1) := by decide +kernel
theorem d_GR_told_83 : decode b_GR_told 83 = .ok (.aload_n 0, 1) := by decide +kernel
theorem d_GR_told_84 : decode b_GR_told 84 = .ok (.getfield 74, 3) := by decide +kernel
theorem d_GR_told_87 : decode b_GR_told 87 = .ok (.invokevirtual 183, 3) := by decide +kernel
theorem d_GR_told_90 : decode b_GR_told 90 = .ok (.ireturn, 1) := by decide +kernel
theorem d_GR_told_91 : decode b_GR_told 91 = .ok (.aload_n 0, 1) := by decide +kernel
theorem d_GR_told_92 : decode b_GR_told 92 = .ok (.getfield 83, 3) := by decide +kernel
theorem d_GR_told_95 : decode b_GR_told 95 = .ok (.invokevirtual 200, 3) := by decide +kernel
