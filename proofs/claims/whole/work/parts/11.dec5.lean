theorem d_Md_tellContexts_53 : decode b_Md_tellContexts 53 = .ok (.iconst 0, 1) := by decide +kernel
theorem d_Md_tellContexts_54 : decode b_Md_tellContexts 54 = .ok (.istore_n 2, 1) := by decide +kernel
theorem d_Md_tellContexts_55 : decode b_Md_tellContexts 55 = .ok (.iinc 3 1, 3) := by decide +kernel
theorem d_Md_tellContexts_58 : decode b_Md_tellContexts 58 = .ok (.goto (-47), 3) := by decide +kernel
theorem d_Md_tellContexts_61 : decode b_Md_tellContexts 61 = .ok (.aload_n 0, 1) := by decide +kernel
theorem d_Md_tellContexts_62 : decode b_Md_tellContexts 62 = .ok (.iload_n 2, 1) := by decide +kernel
theorem d_Md_tellContexts_63 : decode b_Md_tellContexts 63 = .ok (.aload_n 0, 1) := by decide +kernel
theorem d_Md_tellContexts_64 : decode b_Md_tellContexts 64 = .ok (.getfield 132, 3) := by decide +kernel
theorem d_Md_tellContexts_67 : decode b_Md_tellContexts 67 = .ok (.if_icmp .eq 7, 3) := by decide +kernel
theorem d_Md_tellContexts_70 : decode b_Md_tellContexts 70 = .ok (.iconst 1, 1) := by decide +kernel
theorem d_Md_tellContexts_71 : decode b_Md_tellContexts 71 = .ok (.goto 4, 3) := by decide +kernel
theorem d_Md_tellContexts_74 : decode b_Md_tellContexts 74 = .ok (.iconst 0, 1) := by decide +kernel
theorem d_Md_tellContexts_75 : decode b_Md_tellContexts 75 = .ok (.aload_n 0, 1) := by decide +kernel
theorem d_Md_tellContexts_76 : decode b_Md_tellContexts 76 = .ok (.invokevirtual 135, 3) := by decide +kernel
theorem d_Md_tellContexts_79 : decode b_Md_tellContexts 79 = .ok (.iload_n 1, 1) := by decide +kernel
theorem d_Md_tellContexts_80 : decode b_Md_tellContexts 80 = .ok (.invokevirtual 138, 3) := by decide +kernel
theorem d_Md_tellContexts_83 : decode b_Md_tellContexts 83 = .ok (.aload_n 0, 1) := by decide +kernel
theorem d_Md_tellContexts_84 : decode b_Md_tellContexts 84 = .ok (.iload_n 2, 1) := by decide +kernel
theorem d_Md_tellContexts_85 : decode b_Md_tellContexts 85 = .ok (.putfield 132, 3) := by decide +kernel
theorem d_Md_tellContexts_88 : decode b_Md_tellContexts 88 = .ok (.iload_n 2, 1) := by decide +kernel
theorem d_Md_tellContexts_89 : decode b_Md_tellContexts 89 = .ok (.ifCond .eq 14, 3) := by decide +kernel
theorem d_Md_tellContexts_92 : decode b_Md_tellContexts 92 = .ok (.aload_n 0, 1) := by decide +kernel
theorem d_Md_tellContexts_93 : decode b_Md_tellContexts 93 = .ok (.dup, 1) := by decide +kernel
theorem d_Md_tellContexts_94 : decode b_Md_tellContexts 94 = .ok (.getfield 142, 3) := by decide +kernel
theorem d_Md_tellContexts_97 : decode b_Md_tellContexts 97 = .ok (.iconst 1, 1) := by decide +kernel
theorem d_Md_tellContexts_98 : decode b_Md_tellContexts 98 = .ok (.iadd, 1) := by decide +kernel
theorem d_Md_tellContexts_99 : decode b_Md_tellContexts 99 = .ok (.putfield 142, 3) := by decide +kernel
theorem d_Md_tellContexts_102 : decode b_Md_tellContexts 102 = .ok (.return_, 1) := by decide +kernel
theorem d_Md_tellContexts_103 : decode b_Md_tellContexts 103 = .ok (.iconst 0, 1) := by decide +kernel
theorem d_Md_tellContexts_104 : decode b_Md_tellContexts 104 = .ok (.istore_n 2, 1) := by decide +kernel
theorem d_Md_tellContexts_105 : decode b_Md_tellContexts 105 = .ok (.iload_n 2, 1) := by decide +kernel
theorem d_Md_tellContexts_106 : decode b_Md_tellContexts 106 = .ok (.aload_n 0, 1) := by decide +kernel
theorem d_Md_tellContexts_107 : decode b_Md_tellContexts 107 = .ok (.getfield 57, 3) := by decide +kernel
theorem d_Md_tellContexts_110 : decode b_Md_tellContexts 110 = .ok (.if_icmp .ge 57, 3) := by decide +kernel
theorem d_Md_tellContexts_113 : decode b_Md_tellContexts 113 = .ok (.aload_n 0, 1) := by decide +kernel
theorem d_Md_tellContexts_114 : decode b_Md_tellContexts 114 = .ok (.getfield 32, 3) := by decide +kernel
theorem d_Md_tellContexts_117 : decode b_Md_tellContexts 117 = .ok (.bipush 24, 2) := by decide +kernel
theorem d_Md_tellContexts_119 : decode b_Md_tellContexts 119 = .ok (.iload_n 1, 1) := by decide +kernel
theorem d_Md_tellContexts_120 : decode b_Md_tellContexts 120 = .ok (.imul, 1) := by decide +kernel
theorem d_Md_tellContexts_121 : decode b_Md_tellContexts 121 = .ok (.iload_n 2, 1) := by decide +kernel
theorem d_Md_tellContexts_122 : decode b_Md_tellContexts 122 = .ok (.iadd, 1) := by decide +kernel
theorem d_Md_tellContexts_123 : decode b_Md_tellContexts 123 = .ok (.baload, 1) := by decide +kernel
theorem d_Md_tellContexts_124 : decode b_Md_tellContexts 124 = .ok (.ifCond .ne 37, 3) := by decide +kernel
theorem d_Md_tellContexts_127 : decode b_Md_tellContexts 127 = .ok (.aload_n 0, 1) := by decide +kernel
theorem d_Md_tellContexts_128 : decode b_Md_tellContexts 128 = .ok (.aload_n 0, 1) := by decide +kernel
theorem d_Md_tellContexts_129 : decode b_Md_tellContexts 129 = .ok (.getfield 35, 3) := by decide +kernel
theorem d_Md_tellContexts_132 : decode b_Md_tellContexts 132 = .ok (.bipush 24, 2) := by decide +kernel
theorem d_Md_tellContexts_134 : decode b_Md_tellContexts 134 = .ok (.iload_n 1, 1) := by decide +kernel
theorem d_Md_tellContexts_135 : decode b_Md_tellContexts 135 = .ok (.imul, 1) := by decide +kernel
theorem d_Md_tellContexts_136 : decode b_Md_tellContexts 136 = .ok (.iload_n 2, 1) := by decide +kernel
theorem d_Md_tellContexts_137 : decode b_Md_tellContexts 137 = .ok (.iadd, 1) := by decide +kernel
theorem d_Md_tellContexts_138 : decode b_Md_tellContexts 138 = .ok (.baload, 1) := by decide +kernel
theorem d_Md_tellContexts_139 : decode b_Md_tellContexts 139 = .ok (.ifCond .eq 7, 3) := by decide +kernel
theorem d_Md_tellContexts_142 : decode b_Md_tellContexts 142 = .ok (.iconst 1, 1) := by decide +kernel
theorem d_Md_tellContexts_143 : decode b_Md_tellContexts 143 = .ok (.goto 4, 3) := by decide +kernel
theorem d_Md_tellContexts_146 : decode b_Md_tellContexts 146 = .ok (.iconst 0, 1) := by decide +kernel
theorem d_Md_tellContexts_147 : decode b_Md_tellContexts 147 = .ok (.aload_n 0, 1) := by decide +kernel
theorem d_Md_tellContexts_148 : decode b_Md_tellContexts 148 = .ok (.aload_n 0, 1) := by decide +kernel
theorem d_Md_tellContexts_149 : decode b_Md_tellContexts 149 = .ok (.getfield 35, 3) := by decide +kernel
theorem d_Md_tellContexts_152 : decode b_Md_tellContexts 152 = .ok (.iload_n 2, 1) := by decide +kernel
theorem d_Md_tellContexts_153 : decode b_Md_tellContexts 153 = .ok (.iload_n 1, 1) := by decide +kernel
theorem d_Md_tellContexts_154 : decode b_Md_tellContexts 154 = .ok (.invokevirtual 124, 3) := by decide +kernel
theorem d_Md_tellContexts_157 : decode b_Md_tellContexts 157 = .ok (.iload_n 1, 1) := by decide +kernel
theorem d_Md_tellContexts_158 : decode b_Md_tellContexts 158 = .ok (.invokevirtual 138, 3) := by decide +kernel
theorem d_Md_tellContexts_161 : decode b_Md_tellContexts 161 = .ok (.iinc 2 1, 3) := by decide +kernel
theorem d_Md_tellContexts_164 : decode b_Md_tellContexts 164 = .ok (.goto (-59), 3) := by decide +kernel
theorem d_Md_tellContexts_167 : decode b_Md_tellContexts 167 = .ok (.return_, 1) := by decide +kernel
theorem d_Md_firstOf_0 : decode b_Md_firstOf 0 = .ok (.iload_n 3, 1) := by decide +kernel
theorem d_Md_firstOf_1 : decode b_Md_firstOf 1 = .ok (.ifCond .ge 7, 3) := by decide +kernel
theorem d_Md_firstOf_4 : decode b_Md_firstOf 4 = .ok (.iconst 0, 1) := by decide +kernel
theorem d_Md_firstOf_5 : decode b_Md_firstOf 5 = .ok (.goto 4, 3) := by decide +kernel
theorem d_Md_firstOf_8 : decode b_Md_firstOf 8 = .ok (.iload_n 3, 1) := by decide +kernel
theorem d_Md_firstOf_9 : decode b_Md_firstOf 9 = .ok (.istore 5, 2) := by decide +kernel
theorem d_Md_firstOf_11 : decode b_Md_firstOf 11 = .ok (.iload 5, 2) := by decide +kernel
theorem d_Md_firstOf_13 : decode b_Md_firstOf 13 = .ok (.aload_n 0, 1) := by decide +kernel
theorem d_Md_firstOf_14 : decode b_Md_firstOf 14 = .ok (.getfield 57, 3) := by decide +kernel
theorem d_Md_firstOf_17 : decode b_Md_firstOf 17 = .ok (.if_icmp .ge 22, 3) := by decide +kernel
theorem d_Md_firstOf_20 : decode b_Md_firstOf 20 = .ok (.aload_n 0, 1) := by decide +kernel
theorem d_Md_firstOf_21 : decode b_Md_firstOf 21 = .ok (.aload_n 1, 1) := by decide +kernel
theorem d_Md_firstOf_22 : decode b_Md_firstOf 22 = .ok (.iload 5, 2) := by decide +kernel
theorem d_Md_firstOf_24 : decode b_Md_firstOf 24 = .ok (.iload_n 2, 1) := by decide +kernel
theorem d_Md_firstOf_25 : decode b_Md_firstOf 25 = .ok (.invokevirtual 117, 3) := by decide +kernel
theorem d_Md_firstOf_28 : decode b_Md_firstOf 28 = .ok (.iload 4, 2) := by decide +kernel
theorem d_Md_firstOf_30 : decode b_Md_firstOf 30 = .ok (.if_icmp .eq 9, 3) := by decide +kernel
theorem d_Md_firstOf_33 : decode b_Md_firstOf 33 = .ok (.iinc 5 1, 3) := by decide +kernel
theorem d_Md_firstOf_36 : decode b_Md_firstOf 36 = .ok (.goto (-25), 3) := by decide +kernel
theorem d_Md_firstOf_39 : decode b_Md_firstOf 39 = .ok (.iload 5, 2) := by decide +kernel
theorem d_Md_firstOf_41 : decode b_Md_firstOf 41 = .ok (.aload_n 0, 1) := by decide +kernel
theorem d_Md_firstOf_42 : decode b_Md_firstOf 42 = .ok (.getfield 57, 3) := by decide +kernel
theorem d_Md_firstOf_45 : decode b_Md_firstOf 45 = .ok (.if_icmp .ge 8, 3) := by decide +kernel
theorem d_Md_firstOf_48 : decode b_Md_firstOf 48 = .ok (.iload 5, 2) := by decide +kernel
theorem d_Md_firstOf_50 : decode b_Md_firstOf 50 = .ok (.goto 7, 3) := by decide +kernel
theorem d_Md_firstOf_53 : decode b_Md_firstOf 53 = .ok (.aload_n 0, 1) := by decide +kernel
theorem d_Md_firstOf_54 : decode b_Md_firstOf 54 = .ok (.getfield 57, 3) := by decide +kernel
theorem d_Md_firstOf_57 : decode b_Md_firstOf 57 = .ok (.ireturn, 1) := by decide +kernel
theorem d_Md_changeOf_0 : decode b_Md_changeOf 0 = .ok (.aload_n 0, 1) := by decide +kernel
theorem d_Md_changeOf_1 : decode b_Md_changeOf 1 = .ok (.getfield 145, 3) := by decide +kernel
theorem d_Md_changeOf_4 : decode b_Md_changeOf 4 = .ok (.iconst 1, 1) := by decide +kernel
theorem d_Md_changeOf_5 : decode b_Md_changeOf 5 = .ok (.iadd, 1) := by decide +kernel
theorem d_Md_changeOf_6 : decode b_Md_changeOf 6 = .ok (.istore_n 3, 1) := by decide +kernel
theorem d_Md_changeOf_7 : decode b_Md_changeOf 7 = .ok (.iload_n 3, 1) := by decide +kernel
theorem d_Md_changeOf_8 : decode b_Md_changeOf 8 = .ok (.aload_n 0, 1) := by decide +kernel
theorem d_Md_changeOf_9 : decode b_Md_changeOf 9 = .ok (.getfield 57, 3) := by decide +kernel
theorem d_Md_changeOf_12 : decode b_Md_changeOf 12 = .ok (.if_icmp .ge 45, 3) := by decide +kernel
theorem d_Md_changeOf_15 : decode b_Md_changeOf 15 = .ok (.aload_n 0, 1) := by decide +kernel
theorem d_Md_changeOf_16 : decode b_Md_changeOf 16 = .ok (.aload_n 1, 1) := by decide +kernel
theorem d_Md_changeOf_17 : decode b_Md_changeOf 17 = .ok (.iload_n 3, 1) := by decide +kernel
theorem d_Md_changeOf_18 : decode b_Md_changeOf 18 = .ok (.iload_n 2, 1) := by decide +kernel
theorem d_Md_changeOf_19 : decode b_Md_changeOf 19 = .ok (.iconst 1, 1) := by decide +kernel
theorem d_Md_changeOf_20 : decode b_Md_changeOf 20 = .ok (.isub, 1) := by decide +kernel
theorem d_Md_changeOf_21 : decode b_Md_changeOf 21 = .ok (.invokevirtual 117, 3) := by decide +kernel
theorem d_Md_changeOf_24 : decode b_Md_changeOf 24 = .ok (.aload_n 0, 1) := by decide +kernel
theorem d_Md_changeOf_25 : decode b_Md_changeOf 25 = .ok (.getfield 148, 3) := by decide +kernel
theorem d_Md_changeOf_28 : decode b_Md_changeOf 28 = .ok (.if_icmp .eq 23, 3) := by decide +kernel
theorem d_Md_changeOf_31 : decode b_Md_changeOf 31 = .ok (.aload_n 0, 1) := by decide +kernel
theorem d_Md_changeOf_32 : decode b_Md_changeOf 32 = .ok (.aload_n 1, 1) := by decide +kernel
theorem d_Md_changeOf_33 : decode b_Md_changeOf 33 = .ok (.iload_n 3, 1) := by decide +kernel
theorem d_Md_changeOf_34 : decode b_Md_changeOf 34 = .ok (.iconst 1, 1) := by decide +kernel
theorem d_Md_changeOf_35 : decode b_Md_changeOf 35 = .ok (.isub, 1) := by decide +kernel
theorem d_Md_changeOf_36 : decode b_Md_changeOf 36 = .ok (.iload_n 2, 1) := by decide +kernel
theorem d_Md_changeOf_37 : decode b_Md_changeOf 37 = .ok (.iconst 1, 1) := by decide +kernel
theorem d_Md_changeOf_38 : decode b_Md_changeOf 38 = .ok (.isub, 1) := by decide +kernel
theorem d_Md_changeOf_39 : decode b_Md_changeOf 39 = .ok (.invokevirtual 117, 3) := by decide +kernel
theorem d_Md_changeOf_42 : decode b_Md_changeOf 42 = .ok (.aload_n 0, 1) := by decide +kernel
theorem d_Md_changeOf_43 : decode b_Md_changeOf 43 = .ok (.getfield 148, 3) := by decide +kernel
theorem d_Md_changeOf_46 : decode b_Md_changeOf 46 = .ok (.if_icmp .ne 5, 3) := by decide +kernel
theorem d_Md_changeOf_49 : decode b_Md_changeOf 49 = .ok (.iload_n 3, 1) := by decide +kernel
theorem d_Md_changeOf_50 : decode b_Md_changeOf 50 = .ok (.ireturn, 1) := by decide +kernel
theorem d_Md_changeOf_51 : decode b_Md_changeOf 51 = .ok (.iinc 3 1, 3) := by decide +kernel
theorem d_Md_changeOf_54 : decode b_Md_changeOf 54 = .ok (.goto (-47), 3) := by decide +kernel
theorem d_Md_changeOf_57 : decode b_Md_changeOf 57 = .ok (.aload_n 0, 1) := by decide +kernel
theorem d_Md_changeOf_58 : decode b_Md_changeOf 58 = .ok (.getfield 57, 3) := by decide +kernel
theorem d_Md_changeOf_61 : decode b_Md_changeOf 61 = .ok (.ireturn, 1) := by decide +kernel
theorem d_Md_putCode_0 : decode b_Md_putCode 0 = .ok (.iconst 0, 1) := by decide +kernel
theorem d_Md_putCode_1 : decode b_Md_putCode 1 = .ok (.istore 4, 2) := by decide +kernel
theorem d_Md_putCode_3 : decode b_Md_putCode 3 = .ok (.iload 4, 2) := by decide +kernel
theorem d_Md_putCode_5 : decode b_Md_putCode 5 = .ok (.iload_n 1, 1) := by decide +kernel
theorem d_Md_putCode_6 : decode b_Md_putCode 6 = .ok (.if_icmp .ge 17, 3) := by decide +kernel
theorem d_Md_putCode_9 : decode b_Md_putCode 9 = .ok (.aload_n 0, 1) := by decide +kernel
theorem d_Md_putCode_10 : decode b_Md_putCode 10 = .ok (.iconst 0, 1) := by decide +kernel
theorem d_Md_putCode_11 : decode b_Md_putCode 11 = .ok (.ldc 151, 2) := by decide +kernel
theorem d_Md_putCode_13 : decode b_Md_putCode 13 = .ok (.iload_n 3, 1) := by decide +kernel
theorem d_Md_putCode_14 : decode b_Md_putCode 14 = .ok (.invokevirtual 138, 3) := by decide +kernel
theorem d_Md_putCode_17 : decode b_Md_putCode 17 = .ok (.iinc 4 1, 3) := by decide +kernel
theorem d_Md_putCode_20 : decode b_Md_putCode 20 = .ok (.goto (-17), 3) := by decide +kernel
theorem d_Md_putCode_23 : decode b_Md_putCode 23 = .ok (.aload_n 0, 1) := by decide +kernel
theorem d_Md_putCode_24 : decode b_Md_putCode 24 = .ok (.iconst 1, 1) := by decide +kernel
theorem d_Md_putCode_25 : decode b_Md_putCode 25 = .ok (.ldc 151, 2) := by decide +kernel
theorem d_Md_putCode_27 : decode b_Md_putCode 27 = .ok (.iload_n 3, 1) := by decide +kernel
theorem d_Md_putCode_28 : decode b_Md_putCode 28 = .ok (.invokevirtual 138, 3) := by decide +kernel
theorem d_Md_putCode_31 : decode b_Md_putCode 31 = .ok (.iload_n 2, 1) := by decide +kernel
theorem d_Md_putCode_32 : decode b_Md_putCode 32 = .ok (.ifCond .lt 11, 3) := by decide +kernel
theorem d_Md_putCode_35 : decode b_Md_putCode 35 = .ok (.aload_n 0, 1) := by decide +kernel
theorem d_Md_putCode_36 : decode b_Md_putCode 36 = .ok (.iload_n 2, 1) := by decide +kernel
theorem d_Md_putCode_37 : decode b_Md_putCode 37 = .ok (.ldc 151, 2) := by decide +kernel
theorem d_Md_putCode_39 : decode b_Md_putCode 39 = .ok (.iload_n 3, 1) := by decide +kernel
theorem d_Md_putCode_40 : decode b_Md_putCode 40 = .ok (.invokevirtual 138, 3) := by decide +kernel
theorem d_Md_putCode_43 : decode b_Md_putCode 43 = .ok (.return_, 1) := by decide +kernel
theorem d_Md_putNumber_0 : decode b_Md_putNumber 0 = .ok (.iconst 1, 1) := by decide +kernel
theorem d_Md_putNumber_1 : decode b_Md_putNumber 1 = .ok (.istore_n 3, 1) := by decide +kernel
theorem d_Md_putNumber_2 : decode b_Md_putNumber 2 = .ok (.iconst 2, 1) := by decide +kernel
theorem d_Md_putNumber_3 : decode b_Md_putNumber 3 = .ok (.iload_n 3, 1) := by decide +kernel
theorem d_Md_putNumber_4 : decode b_Md_putNumber 4 = .ok (.imul, 1) := by decide +kernel
theorem d_Md_putNumber_5 : decode b_Md_putNumber 5 = .ok (.iload_n 1, 1) := by decide +kernel
theorem d_Md_putNumber_6 : decode b_Md_putNumber 6 = .ok (.iconst 1, 1) := by decide +kernel
theorem d_Md_putNumber_7 : decode b_Md_putNumber 7 = .ok (.iadd, 1) := by decide +kernel
theorem d_Md_putNumber_8 : decode b_Md_putNumber 8 = .ok (.if_icmp .gt 18, 3) := by decide +kernel
theorem d_Md_putNumber_11 : decode b_Md_putNumber 11 = .ok (.aload_n 0, 1) := by decide +kernel
theorem d_Md_putNumber_12 : decode b_Md_putNumber 12 = .ok (.iconst 0, 1) := by decide +kernel
theorem d_Md_putNumber_13 : decode b_Md_putNumber 13 = .ok (.ldc 151, 2) := by decide +kernel
theorem d_Md_putNumber_15 : decode b_Md_putNumber 15 = .ok (.iload_n 2, 1) := by decide +kernel
theorem d_Md_putNumber_16 : decode b_Md_putNumber 16 = .ok (.invokevirtual 138, 3) := by decide +kernel
theorem d_Md_putNumber_19 : decode b_Md_putNumber 19 = .ok (.iconst 2, 1) := by decide +kernel
theorem d_Md_putNumber_20 : decode b_Md_putNumber 20 = .ok (.iload_n 3, 1) := by decide +kernel
theorem d_Md_putNumber_21 : decode b_Md_putNumber 21 = .ok (.imul, 1) := by decide +kernel
theorem d_Md_putNumber_22 : decode b_Md_putNumber 22 = .ok (.istore_n 3, 1) := by decide +kernel
theorem d_Md_putNumber_23 : decode b_Md_putNumber 23 = .ok (.goto (-21), 3) := by decide +kernel
theorem d_Md_putNumber_26 : decode b_Md_putNumber 26 = .ok (.iload_n 3, 1) := by decide +kernel
theorem d_Md_putNumber_27 : decode b_Md_putNumber 27 = .ok (.ifCond .le 24, 3) := by decide +kernel
theorem d_Md_putNumber_30 : decode b_Md_putNumber 30 = .ok (.aload_n 0, 1) := by decide +kernel
theorem d_Md_putNumber_31 : decode b_Md_putNumber 31 = .ok (.iload_n 1, 1) := by decide +kernel
theorem d_Md_putNumber_32 : decode b_Md_putNumber 32 = .ok (.iconst 1, 1) := by decide +kernel
theorem d_Md_putNumber_33 : decode b_Md_putNumber 33 = .ok (.iadd, 1) := by decide +kernel
theorem d_Md_putNumber_34 : decode b_Md_putNumber 34 = .ok (.iload_n 3, 1) := by decide +kernel
theorem d_Md_putNumber_35 : decode b_Md_putNumber 35 = .ok (.idiv, 1) := by decide +kernel
theorem d_Md_putNumber_36 : decode b_Md_putNumber 36 = .ok (.iconst 2, 1) := by decide +kernel
theorem d_Md_putNumber_37 : decode b_Md_putNumber 37 = .ok (.irem, 1) := by decide +kernel
theorem d_Md_putNumber_38 : decode b_Md_putNumber 38 = .ok (.ldc 151, 2) := by decide +kernel
theorem d_Md_putNumber_40 : decode b_Md_putNumber 40 = .ok (.iload_n 2, 1) := by decide +kernel
theorem d_Md_putNumber_41 : decode b_Md_putNumber 41 = .ok (.invokevirtual 138, 3) := by decide +kernel
theorem d_Md_putNumber_44 : decode b_Md_putNumber 44 = .ok (.iload_n 3, 1) := by decide +kernel
theorem d_Md_putNumber_45 : decode b_Md_putNumber 45 = .ok (.iconst 2, 1) := by decide +kernel
theorem d_Md_putNumber_46 : decode b_Md_putNumber 46 = .ok (.idiv, 1) := by decide +kernel
theorem d_Md_putNumber_47 : decode b_Md_putNumber 47 = .ok (.istore_n 3, 1) := by decide +kernel
theorem d_Md_putNumber_48 : decode b_Md_putNumber 48 = .ok (.goto (-22), 3) := by decide +kernel
theorem d_Md_putNumber_51 : decode b_Md_putNumber 51 = .ok (.return_, 1) := by decide +kernel
theorem d_Md_tellFax_0 : decode b_Md_tellFax 0 = .ok (.aload_n 0, 1) := by decide +kernel
theorem d_Md_tellFax_1 : decode b_Md_tellFax 1 = .ok (.iconst (-1), 1) := by decide +kernel
theorem d_Md_tellFax_2 : decode b_Md_tellFax 2 = .ok (.putfield 145, 3) := by decide +kernel
theorem d_Md_tellFax_5 : decode b_Md_tellFax 5 = .ok (.aload_n 0, 1) := by decide +kernel
theorem d_Md_tellFax_6 : decode b_Md_tellFax 6 = .ok (.iconst 0, 1) := by decide +kernel
theorem d_Md_tellFax_7 : decode b_Md_tellFax 7 = .ok (.putfield 148, 3) := by decide +kernel
theorem d_Md_tellFax_10 : decode b_Md_tellFax 10 = .ok (.aload_n 0, 1) := by decide +kernel
theorem d_Md_tellFax_11 : decode b_Md_tellFax 11 = .ok (.getfield 145, 3) := by decide +kernel
theorem d_Md_tellFax_14 : decode b_Md_tellFax 14 = .ok (.aload_n 0, 1) := by decide +kernel
theorem d_Md_tellFax_15 : decode b_Md_tellFax 15 = .ok (.getfield 57, 3) := by decide +kernel
theorem d_Md_tellFax_18 : decode b_Md_tellFax 18 = .ok (.if_icmp .ge 250, 3) := by decide +kernel
theorem d_Md_tellFax_21 : decode b_Md_tellFax 21 = .ok (.aload_n 0, 1) := by decide +kernel
theorem d_Md_tellFax_22 : decode b_Md_tellFax 22 = .ok (.aload_n 0, 1) := by decide +kernel
theorem d_Md_tellFax_23 : decode b_Md_tellFax 23 = .ok (.getfield 35, 3) := by decide +kernel
theorem d_Md_tellFax_26 : decode b_Md_tellFax 26 = .ok (.iload_n 1, 1) := by decide +kernel
theorem d_Md_tellFax_27 : decode b_Md_tellFax 27 = .ok (.aload_n 0, 1) := by decide +kernel
theorem d_Md_tellFax_28 : decode b_Md_tellFax 28 = .ok (.getfield 145, 3) := by decide +kernel
theorem d_Md_tellFax_31 : decode b_Md_tellFax 31 = .ok (.iconst 1, 1) := by decide +kernel
theorem d_Md_tellFax_32 : decode b_Md_tellFax 32 = .ok (.iadd, 1) := by decide +kernel
theorem d_Md_tellFax_33 : decode b_Md_tellFax 33 = .ok (.aload_n 0, 1) := by decide +kernel
theorem d_Md_tellFax_34 : decode b_Md_tellFax 34 = .ok (.getfield 148, 3) := by decide +kernel
theorem d_Md_tellFax_37 : decode b_Md_tellFax 37 = .ok (.ifCond .ne 7, 3) := by decide +kernel
theorem d_Md_tellFax_40 : decode b_Md_tellFax 40 = .ok (.iconst 1, 1) := by decide +kernel
theorem d_Md_tellFax_41 : decode b_Md_tellFax 41 = .ok (.goto 4, 3) := by decide +kernel
theorem d_Md_tellFax_44 : decode b_Md_tellFax 44 = .ok (.iconst 0, 1) := by decide +kernel
theorem d_Md_tellFax_45 : decode b_Md_tellFax 45 = .ok (.invokevirtual 152, 3) := by decide +kernel
theorem d_Md_tellFax_48 : decode b_Md_tellFax 48 = .ok (.istore_n 2, 1) := by decide +kernel
theorem d_Md_tellFax_49 : decode b_Md_tellFax 49 = .ok (.aload_n 0, 1) := by decide +kernel
theorem d_Md_tellFax_50 : decode b_Md_tellFax 50 = .ok (.aload_n 0, 1) := by decide +kernel
theorem d_Md_tellFax_51 : decode b_Md_tellFax 51 = .ok (.getfield 35, 3) := by decide +kernel
theorem d_Md_tellFax_54 : decode b_Md_tellFax 54 = .ok (.iload_n 1, 1) := by decide +kernel
theorem d_Md_tellFax_55 : decode b_Md_tellFax 55 = .ok (.invokevirtual 156, 3) := by decide +kernel
theorem d_Md_tellFax_58 : decode b_Md_tellFax 58 = .ok (.istore_n 3, 1) := by decide +kernel
theorem d_Md_tellFax_59 : decode b_Md_tellFax 59 = .ok (.aload_n 0, 1) := by decide +kernel
theorem d_Md_tellFax_60 : decode b_Md_tellFax 60 = .ok (.aload_n 0, 1) := by decide +kernel
theorem d_Md_tellFax_61 : decode b_Md_tellFax 61 = .ok (.getfield 35, 3) := by decide +kernel
theorem d_Md_tellFax_64 : decode b_Md_tellFax 64 = .ok (.iload_n 1, 1) := by decide +kernel
theorem d_Md_tellFax_65 : decode b_Md_tellFax 65 = .ok (.iconst 1, 1) := by decide +kernel
theorem d_Md_tellFax_66 : decode b_Md_tellFax 66 = .ok (.isub, 1) := by decide +kernel
theorem d_Md_tellFax_67 : decode b_Md_tellFax 67 = .ok (.iload_n 3, 1) := by decide +kernel
theorem d_Md_tellFax_68 : decode b_Md_tellFax 68 = .ok (.iconst 1, 1) := by decide +kernel
theorem d_Md_tellFax_69 : decode b_Md_tellFax 69 = .ok (.iadd, 1) := by decide +kernel
theorem d_Md_tellFax_70 : decode b_Md_tellFax 70 = .ok (.aload_n 0, 1) := by decide +kernel
theorem d_Md_tellFax_71 : decode b_Md_tellFax 71 = .ok (.getfield 148, 3) := by decide +kernel
theorem d_Md_tellFax_74 : decode b_Md_tellFax 74 = .ok (.invokevirtual 152, 3) := by decide +kernel
theorem d_Md_tellFax_77 : decode b_Md_tellFax 77 = .ok (.istore 4, 2) := by decide +kernel
theorem d_Md_tellFax_79 : decode b_Md_tellFax 79 = .ok (.iload_n 2, 1) := by decide +kernel
theorem d_Md_tellFax_80 : decode b_Md_tellFax 80 = .ok (.iload_n 3, 1) := by decide +kernel
theorem d_Md_tellFax_81 : decode b_Md_tellFax 81 = .ok (.isub, 1) := by decide +kernel
theorem d_Md_tellFax_82 : decode b_Md_tellFax 82 = .ok (.istore 5, 2) := by decide +kernel
theorem d_Md_tellFax_84 : decode b_Md_tellFax 84 = .ok (.iload 4, 2) := by decide +kernel
theorem d_Md_tellFax_86 : decode b_Md_tellFax 86 = .ok (.iload_n 2, 1) := by decide +kernel
theorem d_Md_tellFax_87 : decode b_Md_tellFax 87 = .ok (.if_icmp .ge 19, 3) := by decide +kernel
theorem d_Md_tellFax_90 : decode b_Md_tellFax 90 = .ok (.aload_n 0, 1) := by decide +kernel
theorem d_Md_tellFax_91 : decode b_Md_tellFax 91 = .ok (.iconst 3, 1) := by decide +kernel
theorem d_Md_tellFax_92 : decode b_Md_tellFax 92 = .ok (.iconst (-1), 1) := by decide +kernel
theorem d_Md_tellFax_93 : decode b_Md_tellFax 93 = .ok (.iload_n 1, 1) := by decide +kernel
theorem d_Md_tellFax_94 : decode b_Md_tellFax 94 = .ok (.invokevirtual 160, 3) := by decide +kernel
theorem d_Md_tellFax_97 : decode b_Md_tellFax 97 = .ok (.aload_n 0, 1) := by decide +kernel
theorem d_Md_tellFax_98 : decode b_Md_tellFax 98 = .ok (.iload 4, 2) := by decide +kernel
theorem d_Md_tellFax_100 : decode b_Md_tellFax 100 = .ok (.putfield 145, 3) := by decide +kernel
theorem d_Md_tellFax_103 : decode b_Md_tellFax 103 = .ok (.goto 162, 3) := by decide +kernel
theorem d_Md_tellFax_106 : decode b_Md_tellFax 106 = .ok (.iload 5, 2) := by decide +kernel
theorem d_Md_tellFax_108 : decode b_Md_tellFax 108 = .ok (.bipush (-3), 2) := by decide +kernel
theorem d_Md_tellFax_110 : decode b_Md_tellFax 110 = .ok (.iconst 3, 1) := by decide +kernel
theorem d_Md_tellFax_111 : decode b_Md_tellFax 111 = .ok (.invokestatic 73, 3) := by decide +kernel
theorem d_Md_tellFax_114 : decode b_Md_tellFax 114 = .ok (.ifCond .eq 89, 3) := by decide +kernel
theorem d_Md_tellFax_117 : decode b_Md_tellFax 117 = .ok (.iload 5, 2) := by decide +kernel
theorem d_Md_tellFax_119 : decode b_Md_tellFax 119 = .ok (.ifCond .ge 9, 3) := by decide +kernel
theorem d_Md_tellFax_122 : decode b_Md_tellFax 122 = .ok (.iload 5, 2) := by decide +kernel
theorem d_Md_tellFax_124 : decode b_Md_tellFax 124 = .ok (.ineg, 1) := by decide +kernel
theorem d_Md_tellFax_125 : decode b_Md_tellFax 125 = .ok (.goto 5, 3) := by decide +kernel
theorem d_Md_tellFax_128 : decode b_Md_tellFax 128 = .ok (.iload 5, 2) := by decide +kernel
theorem d_Md_tellFax_130 : decode b_Md_tellFax 130 = .ok (.istore 6, 2) := by decide +kernel
theorem d_Md_tellFax_132 : decode b_Md_tellFax 132 = .ok (.aload_n 0, 1) := by decide +kernel
theorem d_Md_tellFax_133 : decode b_Md_tellFax 133 = .ok (.iload 6, 2) := by decide +kernel
theorem d_Md_tellFax_135 : decode b_Md_tellFax 135 = .ok (.ifCond .ne 7, 3) := by decide +kernel
theorem d_Md_tellFax_138 : decode b_Md_tellFax 138 = .ok (.iconst 0, 1) := by decide +kernel
theorem d_Md_tellFax_139 : decode b_Md_tellFax 139 = .ok (.goto 17, 3) := by decide +kernel
theorem d_Md_tellFax_142 : decode b_Md_tellFax 142 = .ok (.iload 6, 2) := by decide +kernel
theorem d_Md_tellFax_144 : decode b_Md_tellFax 144 = .ok (.iconst 1, 1) := by decide +kernel
theorem d_Md_tellFax_145 : decode b_Md_tellFax 145 = .ok (.if_icmp .ne 7, 3) := by decide +kernel
theorem d_Md_tellFax_148 : decode b_Md_tellFax 148 = .ok (.iconst 1, 1) := by decide +kernel
theorem d_Md_tellFax_149 : decode b_Md_tellFax 149 = .ok (.goto 7, 3) := by decide +kernel
theorem d_Md_tellFax_152 : decode b_Md_tellFax 152 = .ok (.iload 6, 2) := by decide +kernel
theorem d_Md_tellFax_154 : decode b_Md_tellFax 154 = .ok (.iconst 2, 1) := by decide +kernel
theorem d_Md_tellFax_155 : decode b_Md_tellFax 155 = .ok (.iadd, 1) := by decide +kernel
theorem d_Md_tellFax_156 : decode b_Md_tellFax 156 = .ok (.iload 6, 2) := by decide +kernel
theorem d_Md_tellFax_158 : decode b_Md_tellFax 158 = .ok (.ifCond .ne 7, 3) := by decide +kernel
theorem d_Md_tellFax_161 : decode b_Md_tellFax 161 = .ok (.iconst (-1), 1) := by decide +kernel
theorem d_Md_tellFax_162 : decode b_Md_tellFax 162 = .ok (.goto 13, 3) := by decide +kernel
theorem d_Md_tellFax_165 : decode b_Md_tellFax 165 = .ok (.iload 5, 2) := by decide +kernel
theorem d_Md_tellFax_167 : decode b_Md_tellFax 167 = .ok (.ifCond .le 7, 3) := by decide +kernel
theorem d_Md_tellFax_170 : decode b_Md_tellFax 170 = .ok (.iconst 1, 1) := by decide +kernel
theorem d_Md_tellFax_171 : decode b_Md_tellFax 171 = .ok (.goto 4, 3) := by decide +kernel
theorem d_Md_tellFax_174 : decode b_Md_tellFax 174 = .ok (.iconst 0, 1) := by decide +kernel
theorem d_Md_tellFax_175 : decode b_Md_tellFax 175 = .ok (.iload_n 1, 1) := by decide +kernel
theorem d_Md_tellFax_176 : decode b_Md_tellFax 176 = .ok (.invokevirtual 160, 3) := by decide +kernel
theorem d_Md_tellFax_179 : decode b_Md_tellFax 179 = .ok (.aload_n 0, 1) := by decide +kernel
theorem d_Md_tellFax_180 : decode b_Md_tellFax 180 = .ok (.iload_n 2, 1) := by decide +kernel
theorem d_Md_tellFax_181 : decode b_Md_tellFax 181 = .ok (.putfield 145, 3) := by decide +kernel
theorem d_Md_tellFax_184 : decode b_Md_tellFax 184 = .ok (.aload_n 0, 1) := by decide +kernel
theorem d_Md_tellFax_185 : decode b_Md_tellFax 185 = .ok (.aload_n 0, 1) := by decide +kernel
theorem d_Md_tellFax_186 : decode b_Md_tellFax 186 = .ok (.getfield 148, 3) := by decide +kernel
theorem d_Md_tellFax_189 : decode b_Md_tellFax 189 = .ok (.ifCond .ne 7, 3) := by decide +kernel
theorem d_Md_tellFax_192 : decode b_Md_tellFax 192 = .ok (.iconst 1, 1) := by decide +kernel
theorem d_Md_tellFax_193 : decode b_Md_tellFax 193 = .ok (.goto 4, 3) := by decide +kernel
theorem d_Md_tellFax_196 : decode b_Md_tellFax 196 = .ok (.iconst 0, 1) := by decide +kernel
theorem d_Md_tellFax_197 : decode b_Md_tellFax 197 = .ok (.putfield 148, 3) := by decide +kernel
theorem d_Md_tellFax_200 : decode b_Md_tellFax 200 = .ok (.goto 65, 3) := by decide +kernel
theorem d_Md_tellFax_203 : decode b_Md_tellFax 203 = .ok (.aload_n 0, 1) := by decide +kernel
theorem d_Md_tellFax_204 : decode b_Md_tellFax 204 = .ok (.aload_n 0, 1) := by decide +kernel
theorem d_Md_tellFax_205 : decode b_Md_tellFax 205 = .ok (.getfield 35, 3) := by decide +kernel
theorem d_Md_tellFax_208 : decode b_Md_tellFax 208 = .ok (.iload_n 1, 1) := by decide +kernel
theorem d_Md_tellFax_209 : decode b_Md_tellFax 209 = .ok (.iload_n 2, 1) := by decide +kernel
theorem d_Md_tellFax_210 : decode b_Md_tellFax 210 = .ok (.iconst 1, 1) := by decide +kernel
theorem d_Md_tellFax_211 : decode b_Md_tellFax 211 = .ok (.iadd, 1) := by decide +kernel
theorem d_Md_tellFax_212 : decode b_Md_tellFax 212 = .ok (.aload_n 0, 1) := by decide +kernel
theorem d_Md_tellFax_213 : decode b_Md_tellFax 213 = .ok (.getfield 148, 3) := by decide +kernel
theorem d_Md_tellFax_216 : decode b_Md_tellFax 216 = .ok (.invokevirtual 152, 3) := by decide +kernel
theorem d_Md_tellFax_219 : decode b_Md_tellFax 219 = .ok (.istore 6, 2) := by decide +kernel
theorem d_Md_tellFax_221 : decode b_Md_tellFax 221 = .ok (.aload_n 0, 1) := by decide +kernel
theorem d_Md_tellFax_222 : decode b_Md_tellFax 222 = .ok (.iconst 2, 1) := by decide +kernel
theorem d_Md_tellFax_223 : decode b_Md_tellFax 223 = .ok (.iconst (-1), 1) := by decide +kernel
theorem d_Md_tellFax_224 : decode b_Md_tellFax 224 = .ok (.iload_n 1, 1) := by decide +kernel
theorem d_Md_tellFax_225 : decode b_Md_tellFax 225 = .ok (.invokevirtual 160, 3) := by decide +kernel
theorem d_Md_tellFax_228 : decode b_Md_tellFax 228 = .ok (.aload_n 0, 1) := by decide +kernel
theorem d_Md_tellFax_229 : decode b_Md_tellFax 229 = .ok (.iload_n 2, 1) := by decide +kernel
theorem d_Md_tellFax_230 : decode b_Md_tellFax 230 = .ok (.aload_n 0, 1) := by decide +kernel
theorem d_Md_tellFax_231 : decode b_Md_tellFax 231 = .ok (.getfield 145, 3) := by decide +kernel
theorem d_Md_tellFax_234 : decode b_Md_tellFax 234 = .ok (.ifCond .ge 7, 3) := by decide +kernel
theorem d_Md_tellFax_237 : decode b_Md_tellFax 237 = .ok (.iconst 0, 1) := by decide +kernel
theorem d_Md_tellFax_238 : decode b_Md_tellFax 238 = .ok (.goto 7, 3) := by decide +kernel
theorem d_Md_tellFax_241 : decode b_Md_tellFax 241 = .ok (.aload_n 0, 1) := by decide +kernel
theorem d_Md_tellFax_242 : decode b_Md_tellFax 242 = .ok (.getfield 145, 3) := by decide +kernel
theorem d_Md_tellFax_245 : decode b_Md_tellFax 245 = .ok (.isub, 1) := by decide +kernel
theorem d_Md_tellFax_246 : decode b_Md_tellFax 246 = .ok (.iload_n 1, 1) := by decide +kernel
theorem d_Md_tellFax_247 : decode b_Md_tellFax 247 = .ok (.invokevirtual 163, 3) := by decide +kernel
theorem d_Md_tellFax_250 : decode b_Md_tellFax 250 = .ok (.aload_n 0, 1) := by decide +kernel
theorem d_Md_tellFax_251 : decode b_Md_tellFax 251 = .ok (.iload 6, 2) := by decide +kernel
theorem d_Md_tellFax_253 : decode b_Md_tellFax 253 = .ok (.iload_n 2, 1) := by decide +kernel
theorem d_Md_tellFax_254 : decode b_Md_tellFax 254 = .ok (.isub, 1) := by decide +kernel
theorem d_Md_tellFax_255 : decode b_Md_tellFax 255 = .ok (.iload_n 1, 1) := by decide +kernel
theorem d_Md_tellFax_256 : decode b_Md_tellFax 256 = .ok (.invokevirtual 163, 3) := by decide +kernel
theorem d_Md_tellFax_259 : decode b_Md_tellFax 259 = .ok (.aload_n 0, 1) := by decide +kernel
theorem d_Md_tellFax_260 : decode b_Md_tellFax 260 = .ok (.iload 6, 2) := by decide +kernel
theorem d_Md_tellFax_262 : decode b_Md_tellFax 262 = .ok (.putfield 145, 3) := by decide +kernel
theorem d_Md_tellFax_265 : decode b_Md_tellFax 265 = .ok (.goto (-255), 3) := by decide +kernel
theorem d_Md_tellFax_268 : decode b_Md_tellFax 268 = .ok (.return_, 1) := by decide +kernel
theorem d_Md_tell_0 : decode b_Md_tell 0 = .ok (.aload_n 0, 1) := by decide +kernel
theorem d_Md_tell_1 : decode b_Md_tell 1 = .ok (.iconst 0, 1) := by decide +kernel
theorem d_Md_tell_2 : decode b_Md_tell 2 = .ok (.putfield 70, 3) := by decide +kernel
theorem d_Md_tell_5 : decode b_Md_tell 5 = .ok (.aload_n 0, 1) := by decide +kernel
theorem d_Md_tell_6 : decode b_Md_tell 6 = .ok (.iconst 0, 1) := by decide +kernel
theorem d_Md_tell_7 : decode b_Md_tell 7 = .ok (.putfield 129, 3) := by decide +kernel
theorem d_Md_tell_10 : decode b_Md_tell 10 = .ok (.aload_n 0, 1) := by decide +kernel
theorem d_Md_tell_11 : decode b_Md_tell 11 = .ok (.iconst 0, 1) := by decide +kernel
theorem d_Md_tell_12 : decode b_Md_tell 12 = .ok (.putfield 167, 3) := by decide +kernel
theorem d_Md_tell_15 : decode b_Md_tell 15 = .ok (.aload_n 0, 1) := by decide +kernel
theorem d_Md_tell_16 : decode b_Md_tell 16 = .ok (.iconst 0, 1) := by decide +kernel
theorem d_Md_tell_17 : decode b_Md_tell 17 = .ok (.putfield 142, 3) := by decide +kernel
theorem d_Md_tell_20 : decode b_Md_tell 20 = .ok (.aload_n 0, 1) := by decide +kernel
theorem d_Md_tell_21 : decode b_Md_tell 21 = .ok (.iconst 0, 1) := by decide +kernel
theorem d_Md_tell_22 : decode b_Md_tell 22 = .ok (.putfield 132, 3) := by decide +kernel
theorem d_Md_tell_25 : decode b_Md_tell 25 = .ok (.aload_n 0, 1) := by decide +kernel
theorem d_Md_tell_26 : decode b_Md_tell 26 = .ok (.invokevirtual 121, 3) := by decide +kernel
theorem d_Md_tell_29 : decode b_Md_tell 29 = .ok (.iconst 0, 1) := by decide +kernel
theorem d_Md_tell_30 : decode b_Md_tell 30 = .ok (.istore_n 1, 1) := by decide +kernel
theorem d_Md_tell_31 : decode b_Md_tell 31 = .ok (.iload_n 1, 1) := by decide +kernel
theorem d_Md_tell_32 : decode b_Md_tell 32 = .ok (.aload_n 0, 1) := by decide +kernel
theorem d_Md_tell_33 : decode b_Md_tell 33 = .ok (.getfield 61, 3) := by decide +kernel
theorem d_Md_tell_36 : decode b_Md_tell 36 = .ok (.if_icmp .ge 44, 3) := by decide +kernel
theorem d_Md_tell_39 : decode b_Md_tell 39 = .ok (.aload_n 0, 1) := by decide +kernel
theorem d_Md_tell_40 : decode b_Md_tell 40 = .ok (.getfield 111, 3) := by decide +kernel
theorem d_Md_tell_43 : decode b_Md_tell 43 = .ok (.ifCond .eq 11, 3) := by decide +kernel
theorem d_Md_tell_46 : decode b_Md_tell 46 = .ok (.aload_n 0, 1) := by decide +kernel
theorem d_Md_tell_47 : decode b_Md_tell 47 = .ok (.iconst 0, 1) := by decide +kernel
theorem d_Md_tell_48 : decode b_Md_tell 48 = .ok (.ldc 170, 2) := by decide +kernel
theorem d_Md_tell_50 : decode b_Md_tell 50 = .ok (.iload_n 1, 1) := by decide +kernel
theorem d_Md_tell_51 : decode b_Md_tell 51 = .ok (.invokevirtual 138, 3) := by decide +kernel
theorem d_Md_tell_54 : decode b_Md_tell 54 = .ok (.aload_n 0, 1) := by decide +kernel
theorem d_Md_tell_55 : decode b_Md_tell 55 = .ok (.getfield 108, 3) := by decide +kernel
theorem d_Md_tell_58 : decode b_Md_tell 58 = .ok (.ifCond .eq 11, 3) := by decide +kernel
theorem d_Md_tell_61 : decode b_Md_tell 61 = .ok (.aload_n 0, 1) := by decide +kernel
theorem d_Md_tell_62 : decode b_Md_tell 62 = .ok (.iload_n 1, 1) := by decide +kernel
theorem d_Md_tell_63 : decode b_Md_tell 63 = .ok (.invokevirtual 171, 3) := by decide +kernel
theorem d_Md_tell_66 : decode b_Md_tell 66 = .ok (.goto 8, 3) := by decide +kernel
theorem d_Md_tell_69 : decode b_Md_tell 69 = .ok (.aload_n 0, 1) := by decide +kernel
theorem d_Md_tell_70 : decode b_Md_tell 70 = .ok (.iload_n 1, 1) := by decide +kernel
theorem d_Md_tell_71 : decode b_Md_tell 71 = .ok (.invokevirtual 175, 3) := by decide +kernel
theorem d_Md_tell_74 : decode b_Md_tell 74 = .ok (.iinc 1 1, 3) := by decide +kernel
theorem d_Md_tell_77 : decode b_Md_tell 77 = .ok (.goto (-46), 3) := by decide +kernel
theorem d_Md_tell_80 : decode b_Md_tell 80 = .ok (.aload_n 0, 1) := by decide +kernel
theorem d_Md_tell_81 : decode b_Md_tell 81 = .ok (.getfield 111, 3) := by decide +kernel
theorem d_Md_tell_84 : decode b_Md_tell 84 = .ok (.ifCond .eq 14, 3) := by decide +kernel
theorem d_Md_tell_87 : decode b_Md_tell 87 = .ok (.aload_n 0, 1) := by decide +kernel
theorem d_Md_tell_88 : decode b_Md_tell 88 = .ok (.iconst 1, 1) := by decide +kernel
theorem d_Md_tell_89 : decode b_Md_tell 89 = .ok (.ldc 170, 2) := by decide +kernel
theorem d_Md_tell_91 : decode b_Md_tell 91 = .ok (.aload_n 0, 1) := by decide +kernel
theorem d_Md_tell_92 : decode b_Md_tell 92 = .ok (.getfield 61, 3) := by decide +kernel
theorem d_Md_tell_95 : decode b_Md_tell 95 = .ok (.invokevirtual 138, 3) := by decide +kernel
theorem d_Md_tell_98 : decode b_Md_tell 98 = .ok (.aload_n 0, 1) := by decide +kernel
theorem d_Md_tell_99 : decode b_Md_tell 99 = .ok (.getfield 129, 3) := by decide +kernel
theorem d_Md_tell_102 : decode b_Md_tell 102 = .ok (.ireturn, 1) := by decide +kernel
theorem d_Md_bit_0 : decode b_Md_bit 0 = .ok (.aload_n 0, 1) := by decide +kernel
theorem d_Md_bit_1 : decode b_Md_bit 1 = .ok (.iload_n 1, 1) := by decide +kernel
theorem d_Md_bit_2 : decode b_Md_bit 2 = .ok (.iconst 0, 1) := by decide +kernel
theorem d_Md_bit_3 : decode b_Md_bit 3 = .ok (.aload_n 0, 1) := by decide +kernel
theorem d_Md_bit_4 : decode b_Md_bit 4 = .ok (.getfield 129, 3) := by decide +kernel
theorem d_Md_bit_7 : decode b_Md_bit 7 = .ok (.iconst 1, 1) := by decide +kernel
theorem d_Md_bit_8 : decode b_Md_bit 8 = .ok (.isub, 1) := by decide +kernel
theorem d_Md_bit_9 : decode b_Md_bit 9 = .ok (.invokestatic 73, 3) := by decide +kernel
theorem d_Md_bit_12 : decode b_Md_bit 12 = .ok (.ifCond .ne 7, 3) := by decide +kernel
theorem d_Md_bit_15 : decode b_Md_bit 15 = .ok (.iconst 1, 1) := by decide +kernel
theorem d_Md_bit_16 : decode b_Md_bit 16 = .ok (.goto 17, 3) := by decide +kernel
theorem d_Md_bit_19 : decode b_Md_bit 19 = .ok (.iload_n 2, 1) := by decide +kernel
theorem d_Md_bit_20 : decode b_Md_bit 20 = .ok (.iconst 0, 1) := by decide +kernel
theorem d_Md_bit_21 : decode b_Md_bit 21 = .ok (.iconst 2, 1) := by decide +kernel
theorem d_Md_bit_22 : decode b_Md_bit 22 = .ok (.invokestatic 73, 3) := by decide +kernel
theorem d_Md_bit_25 : decode b_Md_bit 25 = .ok (.ifCond .ne 7, 3) := by decide +kernel
theorem d_Md_bit_28 : decode b_Md_bit 28 = .ok (.iconst 2, 1) := by decide +kernel
theorem d_Md_bit_29 : decode b_Md_bit 29 = .ok (.goto 4, 3) := by decide +kernel
theorem d_Md_bit_32 : decode b_Md_bit 32 = .ok (.iconst 0, 1) := by decide +kernel
theorem d_Md_bit_33 : decode b_Md_bit 33 = .ok (.putfield 70, 3) := by decide +kernel
theorem d_Md_bit_36 : decode b_Md_bit 36 = .ok (.aload_n 0, 1) := by decide +kernel
theorem d_Md_bit_37 : decode b_Md_bit 37 = .ok (.getfield 70, 3) := by decide +kernel
theorem d_Md_bit_40 : decode b_Md_bit 40 = .ok (.ifCond .le 7, 3) := by decide +kernel
theorem d_Md_bit_43 : decode b_Md_bit 43 = .ok (.iconst 0, 1) := by decide +kernel
theorem d_Md_bit_44 : decode b_Md_bit 44 = .ok (.goto 36, 3) := by decide +kernel
theorem d_Md_bit_47 : decode b_Md_bit 47 = .ok (.iload_n 2, 1) := by decide +kernel
theorem d_Md_bit_48 : decode b_Md_bit 48 = .ok (.ifCond .ne 12, 3) := by decide +kernel
theorem d_Md_bit_51 : decode b_Md_bit 51 = .ok (.aload_n 0, 1) := by decide +kernel
theorem d_Md_bit_52 : decode b_Md_bit 52 = .ok (.getfield 38, 3) := by decide +kernel
theorem d_Md_bit_55 : decode b_Md_bit 55 = .ok (.iload_n 1, 1) := by decide +kernel
theorem d_Md_bit_56 : decode b_Md_bit 56 = .ok (.iaload, 1) := by decide +kernel
theorem d_Md_bit_57 : decode b_Md_bit 57 = .ok (.goto 23, 3) := by decide +kernel
theorem d_Md_bit_60 : decode b_Md_bit 60 = .ok (.iload_n 2, 1) := by decide +kernel
theorem d_Md_bit_61 : decode b_Md_bit 61 = .ok (.iconst 1, 1) := by decide +kernel
theorem d_Md_bit_62 : decode b_Md_bit 62 = .ok (.if_icmp .ne 12, 3) := by decide +kernel
theorem d_Md_bit_65 : decode b_Md_bit 65 = .ok (.aload_n 0, 1) := by decide +kernel
theorem d_Md_bit_66 : decode b_Md_bit 66 = .ok (.getfield 41, 3) := by decide +kernel
theorem d_Md_bit_69 : decode b_Md_bit 69 = .ok (.iload_n 1, 1) := by decide +kernel
theorem d_Md_bit_70 : decode b_Md_bit 70 = .ok (.iaload, 1) := by decide +kernel
theorem d_Md_bit_71 : decode b_Md_bit 71 = .ok (.goto 9, 3) := by decide +kernel
theorem d_Md_bit_74 : decode b_Md_bit 74 = .ok (.aload_n 0, 1) := by decide +kernel
theorem d_Md_bit_75 : decode b_Md_bit 75 = .ok (.getfield 44, 3) := by decide +kernel
theorem d_Md_bit_78 : decode b_Md_bit 78 = .ok (.iload_n 1, 1) := by decide +kernel
theorem d_Md_bit_79 : decode b_Md_bit 79 = .ok (.iaload, 1) := by decide +kernel
theorem d_Md_bit_80 : decode b_Md_bit 80 = .ok (.ireturn, 1) := by decide +kernel
theorem d_Md_copies_0 : decode b_Md_copies 0 = .ok (.aload_n 0, 1) := by decide +kernel
theorem d_Md_copies_1 : decode b_Md_copies 1 = .ok (.iconst 0, 1) := by decide +kernel
theorem d_Md_copies_2 : decode b_Md_copies 2 = .ok (.putfield 70, 3) := by decide +kernel
theorem d_Md_copies_5 : decode b_Md_copies 5 = .ok (.aload_n 0, 1) := by decide +kernel
theorem d_Md_copies_6 : decode b_Md_copies 6 = .ok (.getfield 142, 3) := by decide +kernel
theorem d_Md_copies_9 : decode b_Md_copies 9 = .ok (.ireturn, 1) := by decide +kernel
theorem d_Md_feed_0 : decode b_Md_feed 0 = .ok (.aload_n 0, 1) := by decide +kernel
theorem d_Md_feed_1 : decode b_Md_feed 1 = .ok (.iload_n 1, 1) := by decide +kernel
theorem d_Md_feed_2 : decode b_Md_feed 2 = .ok (.iconst 0, 1) := by decide +kernel
theorem d_Md_feed_3 : decode b_Md_feed 3 = .ok (.iconst 1, 1) := by decide +kernel
theorem d_Md_feed_4 : decode b_Md_feed 4 = .ok (.invokestatic 73, 3) := by decide +kernel
theorem d_Md_feed_7 : decode b_Md_feed 7 = .ok (.ifCond .ne 7, 3) := by decide +kernel
theorem d_Md_feed_10 : decode b_Md_feed 10 = .ok (.iconst 1, 1) := by decide +kernel
theorem d_Md_feed_11 : decode b_Md_feed 11 = .ok (.goto 18, 3) := by decide +kernel
theorem d_Md_feed_14 : decode b_Md_feed 14 = .ok (.aload_n 0, 1) := by decide +kernel
theorem d_Md_feed_15 : decode b_Md_feed 15 = .ok (.getfield 178, 3) := by decide +kernel
theorem d_Md_feed_18 : decode b_Md_feed 18 = .ok (.sipush 6000, 3) := by decide +kernel
theorem d_Md_feed_21 : decode b_Md_feed 21 = .ok (.if_icmp .ne 7, 3) := by decide +kernel
theorem d_Md_feed_24 : decode b_Md_feed 24 = .ok (.iconst 2, 1) := by decide +kernel
theorem d_Md_feed_25 : decode b_Md_feed 25 = .ok (.goto 4, 3) := by decide +kernel
theorem d_Md_feed_28 : decode b_Md_feed 28 = .ok (.iconst 0, 1) := by decide +kernel
theorem d_Md_feed_29 : decode b_Md_feed 29 = .ok (.putfield 70, 3) := by decide +kernel
theorem d_Md_feed_32 : decode b_Md_feed 32 = .ok (.aload_n 0, 1) := by decide +kernel
theorem d_Md_feed_33 : decode b_Md_feed 33 = .ok (.getfield 70, 3) := by decide +kernel
theorem d_Md_feed_36 : decode b_Md_feed 36 = .ok (.ifCond .le 5, 3) := by decide +kernel
theorem d_Md_feed_39 : decode b_Md_feed 39 = .ok (.iconst 0, 1) := by decide +kernel
theorem d_Md_feed_40 : decode b_Md_feed 40 = .ok (.ireturn, 1) := by decide +kernel
theorem d_Md_feed_41 : decode b_Md_feed 41 = .ok (.aload_n 0, 1) := by decide +kernel
theorem d_Md_feed_42 : decode b_Md_feed 42 = .ok (.getfield 47, 3) := by decide +kernel
theorem d_Md_feed_45 : decode b_Md_feed 45 = .ok (.aload_n 0, 1) := by decide +kernel
theorem d_Md_feed_46 : decode b_Md_feed 46 = .ok (.getfield 178, 3) := by decide +kernel
theorem d_Md_feed_49 : decode b_Md_feed 49 = .ok (.iload_n 1, 1) := by decide +kernel
theorem d_Md_feed_50 : decode b_Md_feed 50 = .ok (.iastore, 1) := by decide +kernel
theorem d_Md_feed_51 : decode b_Md_feed 51 = .ok (.aload_n 0, 1) := by decide +kernel
theorem d_Md_feed_52 : decode b_Md_feed 52 = .ok (.dup, 1) := by decide +kernel
theorem d_Md_feed_53 : decode b_Md_feed 53 = .ok (.getfield 178, 3) := by decide +kernel
theorem d_Md_feed_56 : decode b_Md_feed 56 = .ok (.iconst 1, 1) := by decide +kernel
theorem d_Md_feed_57 : decode b_Md_feed 57 = .ok (.iadd, 1) := by decide +kernel
theorem d_Md_feed_58 : decode b_Md_feed 58 = .ok (.putfield 178, 3) := by decide +kernel
theorem d_Md_feed_61 : decode b_Md_feed 61 = .ok (.aload_n 0, 1) := by decide +kernel
theorem d_Md_feed_62 : decode b_Md_feed 62 = .ok (.getfield 178, 3) := by decide +kernel
theorem d_Md_feed_65 : decode b_Md_feed 65 = .ok (.ireturn, 1) := by decide +kernel
theorem d_Md_pass_0 : decode b_Md_pass 0 = .ok (.iload_n 1, 1) := by decide +kernel
theorem d_Md_pass_1 : decode b_Md_pass 1 = .ok (.aload_n 0, 1) := by decide +kernel
theorem d_Md_pass_2 : decode b_Md_pass 2 = .ok (.getfield 129, 3) := by decide +kernel
theorem d_Md_pass_5 : decode b_Md_pass 5 = .ok (.aload_n 0, 1) := by decide +kernel
theorem d_Md_pass_6 : decode b_Md_pass 6 = .ok (.getfield 167, 3) := by decide +kernel
theorem d_Md_pass_9 : decode b_Md_pass 9 = .ok (.isub, 1) := by decide +kernel
theorem d_Md_pass_10 : decode b_Md_pass 10 = .ok (.if_icmp .ge 7, 3) := by decide +kernel
theorem d_Md_pass_13 : decode b_Md_pass 13 = .ok (.iload_n 1, 1) := by decide +kernel
theorem d_Md_pass_14 : decode b_Md_pass 14 = .ok (.goto 12, 3) := by decide +kernel
theorem d_Md_pass_17 : decode b_Md_pass 17 = .ok (.aload_n 0, 1) := by decide +kernel
theorem d_Md_pass_18 : decode b_Md_pass 18 = .ok (.getfield 129, 3) := by decide +kernel
theorem d_Md_pass_21 : decode b_Md_pass 21 = .ok (.aload_n 0, 1) := by decide +kernel
theorem d_Md_pass_22 : decode b_Md_pass 22 = .ok (.getfield 167, 3) := by decide +kernel
