theorem d_Md_readPassed_20 : decode b_Md_readPassed 20 = .ok (.getfield 148, 3) := by decide +kernel
theorem d_Md_readPassed_23 : decode b_Md_readPassed 23 = .ok (.invokevirtual 152, 3) := by decide +kernel
theorem d_Md_readPassed_26 : decode b_Md_readPassed 26 = .ok (.istore_n 2, 1) := by decide +kernel
theorem d_Md_readPassed_27 : decode b_Md_readPassed 27 = .ok (.aload_n 0, 1) := by decide +kernel
theorem d_Md_readPassed_28 : decode b_Md_readPassed 28 = .ok (.iload_n 2, 1) := by decide +kernel
theorem d_Md_readPassed_29 : decode b_Md_readPassed 29 = .ok (.aload_n 0, 1) := by decide +kernel
theorem d_Md_readPassed_30 : decode b_Md_readPassed 30 = .ok (.getfield 57, 3) := by decide +kernel
theorem d_Md_readPassed_33 : decode b_Md_readPassed 33 = .ok (.if_icmp .ne 7, 3) := by decide +kernel
theorem d_Md_readPassed_36 : decode b_Md_readPassed 36 = .ok (.iconst 1, 1) := by decide +kernel
theorem d_Md_readPassed_37 : decode b_Md_readPassed 37 = .ok (.goto 4, 3) := by decide +kernel
theorem d_Md_readPassed_40 : decode b_Md_readPassed 40 = .ok (.iconst 0, 1) := by decide +kernel
theorem d_Md_readPassed_41 : decode b_Md_readPassed 41 = .ok (.iconst 1, 1) := by decide +kernel
theorem d_Md_readPassed_42 : decode b_Md_readPassed 42 = .ok (.invokevirtual 193, 3) := by decide +kernel
theorem d_Md_readPassed_45 : decode b_Md_readPassed 45 = .ok (.aload_n 0, 1) := by decide +kernel
theorem d_Md_readPassed_46 : decode b_Md_readPassed 46 = .ok (.iload_n 1, 1) := by decide +kernel
theorem d_Md_readPassed_47 : decode b_Md_readPassed 47 = .ok (.aload_n 0, 1) := by decide +kernel
theorem d_Md_readPassed_48 : decode b_Md_readPassed 48 = .ok (.getfield 145, 3) := by decide +kernel
theorem d_Md_readPassed_51 : decode b_Md_readPassed 51 = .ok (.ifCond .ge 7, 3) := by decide +kernel
theorem d_Md_readPassed_54 : decode b_Md_readPassed 54 = .ok (.iconst 0, 1) := by decide +kernel
theorem d_Md_readPassed_55 : decode b_Md_readPassed 55 = .ok (.goto 7, 3) := by decide +kernel
theorem d_Md_readPassed_58 : decode b_Md_readPassed 58 = .ok (.aload_n 0, 1) := by decide +kernel
theorem d_Md_readPassed_59 : decode b_Md_readPassed 59 = .ok (.getfield 145, 3) := by decide +kernel
theorem d_Md_readPassed_62 : decode b_Md_readPassed 62 = .ok (.iload_n 2, 1) := by decide +kernel
theorem d_Md_readPassed_63 : decode b_Md_readPassed 63 = .ok (.aload_n 0, 1) := by decide +kernel
theorem d_Md_readPassed_64 : decode b_Md_readPassed 64 = .ok (.getfield 148, 3) := by decide +kernel
theorem d_Md_readPassed_67 : decode b_Md_readPassed 67 = .ok (.invokevirtual 197, 3) := by decide +kernel
theorem d_Md_readPassed_70 : decode b_Md_readPassed 70 = .ok (.aload_n 0, 1) := by decide +kernel
theorem d_Md_readPassed_71 : decode b_Md_readPassed 71 = .ok (.iload_n 2, 1) := by decide +kernel
theorem d_Md_readPassed_72 : decode b_Md_readPassed 72 = .ok (.putfield 145, 3) := by decide +kernel
theorem d_Md_readPassed_75 : decode b_Md_readPassed 75 = .ok (.return_, 1) := by decide +kernel
theorem d_Md_readAcross_0 : decode b_Md_readAcross 0 = .ok (.aload_n 0, 1) := by decide +kernel
theorem d_Md_readAcross_1 : decode b_Md_readAcross 1 = .ok (.getfield 145, 3) := by decide +kernel
theorem d_Md_readAcross_4 : decode b_Md_readAcross 4 = .ok (.ifCond .ge 7, 3) := by decide +kernel
theorem d_Md_readAcross_7 : decode b_Md_readAcross 7 = .ok (.iconst 0, 1) := by decide +kernel
theorem d_Md_readAcross_8 : decode b_Md_readAcross 8 = .ok (.goto 7, 3) := by decide +kernel
theorem d_Md_readAcross_11 : decode b_Md_readAcross 11 = .ok (.aload_n 0, 1) := by decide +kernel
theorem d_Md_readAcross_12 : decode b_Md_readAcross 12 = .ok (.getfield 145, 3) := by decide +kernel
theorem d_Md_readAcross_15 : decode b_Md_readAcross 15 = .ok (.istore_n 2, 1) := by decide +kernel
theorem d_Md_readAcross_16 : decode b_Md_readAcross 16 = .ok (.iload_n 2, 1) := by decide +kernel
theorem d_Md_readAcross_17 : decode b_Md_readAcross 17 = .ok (.aload_n 0, 1) := by decide +kernel
theorem d_Md_readAcross_18 : decode b_Md_readAcross 18 = .ok (.invokevirtual 201, 3) := by decide +kernel
theorem d_Md_readAcross_21 : decode b_Md_readAcross 21 = .ok (.iadd, 1) := by decide +kernel
theorem d_Md_readAcross_22 : decode b_Md_readAcross 22 = .ok (.istore_n 3, 1) := by decide +kernel
theorem d_Md_readAcross_23 : decode b_Md_readAcross 23 = .ok (.aload_n 0, 1) := by decide +kernel
theorem d_Md_readAcross_24 : decode b_Md_readAcross 24 = .ok (.getfield 187, 3) := by decide +kernel
theorem d_Md_readAcross_27 : decode b_Md_readAcross 27 = .ok (.ifCond .ge 12, 3) := by decide +kernel
theorem d_Md_readAcross_30 : decode b_Md_readAcross 30 = .ok (.iload_n 3, 1) := by decide +kernel
theorem d_Md_readAcross_31 : decode b_Md_readAcross 31 = .ok (.aload_n 0, 1) := by decide +kernel
theorem d_Md_readAcross_32 : decode b_Md_readAcross 32 = .ok (.invokevirtual 201, 3) := by decide +kernel
theorem d_Md_readAcross_35 : decode b_Md_readAcross 35 = .ok (.iadd, 1) := by decide +kernel
theorem d_Md_readAcross_36 : decode b_Md_readAcross 36 = .ok (.goto 4, 3) := by decide +kernel
theorem d_Md_readAcross_39 : decode b_Md_readAcross 39 = .ok (.iload_n 3, 1) := by decide +kernel
theorem d_Md_readAcross_40 : decode b_Md_readAcross 40 = .ok (.istore 4, 2) := by decide +kernel
theorem d_Md_readAcross_42 : decode b_Md_readAcross 42 = .ok (.aload_n 0, 1) := by decide +kernel
theorem d_Md_readAcross_43 : decode b_Md_readAcross 43 = .ok (.iload 4, 2) := by decide +kernel
theorem d_Md_readAcross_45 : decode b_Md_readAcross 45 = .ok (.aload_n 0, 1) := by decide +kernel
theorem d_Md_readAcross_46 : decode b_Md_readAcross 46 = .ok (.getfield 57, 3) := by decide +kernel
theorem d_Md_readAcross_49 : decode b_Md_readAcross 49 = .ok (.if_icmp .gt 12, 3) := by decide +kernel
theorem d_Md_readAcross_52 : decode b_Md_readAcross 52 = .ok (.iload 4, 2) := by decide +kernel
theorem d_Md_readAcross_54 : decode b_Md_readAcross 54 = .ok (.aload_n 0, 1) := by decide +kernel
theorem d_Md_readAcross_55 : decode b_Md_readAcross 55 = .ok (.getfield 145, 3) := by decide +kernel
theorem d_Md_readAcross_58 : decode b_Md_readAcross 58 = .ok (.if_icmp .gt 7, 3) := by decide +kernel
theorem d_Md_readAcross_61 : decode b_Md_readAcross 61 = .ok (.iconst 1, 1) := by decide +kernel
theorem d_Md_readAcross_62 : decode b_Md_readAcross 62 = .ok (.goto 4, 3) := by decide +kernel
theorem d_Md_readAcross_65 : decode b_Md_readAcross 65 = .ok (.iconst 0, 1) := by decide +kernel
theorem d_Md_readAcross_66 : decode b_Md_readAcross 66 = .ok (.iconst 2, 1) := by decide +kernel
theorem d_Md_readAcross_67 : decode b_Md_readAcross 67 = .ok (.invokevirtual 193, 3) := by decide +kernel
theorem d_Md_readAcross_70 : decode b_Md_readAcross 70 = .ok (.aload_n 0, 1) := by decide +kernel
theorem d_Md_readAcross_71 : decode b_Md_readAcross 71 = .ok (.iload_n 1, 1) := by decide +kernel
theorem d_Md_readAcross_72 : decode b_Md_readAcross 72 = .ok (.iload_n 2, 1) := by decide +kernel
theorem d_Md_readAcross_73 : decode b_Md_readAcross 73 = .ok (.iload_n 3, 1) := by decide +kernel
theorem d_Md_readAcross_74 : decode b_Md_readAcross 74 = .ok (.aload_n 0, 1) := by decide +kernel
theorem d_Md_readAcross_75 : decode b_Md_readAcross 75 = .ok (.getfield 148, 3) := by decide +kernel
theorem d_Md_readAcross_78 : decode b_Md_readAcross 78 = .ok (.invokevirtual 197, 3) := by decide +kernel
theorem d_Md_readAcross_81 : decode b_Md_readAcross 81 = .ok (.aload_n 0, 1) := by decide +kernel
theorem d_Md_readAcross_82 : decode b_Md_readAcross 82 = .ok (.iload_n 1, 1) := by decide +kernel
theorem d_Md_readAcross_83 : decode b_Md_readAcross 83 = .ok (.iload_n 3, 1) := by decide +kernel
theorem d_Md_readAcross_84 : decode b_Md_readAcross 84 = .ok (.iload 4, 2) := by decide +kernel
theorem d_Md_readAcross_86 : decode b_Md_readAcross 86 = .ok (.aload_n 0, 1) := by decide +kernel
theorem d_Md_readAcross_87 : decode b_Md_readAcross 87 = .ok (.getfield 148, 3) := by decide +kernel
theorem d_Md_readAcross_90 : decode b_Md_readAcross 90 = .ok (.ifCond .ne 7, 3) := by decide +kernel
theorem d_Md_readAcross_93 : decode b_Md_readAcross 93 = .ok (.iconst 1, 1) := by decide +kernel
theorem d_Md_readAcross_94 : decode b_Md_readAcross 94 = .ok (.goto 4, 3) := by decide +kernel
theorem d_Md_readAcross_97 : decode b_Md_readAcross 97 = .ok (.iconst 0, 1) := by decide +kernel
theorem d_Md_readAcross_98 : decode b_Md_readAcross 98 = .ok (.invokevirtual 197, 3) := by decide +kernel
theorem d_Md_readAcross_101 : decode b_Md_readAcross 101 = .ok (.aload_n 0, 1) := by decide +kernel
theorem d_Md_readAcross_102 : decode b_Md_readAcross 102 = .ok (.iload 4, 2) := by decide +kernel
theorem d_Md_readAcross_104 : decode b_Md_readAcross 104 = .ok (.putfield 145, 3) := by decide +kernel
theorem d_Md_readAcross_107 : decode b_Md_readAcross 107 = .ok (.return_, 1) := by decide +kernel
theorem d_Md_readFax_0 : decode b_Md_readFax 0 = .ok (.aload_n 0, 1) := by decide +kernel
theorem d_Md_readFax_1 : decode b_Md_readFax 1 = .ok (.iconst (-1), 1) := by decide +kernel
theorem d_Md_readFax_2 : decode b_Md_readFax 2 = .ok (.putfield 145, 3) := by decide +kernel
theorem d_Md_readFax_5 : decode b_Md_readFax 5 = .ok (.aload_n 0, 1) := by decide +kernel
theorem d_Md_readFax_6 : decode b_Md_readFax 6 = .ok (.iconst 0, 1) := by decide +kernel
theorem d_Md_readFax_7 : decode b_Md_readFax 7 = .ok (.putfield 148, 3) := by decide +kernel
theorem d_Md_readFax_10 : decode b_Md_readFax 10 = .ok (.aload_n 0, 1) := by decide +kernel
theorem d_Md_readFax_11 : decode b_Md_readFax 11 = .ok (.getfield 145, 3) := by decide +kernel
theorem d_Md_readFax_14 : decode b_Md_readFax 14 = .ok (.aload_n 0, 1) := by decide +kernel
theorem d_Md_readFax_15 : decode b_Md_readFax 15 = .ok (.getfield 57, 3) := by decide +kernel
theorem d_Md_readFax_18 : decode b_Md_readFax 18 = .ok (.if_icmp .ge 162, 3) := by decide +kernel
theorem d_Md_readFax_21 : decode b_Md_readFax 21 = .ok (.aload_n 0, 1) := by decide +kernel
theorem d_Md_readFax_22 : decode b_Md_readFax 22 = .ok (.getfield 187, 3) := by decide +kernel
theorem d_Md_readFax_25 : decode b_Md_readFax 25 = .ok (.ifCond .ge 155, 3) := by decide +kernel
theorem d_Md_readFax_28 : decode b_Md_readFax 28 = .ok (.aload_n 0, 1) := by decide +kernel
theorem d_Md_readFax_29 : decode b_Md_readFax 29 = .ok (.getfield 181, 3) := by decide +kernel
theorem d_Md_readFax_32 : decode b_Md_readFax 32 = .ok (.ifCond .ne 148, 3) := by decide +kernel
theorem d_Md_readFax_35 : decode b_Md_readFax 35 = .ok (.iconst 0, 1) := by decide +kernel
theorem d_Md_readFax_36 : decode b_Md_readFax 36 = .ok (.istore_n 2, 1) := by decide +kernel
theorem d_Md_readFax_37 : decode b_Md_readFax 37 = .ok (.iload_n 2, 1) := by decide +kernel
theorem d_Md_readFax_38 : decode b_Md_readFax 38 = .ok (.bipush 7, 2) := by decide +kernel
theorem d_Md_readFax_40 : decode b_Md_readFax 40 = .ok (.if_icmp .ge 16, 3) := by decide +kernel
theorem d_Md_readFax_43 : decode b_Md_readFax 43 = .ok (.aload_n 0, 1) := by decide +kernel
theorem d_Md_readFax_44 : decode b_Md_readFax 44 = .ok (.invokevirtual 190, 3) := by decide +kernel
theorem d_Md_readFax_47 : decode b_Md_readFax 47 = .ok (.ifCond .ne 9, 3) := by decide +kernel
theorem d_Md_readFax_50 : decode b_Md_readFax 50 = .ok (.iinc 2 1, 3) := by decide +kernel
theorem d_Md_readFax_53 : decode b_Md_readFax 53 = .ok (.goto (-16), 3) := by decide +kernel
theorem d_Md_readFax_56 : decode b_Md_readFax 56 = .ok (.iload_n 2, 1) := by decide +kernel
theorem d_Md_readFax_57 : decode b_Md_readFax 57 = .ok (.iconst 1, 1) := by decide +kernel
theorem d_Md_readFax_58 : decode b_Md_readFax 58 = .ok (.if_icmp .eq 13, 3) := by decide +kernel
theorem d_Md_readFax_61 : decode b_Md_readFax 61 = .ok (.iload_n 2, 1) := by decide +kernel
theorem d_Md_readFax_62 : decode b_Md_readFax 62 = .ok (.iconst 4, 1) := by decide +kernel
theorem d_Md_readFax_63 : decode b_Md_readFax 63 = .ok (.if_icmp .eq 8, 3) := by decide +kernel
theorem d_Md_readFax_66 : decode b_Md_readFax 66 = .ok (.iload_n 2, 1) := by decide +kernel
theorem d_Md_readFax_67 : decode b_Md_readFax 67 = .ok (.iconst 5, 1) := by decide +kernel
theorem d_Md_readFax_68 : decode b_Md_readFax 68 = .ok (.if_icmp .ne 14, 3) := by decide +kernel
theorem d_Md_readFax_71 : decode b_Md_readFax 71 = .ok (.iconst 2, 1) := by decide +kernel
theorem d_Md_readFax_72 : decode b_Md_readFax 72 = .ok (.aload_n 0, 1) := by decide +kernel
theorem d_Md_readFax_73 : decode b_Md_readFax 73 = .ok (.invokevirtual 190, 3) := by decide +kernel
theorem d_Md_readFax_76 : decode b_Md_readFax 76 = .ok (.imul, 1) := by decide +kernel
theorem d_Md_readFax_77 : decode b_Md_readFax 77 = .ok (.iconst 1, 1) := by decide +kernel
theorem d_Md_readFax_78 : decode b_Md_readFax 78 = .ok (.isub, 1) := by decide +kernel
theorem d_Md_readFax_79 : decode b_Md_readFax 79 = .ok (.goto 4, 3) := by decide +kernel
theorem d_Md_readFax_82 : decode b_Md_readFax 82 = .ok (.iconst 0, 1) := by decide +kernel
theorem d_Md_readFax_83 : decode b_Md_readFax 83 = .ok (.istore_n 3, 1) := by decide +kernel
theorem d_Md_readFax_84 : decode b_Md_readFax 84 = .ok (.iload_n 2, 1) := by decide +kernel
theorem d_Md_readFax_85 : decode b_Md_readFax 85 = .ok (.tableswitch 86 0 5 #[39, 48, 57, 65, 73, 73], 39) := by decide +kernel
theorem d_Md_readFax_124 : decode b_Md_readFax 124 = .ok (.aload_n 0, 1) := by decide +kernel
theorem d_Md_readFax_125 : decode b_Md_readFax 125 = .ok (.iload_n 1, 1) := by decide +kernel
theorem d_Md_readFax_126 : decode b_Md_readFax 126 = .ok (.iconst 0, 1) := by decide +kernel
theorem d_Md_readFax_127 : decode b_Md_readFax 127 = .ok (.invokevirtual 204, 3) := by decide +kernel
theorem d_Md_readFax_130 : decode b_Md_readFax 130 = .ok (.goto 47, 3) := by decide +kernel
theorem d_Md_readFax_133 : decode b_Md_readFax 133 = .ok (.aload_n 0, 1) := by decide +kernel
theorem d_Md_readFax_134 : decode b_Md_readFax 134 = .ok (.iload_n 1, 1) := by decide +kernel
theorem d_Md_readFax_135 : decode b_Md_readFax 135 = .ok (.iload_n 3, 1) := by decide +kernel
theorem d_Md_readFax_136 : decode b_Md_readFax 136 = .ok (.invokevirtual 204, 3) := by decide +kernel
theorem d_Md_readFax_139 : decode b_Md_readFax 139 = .ok (.goto 38, 3) := by decide +kernel
theorem d_Md_readFax_142 : decode b_Md_readFax 142 = .ok (.aload_n 0, 1) := by decide +kernel
theorem d_Md_readFax_143 : decode b_Md_readFax 143 = .ok (.iload_n 1, 1) := by decide +kernel
theorem d_Md_readFax_144 : decode b_Md_readFax 144 = .ok (.invokevirtual 207, 3) := by decide +kernel
theorem d_Md_readFax_147 : decode b_Md_readFax 147 = .ok (.goto 30, 3) := by decide +kernel
theorem d_Md_readFax_150 : decode b_Md_readFax 150 = .ok (.aload_n 0, 1) := by decide +kernel
theorem d_Md_readFax_151 : decode b_Md_readFax 151 = .ok (.iload_n 1, 1) := by decide +kernel
theorem d_Md_readFax_152 : decode b_Md_readFax 152 = .ok (.invokevirtual 210, 3) := by decide +kernel
theorem d_Md_readFax_155 : decode b_Md_readFax 155 = .ok (.goto 22, 3) := by decide +kernel
theorem d_Md_readFax_158 : decode b_Md_readFax 158 = .ok (.aload_n 0, 1) := by decide +kernel
theorem d_Md_readFax_159 : decode b_Md_readFax 159 = .ok (.iload_n 1, 1) := by decide +kernel
theorem d_Md_readFax_160 : decode b_Md_readFax 160 = .ok (.iload_n 3, 1) := by decide +kernel
theorem d_Md_readFax_161 : decode b_Md_readFax 161 = .ok (.iload_n 2, 1) := by decide +kernel
theorem d_Md_readFax_162 : decode b_Md_readFax 162 = .ok (.iconst 2, 1) := by decide +kernel
theorem d_Md_readFax_163 : decode b_Md_readFax 163 = .ok (.isub, 1) := by decide +kernel
theorem d_Md_readFax_164 : decode b_Md_readFax 164 = .ok (.imul, 1) := by decide +kernel
theorem d_Md_readFax_165 : decode b_Md_readFax 165 = .ok (.invokevirtual 204, 3) := by decide +kernel
theorem d_Md_readFax_168 : decode b_Md_readFax 168 = .ok (.goto 9, 3) := by decide +kernel
theorem d_Md_readFax_171 : decode b_Md_readFax 171 = .ok (.aload_n 0, 1) := by decide +kernel
theorem d_Md_readFax_172 : decode b_Md_readFax 172 = .ok (.iconst 1, 1) := by decide +kernel
theorem d_Md_readFax_173 : decode b_Md_readFax 173 = .ok (.iconst 0, 1) := by decide +kernel
theorem d_Md_readFax_174 : decode b_Md_readFax 174 = .ok (.invokevirtual 193, 3) := by decide +kernel
theorem d_Md_readFax_177 : decode b_Md_readFax 177 = .ok (.goto (-167), 3) := by decide +kernel
theorem d_Md_readFax_180 : decode b_Md_readFax 180 = .ok (.return_, 1) := by decide +kernel
theorem d_Md_readOne_0 : decode b_Md_readOne 0 = .ok (.aload_n 0, 1) := by decide +kernel
theorem d_Md_readOne_1 : decode b_Md_readOne 1 = .ok (.getfield 111, 3) := by decide +kernel
theorem d_Md_readOne_4 : decode b_Md_readOne 4 = .ok (.ifCond .eq 15, 3) := by decide +kernel
theorem d_Md_readOne_7 : decode b_Md_readOne 7 = .ok (.aload_n 0, 1) := by decide +kernel
theorem d_Md_readOne_8 : decode b_Md_readOne 8 = .ok (.invokevirtual 190, 3) := by decide +kernel
theorem d_Md_readOne_11 : decode b_Md_readOne 11 = .ok (.iconst 1, 1) := by decide +kernel
theorem d_Md_readOne_12 : decode b_Md_readOne 12 = .ok (.if_icmp .ne 7, 3) := by decide +kernel
theorem d_Md_readOne_15 : decode b_Md_readOne 15 = .ok (.iconst 1, 1) := by decide +kernel
theorem d_Md_readOne_16 : decode b_Md_readOne 16 = .ok (.goto 4, 3) := by decide +kernel
theorem d_Md_readOne_19 : decode b_Md_readOne 19 = .ok (.iconst 0, 1) := by decide +kernel
theorem d_Md_readOne_20 : decode b_Md_readOne 20 = .ok (.istore_n 1, 1) := by decide +kernel
theorem d_Md_readOne_21 : decode b_Md_readOne 21 = .ok (.aload_n 0, 1) := by decide +kernel
theorem d_Md_readOne_22 : decode b_Md_readOne 22 = .ok (.getfield 181, 3) := by decide +kernel
theorem d_Md_readOne_25 : decode b_Md_readOne 25 = .ok (.ifCond .eq 5, 3) := by decide +kernel
theorem d_Md_readOne_28 : decode b_Md_readOne 28 = .ok (.iconst 0, 1) := by decide +kernel
theorem d_Md_readOne_29 : decode b_Md_readOne 29 = .ok (.ireturn, 1) := by decide +kernel
theorem d_Md_readOne_30 : decode b_Md_readOne 30 = .ok (.iload_n 1, 1) := by decide +kernel
theorem d_Md_readOne_31 : decode b_Md_readOne 31 = .ok (.ifCond .eq 18, 3) := by decide +kernel
theorem d_Md_readOne_34 : decode b_Md_readOne 34 = .ok (.aload_n 0, 1) := by decide +kernel
theorem d_Md_readOne_35 : decode b_Md_readOne 35 = .ok (.iconst 1, 1) := by decide +kernel
theorem d_Md_readOne_36 : decode b_Md_readOne 36 = .ok (.putfield 83, 3) := by decide +kernel
theorem d_Md_readOne_39 : decode b_Md_readOne 39 = .ok (.aload_n 0, 1) := by decide +kernel
theorem d_Md_readOne_40 : decode b_Md_readOne 40 = .ok (.aload_n 0, 1) := by decide +kernel
theorem d_Md_readOne_41 : decode b_Md_readOne 41 = .ok (.getfield 184, 3) := by decide +kernel
theorem d_Md_readOne_44 : decode b_Md_readOne 44 = .ok (.putfield 77, 3) := by decide +kernel
theorem d_Md_readOne_47 : decode b_Md_readOne 47 = .ok (.iconst 1, 1) := by decide +kernel
theorem d_Md_readOne_48 : decode b_Md_readOne 48 = .ok (.ireturn, 1) := by decide +kernel
theorem d_Md_readOne_49 : decode b_Md_readOne 49 = .ok (.aload_n 0, 1) := by decide +kernel
theorem d_Md_readOne_50 : decode b_Md_readOne 50 = .ok (.getfield 80, 3) := by decide +kernel
theorem d_Md_readOne_53 : decode b_Md_readOne 53 = .ok (.aload_n 0, 1) := by decide +kernel
theorem d_Md_readOne_54 : decode b_Md_readOne 54 = .ok (.getfield 61, 3) := by decide +kernel
theorem d_Md_readOne_57 : decode b_Md_readOne 57 = .ok (.if_icmp .ne 10, 3) := by decide +kernel
theorem d_Md_readOne_60 : decode b_Md_readOne 60 = .ok (.aload_n 0, 1) := by decide +kernel
theorem d_Md_readOne_61 : decode b_Md_readOne 61 = .ok (.iconst 3, 1) := by decide +kernel
theorem d_Md_readOne_62 : decode b_Md_readOne 62 = .ok (.putfield 87, 3) := by decide +kernel
theorem d_Md_readOne_65 : decode b_Md_readOne 65 = .ok (.iconst 0, 1) := by decide +kernel
theorem d_Md_readOne_66 : decode b_Md_readOne 66 = .ok (.ireturn, 1) := by decide +kernel
theorem d_Md_readOne_67 : decode b_Md_readOne 67 = .ok (.aload_n 0, 1) := by decide +kernel
theorem d_Md_readOne_68 : decode b_Md_readOne 68 = .ok (.iconst (-1), 1) := by decide +kernel
theorem d_Md_readOne_69 : decode b_Md_readOne 69 = .ok (.putfield 187, 3) := by decide +kernel
theorem d_Md_readOne_72 : decode b_Md_readOne 72 = .ok (.aload_n 0, 1) := by decide +kernel
theorem d_Md_readOne_73 : decode b_Md_readOne 73 = .ok (.getfield 108, 3) := by decide +kernel
theorem d_Md_readOne_76 : decode b_Md_readOne 76 = .ok (.ifCond .eq 14, 3) := by decide +kernel
theorem d_Md_readOne_79 : decode b_Md_readOne 79 = .ok (.aload_n 0, 1) := by decide +kernel
theorem d_Md_readOne_80 : decode b_Md_readOne 80 = .ok (.aload_n 0, 1) := by decide +kernel
theorem d_Md_readOne_81 : decode b_Md_readOne 81 = .ok (.getfield 80, 3) := by decide +kernel
theorem d_Md_readOne_84 : decode b_Md_readOne 84 = .ok (.invokevirtual 213, 3) := by decide +kernel
theorem d_Md_readOne_87 : decode b_Md_readOne 87 = .ok (.goto 11, 3) := by decide +kernel
theorem d_Md_readOne_90 : decode b_Md_readOne 90 = .ok (.aload_n 0, 1) := by decide +kernel
theorem d_Md_readOne_91 : decode b_Md_readOne 91 = .ok (.aload_n 0, 1) := by decide +kernel
theorem d_Md_readOne_92 : decode b_Md_readOne 92 = .ok (.getfield 80, 3) := by decide +kernel
theorem d_Md_readOne_95 : decode b_Md_readOne 95 = .ok (.invokevirtual 216, 3) := by decide +kernel
theorem d_Md_readOne_98 : decode b_Md_readOne 98 = .ok (.aload_n 0, 1) := by decide +kernel
theorem d_Md_readOne_99 : decode b_Md_readOne 99 = .ok (.getfield 181, 3) := by decide +kernel
theorem d_Md_readOne_102 : decode b_Md_readOne 102 = .ok (.ifCond .ne 10, 3) := by decide +kernel
theorem d_Md_readOne_105 : decode b_Md_readOne 105 = .ok (.aload_n 0, 1) := by decide +kernel
theorem d_Md_readOne_106 : decode b_Md_readOne 106 = .ok (.getfield 187, 3) := by decide +kernel
theorem d_Md_readOne_109 : decode b_Md_readOne 109 = .ok (.ifCond .lt 55, 3) := by decide +kernel
theorem d_Md_readOne_112 : decode b_Md_readOne 112 = .ok (.iconst 0, 1) := by decide +kernel
theorem d_Md_readOne_113 : decode b_Md_readOne 113 = .ok (.istore_n 2, 1) := by decide +kernel
theorem d_Md_readOne_114 : decode b_Md_readOne 114 = .ok (.iload_n 2, 1) := by decide +kernel
theorem d_Md_readOne_115 : decode b_Md_readOne 115 = .ok (.aload_n 0, 1) := by decide +kernel
theorem d_Md_readOne_116 : decode b_Md_readOne 116 = .ok (.getfield 57, 3) := by decide +kernel
theorem d_Md_readOne_119 : decode b_Md_readOne 119 = .ok (.if_icmp .ge 24, 3) := by decide +kernel
theorem d_Md_readOne_122 : decode b_Md_readOne 122 = .ok (.aload_n 0, 1) := by decide +kernel
theorem d_Md_readOne_123 : decode b_Md_readOne 123 = .ok (.getfield 50, 3) := by decide +kernel
theorem d_Md_readOne_126 : decode b_Md_readOne 126 = .ok (.bipush 24, 2) := by decide +kernel
theorem d_Md_readOne_128 : decode b_Md_readOne 128 = .ok (.aload_n 0, 1) := by decide +kernel
theorem d_Md_readOne_129 : decode b_Md_readOne 129 = .ok (.getfield 80, 3) := by decide +kernel
theorem d_Md_readOne_132 : decode b_Md_readOne 132 = .ok (.imul, 1) := by decide +kernel
theorem d_Md_readOne_133 : decode b_Md_readOne 133 = .ok (.iload_n 2, 1) := by decide +kernel
theorem d_Md_readOne_134 : decode b_Md_readOne 134 = .ok (.iadd, 1) := by decide +kernel
theorem d_Md_readOne_135 : decode b_Md_readOne 135 = .ok (.iconst 0, 1) := by decide +kernel
theorem d_Md_readOne_136 : decode b_Md_readOne 136 = .ok (.bastore, 1) := by decide +kernel
theorem d_Md_readOne_137 : decode b_Md_readOne 137 = .ok (.iinc 2 1, 3) := by decide +kernel
theorem d_Md_readOne_140 : decode b_Md_readOne 140 = .ok (.goto (-26), 3) := by decide +kernel
theorem d_Md_readOne_143 : decode b_Md_readOne 143 = .ok (.aload_n 0, 1) := by decide +kernel
theorem d_Md_readOne_144 : decode b_Md_readOne 144 = .ok (.aload_n 0, 1) := by decide +kernel
theorem d_Md_readOne_145 : decode b_Md_readOne 145 = .ok (.getfield 181, 3) := by decide +kernel
theorem d_Md_readOne_148 : decode b_Md_readOne 148 = .ok (.ifCond .eq 7, 3) := by decide +kernel
theorem d_Md_readOne_151 : decode b_Md_readOne 151 = .ok (.iconst (-1), 1) := by decide +kernel
theorem d_Md_readOne_152 : decode b_Md_readOne 152 = .ok (.goto 7, 3) := by decide +kernel
theorem d_Md_readOne_155 : decode b_Md_readOne 155 = .ok (.aload_n 0, 1) := by decide +kernel
theorem d_Md_readOne_156 : decode b_Md_readOne 156 = .ok (.getfield 187, 3) := by decide +kernel
theorem d_Md_readOne_159 : decode b_Md_readOne 159 = .ok (.putfield 87, 3) := by decide +kernel
theorem d_Md_readOne_162 : decode b_Md_readOne 162 = .ok (.iconst 0, 1) := by decide +kernel
theorem d_Md_readOne_163 : decode b_Md_readOne 163 = .ok (.ireturn, 1) := by decide +kernel
theorem d_Md_readOne_164 : decode b_Md_readOne 164 = .ok (.aload_n 0, 1) := by decide +kernel
theorem d_Md_readOne_165 : decode b_Md_readOne 165 = .ok (.dup, 1) := by decide +kernel
theorem d_Md_readOne_166 : decode b_Md_readOne 166 = .ok (.getfield 80, 3) := by decide +kernel
theorem d_Md_readOne_169 : decode b_Md_readOne 169 = .ok (.iconst 1, 1) := by decide +kernel
theorem d_Md_readOne_170 : decode b_Md_readOne 170 = .ok (.iadd, 1) := by decide +kernel
theorem d_Md_readOne_171 : decode b_Md_readOne 171 = .ok (.putfield 80, 3) := by decide +kernel
theorem d_Md_readOne_174 : decode b_Md_readOne 174 = .ok (.aload_n 0, 1) := by decide +kernel
theorem d_Md_readOne_175 : decode b_Md_readOne 175 = .ok (.aload_n 0, 1) := by decide +kernel
theorem d_Md_readOne_176 : decode b_Md_readOne 176 = .ok (.getfield 184, 3) := by decide +kernel
theorem d_Md_readOne_179 : decode b_Md_readOne 179 = .ok (.putfield 77, 3) := by decide +kernel
theorem d_Md_readOne_182 : decode b_Md_readOne 182 = .ok (.aload_n 0, 1) := by decide +kernel
theorem d_Md_readOne_183 : decode b_Md_readOne 183 = .ok (.aload_n 0, 1) := by decide +kernel
theorem d_Md_readOne_184 : decode b_Md_readOne 184 = .ok (.getfield 80, 3) := by decide +kernel
theorem d_Md_readOne_187 : decode b_Md_readOne 187 = .ok (.aload_n 0, 1) := by decide +kernel
theorem d_Md_readOne_188 : decode b_Md_readOne 188 = .ok (.getfield 61, 3) := by decide +kernel
theorem d_Md_readOne_191 : decode b_Md_readOne 191 = .ok (.if_icmp .ne 14, 3) := by decide +kernel
theorem d_Md_readOne_194 : decode b_Md_readOne 194 = .ok (.aload_n 0, 1) := by decide +kernel
theorem d_Md_readOne_195 : decode b_Md_readOne 195 = .ok (.getfield 111, 3) := by decide +kernel
theorem d_Md_readOne_198 : decode b_Md_readOne 198 = .ok (.ifCond .ne 7, 3) := by decide +kernel
theorem d_Md_readOne_201 : decode b_Md_readOne 201 = .ok (.iconst 1, 1) := by decide +kernel
theorem d_Md_readOne_202 : decode b_Md_readOne 202 = .ok (.goto 4, 3) := by decide +kernel
theorem d_Md_readOne_205 : decode b_Md_readOne 205 = .ok (.iconst 0, 1) := by decide +kernel
theorem d_Md_readOne_206 : decode b_Md_readOne 206 = .ok (.putfield 83, 3) := by decide +kernel
theorem d_Md_readOne_209 : decode b_Md_readOne 209 = .ok (.iconst 1, 1) := by decide +kernel
theorem d_Md_readOne_210 : decode b_Md_readOne 210 = .ok (.ireturn, 1) := by decide +kernel
theorem d_Md_read_0 : decode b_Md_read 0 = .ok (.aload_n 0, 1) := by decide +kernel
theorem d_Md_read_1 : decode b_Md_read 1 = .ok (.iconst 0, 1) := by decide +kernel
theorem d_Md_read_2 : decode b_Md_read 2 = .ok (.putfield 70, 3) := by decide +kernel
theorem d_Md_read_5 : decode b_Md_read 5 = .ok (.aload_n 0, 1) := by decide +kernel
theorem d_Md_read_6 : decode b_Md_read 6 = .ok (.getfield 83, 3) := by decide +kernel
theorem d_Md_read_9 : decode b_Md_read 9 = .ok (.ifCond .ne 58, 3) := by decide +kernel
theorem d_Md_read_12 : decode b_Md_read 12 = .ok (.aload_n 0, 1) := by decide +kernel
theorem d_Md_read_13 : decode b_Md_read 13 = .ok (.getfield 87, 3) := by decide +kernel
theorem d_Md_read_16 : decode b_Md_read 16 = .ok (.ifCond .ge 51, 3) := by decide +kernel
theorem d_Md_read_19 : decode b_Md_read 19 = .ok (.aload_n 0, 1) := by decide +kernel
theorem d_Md_read_20 : decode b_Md_read 20 = .ok (.invokevirtual 94, 3) := by decide +kernel
theorem d_Md_read_23 : decode b_Md_read 23 = .ok (.aload_n 0, 1) := by decide +kernel
theorem d_Md_read_24 : decode b_Md_read 24 = .ok (.iconst 0, 1) := by decide +kernel
theorem d_Md_read_25 : decode b_Md_read 25 = .ok (.putfield 184, 3) := by decide +kernel
theorem d_Md_read_28 : decode b_Md_read 28 = .ok (.aload_n 0, 1) := by decide +kernel
theorem d_Md_read_29 : decode b_Md_read 29 = .ok (.iconst 0, 1) := by decide +kernel
theorem d_Md_read_30 : decode b_Md_read 30 = .ok (.putfield 181, 3) := by decide +kernel
theorem d_Md_read_33 : decode b_Md_read 33 = .ok (.aload_n 0, 1) := by decide +kernel
theorem d_Md_read_34 : decode b_Md_read 34 = .ok (.iconst 0, 1) := by decide +kernel
theorem d_Md_read_35 : decode b_Md_read 35 = .ok (.putfield 132, 3) := by decide +kernel
theorem d_Md_read_38 : decode b_Md_read 38 = .ok (.iconst 1, 1) := by decide +kernel
theorem d_Md_read_39 : decode b_Md_read 39 = .ok (.istore_n 1, 1) := by decide +kernel
theorem d_Md_read_40 : decode b_Md_read 40 = .ok (.iload_n 1, 1) := by decide +kernel
theorem d_Md_read_41 : decode b_Md_read 41 = .ok (.ifCond .eq 26, 3) := by decide +kernel
theorem d_Md_read_44 : decode b_Md_read 44 = .ok (.aload_n 0, 1) := by decide +kernel
theorem d_Md_read_45 : decode b_Md_read 45 = .ok (.invokevirtual 219, 3) := by decide +kernel
theorem d_Md_read_48 : decode b_Md_read 48 = .ok (.ifCond .eq 14, 3) := by decide +kernel
theorem d_Md_read_51 : decode b_Md_read 51 = .ok (.aload_n 0, 1) := by decide +kernel
theorem d_Md_read_52 : decode b_Md_read 52 = .ok (.getfield 83, 3) := by decide +kernel
theorem d_Md_read_55 : decode b_Md_read 55 = .ok (.ifCond .ne 7, 3) := by decide +kernel
theorem d_Md_read_58 : decode b_Md_read 58 = .ok (.iconst 1, 1) := by decide +kernel
theorem d_Md_read_59 : decode b_Md_read 59 = .ok (.goto 4, 3) := by decide +kernel
theorem d_Md_read_62 : decode b_Md_read 62 = .ok (.iconst 0, 1) := by decide +kernel
theorem d_Md_read_63 : decode b_Md_read 63 = .ok (.istore_n 1, 1) := by decide +kernel
theorem d_Md_read_64 : decode b_Md_read 64 = .ok (.goto (-24), 3) := by decide +kernel
theorem d_Md_read_67 : decode b_Md_read 67 = .ok (.aload_n 0, 1) := by decide +kernel
theorem d_Md_read_68 : decode b_Md_read 68 = .ok (.getfield 87, 3) := by decide +kernel
theorem d_Md_read_71 : decode b_Md_read 71 = .ok (.ifCond .ge 10, 3) := by decide +kernel
theorem d_Md_read_74 : decode b_Md_read 74 = .ok (.aload_n 0, 1) := by decide +kernel
theorem d_Md_read_75 : decode b_Md_read 75 = .ok (.getfield 80, 3) := by decide +kernel
theorem d_Md_read_78 : decode b_Md_read 78 = .ok (.goto 9, 3) := by decide +kernel
theorem d_Md_read_81 : decode b_Md_read 81 = .ok (.iconst (-1), 1) := by decide +kernel
theorem d_Md_read_82 : decode b_Md_read 82 = .ok (.aload_n 0, 1) := by decide +kernel
theorem d_Md_read_83 : decode b_Md_read 83 = .ok (.getfield 87, 3) := by decide +kernel
theorem d_Md_read_86 : decode b_Md_read 86 = .ok (.isub, 1) := by decide +kernel
theorem d_Md_read_87 : decode b_Md_read 87 = .ok (.ireturn, 1) := by decide +kernel
theorem d_Md_got_0 : decode b_Md_got 0 = .ok (.aload_n 0, 1) := by decide +kernel
theorem d_Md_got_1 : decode b_Md_got 1 = .ok (.iload_n 1, 1) := by decide +kernel
theorem d_Md_got_2 : decode b_Md_got 2 = .ok (.iload_n 2, 1) := by decide +kernel
theorem d_Md_got_3 : decode b_Md_got 3 = .ok (.invokevirtual 90, 3) := by decide +kernel
theorem d_Md_got_6 : decode b_Md_got 6 = .ok (.ifCond .eq 21, 3) := by decide +kernel
theorem d_Md_got_9 : decode b_Md_got 9 = .ok (.aload_n 0, 1) := by decide +kernel
theorem d_Md_got_10 : decode b_Md_got 10 = .ok (.getfield 50, 3) := by decide +kernel
theorem d_Md_got_13 : decode b_Md_got 13 = .ok (.bipush 24, 2) := by decide +kernel
theorem d_Md_got_15 : decode b_Md_got 15 = .ok (.iload_n 2, 1) := by decide +kernel
theorem d_Md_got_16 : decode b_Md_got 16 = .ok (.imul, 1) := by decide +kernel
theorem d_Md_got_17 : decode b_Md_got 17 = .ok (.iload_n 1, 1) := by decide +kernel
theorem d_Md_got_18 : decode b_Md_got 18 = .ok (.iadd, 1) := by decide +kernel
theorem d_Md_got_19 : decode b_Md_got 19 = .ok (.baload, 1) := by decide +kernel
theorem d_Md_got_20 : decode b_Md_got 20 = .ok (.ifCond .eq 7, 3) := by decide +kernel
theorem d_Md_got_23 : decode b_Md_got 23 = .ok (.iconst 1, 1) := by decide +kernel
theorem d_Md_got_24 : decode b_Md_got 24 = .ok (.goto 4, 3) := by decide +kernel
theorem d_Md_got_27 : decode b_Md_got 27 = .ok (.iconst 0, 1) := by decide +kernel
theorem d_Md_got_28 : decode b_Md_got 28 = .ok (.ireturn, 1) := by decide +kernel
theorem d_Md_told_0 : decode b_Md_told 0 = .ok (.aload_n 0, 1) := by decide +kernel
theorem d_Md_told_1 : decode b_Md_told 1 = .ok (.iconst 0, 1) := by decide +kernel
theorem d_Md_told_2 : decode b_Md_told 2 = .ok (.putfield 70, 3) := by decide +kernel
theorem d_Md_told_5 : decode b_Md_told 5 = .ok (.iload_n 1, 1) := by decide +kernel
theorem d_Md_told_6 : decode b_Md_told 6 = .ok (.tableswitch 103 0 8 #[50, 55, 60, 65, 70, 75, 80, 85, 90], 50) := by decide +kernel
theorem d_Md_told_56 : decode b_Md_told 56 = .ok (.aload_n 0, 1) := by decide +kernel
theorem d_Md_told_57 : decode b_Md_told 57 = .ok (.getfield 57, 3) := by decide +kernel
theorem d_Md_told_60 : decode b_Md_told 60 = .ok (.ireturn, 1) := by decide +kernel
theorem d_Md_told_61 : decode b_Md_told 61 = .ok (.aload_n 0, 1) := by decide +kernel
theorem d_Md_told_62 : decode b_Md_told 62 = .ok (.getfield 61, 3) := by decide +kernel
theorem d_Md_told_65 : decode b_Md_told 65 = .ok (.ireturn, 1) := by decide +kernel
theorem d_Md_told_66 : decode b_Md_told 66 = .ok (.aload_n 0, 1) := by decide +kernel
theorem d_Md_told_67 : decode b_Md_told 67 = .ok (.getfield 64, 3) := by decide +kernel
theorem d_Md_told_70 : decode b_Md_told 70 = .ok (.ireturn, 1) := by decide +kernel
theorem d_Md_told_71 : decode b_Md_told 71 = .ok (.aload_n 0, 1) := by decide +kernel
theorem d_Md_told_72 : decode b_Md_told 72 = .ok (.invokevirtual 97, 3) := by decide +kernel
theorem d_Md_told_75 : decode b_Md_told 75 = .ok (.ireturn, 1) := by decide +kernel
theorem d_Md_told_76 : decode b_Md_told 76 = .ok (.aload_n 0, 1) := by decide +kernel
theorem d_Md_told_77 : decode b_Md_told 77 = .ok (.getfield 129, 3) := by decide +kernel
theorem d_Md_told_80 : decode b_Md_told 80 = .ok (.ireturn, 1) := by decide +kernel
theorem d_Md_told_81 : decode b_Md_told 81 = .ok (.aload_n 0, 1) := by decide +kernel
theorem d_Md_told_82 : decode b_Md_told 82 = .ok (.getfield 178, 3) := by decide +kernel
theorem d_Md_told_85 : decode b_Md_told 85 = .ok (.ireturn, 1) := by decide +kernel
theorem d_Md_told_86 : decode b_Md_told 86 = .ok (.aload_n 0, 1) := by decide +kernel
theorem d_Md_told_87 : decode b_Md_told 87 = .ok (.getfield 77, 3) := by decide +kernel
theorem d_Md_told_90 : decode b_Md_told 90 = .ok (.ireturn, 1) := by decide +kernel
theorem d_Md_told_91 : decode b_Md_told 91 = .ok (.aload_n 0, 1) := by decide +kernel
theorem d_Md_told_92 : decode b_Md_told 92 = .ok (.getfield 80, 3) := by decide +kernel
theorem d_Md_told_95 : decode b_Md_told 95 = .ok (.ireturn, 1) := by decide +kernel
theorem d_Md_told_96 : decode b_Md_told 96 = .ok (.aload_n 0, 1) := by decide +kernel
theorem d_Md_told_97 : decode b_Md_told 97 = .ok (.getfield 83, 3) := by decide +kernel
theorem d_Md_told_100 : decode b_Md_told 100 = .ok (.ifCond .eq 7, 3) := by decide +kernel
theorem d_Md_told_103 : decode b_Md_told 103 = .ok (.iconst 1, 1) := by decide +kernel
theorem d_Md_told_104 : decode b_Md_told 104 = .ok (.goto 4, 3) := by decide +kernel
theorem d_Md_told_107 : decode b_Md_told 107 = .ok (.iconst 0, 1) := by decide +kernel
theorem d_Md_told_108 : decode b_Md_told 108 = .ok (.ireturn, 1) := by decide +kernel
theorem d_Md_told_109 : decode b_Md_told 109 = .ok (.iconst (-1), 1) := by decide +kernel
theorem d_Md_told_110 : decode b_Md_told 110 = .ok (.ireturn, 1) := by decide +kernel
