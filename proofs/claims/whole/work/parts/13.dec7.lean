theorem d_Md_readOne_54 : decode b_Md_readOne 54 = .ok (.getfield 61, 3) := by decide +kernel
theorem d_Md_readOne_57 : decode b_Md_readOne 57 = .ok (.if_icmp .ne 10, 3) := by decide +kernel
theorem d_Md_readOne_60 : decode b_Md_readOne 60 = .ok (.aload_n 0, 1) := by decide +kernel
theorem d_Md_readOne_61 : decode b_Md_readOne 61 = .ok (.iconst 3, 1) := by decide +kernel
theorem d_Md_readOne_62 : decode b_Md_readOne 62 = .ok (.putfield 87, 3) := by decide +kernel
theorem d_Md_readOne_65 : decode b_Md_readOne 65 = .ok (.iconst 0, 1) := by decide +kernel
theorem d_Md_readOne_66 : decode b_Md_readOne 66 = .ok (.ireturn, 1) := by decide +kernel
theorem d_Md_readOne_67 : decode b_Md_readOne 67 = .ok (.aload_n 0, 1) := by decide +kernel
theorem d_Md_readOne_68 : decode b_Md_readOne 68 = .ok (.iconst (-1), 1) := by decide +kernel
theorem d_Md_readOne_69 : decode b_Md_readOne 69 = .ok (.putfield 187, 3) := by decide +kernel
theorem d_Md_readOne_72 : decode b_Md_readOne 72 = .ok (.aload_n 0, 1) := by decide +kernel
theorem d_Md_readOne_73 : decode b_Md_readOne 73 = .ok (.getfield 108, 3) := by decide +kernel
theorem d_Md_readOne_76 : decode b_Md_readOne 76 = .ok (.ifCond .eq 14, 3) := by decide +kernel
theorem d_Md_readOne_79 : decode b_Md_readOne 79 = .ok (.aload_n 0, 1) := by decide +kernel
theorem d_Md_readOne_80 : decode b_Md_readOne 80 = .ok (.aload_n 0, 1) := by decide +kernel
theorem d_Md_readOne_81 : decode b_Md_readOne 81 = .ok (.getfield 80, 3) := by decide +kernel
theorem d_Md_readOne_84 : decode b_Md_readOne 84 = .ok (.invokevirtual 213, 3) := by decide +kernel
theorem d_Md_readOne_87 : decode b_Md_readOne 87 = .ok (.goto 11, 3) := by decide +kernel
theorem d_Md_readOne_90 : decode b_Md_readOne 90 = .ok (.aload_n 0, 1) := by decide +kernel
theorem d_Md_readOne_91 : decode b_Md_readOne 91 = .ok (.aload_n 0, 1) := by decide +kernel
theorem d_Md_readOne_92 : decode b_Md_readOne 92 = .ok (.getfield 80, 3) := by decide +kernel
theorem d_Md_readOne_95 : decode b_Md_readOne 95 = .ok (.invokevirtual 216, 3) := by decide +kernel
theorem d_Md_readOne_98 : decode b_Md_readOne 98 = .ok (.aload_n 0, 1) := by decide +kernel
theorem d_Md_readOne_99 : decode b_Md_readOne 99 = .ok (.getfield 181, 3) := by decide +kernel
theorem d_Md_readOne_102 : decode b_Md_readOne 102 = .ok (.ifCond .ne 10, 3) := by decide +kernel
theorem d_Md_readOne_105 : decode b_Md_readOne 105 = .ok (.aload_n 0, 1) := by decide +kernel
theorem d_Md_readOne_106 : decode b_Md_readOne 106 = .ok (.getfield 187, 3) := by decide +kernel
theorem d_Md_readOne_109 : decode b_Md_readOne 109 = .ok (.ifCond .lt 55, 3) := by decide +kernel
theorem d_Md_readOne_112 : decode b_Md_readOne 112 = .ok (.iconst 0, 1) := by decide +kernel
theorem d_Md_readOne_113 : decode b_Md_readOne 113 = .ok (.istore_n 2, 1) := by decide +kernel
theorem d_Md_readOne_114 : decode b_Md_readOne 114 = .ok (.iload_n 2, 1) := by decide +kernel
theorem d_Md_readOne_115 : decode b_Md_readOne 115 = .ok (.aload_n 0, 1) := by decide +kernel
theorem d_Md_readOne_116 : decode b_Md_readOne 116 = .ok (.getfield 57, 3) := by decide +kernel
theorem d_Md_readOne_119 : decode b_Md_readOne 119 = .ok (.if_icmp .ge 24, 3) := by decide +kernel
theorem d_Md_readOne_122 : decode b_Md_readOne 122 = .ok (.aload_n 0, 1) := by decide +kernel
theorem d_Md_readOne_123 : decode b_Md_readOne 123 = .ok (.getfield 50, 3) := by decide +kernel
theorem d_Md_readOne_126 : decode b_Md_readOne 126 = .ok (.bipush 24, 2) := by decide +kernel
theorem d_Md_readOne_128 : decode b_Md_readOne 128 = .ok (.aload_n 0, 1) := by decide +kernel
theorem d_Md_readOne_129 : decode b_Md_readOne 129 = .ok (.getfield 80, 3) := by decide +kernel
theorem d_Md_readOne_132 : decode b_Md_readOne 132 = .ok (.imul, 1) := by decide +kernel
theorem d_Md_readOne_133 : decode b_Md_readOne 133 = .ok (.iload_n 2, 1) := by decide +kernel
theorem d_Md_readOne_134 : decode b_Md_readOne 134 = .ok (.iadd, 1) := by decide +kernel
theorem d_Md_readOne_135 : decode b_Md_readOne 135 = .ok (.iconst 0, 1) := by decide +kernel
theorem d_Md_readOne_136 : decode b_Md_readOne 136 = .ok (.bastore, 1) := by decide +kernel
theorem d_Md_readOne_137 : decode b_Md_readOne 137 = .ok (.iinc 2 1, 3) := by decide +kernel
theorem d_Md_readOne_140 : decode b_Md_readOne 140 = .ok (.goto (-26), 3) := by decide +kernel
theorem d_Md_readOne_143 : decode b_Md_readOne 143 = .ok (.aload_n 0, 1) := by decide +kernel
theorem d_Md_readOne_144 : decode b_Md_readOne 144 = .ok (.aload_n 0, 1) := by decide +kernel
theorem d_Md_readOne_145 : decode b_Md_readOne 145 = .ok (.getfield 181, 3) := by decide +kernel
theorem d_Md_readOne_148 : decode b_Md_readOne 148 = .ok (.ifCond .eq 7, 3) := by decide +kernel
theorem d_Md_readOne_151 : decode b_Md_readOne 151 = .ok (.iconst (-1), 1) := by decide +kernel
theorem d_Md_readOne_152 : decode b_Md_readOne 152 = .ok (.goto 7, 3) := by decide +kernel
theorem d_Md_readOne_155 : decode b_Md_readOne 155 = .ok (.aload_n 0, 1) := by decide +kernel
theorem d_Md_readOne_156 : decode b_Md_readOne 156 = .ok (.getfield 187, 3) := by decide +kernel
theorem d_Md_readOne_159 : decode b_Md_readOne 159 = .ok (.putfield 87, 3) := by decide +kernel
theorem d_Md_readOne_162 : decode b_Md_readOne 162 = .ok (.iconst 0, 1) := by decide +kernel
theorem d_Md_readOne_163 : decode b_Md_readOne 163 = .ok (.ireturn, 1) := by decide +kernel
theorem d_Md_readOne_164 : decode b_Md_readOne 164 = .ok (.aload_n 0, 1) := by decide +kernel
theorem d_Md_readOne_165 : decode b_Md_readOne 165 = .ok (.dup, 1) := by decide +kernel
theorem d_Md_readOne_166 : decode b_Md_readOne 166 = .ok (.getfield 80, 3) := by decide +kernel
theorem d_Md_readOne_169 : decode b_Md_readOne 169 = .ok (.iconst 1, 1) := by decide +kernel
theorem d_Md_readOne_170 : decode b_Md_readOne 170 = .ok (.iadd, 1) := by decide +kernel
theorem d_Md_readOne_171 : decode b_Md_readOne 171 = .ok (.putfield 80, 3) := by decide +kernel
theorem d_Md_readOne_174 : decode b_Md_readOne 174 = .ok (.aload_n 0, 1) := by decide +kernel
theorem d_Md_readOne_175 : decode b_Md_readOne 175 = .ok (.aload_n 0, 1) := by decide +kernel
theorem d_Md_readOne_176 : decode b_Md_readOne 176 = .ok (.getfield 184, 3) := by decide +kernel
theorem d_Md_readOne_179 : decode b_Md_readOne 179 = .ok (.putfield 77, 3) := by decide +kernel
theorem d_Md_readOne_182 : decode b_Md_readOne 182 = .ok (.aload_n 0, 1) := by decide +kernel
theorem d_Md_readOne_183 : decode b_Md_readOne 183 = .ok (.aload_n 0, 1) := by decide +kernel
theorem d_Md_readOne_184 : decode b_Md_readOne 184 = .ok (.getfield 80, 3) := by decide +kernel
theorem d_Md_readOne_187 : decode b_Md_readOne 187 = .ok (.aload_n 0, 1) := by decide +kernel
theorem d_Md_readOne_188 : decode b_Md_readOne 188 = .ok (.getfield 61, 3) := by decide +kernel
theorem d_Md_readOne_191 : decode b_Md_readOne 191 = .ok (.if_icmp .ne 14, 3) := by decide +kernel
theorem d_Md_readOne_194 : decode b_Md_readOne 194 = .ok (.aload_n 0, 1) := by decide +kernel
theorem d_Md_readOne_195 : decode b_Md_readOne 195 = .ok (.getfield 111, 3) := by decide +kernel
theorem d_Md_readOne_198 : decode b_Md_readOne 198 = .ok (.ifCond .ne 7, 3) := by decide +kernel
theorem d_Md_readOne_201 : decode b_Md_readOne 201 = .ok (.iconst 1, 1) := by decide +kernel
theorem d_Md_readOne_202 : decode b_Md_readOne 202 = .ok (.goto 4, 3) := by decide +kernel
theorem d_Md_readOne_205 : decode b_Md_readOne 205 = .ok (.iconst 0, 1) := by decide +kernel
theorem d_Md_readOne_206 : decode b_Md_readOne 206 = .ok (.putfield 83, 3) := by decide +kernel
theorem d_Md_readOne_209 : decode b_Md_readOne 209 = .ok (.iconst 1, 1) := by decide +kernel
theorem d_Md_readOne_210 : decode b_Md_readOne 210 = .ok (.ireturn, 1) := by decide +kernel
theorem d_Md_read_0 : decode b_Md_read 0 = .ok (.aload_n 0, 1) := by decide +kernel
theorem d_Md_read_1 : decode b_Md_read 1 = .ok (.iconst 0, 1) := by decide +kernel
theorem d_Md_read_2 : decode b_Md_read 2 = .ok (.putfield 70, 3) := by decide +kernel
theorem d_Md_read_5 : decode b_Md_read 5 = .ok (.aload_n 0, 1) := by decide +kernel
theorem d_Md_read_6 : decode b_Md_read 6 = .ok (.getfield 83, 3) := by decide +kernel
theorem d_Md_read_9 : decode b_Md_read 9 = .ok (.ifCond .ne 58, 3) := by decide +kernel
theorem d_Md_read_12 : decode b_Md_read 12 = .ok (.aload_n 0, 1) := by decide +kernel
theorem d_Md_read_13 : decode b_Md_read 13 = .ok (.getfield 87, 3) := by decide +kernel
theorem d_Md_read_16 : decode b_Md_read 16 = .ok (.ifCond .ge 51, 3) := by decide +kernel
theorem d_Md_read_19 : decode b_Md_read 19 = .ok (.aload_n 0, 1) := by decide +kernel
theorem d_Md_read_20 : decode b_Md_read 20 = .ok (.invokevirtual 94, 3) := by decide +kernel
theorem d_Md_read_23 : decode b_Md_read 23 = .ok (.aload_n 0, 1) := by decide +kernel
theorem d_Md_read_24 : decode b_Md_read 24 = .ok (.iconst 0, 1) := by decide +kernel
theorem d_Md_read_25 : decode b_Md_read 25 = .ok (.putfield 184, 3) := by decide +kernel
theorem d_Md_read_28 : decode b_Md_read 28 = .ok (.aload_n 0, 1) := by decide +kernel
theorem d_Md_read_29 : decode b_Md_read 29 = .ok (.iconst 0, 1) := by decide +kernel
theorem d_Md_read_30 : decode b_Md_read 30 = .ok (.putfield 181, 3) := by decide +kernel
theorem d_Md_read_33 : decode b_Md_read 33 = .ok (.aload_n 0, 1) := by decide +kernel
theorem d_Md_read_34 : decode b_Md_read 34 = .ok (.iconst 0, 1) := by decide +kernel
theorem d_Md_read_35 : decode b_Md_read 35 = .ok (.putfield 132, 3) := by decide +kernel
theorem d_Md_read_38 : decode b_Md_read 38 = .ok (.iconst 1, 1) := by decide +kernel
theorem d_Md_read_39 : decode b_Md_read 39 = .ok (.istore_n 1, 1) := by decide +kernel
theorem d_Md_read_40 : decode b_Md_read 40 = .ok (.iload_n 1, 1) := by decide +kernel
theorem d_Md_read_41 : decode b_Md_read 41 = .ok (.ifCond .eq 26, 3) := by decide +kernel
theorem d_Md_read_44 : decode b_Md_read 44 = .ok (.aload_n 0, 1) := by decide +kernel
theorem d_Md_read_45 : decode b_Md_read 45 = .ok (.invokevirtual 219, 3) := by decide +kernel
theorem d_Md_read_48 : decode b_Md_read 48 = .ok (.ifCond .eq 14, 3) := by decide +kernel
theorem d_Md_read_51 : decode b_Md_read 51 = .ok (.aload_n 0, 1) := by decide +kernel
theorem d_Md_read_52 : decode b_Md_read 52 = .ok (.getfield 83, 3) := by decide +kernel
theorem d_Md_read_55 : decode b_Md_read 55 = .ok (.ifCond .ne 7, 3) := by decide +kernel
theorem d_Md_read_58 : decode b_Md_read 58 = .ok (.iconst 1, 1) := by decide +kernel
theorem d_Md_read_59 : decode b_Md_read 59 = .ok (.goto 4, 3) := by decide +kernel
theorem d_Md_read_62 : decode b_Md_read 62 = .ok (.iconst 0, 1) := by decide +kernel
theorem d_Md_read_63 : decode b_Md_read 63 = .ok (.istore_n 1, 1) := by decide +kernel
theorem d_Md_read_64 : decode b_Md_read 64 = .ok (.goto (-24), 3) := by decide +kernel
theorem d_Md_read_67 : decode b_Md_read 67 = .ok (.aload_n 0, 1) := by decide +kernel
theorem d_Md_read_68 : decode b_Md_read 68 = .ok (.getfield 87, 3) := by decide +kernel
theorem d_Md_read_71 : decode b_Md_read 71 = .ok (.ifCond .ge 10, 3) := by decide +kernel
theorem d_Md_read_74 : decode b_Md_read 74 = .ok (.aload_n 0, 1) := by decide +kernel
theorem d_Md_read_75 : decode b_Md_read 75 = .ok (.getfield 80, 3) := by decide +kernel
theorem d_Md_read_78 : decode b_Md_read 78 = .ok (.goto 9, 3) := by decide +kernel
theorem d_Md_read_81 : decode b_Md_read 81 = .ok (.iconst (-1), 1) := by decide +kernel
theorem d_Md_read_82 : decode b_Md_read 82 = .ok (.aload_n 0, 1) := by decide +kernel
theorem d_Md_read_83 : decode b_Md_read 83 = .ok (.getfield 87, 3) := by decide +kernel
theorem d_Md_read_86 : decode b_Md_read 86 = .ok (.isub, 1) := by decide +kernel
theorem d_Md_read_87 : decode b_Md_read 87 = .ok (.ireturn, 1) := by decide +kernel
theorem d_Md_got_0 : decode b_Md_got 0 = .ok (.aload_n 0, 1) := by decide +kernel
theorem d_Md_got_1 : decode b_Md_got 1 = .ok (.iload_n 1, 1) := by decide +kernel
theorem d_Md_got_2 : decode b_Md_got 2 = .ok (.iload_n 2, 1) := by decide +kernel
theorem d_Md_got_3 : decode b_Md_got 3 = .ok (.invokevirtual 90, 3) := by decide +kernel
theorem d_Md_got_6 : decode b_Md_got 6 = .ok (.ifCond .eq 21, 3) := by decide +kernel
theorem d_Md_got_9 : decode b_Md_got 9 = .ok (.aload_n 0, 1) := by decide +kernel
theorem d_Md_got_10 : decode b_Md_got 10 = .ok (.getfield 50, 3) := by decide +kernel
theorem d_Md_got_13 : decode b_Md_got 13 = .ok (.bipush 24, 2) := by decide +kernel
theorem d_Md_got_15 : decode b_Md_got 15 = .ok (.iload_n 2, 1) := by decide +kernel
theorem d_Md_got_16 : decode b_Md_got 16 = .ok (.imul, 1) := by decide +kernel
theorem d_Md_got_17 : decode b_Md_got 17 = .ok (.iload_n 1, 1) := by decide +kernel
theorem d_Md_got_18 : decode b_Md_got 18 = .ok (.iadd, 1) := by decide +kernel
theorem d_Md_got_19 : decode b_Md_got 19 = .ok (.baload, 1) := by decide +kernel
theorem d_Md_got_20 : decode b_Md_got 20 = .ok (.ifCond .eq 7, 3) := by decide +kernel
theorem d_Md_got_23 : decode b_Md_got 23 = .ok (.iconst 1, 1) := by decide +kernel
theorem d_Md_got_24 : decode b_Md_got 24 = .ok (.goto 4, 3) := by decide +kernel
theorem d_Md_got_27 : decode b_Md_got 27 = .ok (.iconst 0, 1) := by decide +kernel
theorem d_Md_got_28 : decode b_Md_got 28 = .ok (.ireturn, 1) := by decide +kernel
theorem d_Md_told_0 : decode b_Md_told 0 = .ok (.aload_n 0, 1) := by decide +kernel
theorem d_Md_told_1 : decode b_Md_told 1 = .ok (.iconst 0, 1) := by decide +kernel
theorem d_Md_told_2 : decode b_Md_told 2 = .ok (.putfield 70, 3) := by decide +kernel
theorem d_Md_told_5 : decode b_Md_told 5 = .ok (.iload_n 1, 1) := by decide +kernel
theorem d_Md_told_6 : decode b_Md_told 6 = .ok (.tableswitch 103 0 8 #[50, 55, 60, 65, 70, 75, 80, 85, 90], 50) := by decide +kernel
theorem d_Md_told_56 : decode b_Md_told 56 = .ok (.aload_n 0, 1) := by decide +kernel
theorem d_Md_told_57 : decode b_Md_told 57 = .ok (.getfield 57, 3) := by decide +kernel
theorem d_Md_told_60 : decode b_Md_told 60 = .ok (.ireturn, 1) := by decide +kernel
theorem d_Md_told_61 : decode b_Md_told 61 = .ok (.aload_n 0, 1) := by decide +kernel
theorem d_Md_told_62 : decode b_Md_told 62 = .ok (.getfield 61, 3) := by decide +kernel
theorem d_Md_told_65 : decode b_Md_told 65 = .ok (.ireturn, 1) := by decide +kernel
theorem d_Md_told_66 : decode b_Md_told 66 = .ok (.aload_n 0, 1) := by decide +kernel
theorem d_Md_told_67 : decode b_Md_told 67 = .ok (.getfield 64, 3) := by decide +kernel
theorem d_Md_told_70 : decode b_Md_told 70 = .ok (.ireturn, 1) := by decide +kernel
theorem d_Md_told_71 : decode b_Md_told 71 = .ok (.aload_n 0, 1) := by decide +kernel
theorem d_Md_told_72 : decode b_Md_told 72 = .ok (.invokevirtual 97, 3) := by decide +kernel
theorem d_Md_told_75 : decode b_Md_told 75 = .ok (.ireturn, 1) := by decide +kernel
theorem d_Md_told_76 : decode b_Md_told 76 = .ok (.aload_n 0, 1) := by decide +kernel
theorem d_Md_told_77 : decode b_Md_told 77 = .ok (.getfield 129, 3) := by decide +kernel
theorem d_Md_told_80 : decode b_Md_told 80 = .ok (.ireturn, 1) := by decide +kernel
theorem d_Md_told_81 : decode b_Md_told 81 = .ok (.aload_n 0, 1) := by decide +kernel
theorem d_Md_told_82 : decode b_Md_told 82 = .ok (.getfield 178, 3) := by decide +kernel
theorem d_Md_told_85 : decode b_Md_told 85 = .ok (.ireturn, 1) := by decide +kernel
theorem d_Md_told_86 : decode b_Md_told 86 = .ok (.aload_n 0, 1) := by decide +kernel
theorem d_Md_told_87 : decode b_Md_told 87 = .ok (.getfield 77, 3) := by decide +kernel
theorem d_Md_told_90 : decode b_Md_told 90 = .ok (.ireturn, 1) := by decide +kernel
theorem d_Md_told_91 : decode b_Md_told 91 = .ok (.aload_n 0, 1) := by decide +kernel
theorem d_Md_told_92 : decode b_Md_told 92 = .ok (.getfield 80, 3) := by decide +kernel
theorem d_Md_told_95 : decode b_Md_told 95 = .ok (.ireturn, 1) := by decide +kernel
theorem d_Md_told_96 : decode b_Md_told 96 = .ok (.aload_n 0, 1) := by decide +kernel
theorem d_Md_told_97 : decode b_Md_told 97 = .ok (.getfield 83, 3) := by decide +kernel
theorem d_Md_told_100 : decode b_Md_told 100 = .ok (.ifCond .eq 7, 3) := by decide +kernel
theorem d_Md_told_103 : decode b_Md_told 103 = .ok (.iconst 1, 1) := by decide +kernel
theorem d_Md_told_104 : decode b_Md_told 104 = .ok (.goto 4, 3) := by decide +kernel
theorem d_Md_told_107 : decode b_Md_told 107 = .ok (.iconst 0, 1) := by decide +kernel
theorem d_Md_told_108 : decode b_Md_told 108 = .ok (.ireturn, 1) := by decide +kernel
theorem d_Md_told_109 : decode b_Md_told 109 = .ok (.iconst (-1), 1) := by decide +kernel
theorem d_Md_told_110 : decode b_Md_told 110 = .ok (.ireturn, 1) := by decide +kernel
