theorem d_Md_pass_25 : decode b_Md_pass 25 = .ok (.isub, 1) := by decide +kernel
theorem d_Md_pass_26 : decode b_Md_pass 26 = .ok (.istore_n 2, 1) := by decide +kernel
theorem d_Md_pass_27 : decode b_Md_pass 27 = .ok (.aload_n 0, 1) := by decide +kernel
theorem d_Md_pass_28 : decode b_Md_pass 28 = .ok (.iload_n 1, 1) := by decide +kernel
theorem d_Md_pass_29 : decode b_Md_pass 29 = .ok (.ifCond .ge 7, 3) := by decide +kernel
theorem d_Md_pass_32 : decode b_Md_pass 32 = .ok (.iconst 1, 1) := by decide +kernel
theorem d_Md_pass_33 : decode b_Md_pass 33 = .ok (.goto 20, 3) := by decide +kernel
theorem d_Md_pass_36 : decode b_Md_pass 36 = .ok (.aload_n 0, 1) := by decide +kernel
theorem d_Md_pass_37 : decode b_Md_pass 37 = .ok (.getfield 178, 3) := by decide +kernel
theorem d_Md_pass_40 : decode b_Md_pass 40 = .ok (.iload_n 2, 1) := by decide +kernel
theorem d_Md_pass_41 : decode b_Md_pass 41 = .ok (.iadd, 1) := by decide +kernel
theorem d_Md_pass_42 : decode b_Md_pass 42 = .ok (.sipush 6000, 3) := by decide +kernel
theorem d_Md_pass_45 : decode b_Md_pass 45 = .ok (.if_icmp .le 7, 3) := by decide +kernel
theorem d_Md_pass_48 : decode b_Md_pass 48 = .ok (.iconst 2, 1) := by decide +kernel
theorem d_Md_pass_49 : decode b_Md_pass 49 = .ok (.goto 4, 3) := by decide +kernel
theorem d_Md_pass_52 : decode b_Md_pass 52 = .ok (.iconst 0, 1) := by decide +kernel
theorem d_Md_pass_53 : decode b_Md_pass 53 = .ok (.putfield 70, 3) := by decide +kernel
theorem d_Md_pass_56 : decode b_Md_pass 56 = .ok (.iconst 0, 1) := by decide +kernel
theorem d_Md_pass_57 : decode b_Md_pass 57 = .ok (.istore_n 3, 1) := by decide +kernel
theorem d_Md_pass_58 : decode b_Md_pass 58 = .ok (.iload_n 3, 1) := by decide +kernel
theorem d_Md_pass_59 : decode b_Md_pass 59 = .ok (.iload_n 2, 1) := by decide +kernel
theorem d_Md_pass_60 : decode b_Md_pass 60 = .ok (.if_icmp .ge 54, 3) := by decide +kernel
theorem d_Md_pass_63 : decode b_Md_pass 63 = .ok (.aload_n 0, 1) := by decide +kernel
theorem d_Md_pass_64 : decode b_Md_pass 64 = .ok (.getfield 70, 3) := by decide +kernel
theorem d_Md_pass_67 : decode b_Md_pass 67 = .ok (.ifCond .ne 47, 3) := by decide +kernel
theorem d_Md_pass_70 : decode b_Md_pass 70 = .ok (.aload_n 0, 1) := by decide +kernel
theorem d_Md_pass_71 : decode b_Md_pass 71 = .ok (.getfield 47, 3) := by decide +kernel
theorem d_Md_pass_74 : decode b_Md_pass 74 = .ok (.aload_n 0, 1) := by decide +kernel
theorem d_Md_pass_75 : decode b_Md_pass 75 = .ok (.getfield 178, 3) := by decide +kernel
theorem d_Md_pass_78 : decode b_Md_pass 78 = .ok (.aload_n 0, 1) := by decide +kernel
theorem d_Md_pass_79 : decode b_Md_pass 79 = .ok (.getfield 38, 3) := by decide +kernel
theorem d_Md_pass_82 : decode b_Md_pass 82 = .ok (.aload_n 0, 1) := by decide +kernel
theorem d_Md_pass_83 : decode b_Md_pass 83 = .ok (.getfield 167, 3) := by decide +kernel
theorem d_Md_pass_86 : decode b_Md_pass 86 = .ok (.iaload, 1) := by decide +kernel
theorem d_Md_pass_87 : decode b_Md_pass 87 = .ok (.iastore, 1) := by decide +kernel
theorem d_Md_pass_88 : decode b_Md_pass 88 = .ok (.aload_n 0, 1) := by decide +kernel
theorem d_Md_pass_89 : decode b_Md_pass 89 = .ok (.dup, 1) := by decide +kernel
theorem d_Md_pass_90 : decode b_Md_pass 90 = .ok (.getfield 178, 3) := by decide +kernel
theorem d_Md_pass_93 : decode b_Md_pass 93 = .ok (.iconst 1, 1) := by decide +kernel
theorem d_Md_pass_94 : decode b_Md_pass 94 = .ok (.iadd, 1) := by decide +kernel
theorem d_Md_pass_95 : decode b_Md_pass 95 = .ok (.putfield 178, 3) := by decide +kernel
theorem d_Md_pass_98 : decode b_Md_pass 98 = .ok (.aload_n 0, 1) := by decide +kernel
theorem d_Md_pass_99 : decode b_Md_pass 99 = .ok (.dup, 1) := by decide +kernel
theorem d_Md_pass_100 : decode b_Md_pass 100 = .ok (.getfield 167, 3) := by decide +kernel
theorem d_Md_pass_103 : decode b_Md_pass 103 = .ok (.iconst 1, 1) := by decide +kernel
theorem d_Md_pass_104 : decode b_Md_pass 104 = .ok (.iadd, 1) := by decide +kernel
theorem d_Md_pass_105 : decode b_Md_pass 105 = .ok (.putfield 167, 3) := by decide +kernel
theorem d_Md_pass_108 : decode b_Md_pass 108 = .ok (.iinc 3 1, 3) := by decide +kernel
theorem d_Md_pass_111 : decode b_Md_pass 111 = .ok (.goto (-53), 3) := by decide +kernel
theorem d_Md_pass_114 : decode b_Md_pass 114 = .ok (.aload_n 0, 1) := by decide +kernel
theorem d_Md_pass_115 : decode b_Md_pass 115 = .ok (.getfield 70, 3) := by decide +kernel
theorem d_Md_pass_118 : decode b_Md_pass 118 = .ok (.ifCond .le 7, 3) := by decide +kernel
theorem d_Md_pass_121 : decode b_Md_pass 121 = .ok (.iconst 0, 1) := by decide +kernel
theorem d_Md_pass_122 : decode b_Md_pass 122 = .ok (.goto 4, 3) := by decide +kernel
theorem d_Md_pass_125 : decode b_Md_pass 125 = .ok (.iload_n 2, 1) := by decide +kernel
theorem d_Md_pass_126 : decode b_Md_pass 126 = .ok (.ireturn, 1) := by decide +kernel
theorem d_Md_next_0 : decode b_Md_next 0 = .ok (.aload_n 0, 1) := by decide +kernel
theorem d_Md_next_1 : decode b_Md_next 1 = .ok (.aload_n 0, 1) := by decide +kernel
theorem d_Md_next_2 : decode b_Md_next 2 = .ok (.getfield 181, 3) := by decide +kernel
theorem d_Md_next_5 : decode b_Md_next 5 = .ok (.ifCond .ne 14, 3) := by decide +kernel
theorem d_Md_next_8 : decode b_Md_next 8 = .ok (.aload_n 0, 1) := by decide +kernel
theorem d_Md_next_9 : decode b_Md_next 9 = .ok (.getfield 184, 3) := by decide +kernel
theorem d_Md_next_12 : decode b_Md_next 12 = .ok (.aload_n 0, 1) := by decide +kernel
theorem d_Md_next_13 : decode b_Md_next 13 = .ok (.getfield 178, 3) := by decide +kernel
theorem d_Md_next_16 : decode b_Md_next 16 = .ok (.if_icmp .ne 7, 3) := by decide +kernel
theorem d_Md_next_19 : decode b_Md_next 19 = .ok (.iconst 1, 1) := by decide +kernel
theorem d_Md_next_20 : decode b_Md_next 20 = .ok (.goto 4, 3) := by decide +kernel
theorem d_Md_next_23 : decode b_Md_next 23 = .ok (.iconst 0, 1) := by decide +kernel
theorem d_Md_next_24 : decode b_Md_next 24 = .ok (.putfield 181, 3) := by decide +kernel
theorem d_Md_next_27 : decode b_Md_next 27 = .ok (.aload_n 0, 1) := by decide +kernel
theorem d_Md_next_28 : decode b_Md_next 28 = .ok (.getfield 181, 3) := by decide +kernel
theorem d_Md_next_31 : decode b_Md_next 31 = .ok (.ifCond .eq 5, 3) := by decide +kernel
theorem d_Md_next_34 : decode b_Md_next 34 = .ok (.iconst 1, 1) := by decide +kernel
theorem d_Md_next_35 : decode b_Md_next 35 = .ok (.ireturn, 1) := by decide +kernel
theorem d_Md_next_36 : decode b_Md_next 36 = .ok (.aload_n 0, 1) := by decide +kernel
theorem d_Md_next_37 : decode b_Md_next 37 = .ok (.dup, 1) := by decide +kernel
theorem d_Md_next_38 : decode b_Md_next 38 = .ok (.getfield 184, 3) := by decide +kernel
theorem d_Md_next_41 : decode b_Md_next 41 = .ok (.iconst 1, 1) := by decide +kernel
theorem d_Md_next_42 : decode b_Md_next 42 = .ok (.iadd, 1) := by decide +kernel
theorem d_Md_next_43 : decode b_Md_next 43 = .ok (.putfield 184, 3) := by decide +kernel
theorem d_Md_next_46 : decode b_Md_next 46 = .ok (.aload_n 0, 1) := by decide +kernel
theorem d_Md_next_47 : decode b_Md_next 47 = .ok (.getfield 47, 3) := by decide +kernel
theorem d_Md_next_50 : decode b_Md_next 50 = .ok (.aload_n 0, 1) := by decide +kernel
theorem d_Md_next_51 : decode b_Md_next 51 = .ok (.getfield 184, 3) := by decide +kernel
theorem d_Md_next_54 : decode b_Md_next 54 = .ok (.iconst 1, 1) := by decide +kernel
theorem d_Md_next_55 : decode b_Md_next 55 = .ok (.isub, 1) := by decide +kernel
theorem d_Md_next_56 : decode b_Md_next 56 = .ok (.iaload, 1) := by decide +kernel
theorem d_Md_next_57 : decode b_Md_next 57 = .ok (.ireturn, 1) := by decide +kernel
theorem d_Md_refuse_0 : decode b_Md_refuse 0 = .ok (.aload_n 0, 1) := by decide +kernel
theorem d_Md_refuse_1 : decode b_Md_refuse 1 = .ok (.iload_n 1, 1) := by decide +kernel
theorem d_Md_refuse_2 : decode b_Md_refuse 2 = .ok (.ifCond .eq 21, 3) := by decide +kernel
theorem d_Md_refuse_5 : decode b_Md_refuse 5 = .ok (.aload_n 0, 1) := by decide +kernel
theorem d_Md_refuse_6 : decode b_Md_refuse 6 = .ok (.getfield 187, 3) := by decide +kernel
theorem d_Md_refuse_9 : decode b_Md_refuse 9 = .ok (.ifCond .ge 14, 3) := by decide +kernel
theorem d_Md_refuse_12 : decode b_Md_refuse 12 = .ok (.aload_n 0, 1) := by decide +kernel
theorem d_Md_refuse_13 : decode b_Md_refuse 13 = .ok (.getfield 181, 3) := by decide +kernel
theorem d_Md_refuse_16 : decode b_Md_refuse 16 = .ok (.ifCond .ne 7, 3) := by decide +kernel
theorem d_Md_refuse_19 : decode b_Md_refuse 19 = .ok (.iload_n 2, 1) := by decide +kernel
theorem d_Md_refuse_20 : decode b_Md_refuse 20 = .ok (.goto 7, 3) := by decide +kernel
theorem d_Md_refuse_23 : decode b_Md_refuse 23 = .ok (.aload_n 0, 1) := by decide +kernel
theorem d_Md_refuse_24 : decode b_Md_refuse 24 = .ok (.getfield 187, 3) := by decide +kernel
theorem d_Md_refuse_27 : decode b_Md_refuse 27 = .ok (.putfield 187, 3) := by decide +kernel
theorem d_Md_refuse_30 : decode b_Md_refuse 30 = .ok (.return_, 1) := by decide +kernel
theorem d_Md_readContexts_0 : decode b_Md_readContexts 0 = .ok (.aload_n 0, 1) := by decide +kernel
theorem d_Md_readContexts_1 : decode b_Md_readContexts 1 = .ok (.getfield 105, 3) := by decide +kernel
theorem d_Md_readContexts_4 : decode b_Md_readContexts 4 = .ok (.ifCond .eq 79, 3) := by decide +kernel
theorem d_Md_readContexts_7 : decode b_Md_readContexts 7 = .ok (.aload_n 0, 1) := by decide +kernel
theorem d_Md_readContexts_8 : decode b_Md_readContexts 8 = .ok (.aload_n 0, 1) := by decide +kernel
theorem d_Md_readContexts_9 : decode b_Md_readContexts 9 = .ok (.invokevirtual 190, 3) := by decide +kernel
theorem d_Md_readContexts_12 : decode b_Md_readContexts 12 = .ok (.iconst 1, 1) := by decide +kernel
theorem d_Md_readContexts_13 : decode b_Md_readContexts 13 = .ok (.if_icmp .ne 7, 3) := by decide +kernel
theorem d_Md_readContexts_16 : decode b_Md_readContexts 16 = .ok (.iconst 1, 1) := by decide +kernel
theorem d_Md_readContexts_17 : decode b_Md_readContexts 17 = .ok (.goto 4, 3) := by decide +kernel
theorem d_Md_readContexts_20 : decode b_Md_readContexts 20 = .ok (.iconst 0, 1) := by decide +kernel
theorem d_Md_readContexts_21 : decode b_Md_readContexts 21 = .ok (.aload_n 0, 1) := by decide +kernel
theorem d_Md_readContexts_22 : decode b_Md_readContexts 22 = .ok (.getfield 132, 3) := by decide +kernel
theorem d_Md_readContexts_25 : decode b_Md_readContexts 25 = .ok (.if_icmp .eq 7, 3) := by decide +kernel
theorem d_Md_readContexts_28 : decode b_Md_readContexts 28 = .ok (.iconst 1, 1) := by decide +kernel
theorem d_Md_readContexts_29 : decode b_Md_readContexts 29 = .ok (.goto 4, 3) := by decide +kernel
theorem d_Md_readContexts_32 : decode b_Md_readContexts 32 = .ok (.iconst 0, 1) := by decide +kernel
theorem d_Md_readContexts_33 : decode b_Md_readContexts 33 = .ok (.putfield 132, 3) := by decide +kernel
theorem d_Md_readContexts_36 : decode b_Md_readContexts 36 = .ok (.aload_n 0, 1) := by decide +kernel
theorem d_Md_readContexts_37 : decode b_Md_readContexts 37 = .ok (.getfield 132, 3) := by decide +kernel
theorem d_Md_readContexts_40 : decode b_Md_readContexts 40 = .ok (.ifCond .eq 43, 3) := by decide +kernel
theorem d_Md_readContexts_43 : decode b_Md_readContexts 43 = .ok (.iconst 0, 1) := by decide +kernel
theorem d_Md_readContexts_44 : decode b_Md_readContexts 44 = .ok (.istore_n 2, 1) := by decide +kernel
theorem d_Md_readContexts_45 : decode b_Md_readContexts 45 = .ok (.iload_n 2, 1) := by decide +kernel
theorem d_Md_readContexts_46 : decode b_Md_readContexts 46 = .ok (.aload_n 0, 1) := by decide +kernel
theorem d_Md_readContexts_47 : decode b_Md_readContexts 47 = .ok (.getfield 57, 3) := by decide +kernel
theorem d_Md_readContexts_50 : decode b_Md_readContexts 50 = .ok (.if_icmp .ge 32, 3) := by decide +kernel
theorem d_Md_readContexts_53 : decode b_Md_readContexts 53 = .ok (.aload_n 0, 1) := by decide +kernel
theorem d_Md_readContexts_54 : decode b_Md_readContexts 54 = .ok (.getfield 50, 3) := by decide +kernel
theorem d_Md_readContexts_57 : decode b_Md_readContexts 57 = .ok (.bipush 24, 2) := by decide +kernel
theorem d_Md_readContexts_59 : decode b_Md_readContexts 59 = .ok (.iload_n 1, 1) := by decide +kernel
theorem d_Md_readContexts_60 : decode b_Md_readContexts 60 = .ok (.imul, 1) := by decide +kernel
theorem d_Md_readContexts_61 : decode b_Md_readContexts 61 = .ok (.iload_n 2, 1) := by decide +kernel
theorem d_Md_readContexts_62 : decode b_Md_readContexts 62 = .ok (.iadd, 1) := by decide +kernel
theorem d_Md_readContexts_63 : decode b_Md_readContexts 63 = .ok (.aload_n 0, 1) := by decide +kernel
theorem d_Md_readContexts_64 : decode b_Md_readContexts 64 = .ok (.aload_n 0, 1) := by decide +kernel
theorem d_Md_readContexts_65 : decode b_Md_readContexts 65 = .ok (.getfield 50, 3) := by decide +kernel
theorem d_Md_readContexts_68 : decode b_Md_readContexts 68 = .ok (.iload_n 2, 1) := by decide +kernel
theorem d_Md_readContexts_69 : decode b_Md_readContexts 69 = .ok (.iload_n 1, 1) := by decide +kernel
theorem d_Md_readContexts_70 : decode b_Md_readContexts 70 = .ok (.iconst 1, 1) := by decide +kernel
theorem d_Md_readContexts_71 : decode b_Md_readContexts 71 = .ok (.isub, 1) := by decide +kernel
theorem d_Md_readContexts_72 : decode b_Md_readContexts 72 = .ok (.invokevirtual 117, 3) := by decide +kernel
theorem d_Md_readContexts_75 : decode b_Md_readContexts 75 = .ok (.bastore, 1) := by decide +kernel
theorem d_Md_readContexts_76 : decode b_Md_readContexts 76 = .ok (.iinc 2 1, 3) := by decide +kernel
theorem d_Md_readContexts_79 : decode b_Md_readContexts 79 = .ok (.goto (-34), 3) := by decide +kernel
theorem d_Md_readContexts_82 : decode b_Md_readContexts 82 = .ok (.return_, 1) := by decide +kernel
theorem d_Md_readContexts_83 : decode b_Md_readContexts 83 = .ok (.iconst 0, 1) := by decide +kernel
theorem d_Md_readContexts_84 : decode b_Md_readContexts 84 = .ok (.istore_n 2, 1) := by decide +kernel
theorem d_Md_readContexts_85 : decode b_Md_readContexts 85 = .ok (.iload_n 2, 1) := by decide +kernel
theorem d_Md_readContexts_86 : decode b_Md_readContexts 86 = .ok (.aload_n 0, 1) := by decide +kernel
theorem d_Md_readContexts_87 : decode b_Md_readContexts 87 = .ok (.getfield 57, 3) := by decide +kernel
theorem d_Md_readContexts_90 : decode b_Md_readContexts 90 = .ok (.if_icmp .ge 47, 3) := by decide +kernel
theorem d_Md_readContexts_93 : decode b_Md_readContexts 93 = .ok (.aload_n 0, 1) := by decide +kernel
theorem d_Md_readContexts_94 : decode b_Md_readContexts 94 = .ok (.getfield 32, 3) := by decide +kernel
theorem d_Md_readContexts_97 : decode b_Md_readContexts 97 = .ok (.bipush 24, 2) := by decide +kernel
theorem d_Md_readContexts_99 : decode b_Md_readContexts 99 = .ok (.iload_n 1, 1) := by decide +kernel
theorem d_Md_readContexts_100 : decode b_Md_readContexts 100 = .ok (.imul, 1) := by decide +kernel
theorem d_Md_readContexts_101 : decode b_Md_readContexts 101 = .ok (.iload_n 2, 1) := by decide +kernel
theorem d_Md_readContexts_102 : decode b_Md_readContexts 102 = .ok (.iadd, 1) := by decide +kernel
theorem d_Md_readContexts_103 : decode b_Md_readContexts 103 = .ok (.baload, 1) := by decide +kernel
theorem d_Md_readContexts_104 : decode b_Md_readContexts 104 = .ok (.ifCond .ne 27, 3) := by decide +kernel
theorem d_Md_readContexts_107 : decode b_Md_readContexts 107 = .ok (.aload_n 0, 1) := by decide +kernel
theorem d_Md_readContexts_108 : decode b_Md_readContexts 108 = .ok (.getfield 50, 3) := by decide +kernel
theorem d_Md_readContexts_111 : decode b_Md_readContexts 111 = .ok (.bipush 24, 2) := by decide +kernel
theorem d_Md_readContexts_113 : decode b_Md_readContexts 113 = .ok (.iload_n 1, 1) := by decide +kernel
theorem d_Md_readContexts_114 : decode b_Md_readContexts 114 = .ok (.imul, 1) := by decide +kernel
theorem d_Md_readContexts_115 : decode b_Md_readContexts 115 = .ok (.iload_n 2, 1) := by decide +kernel
theorem d_Md_readContexts_116 : decode b_Md_readContexts 116 = .ok (.iadd, 1) := by decide +kernel
theorem d_Md_readContexts_117 : decode b_Md_readContexts 117 = .ok (.aload_n 0, 1) := by decide +kernel
theorem d_Md_readContexts_118 : decode b_Md_readContexts 118 = .ok (.invokevirtual 190, 3) := by decide +kernel
theorem d_Md_readContexts_121 : decode b_Md_readContexts 121 = .ok (.iconst 1, 1) := by decide +kernel
theorem d_Md_readContexts_122 : decode b_Md_readContexts 122 = .ok (.if_icmp .ne 7, 3) := by decide +kernel
theorem d_Md_readContexts_125 : decode b_Md_readContexts 125 = .ok (.iconst 1, 1) := by decide +kernel
theorem d_Md_readContexts_126 : decode b_Md_readContexts 126 = .ok (.goto 4, 3) := by decide +kernel
theorem d_Md_readContexts_129 : decode b_Md_readContexts 129 = .ok (.iconst 0, 1) := by decide +kernel
theorem d_Md_readContexts_130 : decode b_Md_readContexts 130 = .ok (.bastore, 1) := by decide +kernel
theorem d_Md_readContexts_131 : decode b_Md_readContexts 131 = .ok (.iinc 2 1, 3) := by decide +kernel
theorem d_Md_readContexts_134 : decode b_Md_readContexts 134 = .ok (.goto (-49), 3) := by decide +kernel
theorem d_Md_readContexts_137 : decode b_Md_readContexts 137 = .ok (.return_, 1) := by decide +kernel
theorem d_Md_fill_0 : decode b_Md_fill 0 = .ok (.iload_n 2, 1) := by decide +kernel
theorem d_Md_fill_1 : decode b_Md_fill 1 = .ok (.istore 5, 2) := by decide +kernel
theorem d_Md_fill_3 : decode b_Md_fill 3 = .ok (.iload 5, 2) := by decide +kernel
theorem d_Md_fill_5 : decode b_Md_fill 5 = .ok (.iload_n 3, 1) := by decide +kernel
theorem d_Md_fill_6 : decode b_Md_fill 6 = .ok (.if_icmp .ge 37, 3) := by decide +kernel
theorem d_Md_fill_9 : decode b_Md_fill 9 = .ok (.aload_n 0, 1) := by decide +kernel
theorem d_Md_fill_10 : decode b_Md_fill 10 = .ok (.getfield 187, 3) := by decide +kernel
theorem d_Md_fill_13 : decode b_Md_fill 13 = .ok (.ifCond .ge 30, 3) := by decide +kernel
theorem d_Md_fill_16 : decode b_Md_fill 16 = .ok (.aload_n 0, 1) := by decide +kernel
theorem d_Md_fill_17 : decode b_Md_fill 17 = .ok (.getfield 181, 3) := by decide +kernel
theorem d_Md_fill_20 : decode b_Md_fill 20 = .ok (.ifCond .ne 23, 3) := by decide +kernel
theorem d_Md_fill_23 : decode b_Md_fill 23 = .ok (.aload_n 0, 1) := by decide +kernel
theorem d_Md_fill_24 : decode b_Md_fill 24 = .ok (.getfield 50, 3) := by decide +kernel
theorem d_Md_fill_27 : decode b_Md_fill 27 = .ok (.bipush 24, 2) := by decide +kernel
theorem d_Md_fill_29 : decode b_Md_fill 29 = .ok (.iload_n 1, 1) := by decide +kernel
theorem d_Md_fill_30 : decode b_Md_fill 30 = .ok (.imul, 1) := by decide +kernel
theorem d_Md_fill_31 : decode b_Md_fill 31 = .ok (.iload 5, 2) := by decide +kernel
theorem d_Md_fill_33 : decode b_Md_fill 33 = .ok (.iadd, 1) := by decide +kernel
theorem d_Md_fill_34 : decode b_Md_fill 34 = .ok (.iload 4, 2) := by decide +kernel
theorem d_Md_fill_36 : decode b_Md_fill 36 = .ok (.bastore, 1) := by decide +kernel
theorem d_Md_fill_37 : decode b_Md_fill 37 = .ok (.iinc 5 1, 3) := by decide +kernel
theorem d_Md_fill_40 : decode b_Md_fill 40 = .ok (.goto (-37), 3) := by decide +kernel
theorem d_Md_fill_43 : decode b_Md_fill 43 = .ok (.return_, 1) := by decide +kernel
theorem d_Md_readNumber_0 : decode b_Md_readNumber 0 = .ok (.iconst 0, 1) := by decide +kernel
theorem d_Md_readNumber_1 : decode b_Md_readNumber 1 = .ok (.istore_n 1, 1) := by decide +kernel
theorem d_Md_readNumber_2 : decode b_Md_readNumber 2 = .ok (.aload_n 0, 1) := by decide +kernel
theorem d_Md_readNumber_3 : decode b_Md_readNumber 3 = .ok (.invokevirtual 190, 3) := by decide +kernel
theorem d_Md_readNumber_6 : decode b_Md_readNumber 6 = .ok (.ifCond .ne 19, 3) := by decide +kernel
theorem d_Md_readNumber_9 : decode b_Md_readNumber 9 = .ok (.iinc 1 1, 3) := by decide +kernel
theorem d_Md_readNumber_12 : decode b_Md_readNumber 12 = .ok (.iload_n 1, 1) := by decide +kernel
theorem d_Md_readNumber_13 : decode b_Md_readNumber 13 = .ok (.iconst 4, 1) := by decide +kernel
theorem d_Md_readNumber_14 : decode b_Md_readNumber 14 = .ok (.if_icmp .le (-12), 3) := by decide +kernel
theorem d_Md_readNumber_17 : decode b_Md_readNumber 17 = .ok (.aload_n 0, 1) := by decide +kernel
theorem d_Md_readNumber_18 : decode b_Md_readNumber 18 = .ok (.iconst 1, 1) := by decide +kernel
theorem d_Md_readNumber_19 : decode b_Md_readNumber 19 = .ok (.iconst 2, 1) := by decide +kernel
theorem d_Md_readNumber_20 : decode b_Md_readNumber 20 = .ok (.invokevirtual 193, 3) := by decide +kernel
theorem d_Md_readNumber_23 : decode b_Md_readNumber 23 = .ok (.iconst 0, 1) := by decide +kernel
theorem d_Md_readNumber_24 : decode b_Md_readNumber 24 = .ok (.ireturn, 1) := by decide +kernel
theorem d_Md_readNumber_25 : decode b_Md_readNumber 25 = .ok (.iconst 1, 1) := by decide +kernel
theorem d_Md_readNumber_26 : decode b_Md_readNumber 26 = .ok (.istore_n 2, 1) := by decide +kernel
theorem d_Md_readNumber_27 : decode b_Md_readNumber 27 = .ok (.iconst 0, 1) := by decide +kernel
theorem d_Md_readNumber_28 : decode b_Md_readNumber 28 = .ok (.istore_n 3, 1) := by decide +kernel
theorem d_Md_readNumber_29 : decode b_Md_readNumber 29 = .ok (.iload_n 3, 1) := by decide +kernel
theorem d_Md_readNumber_30 : decode b_Md_readNumber 30 = .ok (.iload_n 1, 1) := by decide +kernel
theorem d_Md_readNumber_31 : decode b_Md_readNumber 31 = .ok (.if_icmp .ge 18, 3) := by decide +kernel
theorem d_Md_readNumber_34 : decode b_Md_readNumber 34 = .ok (.iconst 2, 1) := by decide +kernel
theorem d_Md_readNumber_35 : decode b_Md_readNumber 35 = .ok (.iload_n 2, 1) := by decide +kernel
theorem d_Md_readNumber_36 : decode b_Md_readNumber 36 = .ok (.imul, 1) := by decide +kernel
theorem d_Md_readNumber_37 : decode b_Md_readNumber 37 = .ok (.aload_n 0, 1) := by decide +kernel
theorem d_Md_readNumber_38 : decode b_Md_readNumber 38 = .ok (.invokevirtual 190, 3) := by decide +kernel
theorem d_Md_readNumber_41 : decode b_Md_readNumber 41 = .ok (.iadd, 1) := by decide +kernel
theorem d_Md_readNumber_42 : decode b_Md_readNumber 42 = .ok (.istore_n 2, 1) := by decide +kernel
theorem d_Md_readNumber_43 : decode b_Md_readNumber 43 = .ok (.iinc 3 1, 3) := by decide +kernel
theorem d_Md_readNumber_46 : decode b_Md_readNumber 46 = .ok (.goto (-17), 3) := by decide +kernel
theorem d_Md_readNumber_49 : decode b_Md_readNumber 49 = .ok (.iload_n 2, 1) := by decide +kernel
theorem d_Md_readNumber_50 : decode b_Md_readNumber 50 = .ok (.iconst 1, 1) := by decide +kernel
theorem d_Md_readNumber_51 : decode b_Md_readNumber 51 = .ok (.isub, 1) := by decide +kernel
theorem d_Md_readNumber_52 : decode b_Md_readNumber 52 = .ok (.ireturn, 1) := by decide +kernel
theorem d_Md_readChange_0 : decode b_Md_readChange 0 = .ok (.aload_n 0, 1) := by decide +kernel
theorem d_Md_readChange_1 : decode b_Md_readChange 1 = .ok (.aload_n 0, 1) := by decide +kernel
theorem d_Md_readChange_2 : decode b_Md_readChange 2 = .ok (.getfield 50, 3) := by decide +kernel
theorem d_Md_readChange_5 : decode b_Md_readChange 5 = .ok (.iload_n 1, 1) := by decide +kernel
theorem d_Md_readChange_6 : decode b_Md_readChange 6 = .ok (.invokevirtual 156, 3) := by decide +kernel
theorem d_Md_readChange_9 : decode b_Md_readChange 9 = .ok (.iload_n 2, 1) := by decide +kernel
theorem d_Md_readChange_10 : decode b_Md_readChange 10 = .ok (.iadd, 1) := by decide +kernel
theorem d_Md_readChange_11 : decode b_Md_readChange 11 = .ok (.istore_n 3, 1) := by decide +kernel
theorem d_Md_readChange_12 : decode b_Md_readChange 12 = .ok (.aload_n 0, 1) := by decide +kernel
theorem d_Md_readChange_13 : decode b_Md_readChange 13 = .ok (.iload_n 3, 1) := by decide +kernel
theorem d_Md_readChange_14 : decode b_Md_readChange 14 = .ok (.aload_n 0, 1) := by decide +kernel
theorem d_Md_readChange_15 : decode b_Md_readChange 15 = .ok (.getfield 145, 3) := by decide +kernel
theorem d_Md_readChange_18 : decode b_Md_readChange 18 = .ok (.if_icmp .le 11, 3) := by decide +kernel
theorem d_Md_readChange_21 : decode b_Md_readChange 21 = .ok (.iload_n 3, 1) := by decide +kernel
theorem d_Md_readChange_22 : decode b_Md_readChange 22 = .ok (.aload_n 0, 1) := by decide +kernel
theorem d_Md_readChange_23 : decode b_Md_readChange 23 = .ok (.getfield 57, 3) := by decide +kernel
theorem d_Md_readChange_26 : decode b_Md_readChange 26 = .ok (.if_icmp .le 7, 3) := by decide +kernel
theorem d_Md_readChange_29 : decode b_Md_readChange 29 = .ok (.iconst 1, 1) := by decide +kernel
theorem d_Md_readChange_30 : decode b_Md_readChange 30 = .ok (.goto 4, 3) := by decide +kernel
theorem d_Md_readChange_33 : decode b_Md_readChange 33 = .ok (.iconst 0, 1) := by decide +kernel
theorem d_Md_readChange_34 : decode b_Md_readChange 34 = .ok (.iconst 1, 1) := by decide +kernel
theorem d_Md_readChange_35 : decode b_Md_readChange 35 = .ok (.invokevirtual 193, 3) := by decide +kernel
theorem d_Md_readChange_38 : decode b_Md_readChange 38 = .ok (.aload_n 0, 1) := by decide +kernel
theorem d_Md_readChange_39 : decode b_Md_readChange 39 = .ok (.iload_n 1, 1) := by decide +kernel
theorem d_Md_readChange_40 : decode b_Md_readChange 40 = .ok (.aload_n 0, 1) := by decide +kernel
theorem d_Md_readChange_41 : decode b_Md_readChange 41 = .ok (.getfield 145, 3) := by decide +kernel
theorem d_Md_readChange_44 : decode b_Md_readChange 44 = .ok (.ifCond .ge 7, 3) := by decide +kernel
theorem d_Md_readChange_47 : decode b_Md_readChange 47 = .ok (.iconst 0, 1) := by decide +kernel
theorem d_Md_readChange_48 : decode b_Md_readChange 48 = .ok (.goto 7, 3) := by decide +kernel
theorem d_Md_readChange_51 : decode b_Md_readChange 51 = .ok (.aload_n 0, 1) := by decide +kernel
theorem d_Md_readChange_52 : decode b_Md_readChange 52 = .ok (.getfield 145, 3) := by decide +kernel
theorem d_Md_readChange_55 : decode b_Md_readChange 55 = .ok (.iload_n 3, 1) := by decide +kernel
theorem d_Md_readChange_56 : decode b_Md_readChange 56 = .ok (.aload_n 0, 1) := by decide +kernel
theorem d_Md_readChange_57 : decode b_Md_readChange 57 = .ok (.getfield 148, 3) := by decide +kernel
theorem d_Md_readChange_60 : decode b_Md_readChange 60 = .ok (.invokevirtual 197, 3) := by decide +kernel
theorem d_Md_readChange_63 : decode b_Md_readChange 63 = .ok (.aload_n 0, 1) := by decide +kernel
theorem d_Md_readChange_64 : decode b_Md_readChange 64 = .ok (.iload_n 3, 1) := by decide +kernel
theorem d_Md_readChange_65 : decode b_Md_readChange 65 = .ok (.putfield 145, 3) := by decide +kernel
theorem d_Md_readChange_68 : decode b_Md_readChange 68 = .ok (.aload_n 0, 1) := by decide +kernel
theorem d_Md_readChange_69 : decode b_Md_readChange 69 = .ok (.aload_n 0, 1) := by decide +kernel
theorem d_Md_readChange_70 : decode b_Md_readChange 70 = .ok (.getfield 148, 3) := by decide +kernel
theorem d_Md_readChange_73 : decode b_Md_readChange 73 = .ok (.ifCond .ne 7, 3) := by decide +kernel
theorem d_Md_readChange_76 : decode b_Md_readChange 76 = .ok (.iconst 1, 1) := by decide +kernel
theorem d_Md_readChange_77 : decode b_Md_readChange 77 = .ok (.goto 4, 3) := by decide +kernel
theorem d_Md_readChange_80 : decode b_Md_readChange 80 = .ok (.iconst 0, 1) := by decide +kernel
theorem d_Md_readChange_81 : decode b_Md_readChange 81 = .ok (.putfield 148, 3) := by decide +kernel
theorem d_Md_readChange_84 : decode b_Md_readChange 84 = .ok (.return_, 1) := by decide +kernel
theorem d_Md_readPassed_0 : decode b_Md_readPassed 0 = .ok (.aload_n 0, 1) := by decide +kernel
theorem d_Md_readPassed_1 : decode b_Md_readPassed 1 = .ok (.aload_n 0, 1) := by decide +kernel
theorem d_Md_readPassed_2 : decode b_Md_readPassed 2 = .ok (.getfield 50, 3) := by decide +kernel
theorem d_Md_readPassed_5 : decode b_Md_readPassed 5 = .ok (.iload_n 1, 1) := by decide +kernel
theorem d_Md_readPassed_6 : decode b_Md_readPassed 6 = .ok (.iconst 1, 1) := by decide +kernel
theorem d_Md_readPassed_7 : decode b_Md_readPassed 7 = .ok (.isub, 1) := by decide +kernel
theorem d_Md_readPassed_8 : decode b_Md_readPassed 8 = .ok (.aload_n 0, 1) := by decide +kernel
theorem d_Md_readPassed_9 : decode b_Md_readPassed 9 = .ok (.aload_n 0, 1) := by decide +kernel
theorem d_Md_readPassed_10 : decode b_Md_readPassed 10 = .ok (.getfield 50, 3) := by decide +kernel
theorem d_Md_readPassed_13 : decode b_Md_readPassed 13 = .ok (.iload_n 1, 1) := by decide +kernel
theorem d_Md_readPassed_14 : decode b_Md_readPassed 14 = .ok (.invokevirtual 156, 3) := by decide +kernel
theorem d_Md_readPassed_17 : decode b_Md_readPassed 17 = .ok (.iconst 1, 1) := by decide +kernel
theorem d_Md_readPassed_18 : decode b_Md_readPassed 18 = .ok (.iadd, 1) := by decide +kernel
theorem d_Md_readPassed_19 : decode b_Md_readPassed 19 = .ok (.aload_n 0, 1) := by decide +kernel
theorem d_Md_readPassed_20 : decode b_Md_readPassed 20 = .ok (.getfield 148, 3) := by decide +kernel
theorem d_Md_readPassed_23 : decode b_Md_readPassed 23 = .ok (.invokevirtual 152, 3) := by decide +kernel
theorem d_Md_readPassed_26 : decode b_Md_readPassed 26 = .ok (.istore_n 2, 1) := by decide +kernel
theorem d_Md_readPassed_27 : decode b_Md_readPassed 27 = .ok (.aload_n 0, 1) := by decide +kernel
theorem d_Md_readPassed_28 : decode b_Md_readPassed 28 = .ok (.iload_n 2, 1) := by decide +kernel
theorem d_Md_readPassed_29 : decode b_Md_readPassed 29 = .ok (.aload_n 0, 1) := by decide +kernel
theorem d_Md_readPassed_30 : decode b_Md_readPassed 30 = .ok (.getfield 57, 3) := by decide +kernel
theorem d_Md_readPassed_33 : decode b_Md_readPassed 33 = .ok (.if_icmp .ne 7, 3) := by decide +kernel
theorem d_Md_readPassed_36 : decode b_Md_readPassed 36 = .ok (.iconst 1, 1) := by decide +kernel
theorem d_Md_readPassed_37 : decode b_Md_readPassed 37 = .ok (.goto 4, 3) := by decide +kernel
theorem d_Md_readPassed_40 : decode b_Md_readPassed 40 = .ok (.iconst 0, 1) := by decide +kernel
theorem d_Md_readPassed_41 : decode b_Md_readPassed 41 = .ok (.iconst 1, 1) := by decide +kernel
theorem d_Md_readPassed_42 : decode b_Md_readPassed 42 = .ok (.invokevirtual 193, 3) := by decide +kernel
theorem d_Md_readPassed_45 : decode b_Md_readPassed 45 = .ok (.aload_n 0, 1) := by decide +kernel
theorem d_Md_readPassed_46 : decode b_Md_readPassed 46 = .ok (.iload_n 1, 1) := by decide +kernel
theorem d_Md_readPassed_47 : decode b_Md_readPassed 47 = .ok (.aload_n 0, 1) := by decide +kernel
theorem d_Md_readPassed_48 : decode b_Md_readPassed 48 = .ok (.getfield 145, 3) := by decide +kernel
theorem d_Md_readPassed_51 : decode b_Md_readPassed 51 = .ok (.ifCond .ge 7, 3) := by decide +kernel
theorem d_Md_readPassed_54 : decode b_Md_readPassed 54 = .ok (.iconst 0, 1) := by decide +kernel
theorem d_Md_readPassed_55 : decode b_Md_readPassed 55 = .ok (.goto 7, 3) := by decide +kernel
theorem d_Md_readPassed_58 : decode b_Md_readPassed 58 = .ok (.aload_n 0, 1) := by decide +kernel
theorem d_Md_readPassed_59 : decode b_Md_readPassed 59 = .ok (.getfield 145, 3) := by decide +kernel
theorem d_Md_readPassed_62 : decode b_Md_readPassed 62 = .ok (.iload_n 2, 1) := by decide +kernel
theorem d_Md_readPassed_63 : decode b_Md_readPassed 63 = .ok (.aload_n 0, 1) := by decide +kernel
theorem d_Md_readPassed_64 : decode b_Md_readPassed 64 = .ok (.getfield 148, 3) := by decide +kernel
theorem d_Md_readPassed_67 : decode b_Md_readPassed 67 = .ok (.invokevirtual 197, 3) := by decide +kernel
theorem d_Md_readPassed_70 : decode b_Md_readPassed 70 = .ok (.aload_n 0, 1) := by decide +kernel
theorem d_Md_readPassed_71 : decode b_Md_readPassed 71 = .ok (.iload_n 2, 1) := by decide +kernel
theorem d_Md_readPassed_72 : decode b_Md_readPassed 72 = .ok (.putfield 145, 3) := by decide +kernel
theorem d_Md_readPassed_75 : decode b_Md_readPassed 75 = .ok (.return_, 1) := by decide +kernel
theorem d_Md_readAcross_0 : decode b_Md_readAcross 0 = .ok (.aload_n 0, 1) := by decide +kernel
theorem d_Md_readAcross_1 : decode b_Md_readAcross 1 = .ok (.getfield 145, 3) := by decide +kernel
theorem d_Md_readAcross_4 : decode b_Md_readAcross 4 = .ok (.ifCond .ge 7, 3) := by decide +kernel
theorem d_Md_readAcross_7 : decode b_Md_readAcross 7 = .ok (.iconst 0, 1) := by decide +kernel
theorem d_Md_readAcross_8 : decode b_Md_readAcross 8 = .ok (.goto 7, 3) := by decide +kernel
theorem d_Md_readAcross_11 : decode b_Md_readAcross 11 = .ok (.aload_n 0, 1) := by decide +kernel
theorem d_Md_readAcross_12 : decode b_Md_readAcross 12 = .ok (.getfield 145, 3) := by decide +kernel
theorem d_Md_readAcross_15 : decode b_Md_readAcross 15 = .ok (.istore_n 2, 1) := by decide +kernel
theorem d_Md_readAcross_16 : decode b_Md_readAcross 16 = .ok (.iload_n 2, 1) := by decide +kernel
theorem d_Md_readAcross_17 : decode b_Md_readAcross 17 = .ok (.aload_n 0, 1) := by decide +kernel
theorem d_Md_readAcross_18 : decode b_Md_readAcross 18 = .ok (.invokevirtual 201, 3) := by decide +kernel
theorem d_Md_readAcross_21 : decode b_Md_readAcross 21 = .ok (.iadd, 1) := by decide +kernel
theorem d_Md_readAcross_22 : decode b_Md_readAcross 22 = .ok (.istore_n 3, 1) := by decide +kernel
theorem d_Md_readAcross_23 : decode b_Md_readAcross 23 = .ok (.aload_n 0, 1) := by decide +kernel
theorem d_Md_readAcross_24 : decode b_Md_readAcross 24 = .ok (.getfield 187, 3) := by decide +kernel
theorem d_Md_readAcross_27 : decode b_Md_readAcross 27 = .ok (.ifCond .ge 12, 3) := by decide +kernel
theorem d_Md_readAcross_30 : decode b_Md_readAcross 30 = .ok (.iload_n 3, 1) := by decide +kernel
theorem d_Md_readAcross_31 : decode b_Md_readAcross 31 = .ok (.aload_n 0, 1) := by decide +kernel
theorem d_Md_readAcross_32 : decode b_Md_readAcross 32 = .ok (.invokevirtual 201, 3) := by decide +kernel
theorem d_Md_readAcross_35 : decode b_Md_readAcross 35 = .ok (.iadd, 1) := by decide +kernel
theorem d_Md_readAcross_36 : decode b_Md_readAcross 36 = .ok (.goto 4, 3) := by decide +kernel
theorem d_Md_readAcross_39 : decode b_Md_readAcross 39 = .ok (.iload_n 3, 1) := by decide +kernel
theorem d_Md_readAcross_40 : decode b_Md_readAcross 40 = .ok (.istore 4, 2) := by decide +kernel
theorem d_Md_readAcross_42 : decode b_Md_readAcross 42 = .ok (.aload_n 0, 1) := by decide +kernel
theorem d_Md_readAcross_43 : decode b_Md_readAcross 43 = .ok (.iload 4, 2) := by decide +kernel
theorem d_Md_readAcross_45 : decode b_Md_readAcross 45 = .ok (.aload_n 0, 1) := by decide +kernel
theorem d_Md_readAcross_46 : decode b_Md_readAcross 46 = .ok (.getfield 57, 3) := by decide +kernel
theorem d_Md_readAcross_49 : decode b_Md_readAcross 49 = .ok (.if_icmp .gt 12, 3) := by decide +kernel
theorem d_Md_readAcross_52 : decode b_Md_readAcross 52 = .ok (.iload 4, 2) := by decide +kernel
theorem d_Md_readAcross_54 : decode b_Md_readAcross 54 = .ok (.aload_n 0, 1) := by decide +kernel
theorem d_Md_readAcross_55 : decode b_Md_readAcross 55 = .ok (.getfield 145, 3) := by decide +kernel
theorem d_Md_readAcross_58 : decode b_Md_readAcross 58 = .ok (.if_icmp .gt 7, 3) := by decide +kernel
theorem d_Md_readAcross_61 : decode b_Md_readAcross 61 = .ok (.iconst 1, 1) := by decide +kernel
theorem d_Md_readAcross_62 : decode b_Md_readAcross 62 = .ok (.goto 4, 3) := by decide +kernel
theorem d_Md_readAcross_65 : decode b_Md_readAcross 65 = .ok (.iconst 0, 1) := by decide +kernel
theorem d_Md_readAcross_66 : decode b_Md_readAcross 66 = .ok (.iconst 2, 1) := by decide +kernel
theorem d_Md_readAcross_67 : decode b_Md_readAcross 67 = .ok (.invokevirtual 193, 3) := by decide +kernel
theorem d_Md_readAcross_70 : decode b_Md_readAcross 70 = .ok (.aload_n 0, 1) := by decide +kernel
theorem d_Md_readAcross_71 : decode b_Md_readAcross 71 = .ok (.iload_n 1, 1) := by decide +kernel
theorem d_Md_readAcross_72 : decode b_Md_readAcross 72 = .ok (.iload_n 2, 1) := by decide +kernel
theorem d_Md_readAcross_73 : decode b_Md_readAcross 73 = .ok (.iload_n 3, 1) := by decide +kernel
theorem d_Md_readAcross_74 : decode b_Md_readAcross 74 = .ok (.aload_n 0, 1) := by decide +kernel
theorem d_Md_readAcross_75 : decode b_Md_readAcross 75 = .ok (.getfield 148, 3) := by decide +kernel
theorem d_Md_readAcross_78 : decode b_Md_readAcross 78 = .ok (.invokevirtual 197, 3) := by decide +kernel
theorem d_Md_readAcross_81 : decode b_Md_readAcross 81 = .ok (.aload_n 0, 1) := by decide +kernel
theorem d_Md_readAcross_82 : decode b_Md_readAcross 82 = .ok (.iload_n 1, 1) := by decide +kernel
theorem d_Md_readAcross_83 : decode b_Md_readAcross 83 = .ok (.iload_n 3, 1) := by decide +kernel
theorem d_Md_readAcross_84 : decode b_Md_readAcross 84 = .ok (.iload 4, 2) := by decide +kernel
theorem d_Md_readAcross_86 : decode b_Md_readAcross 86 = .ok (.aload_n 0, 1) := by decide +kernel
theorem d_Md_readAcross_87 : decode b_Md_readAcross 87 = .ok (.getfield 148, 3) := by decide +kernel
theorem d_Md_readAcross_90 : decode b_Md_readAcross 90 = .ok (.ifCond .ne 7, 3) := by decide +kernel
theorem d_Md_readAcross_93 : decode b_Md_readAcross 93 = .ok (.iconst 1, 1) := by decide +kernel
theorem d_Md_readAcross_94 : decode b_Md_readAcross 94 = .ok (.goto 4, 3) := by decide +kernel
theorem d_Md_readAcross_97 : decode b_Md_readAcross 97 = .ok (.iconst 0, 1) := by decide +kernel
theorem d_Md_readAcross_98 : decode b_Md_readAcross 98 = .ok (.invokevirtual 197, 3) := by decide +kernel
theorem d_Md_readAcross_101 : decode b_Md_readAcross 101 = .ok (.aload_n 0, 1) := by decide +kernel
theorem d_Md_readAcross_102 : decode b_Md_readAcross 102 = .ok (.iload 4, 2) := by decide +kernel
theorem d_Md_readAcross_104 : decode b_Md_readAcross 104 = .ok (.putfield 145, 3) := by decide +kernel
theorem d_Md_readAcross_107 : decode b_Md_readAcross 107 = .ok (.return_, 1) := by decide +kernel
theorem d_Md_readFax_0 : decode b_Md_readFax 0 = .ok (.aload_n 0, 1) := by decide +kernel
theorem d_Md_readFax_1 : decode b_Md_readFax 1 = .ok (.iconst (-1), 1) := by decide +kernel
theorem d_Md_readFax_2 : decode b_Md_readFax 2 = .ok (.putfield 145, 3) := by decide +kernel
theorem d_Md_readFax_5 : decode b_Md_readFax 5 = .ok (.aload_n 0, 1) := by decide +kernel
theorem d_Md_readFax_6 : decode b_Md_readFax 6 = .ok (.iconst 0, 1) := by decide +kernel
theorem d_Md_readFax_7 : decode b_Md_readFax 7 = .ok (.putfield 148, 3) := by decide +kernel
theorem d_Md_readFax_10 : decode b_Md_readFax 10 = .ok (.aload_n 0, 1) := by decide +kernel
theorem d_Md_readFax_11 : decode b_Md_readFax 11 = .ok (.getfield 145, 3) := by decide +kernel
theorem d_Md_readFax_14 : decode b_Md_readFax 14 = .ok (.aload_n 0, 1) := by decide +kernel
theorem d_Md_readFax_15 : decode b_Md_readFax 15 = .ok (.getfield 57, 3) := by decide +kernel
theorem d_Md_readFax_18 : decode b_Md_readFax 18 = .ok (.if_icmp .ge 162, 3) := by decide +kernel
theorem d_Md_readFax_21 : decode b_Md_readFax 21 = .ok (.aload_n 0, 1) := by decide +kernel
theorem d_Md_readFax_22 : decode b_Md_readFax 22 = .ok (.getfield 187, 3) := by decide +kernel
theorem d_Md_readFax_25 : decode b_Md_readFax 25 = .ok (.ifCond .ge 155, 3) := by decide +kernel
theorem d_Md_readFax_28 : decode b_Md_readFax 28 = .ok (.aload_n 0, 1) := by decide +kernel
theorem d_Md_readFax_29 : decode b_Md_readFax 29 = .ok (.getfield 181, 3) := by decide +kernel
theorem d_Md_readFax_32 : decode b_Md_readFax 32 = .ok (.ifCond .ne 148, 3) := by decide +kernel
theorem d_Md_readFax_35 : decode b_Md_readFax 35 = .ok (.iconst 0, 1) := by decide +kernel
theorem d_Md_readFax_36 : decode b_Md_readFax 36 = .ok (.istore_n 2, 1) := by decide +kernel
theorem d_Md_readFax_37 : decode b_Md_readFax 37 = .ok (.iload_n 2, 1) := by decide +kernel
theorem d_Md_readFax_38 : decode b_Md_readFax 38 = .ok (.bipush 7, 2) := by decide +kernel
theorem d_Md_readFax_40 : decode b_Md_readFax 40 = .ok (.if_icmp .ge 16, 3) := by decide +kernel
theorem d_Md_readFax_43 : decode b_Md_readFax 43 = .ok (.aload_n 0, 1) := by decide +kernel
theorem d_Md_readFax_44 : decode b_Md_readFax 44 = .ok (.invokevirtual 190, 3) := by decide +kernel
theorem d_Md_readFax_47 : decode b_Md_readFax 47 = .ok (.ifCond .ne 9, 3) := by decide +kernel
theorem d_Md_readFax_50 : decode b_Md_readFax 50 = .ok (.iinc 2 1, 3) := by decide +kernel
theorem d_Md_readFax_53 : decode b_Md_readFax 53 = .ok (.goto (-16), 3) := by decide +kernel
theorem d_Md_readFax_56 : decode b_Md_readFax 56 = .ok (.iload_n 2, 1) := by decide +kernel
theorem d_Md_readFax_57 : decode b_Md_readFax 57 = .ok (.iconst 1, 1) := by decide +kernel
theorem d_Md_readFax_58 : decode b_Md_readFax 58 = .ok (.if_icmp .eq 13, 3) := by decide +kernel
theorem d_Md_readFax_61 : decode b_Md_readFax 61 = .ok (.iload_n 2, 1) := by decide +kernel
theorem d_Md_readFax_62 : decode b_Md_readFax 62 = .ok (.iconst 4, 1) := by decide +kernel
theorem d_Md_readFax_63 : decode b_Md_readFax 63 = .ok (.if_icmp .eq 8, 3) := by decide +kernel
theorem d_Md_readFax_66 : decode b_Md_readFax 66 = .ok (.iload_n 2, 1) := by decide +kernel
theorem d_Md_readFax_67 : decode b_Md_readFax 67 = .ok (.iconst 5, 1) := by decide +kernel
theorem d_Md_readFax_68 : decode b_Md_readFax 68 = .ok (.if_icmp .ne 14, 3) := by decide +kernel
theorem d_Md_readFax_71 : decode b_Md_readFax 71 = .ok (.iconst 2, 1) := by decide +kernel
theorem d_Md_readFax_72 : decode b_Md_readFax 72 = .ok (.aload_n 0, 1) := by decide +kernel
theorem d_Md_readFax_73 : decode b_Md_readFax 73 = .ok (.invokevirtual 190, 3) := by decide +kernel
theorem d_Md_readFax_76 : decode b_Md_readFax 76 = .ok (.imul, 1) := by decide +kernel
theorem d_Md_readFax_77 : decode b_Md_readFax 77 = .ok (.iconst 1, 1) := by decide +kernel
theorem d_Md_readFax_78 : decode b_Md_readFax 78 = .ok (.isub, 1) := by decide +kernel
theorem d_Md_readFax_79 : decode b_Md_readFax 79 = .ok (.goto 4, 3) := by decide +kernel
theorem d_Md_readFax_82 : decode b_Md_readFax 82 = .ok (.iconst 0, 1) := by decide +kernel
theorem d_Md_readFax_83 : decode b_Md_readFax 83 = .ok (.istore_n 3, 1) := by decide +kernel
theorem d_Md_readFax_84 : decode b_Md_readFax 84 = .ok (.iload_n 2, 1) := by decide +kernel
theorem d_Md_readFax_85 : decode b_Md_readFax 85 = .ok (.tableswitch 86 0 5 #[39, 48, 57, 65, 73, 73], 39) := by decide +kernel
theorem d_Md_readFax_124 : decode b_Md_readFax 124 = .ok (.aload_n 0, 1) := by decide +kernel
theorem d_Md_readFax_125 : decode b_Md_readFax 125 = .ok (.iload_n 1, 1) := by decide +kernel
theorem d_Md_readFax_126 : decode b_Md_readFax 126 = .ok (.iconst 0, 1) := by decide +kernel
theorem d_Md_readFax_127 : decode b_Md_readFax 127 = .ok (.invokevirtual 204, 3) := by decide +kernel
theorem d_Md_readFax_130 : decode b_Md_readFax 130 = .ok (.goto 47, 3) := by decide +kernel
theorem d_Md_readFax_133 : decode b_Md_readFax 133 = .ok (.aload_n 0, 1) := by decide +kernel
theorem d_Md_readFax_134 : decode b_Md_readFax 134 = .ok (.iload_n 1, 1) := by decide +kernel
theorem d_Md_readFax_135 : decode b_Md_readFax 135 = .ok (.iload_n 3, 1) := by decide +kernel
theorem d_Md_readFax_136 : decode b_Md_readFax 136 = .ok (.invokevirtual 204, 3) := by decide +kernel
theorem d_Md_readFax_139 : decode b_Md_readFax 139 = .ok (.goto 38, 3) := by decide +kernel
theorem d_Md_readFax_142 : decode b_Md_readFax 142 = .ok (.aload_n 0, 1) := by decide +kernel
theorem d_Md_readFax_143 : decode b_Md_readFax 143 = .ok (.iload_n 1, 1) := by decide +kernel
theorem d_Md_readFax_144 : decode b_Md_readFax 144 = .ok (.invokevirtual 207, 3) := by decide +kernel
theorem d_Md_readFax_147 : decode b_Md_readFax 147 = .ok (.goto 30, 3) := by decide +kernel
theorem d_Md_readFax_150 : decode b_Md_readFax 150 = .ok (.aload_n 0, 1) := by decide +kernel
theorem d_Md_readFax_151 : decode b_Md_readFax 151 = .ok (.iload_n 1, 1) := by decide +kernel
theorem d_Md_readFax_152 : decode b_Md_readFax 152 = .ok (.invokevirtual 210, 3) := by decide +kernel
theorem d_Md_readFax_155 : decode b_Md_readFax 155 = .ok (.goto 22, 3) := by decide +kernel
theorem d_Md_readFax_158 : decode b_Md_readFax 158 = .ok (.aload_n 0, 1) := by decide +kernel
theorem d_Md_readFax_159 : decode b_Md_readFax 159 = .ok (.iload_n 1, 1) := by decide +kernel
theorem d_Md_readFax_160 : decode b_Md_readFax 160 = .ok (.iload_n 3, 1) := by decide +kernel
theorem d_Md_readFax_161 : decode b_Md_readFax 161 = .ok (.iload_n 2, 1) := by decide +kernel
theorem d_Md_readFax_162 : decode b_Md_readFax 162 = .ok (.iconst 2, 1) := by decide +kernel
theorem d_Md_readFax_163 : decode b_Md_readFax 163 = .ok (.isub, 1) := by decide +kernel
theorem d_Md_readFax_164 : decode b_Md_readFax 164 = .ok (.imul, 1) := by decide +kernel
theorem d_Md_readFax_165 : decode b_Md_readFax 165 = .ok (.invokevirtual 204, 3) := by decide +kernel
theorem d_Md_readFax_168 : decode b_Md_readFax 168 = .ok (.goto 9, 3) := by decide +kernel
theorem d_Md_readFax_171 : decode b_Md_readFax 171 = .ok (.aload_n 0, 1) := by decide +kernel
theorem d_Md_readFax_172 : decode b_Md_readFax 172 = .ok (.iconst 1, 1) := by decide +kernel
theorem d_Md_readFax_173 : decode b_Md_readFax 173 = .ok (.iconst 0, 1) := by decide +kernel
theorem d_Md_readFax_174 : decode b_Md_readFax 174 = .ok (.invokevirtual 193, 3) := by decide +kernel
theorem d_Md_readFax_177 : decode b_Md_readFax 177 = .ok (.goto (-167), 3) := by decide +kernel
theorem d_Md_readFax_180 : decode b_Md_readFax 180 = .ok (.return_, 1) := by decide +kernel
theorem d_Md_readOne_0 : decode b_Md_readOne 0 = .ok (.aload_n 0, 1) := by decide +kernel
theorem d_Md_readOne_1 : decode b_Md_readOne 1 = .ok (.getfield 111, 3) := by decide +kernel
theorem d_Md_readOne_4 : decode b_Md_readOne 4 = .ok (.ifCond .eq 15, 3) := by decide +kernel
theorem d_Md_readOne_7 : decode b_Md_readOne 7 = .ok (.aload_n 0, 1) := by decide +kernel
theorem d_Md_readOne_8 : decode b_Md_readOne 8 = .ok (.invokevirtual 190, 3) := by decide +kernel
theorem d_Md_readOne_11 : decode b_Md_readOne 11 = .ok (.iconst 1, 1) := by decide +kernel
theorem d_Md_readOne_12 : decode b_Md_readOne 12 = .ok (.if_icmp .ne 7, 3) := by decide +kernel
theorem d_Md_readOne_15 : decode b_Md_readOne 15 = .ok (.iconst 1, 1) := by decide +kernel
theorem d_Md_readOne_16 : decode b_Md_readOne 16 = .ok (.goto 4, 3) := by decide +kernel
theorem d_Md_readOne_19 : decode b_Md_readOne 19 = .ok (.iconst 0, 1) := by decide +kernel
theorem d_Md_readOne_20 : decode b_Md_readOne 20 = .ok (.istore_n 1, 1) := by decide +kernel
theorem d_Md_readOne_21 : decode b_Md_readOne 21 = .ok (.aload_n 0, 1) := by decide +kernel
theorem d_Md_readOne_22 : decode b_Md_readOne 22 = .ok (.getfield 181, 3) := by decide +kernel
theorem d_Md_readOne_25 : decode b_Md_readOne 25 = .ok (.ifCond .eq 5, 3) := by decide +kernel
theorem d_Md_readOne_28 : decode b_Md_readOne 28 = .ok (.iconst 0, 1) := by decide +kernel
theorem d_Md_readOne_29 : decode b_Md_readOne 29 = .ok (.ireturn, 1) := by decide +kernel
theorem d_Md_readOne_30 : decode b_Md_readOne 30 = .ok (.iload_n 1, 1) := by decide +kernel
theorem d_Md_readOne_31 : decode b_Md_readOne 31 = .ok (.ifCond .eq 18, 3) := by decide +kernel
theorem d_Md_readOne_34 : decode b_Md_readOne 34 = .ok (.aload_n 0, 1) := by decide +kernel
theorem d_Md_readOne_35 : decode b_Md_readOne 35 = .ok (.iconst 1, 1) := by decide +kernel
theorem d_Md_readOne_36 : decode b_Md_readOne 36 = .ok (.putfield 83, 3) := by decide +kernel
theorem d_Md_readOne_39 : decode b_Md_readOne 39 = .ok (.aload_n 0, 1) := by decide +kernel
theorem d_Md_readOne_40 : decode b_Md_readOne 40 = .ok (.aload_n 0, 1) := by decide +kernel
theorem d_Md_readOne_41 : decode b_Md_readOne 41 = .ok (.getfield 184, 3) := by decide +kernel
theorem d_Md_readOne_44 : decode b_Md_readOne 44 = .ok (.putfield 77, 3) := by decide +kernel
theorem d_Md_readOne_47 : decode b_Md_readOne 47 = .ok (.iconst 1, 1) := by decide +kernel
theorem d_Md_readOne_48 : decode b_Md_readOne 48 = .ok (.ireturn, 1) := by decide +kernel
theorem d_Md_readOne_49 : decode b_Md_readOne 49 = .ok (.aload_n 0, 1) := by decide +kernel
theorem d_Md_readOne_50 : decode b_Md_readOne 50 = .ok (.getfield 80, 3) := by decide +kernel
theorem d_Md_readOne_53 : decode b_Md_readOne 53 = .ok (.aload_n 0, 1) := by decide +kernel
