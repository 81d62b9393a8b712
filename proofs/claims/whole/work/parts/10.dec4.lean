theorem d_GR_told_98 : decode b_GR_told 98 = .ok (.ireturn, 1) := by decide +kernel
theorem d_GR_told_99 : decode b_GR_told 99 = .ok (.aload_n 0, 1) := by decide +kernel
theorem d_GR_told_100 : decode b_GR_told 100 = .ok (.getfield 83, 3) := by decide +kernel
theorem d_GR_told_103 : decode b_GR_told 103 = .ok (.invokevirtual 203, 3) := by decide +kernel
theorem d_GR_told_106 : decode b_GR_told 106 = .ok (.ireturn, 1) := by decide +kernel
theorem d_GR_told_107 : decode b_GR_told 107 = .ok (.aload_n 0, 1) := by decide +kernel
theorem d_GR_told_108 : decode b_GR_told 108 = .ok (.getfield 83, 3) := by decide +kernel
theorem d_GR_told_111 : decode b_GR_told 111 = .ok (.invokevirtual 206, 3) := by decide +kernel
theorem d_GR_told_114 : decode b_GR_told 114 = .ok (.ifCond .eq 7, 3) := by decide +kernel
theorem d_GR_told_117 : decode b_GR_told 117 = .ok (.iconst 1, 1) := by decide +kernel
theorem d_GR_told_118 : decode b_GR_told 118 = .ok (.goto 4, 3) := by decide +kernel
theorem d_GR_told_121 : decode b_GR_told 121 = .ok (.iconst 0, 1) := by decide +kernel
theorem d_GR_told_122 : decode b_GR_told 122 = .ok (.ireturn, 1) := by decide +kernel
theorem d_GR_told_123 : decode b_GR_told 123 = .ok (.iconst (-1), 1) := by decide +kernel
theorem d_GR_told_124 : decode b_GR_told 124 = .ok (.ireturn, 1) := by decide +kernel
theorem d_GR_clear_0 : decode b_GR_clear 0 = .ok (.aload_n 0, 1) := by decide +kernel
theorem d_GR_clear_1 : decode b_GR_clear 1 = .ok (.getfield 28, 3) := by decide +kernel
theorem d_GR_clear_4 : decode b_GR_clear 4 = .ok (.invokevirtual 210, 3) := by decide +kernel
theorem d_GR_clear_7 : decode b_GR_clear 7 = .ok (.aload_n 0, 1) := by decide +kernel
theorem d_GR_clear_8 : decode b_GR_clear 8 = .ok (.getfield 32, 3) := by decide +kernel
theorem d_GR_clear_11 : decode b_GR_clear 11 = .ok (.invokevirtual 210, 3) := by decide +kernel
theorem d_GR_clear_14 : decode b_GR_clear 14 = .ok (.aload_n 0, 1) := by decide +kernel
theorem d_GR_clear_15 : decode b_GR_clear 15 = .ok (.getfield 40, 3) := by decide +kernel
theorem d_GR_clear_18 : decode b_GR_clear 18 = .ok (.invokevirtual 211, 3) := by decide +kernel
theorem d_GR_clear_21 : decode b_GR_clear 21 = .ok (.aload_n 0, 1) := by decide +kernel
theorem d_GR_clear_22 : decode b_GR_clear 22 = .ok (.getfield 47, 3) := by decide +kernel
theorem d_GR_clear_25 : decode b_GR_clear 25 = .ok (.invokevirtual 214, 3) := by decide +kernel
theorem d_GR_clear_28 : decode b_GR_clear 28 = .ok (.aload_n 0, 1) := by decide +kernel
theorem d_GR_clear_29 : decode b_GR_clear 29 = .ok (.getfield 67, 3) := by decide +kernel
theorem d_GR_clear_32 : decode b_GR_clear 32 = .ok (.invokevirtual 215, 3) := by decide +kernel
theorem d_GR_clear_35 : decode b_GR_clear 35 = .ok (.aload_n 0, 1) := by decide +kernel
theorem d_GR_clear_36 : decode b_GR_clear 36 = .ok (.invokevirtual 218, 3) := by decide +kernel
theorem d_GR_clear_39 : decode b_GR_clear 39 = .ok (.pop, 1) := by decide +kernel
theorem d_GR_clear_40 : decode b_GR_clear 40 = .ok (.return_, 1) := by decide +kernel
theorem d_Md_near_0 : decode b_Md_near 0 = .ok (.iload_n 0, 1) := by decide +kernel
theorem d_Md_near_1 : decode b_Md_near 1 = .ok (.iload_n 1, 1) := by decide +kernel
theorem d_Md_near_2 : decode b_Md_near 2 = .ok (.if_icmp .ge 7, 3) := by decide +kernel
theorem d_Md_near_5 : decode b_Md_near 5 = .ok (.iload_n 1, 1) := by decide +kernel
theorem d_Md_near_6 : decode b_Md_near 6 = .ok (.goto 13, 3) := by decide +kernel
theorem d_Md_near_9 : decode b_Md_near 9 = .ok (.iload_n 0, 1) := by decide +kernel
theorem d_Md_near_10 : decode b_Md_near 10 = .ok (.iload_n 2, 1) := by decide +kernel
theorem d_Md_near_11 : decode b_Md_near 11 = .ok (.if_icmp .le 7, 3) := by decide +kernel
theorem d_Md_near_14 : decode b_Md_near 14 = .ok (.iload_n 2, 1) := by decide +kernel
theorem d_Md_near_15 : decode b_Md_near 15 = .ok (.goto 4, 3) := by decide +kernel
theorem d_Md_near_18 : decode b_Md_near 18 = .ok (.iload_n 0, 1) := by decide +kernel
theorem d_Md_near_19 : decode b_Md_near 19 = .ok (.ireturn, 1) := by decide +kernel
theorem d_Md_layPlaces_0 : decode b_Md_layPlaces 0 = .ok (.aload_n 0, 1) := by decide +kernel
theorem d_Md_layPlaces_1 : decode b_Md_layPlaces 1 = .ok (.iload_n 2, 1) := by decide +kernel
theorem d_Md_layPlaces_2 : decode b_Md_layPlaces 2 = .ok (.putfield 114, 3) := by decide +kernel
theorem d_Md_layPlaces_5 : decode b_Md_layPlaces 5 = .ok (.iconst 0, 1) := by decide +kernel
theorem d_Md_layPlaces_6 : decode b_Md_layPlaces 6 = .ok (.istore_n 3, 1) := by decide +kernel
theorem d_Md_layPlaces_7 : decode b_Md_layPlaces 7 = .ok (.iload_n 3, 1) := by decide +kernel
theorem d_Md_layPlaces_8 : decode b_Md_layPlaces 8 = .ok (.iconst 2, 1) := by decide +kernel
theorem d_Md_layPlaces_9 : decode b_Md_layPlaces 9 = .ok (.iload_n 2, 1) := by decide +kernel
theorem d_Md_layPlaces_10 : decode b_Md_layPlaces 10 = .ok (.imul, 1) := by decide +kernel
theorem d_Md_layPlaces_11 : decode b_Md_layPlaces 11 = .ok (.if_icmp .ge 18, 3) := by decide +kernel
theorem d_Md_layPlaces_14 : decode b_Md_layPlaces 14 = .ok (.aload_n 0, 1) := by decide +kernel
theorem d_Md_layPlaces_15 : decode b_Md_layPlaces 15 = .ok (.getfield 25, 3) := by decide +kernel
theorem d_Md_layPlaces_18 : decode b_Md_layPlaces 18 = .ok (.iload_n 3, 1) := by decide +kernel
theorem d_Md_layPlaces_19 : decode b_Md_layPlaces 19 = .ok (.aload_n 1, 1) := by decide +kernel
theorem d_Md_layPlaces_20 : decode b_Md_layPlaces 20 = .ok (.iload_n 3, 1) := by decide +kernel
theorem d_Md_layPlaces_21 : decode b_Md_layPlaces 21 = .ok (.iaload, 1) := by decide +kernel
theorem d_Md_layPlaces_22 : decode b_Md_layPlaces 22 = .ok (.iastore, 1) := by decide +kernel
theorem d_Md_layPlaces_23 : decode b_Md_layPlaces 23 = .ok (.iinc 3 1, 3) := by decide +kernel
theorem d_Md_layPlaces_26 : decode b_Md_layPlaces 26 = .ok (.goto (-19), 3) := by decide +kernel
theorem d_Md_layPlaces_29 : decode b_Md_layPlaces 29 = .ok (.return_, 1) := by decide +kernel
theorem d_Md_again_0 : decode b_Md_again 0 = .ok (.iconst 0, 1) := by decide +kernel
theorem d_Md_again_1 : decode b_Md_again 1 = .ok (.istore_n 1, 1) := by decide +kernel
theorem d_Md_again_2 : decode b_Md_again 2 = .ok (.iload_n 1, 1) := by decide +kernel
theorem d_Md_again_3 : decode b_Md_again 3 = .ok (.sipush 576, 3) := by decide +kernel
theorem d_Md_again_6 : decode b_Md_again 6 = .ok (.if_icmp .ge 16, 3) := by decide +kernel
theorem d_Md_again_9 : decode b_Md_again 9 = .ok (.aload_n 0, 1) := by decide +kernel
theorem d_Md_again_10 : decode b_Md_again 10 = .ok (.getfield 50, 3) := by decide +kernel
theorem d_Md_again_13 : decode b_Md_again 13 = .ok (.iload_n 1, 1) := by decide +kernel
theorem d_Md_again_14 : decode b_Md_again 14 = .ok (.iconst 0, 1) := by decide +kernel
theorem d_Md_again_15 : decode b_Md_again 15 = .ok (.bastore, 1) := by decide +kernel
theorem d_Md_again_16 : decode b_Md_again 16 = .ok (.iinc 1 1, 3) := by decide +kernel
theorem d_Md_again_19 : decode b_Md_again 19 = .ok (.goto (-17), 3) := by decide +kernel
theorem d_Md_again_22 : decode b_Md_again 22 = .ok (.aload_n 0, 1) := by decide +kernel
theorem d_Md_again_23 : decode b_Md_again 23 = .ok (.iconst 0, 1) := by decide +kernel
theorem d_Md_again_24 : decode b_Md_again 24 = .ok (.putfield 77, 3) := by decide +kernel
theorem d_Md_again_27 : decode b_Md_again 27 = .ok (.aload_n 0, 1) := by decide +kernel
theorem d_Md_again_28 : decode b_Md_again 28 = .ok (.iconst 0, 1) := by decide +kernel
theorem d_Md_again_29 : decode b_Md_again 29 = .ok (.putfield 80, 3) := by decide +kernel
theorem d_Md_again_32 : decode b_Md_again 32 = .ok (.aload_n 0, 1) := by decide +kernel
theorem d_Md_again_33 : decode b_Md_again 33 = .ok (.iconst 0, 1) := by decide +kernel
theorem d_Md_again_34 : decode b_Md_again 34 = .ok (.putfield 83, 3) := by decide +kernel
theorem d_Md_again_37 : decode b_Md_again 37 = .ok (.aload_n 0, 1) := by decide +kernel
theorem d_Md_again_38 : decode b_Md_again 38 = .ok (.iconst (-1), 1) := by decide +kernel
theorem d_Md_again_39 : decode b_Md_again 39 = .ok (.putfield 87, 3) := by decide +kernel
theorem d_Md_again_42 : decode b_Md_again 42 = .ok (.return_, 1) := by decide +kernel
theorem d_Md_begin_0 : decode b_Md_begin 0 = .ok (.aload_n 0, 1) := by decide +kernel
theorem d_Md_begin_1 : decode b_Md_begin 1 = .ok (.iconst 0, 1) := by decide +kernel
theorem d_Md_begin_2 : decode b_Md_begin 2 = .ok (.putfield 70, 3) := by decide +kernel
theorem d_Md_begin_5 : decode b_Md_begin 5 = .ok (.aload_n 0, 1) := by decide +kernel
theorem d_Md_begin_6 : decode b_Md_begin 6 = .ok (.getfield 178, 3) := by decide +kernel
theorem d_Md_begin_9 : decode b_Md_begin 9 = .ok (.istore_n 1, 1) := by decide +kernel
theorem d_Md_begin_10 : decode b_Md_begin 10 = .ok (.aload_n 0, 1) := by decide +kernel
theorem d_Md_begin_11 : decode b_Md_begin 11 = .ok (.iconst 0, 1) := by decide +kernel
theorem d_Md_begin_12 : decode b_Md_begin 12 = .ok (.putfield 178, 3) := by decide +kernel
theorem d_Md_begin_15 : decode b_Md_begin 15 = .ok (.aload_n 0, 1) := by decide +kernel
theorem d_Md_begin_16 : decode b_Md_begin 16 = .ok (.iconst 0, 1) := by decide +kernel
theorem d_Md_begin_17 : decode b_Md_begin 17 = .ok (.putfield 167, 3) := by decide +kernel
theorem d_Md_begin_20 : decode b_Md_begin 20 = .ok (.aload_n 0, 1) := by decide +kernel
theorem d_Md_begin_21 : decode b_Md_begin 21 = .ok (.invokevirtual 94, 3) := by decide +kernel
theorem d_Md_begin_24 : decode b_Md_begin 24 = .ok (.iload_n 1, 1) := by decide +kernel
theorem d_Md_begin_25 : decode b_Md_begin 25 = .ok (.ireturn, 1) := by decide +kernel
theorem d_Md_clear_0 : decode b_Md_clear 0 = .ok (.aload_n 0, 1) := by decide +kernel
theorem d_Md_clear_1 : decode b_Md_clear 1 = .ok (.iconst 0, 1) := by decide +kernel
theorem d_Md_clear_2 : decode b_Md_clear 2 = .ok (.putfield 70, 3) := by decide +kernel
theorem d_Md_clear_5 : decode b_Md_clear 5 = .ok (.iconst 0, 1) := by decide +kernel
theorem d_Md_clear_6 : decode b_Md_clear 6 = .ok (.istore_n 1, 1) := by decide +kernel
theorem d_Md_clear_7 : decode b_Md_clear 7 = .ok (.iload_n 1, 1) := by decide +kernel
theorem d_Md_clear_8 : decode b_Md_clear 8 = .ok (.sipush 576, 3) := by decide +kernel
theorem d_Md_clear_11 : decode b_Md_clear 11 = .ok (.if_icmp .ge 23, 3) := by decide +kernel
theorem d_Md_clear_14 : decode b_Md_clear 14 = .ok (.aload_n 0, 1) := by decide +kernel
theorem d_Md_clear_15 : decode b_Md_clear 15 = .ok (.getfield 28, 3) := by decide +kernel
theorem d_Md_clear_18 : decode b_Md_clear 18 = .ok (.iload_n 1, 1) := by decide +kernel
theorem d_Md_clear_19 : decode b_Md_clear 19 = .ok (.iconst 0, 1) := by decide +kernel
theorem d_Md_clear_20 : decode b_Md_clear 20 = .ok (.bastore, 1) := by decide +kernel
theorem d_Md_clear_21 : decode b_Md_clear 21 = .ok (.aload_n 0, 1) := by decide +kernel
theorem d_Md_clear_22 : decode b_Md_clear 22 = .ok (.getfield 32, 3) := by decide +kernel
theorem d_Md_clear_25 : decode b_Md_clear 25 = .ok (.iload_n 1, 1) := by decide +kernel
theorem d_Md_clear_26 : decode b_Md_clear 26 = .ok (.iconst 0, 1) := by decide +kernel
theorem d_Md_clear_27 : decode b_Md_clear 27 = .ok (.bastore, 1) := by decide +kernel
theorem d_Md_clear_28 : decode b_Md_clear 28 = .ok (.iinc 1 1, 3) := by decide +kernel
theorem d_Md_clear_31 : decode b_Md_clear 31 = .ok (.goto (-24), 3) := by decide +kernel
theorem d_Md_clear_34 : decode b_Md_clear 34 = .ok (.aload_n 0, 1) := by decide +kernel
theorem d_Md_clear_35 : decode b_Md_clear 35 = .ok (.getfield 64, 3) := by decide +kernel
theorem d_Md_clear_38 : decode b_Md_clear 38 = .ok (.tableswitch 65 0 2 #[26, 39, 52], 26) := by decide +kernel
theorem d_Md_clear_64 : decode b_Md_clear 64 = .ok (.aload_n 0, 1) := by decide +kernel
theorem d_Md_clear_65 : decode b_Md_clear 65 = .ok (.aload_n 0, 1) := by decide +kernel
theorem d_Md_clear_66 : decode b_Md_clear 66 = .ok (.getfield 7, 3) := by decide +kernel
theorem d_Md_clear_69 : decode b_Md_clear 69 = .ok (.bipush 16, 2) := by decide +kernel
theorem d_Md_clear_71 : decode b_Md_clear 71 = .ok (.invokevirtual 223, 3) := by decide +kernel
theorem d_Md_clear_74 : decode b_Md_clear 74 = .ok (.goto 39, 3) := by decide +kernel
theorem d_Md_clear_77 : decode b_Md_clear 77 = .ok (.aload_n 0, 1) := by decide +kernel
theorem d_Md_clear_78 : decode b_Md_clear 78 = .ok (.aload_n 0, 1) := by decide +kernel
theorem d_Md_clear_79 : decode b_Md_clear 79 = .ok (.getfield 13, 3) := by decide +kernel
theorem d_Md_clear_82 : decode b_Md_clear 82 = .ok (.bipush 13, 2) := by decide +kernel
theorem d_Md_clear_84 : decode b_Md_clear 84 = .ok (.invokevirtual 223, 3) := by decide +kernel
theorem d_Md_clear_87 : decode b_Md_clear 87 = .ok (.goto 26, 3) := by decide +kernel
theorem d_Md_clear_90 : decode b_Md_clear 90 = .ok (.aload_n 0, 1) := by decide +kernel
theorem d_Md_clear_91 : decode b_Md_clear 91 = .ok (.aload_n 0, 1) := by decide +kernel
theorem d_Md_clear_92 : decode b_Md_clear 92 = .ok (.getfield 16, 3) := by decide +kernel
theorem d_Md_clear_95 : decode b_Md_clear 95 = .ok (.bipush 10, 2) := by decide +kernel
theorem d_Md_clear_97 : decode b_Md_clear 97 = .ok (.invokevirtual 223, 3) := by decide +kernel
theorem d_Md_clear_100 : decode b_Md_clear 100 = .ok (.goto 13, 3) := by decide +kernel
theorem d_Md_clear_103 : decode b_Md_clear 103 = .ok (.aload_n 0, 1) := by decide +kernel
theorem d_Md_clear_104 : decode b_Md_clear 104 = .ok (.aload_n 0, 1) := by decide +kernel
theorem d_Md_clear_105 : decode b_Md_clear 105 = .ok (.getfield 19, 3) := by decide +kernel
theorem d_Md_clear_108 : decode b_Md_clear 108 = .ok (.bipush 10, 2) := by decide +kernel
theorem d_Md_clear_110 : decode b_Md_clear 110 = .ok (.invokevirtual 223, 3) := by decide +kernel
theorem d_Md_clear_113 : decode b_Md_clear 113 = .ok (.aload_n 0, 1) := by decide +kernel
theorem d_Md_clear_114 : decode b_Md_clear 114 = .ok (.iconst 0, 1) := by decide +kernel
theorem d_Md_clear_115 : decode b_Md_clear 115 = .ok (.putfield 105, 3) := by decide +kernel
theorem d_Md_clear_118 : decode b_Md_clear 118 = .ok (.aload_n 0, 1) := by decide +kernel
theorem d_Md_clear_119 : decode b_Md_clear 119 = .ok (.iconst 0, 1) := by decide +kernel
theorem d_Md_clear_120 : decode b_Md_clear 120 = .ok (.putfield 108, 3) := by decide +kernel
theorem d_Md_clear_123 : decode b_Md_clear 123 = .ok (.aload_n 0, 1) := by decide +kernel
theorem d_Md_clear_124 : decode b_Md_clear 124 = .ok (.iconst 0, 1) := by decide +kernel
theorem d_Md_clear_125 : decode b_Md_clear 125 = .ok (.putfield 111, 3) := by decide +kernel
theorem d_Md_clear_128 : decode b_Md_clear 128 = .ok (.aload_n 0, 1) := by decide +kernel
theorem d_Md_clear_129 : decode b_Md_clear 129 = .ok (.iconst 0, 1) := by decide +kernel
theorem d_Md_clear_130 : decode b_Md_clear 130 = .ok (.putfield 129, 3) := by decide +kernel
theorem d_Md_clear_133 : decode b_Md_clear 133 = .ok (.aload_n 0, 1) := by decide +kernel
theorem d_Md_clear_134 : decode b_Md_clear 134 = .ok (.iconst 0, 1) := by decide +kernel
theorem d_Md_clear_135 : decode b_Md_clear 135 = .ok (.putfield 142, 3) := by decide +kernel
theorem d_Md_clear_138 : decode b_Md_clear 138 = .ok (.aload_n 0, 1) := by decide +kernel
theorem d_Md_clear_139 : decode b_Md_clear 139 = .ok (.invokevirtual 227, 3) := by decide +kernel
theorem d_Md_clear_142 : decode b_Md_clear 142 = .ok (.istore_n 1, 1) := by decide +kernel
theorem d_Md_clear_143 : decode b_Md_clear 143 = .ok (.return_, 1) := by decide +kernel
theorem d_Md_init_0 : decode b_Md_init 0 = .ok (.aload_n 0, 1) := by decide +kernel
theorem d_Md_init_1 : decode b_Md_init 1 = .ok (.invokespecial 1, 3) := by decide +kernel
theorem d_Md_init_4 : decode b_Md_init 4 = .ok (.aload_n 0, 1) := by decide +kernel
theorem d_Md_init_5 : decode b_Md_init 5 = .ok (.bipush 32, 2) := by decide +kernel
theorem d_Md_init_7 : decode b_Md_init 7 = .ok (.newarray .int, 2) := by decide +kernel
theorem d_Md_init_9 : decode b_Md_init 9 = .ok (.dup, 1) := by decide +kernel
theorem d_Md_init_10 : decode b_Md_init 10 = .ok (.iconst 0, 1) := by decide +kernel
theorem d_Md_init_11 : decode b_Md_init 11 = .ok (.iconst (-1), 1) := by decide +kernel
theorem d_Md_init_12 : decode b_Md_init 12 = .ok (.iastore, 1) := by decide +kernel
theorem d_Md_init_13 : decode b_Md_init 13 = .ok (.dup, 1) := by decide +kernel
theorem d_Md_init_14 : decode b_Md_init 14 = .ok (.iconst 1, 1) := by decide +kernel
theorem d_Md_init_15 : decode b_Md_init 15 = .ok (.iconst 0, 1) := by decide +kernel
theorem d_Md_init_16 : decode b_Md_init 16 = .ok (.iastore, 1) := by decide +kernel
theorem d_Md_init_17 : decode b_Md_init 17 = .ok (.dup, 1) := by decide +kernel
theorem d_Md_init_18 : decode b_Md_init 18 = .ok (.iconst 2, 1) := by decide +kernel
theorem d_Md_init_19 : decode b_Md_init 19 = .ok (.bipush (-2), 2) := by decide +kernel
theorem d_Md_init_21 : decode b_Md_init 21 = .ok (.iastore, 1) := by decide +kernel
theorem d_Md_init_22 : decode b_Md_init 22 = .ok (.dup, 1) := by decide +kernel
theorem d_Md_init_23 : decode b_Md_init 23 = .ok (.iconst 3, 1) := by decide +kernel
theorem d_Md_init_24 : decode b_Md_init 24 = .ok (.iconst 0, 1) := by decide +kernel
theorem d_Md_init_25 : decode b_Md_init 25 = .ok (.iastore, 1) := by decide +kernel
theorem d_Md_init_26 : decode b_Md_init 26 = .ok (.dup, 1) := by decide +kernel
theorem d_Md_init_27 : decode b_Md_init 27 = .ok (.iconst 4, 1) := by decide +kernel
theorem d_Md_init_28 : decode b_Md_init 28 = .ok (.bipush (-3), 2) := by decide +kernel
theorem d_Md_init_30 : decode b_Md_init 30 = .ok (.iastore, 1) := by decide +kernel
theorem d_Md_init_31 : decode b_Md_init 31 = .ok (.dup, 1) := by decide +kernel
theorem d_Md_init_32 : decode b_Md_init 32 = .ok (.iconst 5, 1) := by decide +kernel
theorem d_Md_init_33 : decode b_Md_init 33 = .ok (.iconst 0, 1) := by decide +kernel
theorem d_Md_init_34 : decode b_Md_init 34 = .ok (.iastore, 1) := by decide +kernel
theorem d_Md_init_35 : decode b_Md_init 35 = .ok (.dup, 1) := by decide +kernel
theorem d_Md_init_36 : decode b_Md_init 36 = .ok (.bipush 6, 2) := by decide +kernel
theorem d_Md_init_38 : decode b_Md_init 38 = .ok (.bipush (-4), 2) := by decide +kernel
theorem d_Md_init_40 : decode b_Md_init 40 = .ok (.iastore, 1) := by decide +kernel
theorem d_Md_init_41 : decode b_Md_init 41 = .ok (.dup, 1) := by decide +kernel
theorem d_Md_init_42 : decode b_Md_init 42 = .ok (.bipush 7, 2) := by decide +kernel
theorem d_Md_init_44 : decode b_Md_init 44 = .ok (.iconst 0, 1) := by decide +kernel
theorem d_Md_init_45 : decode b_Md_init 45 = .ok (.iastore, 1) := by decide +kernel
theorem d_Md_init_46 : decode b_Md_init 46 = .ok (.dup, 1) := by decide +kernel
theorem d_Md_init_47 : decode b_Md_init 47 = .ok (.bipush 8, 2) := by decide +kernel
theorem d_Md_init_49 : decode b_Md_init 49 = .ok (.iconst 3, 1) := by decide +kernel
theorem d_Md_init_50 : decode b_Md_init 50 = .ok (.iastore, 1) := by decide +kernel
theorem d_Md_init_51 : decode b_Md_init 51 = .ok (.dup, 1) := by decide +kernel
theorem d_Md_init_52 : decode b_Md_init 52 = .ok (.bipush 9, 2) := by decide +kernel
theorem d_Md_init_54 : decode b_Md_init 54 = .ok (.iconst (-1), 1) := by decide +kernel
theorem d_Md_init_55 : decode b_Md_init 55 = .ok (.iastore, 1) := by decide +kernel
theorem d_Md_init_56 : decode b_Md_init 56 = .ok (.dup, 1) := by decide +kernel
theorem d_Md_init_57 : decode b_Md_init 57 = .ok (.bipush 10, 2) := by decide +kernel
theorem d_Md_init_59 : decode b_Md_init 59 = .ok (.iconst 2, 1) := by decide +kernel
theorem d_Md_init_60 : decode b_Md_init 60 = .ok (.iastore, 1) := by decide +kernel
theorem d_Md_init_61 : decode b_Md_init 61 = .ok (.dup, 1) := by decide +kernel
theorem d_Md_init_62 : decode b_Md_init 62 = .ok (.bipush 11, 2) := by decide +kernel
theorem d_Md_init_64 : decode b_Md_init 64 = .ok (.iconst (-1), 1) := by decide +kernel
theorem d_Md_init_65 : decode b_Md_init 65 = .ok (.iastore, 1) := by decide +kernel
theorem d_Md_init_66 : decode b_Md_init 66 = .ok (.dup, 1) := by decide +kernel
theorem d_Md_init_67 : decode b_Md_init 67 = .ok (.bipush 12, 2) := by decide +kernel
theorem d_Md_init_69 : decode b_Md_init 69 = .ok (.iconst 1, 1) := by decide +kernel
theorem d_Md_init_70 : decode b_Md_init 70 = .ok (.iastore, 1) := by decide +kernel
theorem d_Md_init_71 : decode b_Md_init 71 = .ok (.dup, 1) := by decide +kernel
theorem d_Md_init_72 : decode b_Md_init 72 = .ok (.bipush 13, 2) := by decide +kernel
theorem d_Md_init_74 : decode b_Md_init 74 = .ok (.iconst (-1), 1) := by decide +kernel
theorem d_Md_init_75 : decode b_Md_init 75 = .ok (.iastore, 1) := by decide +kernel
theorem d_Md_init_76 : decode b_Md_init 76 = .ok (.dup, 1) := by decide +kernel
theorem d_Md_init_77 : decode b_Md_init 77 = .ok (.bipush 14, 2) := by decide +kernel
theorem d_Md_init_79 : decode b_Md_init 79 = .ok (.iconst 0, 1) := by decide +kernel
theorem d_Md_init_80 : decode b_Md_init 80 = .ok (.iastore, 1) := by decide +kernel
theorem d_Md_init_81 : decode b_Md_init 81 = .ok (.dup, 1) := by decide +kernel
theorem d_Md_init_82 : decode b_Md_init 82 = .ok (.bipush 15, 2) := by decide +kernel
theorem d_Md_init_84 : decode b_Md_init 84 = .ok (.iconst (-1), 1) := by decide +kernel
theorem d_Md_init_85 : decode b_Md_init 85 = .ok (.iastore, 1) := by decide +kernel
theorem d_Md_init_86 : decode b_Md_init 86 = .ok (.dup, 1) := by decide +kernel
theorem d_Md_init_87 : decode b_Md_init 87 = .ok (.bipush 16, 2) := by decide +kernel
theorem d_Md_init_89 : decode b_Md_init 89 = .ok (.iconst (-1), 1) := by decide +kernel
theorem d_Md_init_90 : decode b_Md_init 90 = .ok (.iastore, 1) := by decide +kernel
theorem d_Md_init_91 : decode b_Md_init 91 = .ok (.dup, 1) := by decide +kernel
theorem d_Md_init_92 : decode b_Md_init 92 = .ok (.bipush 17, 2) := by decide +kernel
theorem d_Md_init_94 : decode b_Md_init 94 = .ok (.iconst (-1), 1) := by decide +kernel
theorem d_Md_init_95 : decode b_Md_init 95 = .ok (.iastore, 1) := by decide +kernel
theorem d_Md_init_96 : decode b_Md_init 96 = .ok (.dup, 1) := by decide +kernel
theorem d_Md_init_97 : decode b_Md_init 97 = .ok (.bipush 18, 2) := by decide +kernel
theorem d_Md_init_99 : decode b_Md_init 99 = .ok (.bipush (-2), 2) := by decide +kernel
theorem d_Md_init_101 : decode b_Md_init 101 = .ok (.iastore, 1) := by decide +kernel
theorem d_Md_init_102 : decode b_Md_init 102 = .ok (.dup, 1) := by decide +kernel
theorem d_Md_init_103 : decode b_Md_init 103 = .ok (.bipush 19, 2) := by decide +kernel
theorem d_Md_init_105 : decode b_Md_init 105 = .ok (.iconst (-1), 1) := by decide +kernel
theorem d_Md_init_106 : decode b_Md_init 106 = .ok (.iastore, 1) := by decide +kernel
theorem d_Md_init_107 : decode b_Md_init 107 = .ok (.dup, 1) := by decide +kernel
theorem d_Md_init_108 : decode b_Md_init 108 = .ok (.bipush 20, 2) := by decide +kernel
theorem d_Md_init_110 : decode b_Md_init 110 = .ok (.bipush (-3), 2) := by decide +kernel
theorem d_Md_init_112 : decode b_Md_init 112 = .ok (.iastore, 1) := by decide +kernel
theorem d_Md_init_113 : decode b_Md_init 113 = .ok (.dup, 1) := by decide +kernel
theorem d_Md_init_114 : decode b_Md_init 114 = .ok (.bipush 21, 2) := by decide +kernel
theorem d_Md_init_116 : decode b_Md_init 116 = .ok (.iconst (-1), 1) := by decide +kernel
theorem d_Md_init_117 : decode b_Md_init 117 = .ok (.iastore, 1) := by decide +kernel
theorem d_Md_init_118 : decode b_Md_init 118 = .ok (.dup, 1) := by decide +kernel
theorem d_Md_init_119 : decode b_Md_init 119 = .ok (.bipush 22, 2) := by decide +kernel
theorem d_Md_init_121 : decode b_Md_init 121 = .ok (.iconst 2, 1) := by decide +kernel
theorem d_Md_init_122 : decode b_Md_init 122 = .ok (.iastore, 1) := by decide +kernel
theorem d_Md_init_123 : decode b_Md_init 123 = .ok (.dup, 1) := by decide +kernel
theorem d_Md_init_124 : decode b_Md_init 124 = .ok (.bipush 23, 2) := by decide +kernel
theorem d_Md_init_126 : decode b_Md_init 126 = .ok (.bipush (-2), 2) := by decide +kernel
theorem d_Md_init_128 : decode b_Md_init 128 = .ok (.iastore, 1) := by decide +kernel
theorem d_Md_init_129 : decode b_Md_init 129 = .ok (.dup, 1) := by decide +kernel
theorem d_Md_init_130 : decode b_Md_init 130 = .ok (.bipush 24, 2) := by decide +kernel
theorem d_Md_init_132 : decode b_Md_init 132 = .ok (.iconst 1, 1) := by decide +kernel
theorem d_Md_init_133 : decode b_Md_init 133 = .ok (.iastore, 1) := by decide +kernel
theorem d_Md_init_134 : decode b_Md_init 134 = .ok (.dup, 1) := by decide +kernel
theorem d_Md_init_135 : decode b_Md_init 135 = .ok (.bipush 25, 2) := by decide +kernel
theorem d_Md_init_137 : decode b_Md_init 137 = .ok (.bipush (-2), 2) := by decide +kernel
theorem d_Md_init_139 : decode b_Md_init 139 = .ok (.iastore, 1) := by decide +kernel
theorem d_Md_init_140 : decode b_Md_init 140 = .ok (.dup, 1) := by decide +kernel
theorem d_Md_init_141 : decode b_Md_init 141 = .ok (.bipush 26, 2) := by decide +kernel
theorem d_Md_init_143 : decode b_Md_init 143 = .ok (.iconst 0, 1) := by decide +kernel
theorem d_Md_init_144 : decode b_Md_init 144 = .ok (.iastore, 1) := by decide +kernel
theorem d_Md_init_145 : decode b_Md_init 145 = .ok (.dup, 1) := by decide +kernel
theorem d_Md_init_146 : decode b_Md_init 146 = .ok (.bipush 27, 2) := by decide +kernel
theorem d_Md_init_148 : decode b_Md_init 148 = .ok (.bipush (-2), 2) := by decide +kernel
theorem d_Md_init_150 : decode b_Md_init 150 = .ok (.iastore, 1) := by decide +kernel
theorem d_Md_init_151 : decode b_Md_init 151 = .ok (.dup, 1) := by decide +kernel
theorem d_Md_init_152 : decode b_Md_init 152 = .ok (.bipush 28, 2) := by decide +kernel
theorem d_Md_init_154 : decode b_Md_init 154 = .ok (.iconst (-1), 1) := by decide +kernel
theorem d_Md_init_155 : decode b_Md_init 155 = .ok (.iastore, 1) := by decide +kernel
theorem d_Md_init_156 : decode b_Md_init 156 = .ok (.dup, 1) := by decide +kernel
theorem d_Md_init_157 : decode b_Md_init 157 = .ok (.bipush 29, 2) := by decide +kernel
theorem d_Md_init_159 : decode b_Md_init 159 = .ok (.bipush (-2), 2) := by decide +kernel
theorem d_Md_init_161 : decode b_Md_init 161 = .ok (.iastore, 1) := by decide +kernel
theorem d_Md_init_162 : decode b_Md_init 162 = .ok (.dup, 1) := by decide +kernel
theorem d_Md_init_163 : decode b_Md_init 163 = .ok (.bipush 30, 2) := by decide +kernel
theorem d_Md_init_165 : decode b_Md_init 165 = .ok (.bipush (-2), 2) := by decide +kernel
theorem d_Md_init_167 : decode b_Md_init 167 = .ok (.iastore, 1) := by decide +kernel
theorem d_Md_init_168 : decode b_Md_init 168 = .ok (.dup, 1) := by decide +kernel
theorem d_Md_init_169 : decode b_Md_init 169 = .ok (.bipush 31, 2) := by decide +kernel
theorem d_Md_init_171 : decode b_Md_init 171 = .ok (.bipush (-2), 2) := by decide +kernel
theorem d_Md_init_173 : decode b_Md_init 173 = .ok (.iastore, 1) := by decide +kernel
theorem d_Md_init_174 : decode b_Md_init 174 = .ok (.putfield 7, 3) := by decide +kernel
theorem d_Md_init_177 : decode b_Md_init 177 = .ok (.aload_n 0, 1) := by decide +kernel
theorem d_Md_init_178 : decode b_Md_init 178 = .ok (.bipush 26, 2) := by decide +kernel
theorem d_Md_init_180 : decode b_Md_init 180 = .ok (.newarray .int, 2) := by decide +kernel
theorem d_Md_init_182 : decode b_Md_init 182 = .ok (.dup, 1) := by decide +kernel
theorem d_Md_init_183 : decode b_Md_init 183 = .ok (.iconst 0, 1) := by decide +kernel
theorem d_Md_init_184 : decode b_Md_init 184 = .ok (.iconst (-1), 1) := by decide +kernel
theorem d_Md_init_185 : decode b_Md_init 185 = .ok (.iastore, 1) := by decide +kernel
theorem d_Md_init_186 : decode b_Md_init 186 = .ok (.dup, 1) := by decide +kernel
theorem d_Md_init_187 : decode b_Md_init 187 = .ok (.iconst 1, 1) := by decide +kernel
theorem d_Md_init_188 : decode b_Md_init 188 = .ok (.iconst 0, 1) := by decide +kernel
theorem d_Md_init_189 : decode b_Md_init 189 = .ok (.iastore, 1) := by decide +kernel
theorem d_Md_init_190 : decode b_Md_init 190 = .ok (.dup, 1) := by decide +kernel
theorem d_Md_init_191 : decode b_Md_init 191 = .ok (.iconst 2, 1) := by decide +kernel
theorem d_Md_init_192 : decode b_Md_init 192 = .ok (.bipush (-2), 2) := by decide +kernel
theorem d_Md_init_194 : decode b_Md_init 194 = .ok (.iastore, 1) := by decide +kernel
theorem d_Md_init_195 : decode b_Md_init 195 = .ok (.dup, 1) := by decide +kernel
theorem d_Md_init_196 : decode b_Md_init 196 = .ok (.iconst 3, 1) := by decide +kernel
theorem d_Md_init_197 : decode b_Md_init 197 = .ok (.iconst 0, 1) := by decide +kernel
theorem d_Md_init_198 : decode b_Md_init 198 = .ok (.iastore, 1) := by decide +kernel
theorem d_Md_init_199 : decode b_Md_init 199 = .ok (.dup, 1) := by decide +kernel
theorem d_Md_init_200 : decode b_Md_init 200 = .ok (.iconst 4, 1) := by decide +kernel
theorem d_Md_init_201 : decode b_Md_init 201 = .ok (.bipush (-3), 2) := by decide +kernel
theorem d_Md_init_203 : decode b_Md_init 203 = .ok (.iastore, 1) := by decide +kernel
theorem d_Md_init_204 : decode b_Md_init 204 = .ok (.dup, 1) := by decide +kernel
theorem d_Md_init_205 : decode b_Md_init 205 = .ok (.iconst 5, 1) := by decide +kernel
theorem d_Md_init_206 : decode b_Md_init 206 = .ok (.iconst 0, 1) := by decide +kernel
theorem d_Md_init_207 : decode b_Md_init 207 = .ok (.iastore, 1) := by decide +kernel
theorem d_Md_init_208 : decode b_Md_init 208 = .ok (.dup, 1) := by decide +kernel
theorem d_Md_init_209 : decode b_Md_init 209 = .ok (.bipush 6, 2) := by decide +kernel
theorem d_Md_init_211 : decode b_Md_init 211 = .ok (.iconst 3, 1) := by decide +kernel
theorem d_Md_init_212 : decode b_Md_init 212 = .ok (.iastore, 1) := by decide +kernel
theorem d_Md_init_213 : decode b_Md_init 213 = .ok (.dup, 1) := by decide +kernel
theorem d_Md_init_214 : decode b_Md_init 214 = .ok (.bipush 7, 2) := by decide +kernel
theorem d_Md_init_216 : decode b_Md_init 216 = .ok (.iconst (-1), 1) := by decide +kernel
theorem d_Md_init_217 : decode b_Md_init 217 = .ok (.iastore, 1) := by decide +kernel
theorem d_Md_init_218 : decode b_Md_init 218 = .ok (.dup, 1) := by decide +kernel
theorem d_Md_init_219 : decode b_Md_init 219 = .ok (.bipush 8, 2) := by decide +kernel
theorem d_Md_init_221 : decode b_Md_init 221 = .ok (.iconst 2, 1) := by decide +kernel
theorem d_Md_init_222 : decode b_Md_init 222 = .ok (.iastore, 1) := by decide +kernel
theorem d_Md_init_223 : decode b_Md_init 223 = .ok (.dup, 1) := by decide +kernel
theorem d_Md_init_224 : decode b_Md_init 224 = .ok (.bipush 9, 2) := by decide +kernel
theorem d_Md_init_226 : decode b_Md_init 226 = .ok (.iconst (-1), 1) := by decide +kernel
theorem d_Md_init_227 : decode b_Md_init 227 = .ok (.iastore, 1) := by decide +kernel
theorem d_Md_init_228 : decode b_Md_init 228 = .ok (.dup, 1) := by decide +kernel
theorem d_Md_init_229 : decode b_Md_init 229 = .ok (.bipush 10, 2) := by decide +kernel
theorem d_Md_init_231 : decode b_Md_init 231 = .ok (.iconst 1, 1) := by decide +kernel
theorem d_Md_init_232 : decode b_Md_init 232 = .ok (.iastore, 1) := by decide +kernel
theorem d_Md_init_233 : decode b_Md_init 233 = .ok (.dup, 1) := by decide +kernel
theorem d_Md_init_234 : decode b_Md_init 234 = .ok (.bipush 11, 2) := by decide +kernel
theorem d_Md_init_236 : decode b_Md_init 236 = .ok (.iconst (-1), 1) := by decide +kernel
theorem d_Md_init_237 : decode b_Md_init 237 = .ok (.iastore, 1) := by decide +kernel
theorem d_Md_init_238 : decode b_Md_init 238 = .ok (.dup, 1) := by decide +kernel
theorem d_Md_init_239 : decode b_Md_init 239 = .ok (.bipush 12, 2) := by decide +kernel
theorem d_Md_init_241 : decode b_Md_init 241 = .ok (.iconst 0, 1) := by decide +kernel
theorem d_Md_init_242 : decode b_Md_init 242 = .ok (.iastore, 1) := by decide +kernel
theorem d_Md_init_243 : decode b_Md_init 243 = .ok (.dup, 1) := by decide +kernel
theorem d_Md_init_244 : decode b_Md_init 244 = .ok (.bipush 13, 2) := by decide +kernel
theorem d_Md_init_246 : decode b_Md_init 246 = .ok (.iconst (-1), 1) := by decide +kernel
theorem d_Md_init_247 : decode b_Md_init 247 = .ok (.iastore, 1) := by decide +kernel
theorem d_Md_init_248 : decode b_Md_init 248 = .ok (.dup, 1) := by decide +kernel
theorem d_Md_init_249 : decode b_Md_init 249 = .ok (.bipush 14, 2) := by decide +kernel
theorem d_Md_init_251 : decode b_Md_init 251 = .ok (.iconst (-1), 1) := by decide +kernel
theorem d_Md_init_252 : decode b_Md_init 252 = .ok (.iastore, 1) := by decide +kernel
theorem d_Md_init_253 : decode b_Md_init 253 = .ok (.dup, 1) := by decide +kernel
theorem d_Md_init_254 : decode b_Md_init 254 = .ok (.bipush 15, 2) := by decide +kernel
theorem d_Md_init_256 : decode b_Md_init 256 = .ok (.iconst (-1), 1) := by decide +kernel
theorem d_Md_init_257 : decode b_Md_init 257 = .ok (.iastore, 1) := by decide +kernel
theorem d_Md_init_258 : decode b_Md_init 258 = .ok (.dup, 1) := by decide +kernel
theorem d_Md_init_259 : decode b_Md_init 259 = .ok (.bipush 16, 2) := by decide +kernel
theorem d_Md_init_261 : decode b_Md_init 261 = .ok (.bipush (-2), 2) := by decide +kernel
theorem d_Md_init_263 : decode b_Md_init 263 = .ok (.iastore, 1) := by decide +kernel
theorem d_Md_init_264 : decode b_Md_init 264 = .ok (.dup, 1) := by decide +kernel
theorem d_Md_init_265 : decode b_Md_init 265 = .ok (.bipush 17, 2) := by decide +kernel
theorem d_Md_init_267 : decode b_Md_init 267 = .ok (.iconst (-1), 1) := by decide +kernel
theorem d_Md_init_268 : decode b_Md_init 268 = .ok (.iastore, 1) := by decide +kernel
theorem d_Md_init_269 : decode b_Md_init 269 = .ok (.dup, 1) := by decide +kernel
theorem d_Md_init_270 : decode b_Md_init 270 = .ok (.bipush 18, 2) := by decide +kernel
theorem d_Md_init_272 : decode b_Md_init 272 = .ok (.iconst 2, 1) := by decide +kernel
theorem d_Md_init_273 : decode b_Md_init 273 = .ok (.iastore, 1) := by decide +kernel
theorem d_Md_init_274 : decode b_Md_init 274 = .ok (.dup, 1) := by decide +kernel
theorem d_Md_init_275 : decode b_Md_init 275 = .ok (.bipush 19, 2) := by decide +kernel
theorem d_Md_init_277 : decode b_Md_init 277 = .ok (.bipush (-2), 2) := by decide +kernel
theorem d_Md_init_279 : decode b_Md_init 279 = .ok (.iastore, 1) := by decide +kernel
theorem d_Md_init_280 : decode b_Md_init 280 = .ok (.dup, 1) := by decide +kernel
theorem d_Md_init_281 : decode b_Md_init 281 = .ok (.bipush 20, 2) := by decide +kernel
theorem d_Md_init_283 : decode b_Md_init 283 = .ok (.iconst 1, 1) := by decide +kernel
theorem d_Md_init_284 : decode b_Md_init 284 = .ok (.iastore, 1) := by decide +kernel
theorem d_Md_init_285 : decode b_Md_init 285 = .ok (.dup, 1) := by decide +kernel
theorem d_Md_init_286 : decode b_Md_init 286 = .ok (.bipush 21, 2) := by decide +kernel
theorem d_Md_init_288 : decode b_Md_init 288 = .ok (.bipush (-2), 2) := by decide +kernel
theorem d_Md_init_290 : decode b_Md_init 290 = .ok (.iastore, 1) := by decide +kernel
theorem d_Md_init_291 : decode b_Md_init 291 = .ok (.dup, 1) := by decide +kernel
theorem d_Md_init_292 : decode b_Md_init 292 = .ok (.bipush 22, 2) := by decide +kernel
theorem d_Md_init_294 : decode b_Md_init 294 = .ok (.iconst 0, 1) := by decide +kernel
theorem d_Md_init_295 : decode b_Md_init 295 = .ok (.iastore, 1) := by decide +kernel
theorem d_Md_init_296 : decode b_Md_init 296 = .ok (.dup, 1) := by decide +kernel
theorem d_Md_init_297 : decode b_Md_init 297 = .ok (.bipush 23, 2) := by decide +kernel
theorem d_Md_init_299 : decode b_Md_init 299 = .ok (.bipush (-2), 2) := by decide +kernel
theorem d_Md_init_301 : decode b_Md_init 301 = .ok (.iastore, 1) := by decide +kernel
theorem d_Md_init_302 : decode b_Md_init 302 = .ok (.dup, 1) := by decide +kernel
theorem d_Md_init_303 : decode b_Md_init 303 = .ok (.bipush 24, 2) := by decide +kernel
theorem d_Md_init_305 : decode b_Md_init 305 = .ok (.iconst (-1), 1) := by decide +kernel
theorem d_Md_init_306 : decode b_Md_init 306 = .ok (.iastore, 1) := by decide +kernel
theorem d_Md_init_307 : decode b_Md_init 307 = .ok (.dup, 1) := by decide +kernel
theorem d_Md_init_308 : decode b_Md_init 308 = .ok (.bipush 25, 2) := by decide +kernel
theorem d_Md_init_310 : decode b_Md_init 310 = .ok (.bipush (-2), 2) := by decide +kernel
theorem d_Md_init_312 : decode b_Md_init 312 = .ok (.iastore, 1) := by decide +kernel
theorem d_Md_init_313 : decode b_Md_init 313 = .ok (.putfield 13, 3) := by decide +kernel
theorem d_Md_init_316 : decode b_Md_init 316 = .ok (.aload_n 0, 1) := by decide +kernel
theorem d_Md_init_317 : decode b_Md_init 317 = .ok (.bipush 20, 2) := by decide +kernel
theorem d_Md_init_319 : decode b_Md_init 319 = .ok (.newarray .int, 2) := by decide +kernel
theorem d_Md_init_321 : decode b_Md_init 321 = .ok (.dup, 1) := by decide +kernel
theorem d_Md_init_322 : decode b_Md_init 322 = .ok (.iconst 0, 1) := by decide +kernel
theorem d_Md_init_323 : decode b_Md_init 323 = .ok (.iconst (-1), 1) := by decide +kernel
theorem d_Md_init_324 : decode b_Md_init 324 = .ok (.iastore, 1) := by decide +kernel
theorem d_Md_init_325 : decode b_Md_init 325 = .ok (.dup, 1) := by decide +kernel
theorem d_Md_init_326 : decode b_Md_init 326 = .ok (.iconst 1, 1) := by decide +kernel
theorem d_Md_init_327 : decode b_Md_init 327 = .ok (.iconst 0, 1) := by decide +kernel
theorem d_Md_init_328 : decode b_Md_init 328 = .ok (.iastore, 1) := by decide +kernel
theorem d_Md_init_329 : decode b_Md_init 329 = .ok (.dup, 1) := by decide +kernel
theorem d_Md_init_330 : decode b_Md_init 330 = .ok (.iconst 2, 1) := by decide +kernel
theorem d_Md_init_331 : decode b_Md_init 331 = .ok (.bipush (-2), 2) := by decide +kernel
theorem d_Md_init_333 : decode b_Md_init 333 = .ok (.iastore, 1) := by decide +kernel
theorem d_Md_init_334 : decode b_Md_init 334 = .ok (.dup, 1) := by decide +kernel
theorem d_Md_init_335 : decode b_Md_init 335 = .ok (.iconst 3, 1) := by decide +kernel
theorem d_Md_init_336 : decode b_Md_init 336 = .ok (.iconst 0, 1) := by decide +kernel
theorem d_Md_init_337 : decode b_Md_init 337 = .ok (.iastore, 1) := by decide +kernel
theorem d_Md_init_338 : decode b_Md_init 338 = .ok (.dup, 1) := by decide +kernel
theorem d_Md_init_339 : decode b_Md_init 339 = .ok (.iconst 4, 1) := by decide +kernel
theorem d_Md_init_340 : decode b_Md_init 340 = .ok (.iconst 2, 1) := by decide +kernel
theorem d_Md_init_341 : decode b_Md_init 341 = .ok (.iastore, 1) := by decide +kernel
theorem d_Md_init_342 : decode b_Md_init 342 = .ok (.dup, 1) := by decide +kernel
theorem d_Md_init_343 : decode b_Md_init 343 = .ok (.iconst 5, 1) := by decide +kernel
theorem d_Md_init_344 : decode b_Md_init 344 = .ok (.iconst (-1), 1) := by decide +kernel
theorem d_Md_init_345 : decode b_Md_init 345 = .ok (.iastore, 1) := by decide +kernel
theorem d_Md_init_346 : decode b_Md_init 346 = .ok (.dup, 1) := by decide +kernel
theorem d_Md_init_347 : decode b_Md_init 347 = .ok (.bipush 6, 2) := by decide +kernel
theorem d_Md_init_349 : decode b_Md_init 349 = .ok (.iconst 1, 1) := by decide +kernel
theorem d_Md_init_350 : decode b_Md_init 350 = .ok (.iastore, 1) := by decide +kernel
theorem d_Md_init_351 : decode b_Md_init 351 = .ok (.dup, 1) := by decide +kernel
theorem d_Md_init_352 : decode b_Md_init 352 = .ok (.bipush 7, 2) := by decide +kernel
theorem d_Md_init_354 : decode b_Md_init 354 = .ok (.iconst (-1), 1) := by decide +kernel
theorem d_Md_init_355 : decode b_Md_init 355 = .ok (.iastore, 1) := by decide +kernel
theorem d_Md_init_356 : decode b_Md_init 356 = .ok (.dup, 1) := by decide +kernel
theorem d_Md_init_357 : decode b_Md_init 357 = .ok (.bipush 8, 2) := by decide +kernel
theorem d_Md_init_359 : decode b_Md_init 359 = .ok (.iconst 0, 1) := by decide +kernel
theorem d_Md_init_360 : decode b_Md_init 360 = .ok (.iastore, 1) := by decide +kernel
theorem d_Md_init_361 : decode b_Md_init 361 = .ok (.dup, 1) := by decide +kernel
theorem d_Md_init_362 : decode b_Md_init 362 = .ok (.bipush 9, 2) := by decide +kernel
theorem d_Md_init_364 : decode b_Md_init 364 = .ok (.iconst (-1), 1) := by decide +kernel
theorem d_Md_init_365 : decode b_Md_init 365 = .ok (.iastore, 1) := by decide +kernel
theorem d_Md_init_366 : decode b_Md_init 366 = .ok (.dup, 1) := by decide +kernel
theorem d_Md_init_367 : decode b_Md_init 367 = .ok (.bipush 10, 2) := by decide +kernel
theorem d_Md_init_369 : decode b_Md_init 369 = .ok (.iconst (-1), 1) := by decide +kernel
theorem d_Md_init_370 : decode b_Md_init 370 = .ok (.iastore, 1) := by decide +kernel
theorem d_Md_init_371 : decode b_Md_init 371 = .ok (.dup, 1) := by decide +kernel
theorem d_Md_init_372 : decode b_Md_init 372 = .ok (.bipush 11, 2) := by decide +kernel
theorem d_Md_init_374 : decode b_Md_init 374 = .ok (.iconst (-1), 1) := by decide +kernel
theorem d_Md_init_375 : decode b_Md_init 375 = .ok (.iastore, 1) := by decide +kernel
theorem d_Md_init_376 : decode b_Md_init 376 = .ok (.dup, 1) := by decide +kernel
theorem d_Md_init_377 : decode b_Md_init 377 = .ok (.bipush 12, 2) := by decide +kernel
theorem d_Md_init_379 : decode b_Md_init 379 = .ok (.bipush (-2), 2) := by decide +kernel
theorem d_Md_init_381 : decode b_Md_init 381 = .ok (.iastore, 1) := by decide +kernel
theorem d_Md_init_382 : decode b_Md_init 382 = .ok (.dup, 1) := by decide +kernel
theorem d_Md_init_383 : decode b_Md_init 383 = .ok (.bipush 13, 2) := by decide +kernel
theorem d_Md_init_385 : decode b_Md_init 385 = .ok (.iconst (-1), 1) := by decide +kernel
theorem d_Md_init_386 : decode b_Md_init 386 = .ok (.iastore, 1) := by decide +kernel
theorem d_Md_init_387 : decode b_Md_init 387 = .ok (.dup, 1) := by decide +kernel
theorem d_Md_init_388 : decode b_Md_init 388 = .ok (.bipush 14, 2) := by decide +kernel
theorem d_Md_init_390 : decode b_Md_init 390 = .ok (.iconst 1, 1) := by decide +kernel
theorem d_Md_init_391 : decode b_Md_init 391 = .ok (.iastore, 1) := by decide +kernel
theorem d_Md_init_392 : decode b_Md_init 392 = .ok (.dup, 1) := by decide +kernel
theorem d_Md_init_393 : decode b_Md_init 393 = .ok (.bipush 15, 2) := by decide +kernel
theorem d_Md_init_395 : decode b_Md_init 395 = .ok (.bipush (-2), 2) := by decide +kernel
theorem d_Md_init_397 : decode b_Md_init 397 = .ok (.iastore, 1) := by decide +kernel
theorem d_Md_init_398 : decode b_Md_init 398 = .ok (.dup, 1) := by decide +kernel
theorem d_Md_init_399 : decode b_Md_init 399 = .ok (.bipush 16, 2) := by decide +kernel
theorem d_Md_init_401 : decode b_Md_init 401 = .ok (.iconst 0, 1) := by decide +kernel
theorem d_Md_init_402 : decode b_Md_init 402 = .ok (.iastore, 1) := by decide +kernel
theorem d_Md_init_403 : decode b_Md_init 403 = .ok (.dup, 1) := by decide +kernel
theorem d_Md_init_404 : decode b_Md_init 404 = .ok (.bipush 17, 2) := by decide +kernel
theorem d_Md_init_406 : decode b_Md_init 406 = .ok (.bipush (-2), 2) := by decide +kernel
theorem d_Md_init_408 : decode b_Md_init 408 = .ok (.iastore, 1) := by decide +kernel
theorem d_Md_init_409 : decode b_Md_init 409 = .ok (.dup, 1) := by decide +kernel
theorem d_Md_init_410 : decode b_Md_init 410 = .ok (.bipush 18, 2) := by decide +kernel
theorem d_Md_init_412 : decode b_Md_init 412 = .ok (.iconst (-1), 1) := by decide +kernel
theorem d_Md_init_413 : decode b_Md_init 413 = .ok (.iastore, 1) := by decide +kernel
theorem d_Md_init_414 : decode b_Md_init 414 = .ok (.dup, 1) := by decide +kernel
theorem d_Md_init_415 : decode b_Md_init 415 = .ok (.bipush 19, 2) := by decide +kernel
theorem d_Md_init_417 : decode b_Md_init 417 = .ok (.bipush (-2), 2) := by decide +kernel
theorem d_Md_init_419 : decode b_Md_init 419 = .ok (.iastore, 1) := by decide +kernel
theorem d_Md_init_420 : decode b_Md_init 420 = .ok (.putfield 16, 3) := by decide +kernel
theorem d_Md_init_423 : decode b_Md_init 423 = .ok (.aload_n 0, 1) := by decide +kernel
theorem d_Md_init_424 : decode b_Md_init 424 = .ok (.bipush 20, 2) := by decide +kernel
