theorem d_Md_way_99 : decode b_Md_way 99 = .ok (.getfield 111, 3) := by decide +kernel
theorem d_Md_way_102 : decode b_Md_way 102 = .ok (.putfield 111, 3) := by decide +kernel
theorem d_Md_way_105 : decode b_Md_way 105 = .ok (.aload_n 0, 1) := by decide +kernel
theorem d_Md_way_106 : decode b_Md_way 106 = .ok (.invokevirtual 94, 3) := by decide +kernel
theorem d_Md_way_109 : decode b_Md_way 109 = .ok (.iload_n 3, 1) := by decide +kernel
theorem d_Md_way_110 : decode b_Md_way 110 = .ok (.iload_n 2, 1) := by decide +kernel
theorem d_Md_way_111 : decode b_Md_way 111 = .ok (.if_icmp .eq 7, 3) := by decide +kernel
theorem d_Md_way_114 : decode b_Md_way 114 = .ok (.iconst 1, 1) := by decide +kernel
theorem d_Md_way_115 : decode b_Md_way 115 = .ok (.goto 4, 3) := by decide +kernel
theorem d_Md_way_118 : decode b_Md_way 118 = .ok (.iconst 0, 1) := by decide +kernel
theorem d_Md_way_119 : decode b_Md_way 119 = .ok (.ireturn, 1) := by decide +kernel
theorem d_Md_isBlack_0 : decode b_Md_isBlack 0 = .ok (.iload_n 2, 1) := by decide +kernel
theorem d_Md_isBlack_1 : decode b_Md_isBlack 1 = .ok (.iconst 0, 1) := by decide +kernel
theorem d_Md_isBlack_2 : decode b_Md_isBlack 2 = .ok (.aload_n 0, 1) := by decide +kernel
theorem d_Md_isBlack_3 : decode b_Md_isBlack 3 = .ok (.getfield 57, 3) := by decide +kernel
theorem d_Md_isBlack_6 : decode b_Md_isBlack 6 = .ok (.iconst 1, 1) := by decide +kernel
theorem d_Md_isBlack_7 : decode b_Md_isBlack 7 = .ok (.isub, 1) := by decide +kernel
theorem d_Md_isBlack_8 : decode b_Md_isBlack 8 = .ok (.invokestatic 73, 3) := by decide +kernel
theorem d_Md_isBlack_11 : decode b_Md_isBlack 11 = .ok (.ifCond .eq 22, 3) := by decide +kernel
theorem d_Md_isBlack_14 : decode b_Md_isBlack 14 = .ok (.iload_n 3, 1) := by decide +kernel
theorem d_Md_isBlack_15 : decode b_Md_isBlack 15 = .ok (.ifCond .lt 18, 3) := by decide +kernel
theorem d_Md_isBlack_18 : decode b_Md_isBlack 18 = .ok (.aload_n 1, 1) := by decide +kernel
theorem d_Md_isBlack_19 : decode b_Md_isBlack 19 = .ok (.bipush 24, 2) := by decide +kernel
theorem d_Md_isBlack_21 : decode b_Md_isBlack 21 = .ok (.iload_n 3, 1) := by decide +kernel
theorem d_Md_isBlack_22 : decode b_Md_isBlack 22 = .ok (.imul, 1) := by decide +kernel
theorem d_Md_isBlack_23 : decode b_Md_isBlack 23 = .ok (.iload_n 2, 1) := by decide +kernel
theorem d_Md_isBlack_24 : decode b_Md_isBlack 24 = .ok (.iadd, 1) := by decide +kernel
theorem d_Md_isBlack_25 : decode b_Md_isBlack 25 = .ok (.baload, 1) := by decide +kernel
theorem d_Md_isBlack_26 : decode b_Md_isBlack 26 = .ok (.ifCond .eq 7, 3) := by decide +kernel
theorem d_Md_isBlack_29 : decode b_Md_isBlack 29 = .ok (.iconst 1, 1) := by decide +kernel
theorem d_Md_isBlack_30 : decode b_Md_isBlack 30 = .ok (.goto 4, 3) := by decide +kernel
theorem d_Md_isBlack_33 : decode b_Md_isBlack 33 = .ok (.iconst 0, 1) := by decide +kernel
theorem d_Md_isBlack_34 : decode b_Md_isBlack 34 = .ok (.ireturn, 1) := by decide +kernel
theorem d_Md_contextOf_0 : decode b_Md_contextOf 0 = .ok (.iconst 0, 1) := by decide +kernel
theorem d_Md_contextOf_1 : decode b_Md_contextOf 1 = .ok (.istore 4, 2) := by decide +kernel
theorem d_Md_contextOf_3 : decode b_Md_contextOf 3 = .ok (.iconst 1, 1) := by decide +kernel
theorem d_Md_contextOf_4 : decode b_Md_contextOf 4 = .ok (.istore 5, 2) := by decide +kernel
theorem d_Md_contextOf_6 : decode b_Md_contextOf 6 = .ok (.iconst 0, 1) := by decide +kernel
theorem d_Md_contextOf_7 : decode b_Md_contextOf 7 = .ok (.istore 6, 2) := by decide +kernel
theorem d_Md_contextOf_9 : decode b_Md_contextOf 9 = .ok (.iload 6, 2) := by decide +kernel
theorem d_Md_contextOf_11 : decode b_Md_contextOf 11 = .ok (.aload_n 0, 1) := by decide +kernel
theorem d_Md_contextOf_12 : decode b_Md_contextOf 12 = .ok (.getfield 114, 3) := by decide +kernel
theorem d_Md_contextOf_15 : decode b_Md_contextOf 15 = .ok (.if_icmp .ge 58, 3) := by decide +kernel
theorem d_Md_contextOf_18 : decode b_Md_contextOf 18 = .ok (.iload 4, 2) := by decide +kernel
theorem d_Md_contextOf_20 : decode b_Md_contextOf 20 = .ok (.aload_n 0, 1) := by decide +kernel
theorem d_Md_contextOf_21 : decode b_Md_contextOf 21 = .ok (.aload_n 1, 1) := by decide +kernel
theorem d_Md_contextOf_22 : decode b_Md_contextOf 22 = .ok (.iload_n 2, 1) := by decide +kernel
theorem d_Md_contextOf_23 : decode b_Md_contextOf 23 = .ok (.aload_n 0, 1) := by decide +kernel
theorem d_Md_contextOf_24 : decode b_Md_contextOf 24 = .ok (.getfield 25, 3) := by decide +kernel
theorem d_Md_contextOf_27 : decode b_Md_contextOf 27 = .ok (.iconst 2, 1) := by decide +kernel
theorem d_Md_contextOf_28 : decode b_Md_contextOf 28 = .ok (.iload 6, 2) := by decide +kernel
theorem d_Md_contextOf_30 : decode b_Md_contextOf 30 = .ok (.imul, 1) := by decide +kernel
theorem d_Md_contextOf_31 : decode b_Md_contextOf 31 = .ok (.iaload, 1) := by decide +kernel
theorem d_Md_contextOf_32 : decode b_Md_contextOf 32 = .ok (.iadd, 1) := by decide +kernel
theorem d_Md_contextOf_33 : decode b_Md_contextOf 33 = .ok (.iload_n 3, 1) := by decide +kernel
theorem d_Md_contextOf_34 : decode b_Md_contextOf 34 = .ok (.aload_n 0, 1) := by decide +kernel
theorem d_Md_contextOf_35 : decode b_Md_contextOf 35 = .ok (.getfield 25, 3) := by decide +kernel
theorem d_Md_contextOf_38 : decode b_Md_contextOf 38 = .ok (.iconst 2, 1) := by decide +kernel
theorem d_Md_contextOf_39 : decode b_Md_contextOf 39 = .ok (.iload 6, 2) := by decide +kernel
theorem d_Md_contextOf_41 : decode b_Md_contextOf 41 = .ok (.imul, 1) := by decide +kernel
theorem d_Md_contextOf_42 : decode b_Md_contextOf 42 = .ok (.iconst 1, 1) := by decide +kernel
theorem d_Md_contextOf_43 : decode b_Md_contextOf 43 = .ok (.iadd, 1) := by decide +kernel
theorem d_Md_contextOf_44 : decode b_Md_contextOf 44 = .ok (.iaload, 1) := by decide +kernel
theorem d_Md_contextOf_45 : decode b_Md_contextOf 45 = .ok (.iadd, 1) := by decide +kernel
theorem d_Md_contextOf_46 : decode b_Md_contextOf 46 = .ok (.invokevirtual 117, 3) := by decide +kernel
theorem d_Md_contextOf_49 : decode b_Md_contextOf 49 = .ok (.ifCond .eq 8, 3) := by decide +kernel
theorem d_Md_contextOf_52 : decode b_Md_contextOf 52 = .ok (.iload 5, 2) := by decide +kernel
theorem d_Md_contextOf_54 : decode b_Md_contextOf 54 = .ok (.goto 4, 3) := by decide +kernel
theorem d_Md_contextOf_57 : decode b_Md_contextOf 57 = .ok (.iconst 0, 1) := by decide +kernel
theorem d_Md_contextOf_58 : decode b_Md_contextOf 58 = .ok (.iadd, 1) := by decide +kernel
theorem d_Md_contextOf_59 : decode b_Md_contextOf 59 = .ok (.istore 4, 2) := by decide +kernel
theorem d_Md_contextOf_61 : decode b_Md_contextOf 61 = .ok (.iconst 2, 1) := by decide +kernel
theorem d_Md_contextOf_62 : decode b_Md_contextOf 62 = .ok (.iload 5, 2) := by decide +kernel
theorem d_Md_contextOf_64 : decode b_Md_contextOf 64 = .ok (.imul, 1) := by decide +kernel
theorem d_Md_contextOf_65 : decode b_Md_contextOf 65 = .ok (.istore 5, 2) := by decide +kernel
theorem d_Md_contextOf_67 : decode b_Md_contextOf 67 = .ok (.iinc 6 1, 3) := by decide +kernel
theorem d_Md_contextOf_70 : decode b_Md_contextOf 70 = .ok (.goto (-61), 3) := by decide +kernel
theorem d_Md_contextOf_73 : decode b_Md_contextOf 73 = .ok (.iload 4, 2) := by decide +kernel
theorem d_Md_contextOf_75 : decode b_Md_contextOf 75 = .ok (.ireturn, 1) := by decide +kernel
theorem d_Md_layKnown_0 : decode b_Md_layKnown 0 = .ok (.iconst 0, 1) := by decide +kernel
theorem d_Md_layKnown_1 : decode b_Md_layKnown 1 = .ok (.istore_n 1, 1) := by decide +kernel
theorem d_Md_layKnown_2 : decode b_Md_layKnown 2 = .ok (.iload_n 1, 1) := by decide +kernel
theorem d_Md_layKnown_3 : decode b_Md_layKnown 3 = .ok (.sipush 576, 3) := by decide +kernel
theorem d_Md_layKnown_6 : decode b_Md_layKnown 6 = .ok (.if_icmp .ge 45, 3) := by decide +kernel
theorem d_Md_layKnown_9 : decode b_Md_layKnown 9 = .ok (.aload_n 0, 1) := by decide +kernel
theorem d_Md_layKnown_10 : decode b_Md_layKnown 10 = .ok (.getfield 35, 3) := by decide +kernel
theorem d_Md_layKnown_13 : decode b_Md_layKnown 13 = .ok (.iload_n 1, 1) := by decide +kernel
theorem d_Md_layKnown_14 : decode b_Md_layKnown 14 = .ok (.aload_n 0, 1) := by decide +kernel
theorem d_Md_layKnown_15 : decode b_Md_layKnown 15 = .ok (.getfield 28, 3) := by decide +kernel
theorem d_Md_layKnown_18 : decode b_Md_layKnown 18 = .ok (.iload_n 1, 1) := by decide +kernel
theorem d_Md_layKnown_19 : decode b_Md_layKnown 19 = .ok (.baload, 1) := by decide +kernel
theorem d_Md_layKnown_20 : decode b_Md_layKnown 20 = .ok (.ifCond .eq 23, 3) := by decide +kernel
theorem d_Md_layKnown_23 : decode b_Md_layKnown 23 = .ok (.aload_n 0, 1) := by decide +kernel
theorem d_Md_layKnown_24 : decode b_Md_layKnown 24 = .ok (.getfield 108, 3) := by decide +kernel
theorem d_Md_layKnown_27 : decode b_Md_layKnown 27 = .ok (.ifCond .ne 12, 3) := by decide +kernel
theorem d_Md_layKnown_30 : decode b_Md_layKnown 30 = .ok (.aload_n 0, 1) := by decide +kernel
theorem d_Md_layKnown_31 : decode b_Md_layKnown 31 = .ok (.getfield 32, 3) := by decide +kernel
theorem d_Md_layKnown_34 : decode b_Md_layKnown 34 = .ok (.iload_n 1, 1) := by decide +kernel
theorem d_Md_layKnown_35 : decode b_Md_layKnown 35 = .ok (.baload, 1) := by decide +kernel
theorem d_Md_layKnown_36 : decode b_Md_layKnown 36 = .ok (.ifCond .ne 7, 3) := by decide +kernel
theorem d_Md_layKnown_39 : decode b_Md_layKnown 39 = .ok (.iconst 1, 1) := by decide +kernel
theorem d_Md_layKnown_40 : decode b_Md_layKnown 40 = .ok (.goto 4, 3) := by decide +kernel
theorem d_Md_layKnown_43 : decode b_Md_layKnown 43 = .ok (.iconst 0, 1) := by decide +kernel
theorem d_Md_layKnown_44 : decode b_Md_layKnown 44 = .ok (.bastore, 1) := by decide +kernel
theorem d_Md_layKnown_45 : decode b_Md_layKnown 45 = .ok (.iinc 1 1, 3) := by decide +kernel
theorem d_Md_layKnown_48 : decode b_Md_layKnown 48 = .ok (.goto (-46), 3) := by decide +kernel
theorem d_Md_layKnown_51 : decode b_Md_layKnown 51 = .ok (.return_, 1) := by decide +kernel
theorem d_Md_context_0 : decode b_Md_context 0 = .ok (.aload_n 0, 1) := by decide +kernel
theorem d_Md_context_1 : decode b_Md_context 1 = .ok (.iload_n 1, 1) := by decide +kernel
theorem d_Md_context_2 : decode b_Md_context 2 = .ok (.iload_n 2, 1) := by decide +kernel
theorem d_Md_context_3 : decode b_Md_context 3 = .ok (.invokevirtual 90, 3) := by decide +kernel
theorem d_Md_context_6 : decode b_Md_context 6 = .ok (.ifCond .ne 5, 3) := by decide +kernel
theorem d_Md_context_9 : decode b_Md_context 9 = .ok (.iconst 0, 1) := by decide +kernel
theorem d_Md_context_10 : decode b_Md_context 10 = .ok (.ireturn, 1) := by decide +kernel
theorem d_Md_context_11 : decode b_Md_context 11 = .ok (.aload_n 0, 1) := by decide +kernel
theorem d_Md_context_12 : decode b_Md_context 12 = .ok (.invokevirtual 121, 3) := by decide +kernel
theorem d_Md_context_15 : decode b_Md_context 15 = .ok (.aload_n 0, 1) := by decide +kernel
theorem d_Md_context_16 : decode b_Md_context 16 = .ok (.aload_n 0, 1) := by decide +kernel
theorem d_Md_context_17 : decode b_Md_context 17 = .ok (.getfield 35, 3) := by decide +kernel
theorem d_Md_context_20 : decode b_Md_context 20 = .ok (.iload_n 1, 1) := by decide +kernel
theorem d_Md_context_21 : decode b_Md_context 21 = .ok (.iload_n 2, 1) := by decide +kernel
theorem d_Md_context_22 : decode b_Md_context 22 = .ok (.invokevirtual 124, 3) := by decide +kernel
theorem d_Md_context_25 : decode b_Md_context 25 = .ok (.ireturn, 1) := by decide +kernel
theorem d_Md_typicalContext_0 : decode b_Md_typicalContext 0 = .ok (.aload_n 0, 1) := by decide +kernel
theorem d_Md_typicalContext_1 : decode b_Md_typicalContext 1 = .ok (.getfield 64, 3) := by decide +kernel
theorem d_Md_typicalContext_4 : decode b_Md_typicalContext 4 = .ok (.ifCond .ne 8, 3) := by decide +kernel
theorem d_Md_typicalContext_7 : decode b_Md_typicalContext 7 = .ok (.ldc 128, 2) := by decide +kernel
theorem d_Md_typicalContext_9 : decode b_Md_typicalContext 9 = .ok (.goto 34, 3) := by decide +kernel
theorem d_Md_typicalContext_12 : decode b_Md_typicalContext 12 = .ok (.aload_n 0, 1) := by decide +kernel
theorem d_Md_typicalContext_13 : decode b_Md_typicalContext 13 = .ok (.getfield 64, 3) := by decide +kernel
theorem d_Md_typicalContext_16 : decode b_Md_typicalContext 16 = .ok (.iconst 1, 1) := by decide +kernel
theorem d_Md_typicalContext_17 : decode b_Md_typicalContext 17 = .ok (.if_icmp .ne 9, 3) := by decide +kernel
theorem d_Md_typicalContext_20 : decode b_Md_typicalContext 20 = .ok (.sipush 1941, 3) := by decide +kernel
theorem d_Md_typicalContext_23 : decode b_Md_typicalContext 23 = .ok (.goto 20, 3) := by decide +kernel
theorem d_Md_typicalContext_26 : decode b_Md_typicalContext 26 = .ok (.aload_n 0, 1) := by decide +kernel
theorem d_Md_typicalContext_27 : decode b_Md_typicalContext 27 = .ok (.getfield 64, 3) := by decide +kernel
theorem d_Md_typicalContext_30 : decode b_Md_typicalContext 30 = .ok (.iconst 2, 1) := by decide +kernel
theorem d_Md_typicalContext_31 : decode b_Md_typicalContext 31 = .ok (.if_icmp .ne 9, 3) := by decide +kernel
theorem d_Md_typicalContext_34 : decode b_Md_typicalContext 34 = .ok (.sipush 229, 3) := by decide +kernel
theorem d_Md_typicalContext_37 : decode b_Md_typicalContext 37 = .ok (.goto 6, 3) := by decide +kernel
theorem d_Md_typicalContext_40 : decode b_Md_typicalContext 40 = .ok (.sipush 405, 3) := by decide +kernel
theorem d_Md_typicalContext_43 : decode b_Md_typicalContext 43 = .ok (.ireturn, 1) := by decide +kernel
theorem d_Md_tellBit_0 : decode b_Md_tellBit 0 = .ok (.aload_n 0, 1) := by decide +kernel
theorem d_Md_tellBit_1 : decode b_Md_tellBit 1 = .ok (.getfield 38, 3) := by decide +kernel
theorem d_Md_tellBit_4 : decode b_Md_tellBit 4 = .ok (.aload_n 0, 1) := by decide +kernel
theorem d_Md_tellBit_5 : decode b_Md_tellBit 5 = .ok (.getfield 129, 3) := by decide +kernel
theorem d_Md_tellBit_8 : decode b_Md_tellBit 8 = .ok (.iload_n 1, 1) := by decide +kernel
theorem d_Md_tellBit_9 : decode b_Md_tellBit 9 = .ok (.iastore, 1) := by decide +kernel
theorem d_Md_tellBit_10 : decode b_Md_tellBit 10 = .ok (.aload_n 0, 1) := by decide +kernel
theorem d_Md_tellBit_11 : decode b_Md_tellBit 11 = .ok (.getfield 41, 3) := by decide +kernel
theorem d_Md_tellBit_14 : decode b_Md_tellBit 14 = .ok (.aload_n 0, 1) := by decide +kernel
theorem d_Md_tellBit_15 : decode b_Md_tellBit 15 = .ok (.getfield 129, 3) := by decide +kernel
theorem d_Md_tellBit_18 : decode b_Md_tellBit 18 = .ok (.iload_n 2, 1) := by decide +kernel
theorem d_Md_tellBit_19 : decode b_Md_tellBit 19 = .ok (.iastore, 1) := by decide +kernel
theorem d_Md_tellBit_20 : decode b_Md_tellBit 20 = .ok (.aload_n 0, 1) := by decide +kernel
theorem d_Md_tellBit_21 : decode b_Md_tellBit 21 = .ok (.getfield 44, 3) := by decide +kernel
theorem d_Md_tellBit_24 : decode b_Md_tellBit 24 = .ok (.aload_n 0, 1) := by decide +kernel
theorem d_Md_tellBit_25 : decode b_Md_tellBit 25 = .ok (.getfield 129, 3) := by decide +kernel
theorem d_Md_tellBit_28 : decode b_Md_tellBit 28 = .ok (.iload_n 3, 1) := by decide +kernel
theorem d_Md_tellBit_29 : decode b_Md_tellBit 29 = .ok (.iastore, 1) := by decide +kernel
theorem d_Md_tellBit_30 : decode b_Md_tellBit 30 = .ok (.aload_n 0, 1) := by decide +kernel
theorem d_Md_tellBit_31 : decode b_Md_tellBit 31 = .ok (.dup, 1) := by decide +kernel
theorem d_Md_tellBit_32 : decode b_Md_tellBit 32 = .ok (.getfield 129, 3) := by decide +kernel
theorem d_Md_tellBit_35 : decode b_Md_tellBit 35 = .ok (.iconst 1, 1) := by decide +kernel
theorem d_Md_tellBit_36 : decode b_Md_tellBit 36 = .ok (.iadd, 1) := by decide +kernel
theorem d_Md_tellBit_37 : decode b_Md_tellBit 37 = .ok (.putfield 129, 3) := by decide +kernel
theorem d_Md_tellBit_40 : decode b_Md_tellBit 40 = .ok (.return_, 1) := by decide +kernel
theorem d_Md_tellContexts_0 : decode b_Md_tellContexts 0 = .ok (.aload_n 0, 1) := by decide +kernel
theorem d_Md_tellContexts_1 : decode b_Md_tellContexts 1 = .ok (.getfield 105, 3) := by decide +kernel
theorem d_Md_tellContexts_4 : decode b_Md_tellContexts 4 = .ok (.ifCond .eq 99, 3) := by decide +kernel
theorem d_Md_tellContexts_7 : decode b_Md_tellContexts 7 = .ok (.iconst 1, 1) := by decide +kernel
theorem d_Md_tellContexts_8 : decode b_Md_tellContexts 8 = .ok (.istore_n 2, 1) := by decide +kernel
theorem d_Md_tellContexts_9 : decode b_Md_tellContexts 9 = .ok (.iconst 0, 1) := by decide +kernel
theorem d_Md_tellContexts_10 : decode b_Md_tellContexts 10 = .ok (.istore_n 3, 1) := by decide +kernel
theorem d_Md_tellContexts_11 : decode b_Md_tellContexts 11 = .ok (.iload_n 3, 1) := by decide +kernel
theorem d_Md_tellContexts_12 : decode b_Md_tellContexts 12 = .ok (.aload_n 0, 1) := by decide +kernel
theorem d_Md_tellContexts_13 : decode b_Md_tellContexts 13 = .ok (.getfield 57, 3) := by decide +kernel
theorem d_Md_tellContexts_16 : decode b_Md_tellContexts 16 = .ok (.if_icmp .ge 45, 3) := by decide +kernel
theorem d_Md_tellContexts_19 : decode b_Md_tellContexts 19 = .ok (.iload_n 2, 1) := by decide +kernel
theorem d_Md_tellContexts_20 : decode b_Md_tellContexts 20 = .ok (.ifCond .eq 33, 3) := by decide +kernel
theorem d_Md_tellContexts_23 : decode b_Md_tellContexts 23 = .ok (.aload_n 0, 1) := by decide +kernel
theorem d_Md_tellContexts_24 : decode b_Md_tellContexts 24 = .ok (.getfield 35, 3) := by decide +kernel
theorem d_Md_tellContexts_27 : decode b_Md_tellContexts 27 = .ok (.bipush 24, 2) := by decide +kernel
theorem d_Md_tellContexts_29 : decode b_Md_tellContexts 29 = .ok (.iload_n 1, 1) := by decide +kernel
theorem d_Md_tellContexts_30 : decode b_Md_tellContexts 30 = .ok (.imul, 1) := by decide +kernel
theorem d_Md_tellContexts_31 : decode b_Md_tellContexts 31 = .ok (.iload_n 3, 1) := by decide +kernel
theorem d_Md_tellContexts_32 : decode b_Md_tellContexts 32 = .ok (.iadd, 1) := by decide +kernel
theorem d_Md_tellContexts_33 : decode b_Md_tellContexts 33 = .ok (.baload, 1) := by decide +kernel
theorem d_Md_tellContexts_34 : decode b_Md_tellContexts 34 = .ok (.aload_n 0, 1) := by decide +kernel
theorem d_Md_tellContexts_35 : decode b_Md_tellContexts 35 = .ok (.aload_n 0, 1) := by decide +kernel
theorem d_Md_tellContexts_36 : decode b_Md_tellContexts 36 = .ok (.getfield 35, 3) := by decide +kernel
theorem d_Md_tellContexts_39 : decode b_Md_tellContexts 39 = .ok (.iload_n 3, 1) := by decide +kernel
theorem d_Md_tellContexts_40 : decode b_Md_tellContexts 40 = .ok (.iload_n 1, 1) := by decide +kernel
theorem d_Md_tellContexts_41 : decode b_Md_tellContexts 41 = .ok (.iconst 1, 1) := by decide +kernel
theorem d_Md_tellContexts_42 : decode b_Md_tellContexts 42 = .ok (.isub, 1) := by decide +kernel
theorem d_Md_tellContexts_43 : decode b_Md_tellContexts 43 = .ok (.invokevirtual 117, 3) := by decide +kernel
theorem d_Md_tellContexts_46 : decode b_Md_tellContexts 46 = .ok (.if_icmp .ne 7, 3) := by decide +kernel
theorem d_Md_tellContexts_49 : decode b_Md_tellContexts 49 = .ok (.iconst 1, 1) := by decide +kernel
theorem d_Md_tellContexts_50 : decode b_Md_tellContexts 50 = .ok (.goto 4, 3) := by decide +kernel
theorem d_Md_tellContexts_53 : decode b_Md_tellContexts 53 = .ok (.iconst 0, 1) := by decide +kernel
theorem d_Md_tellContexts_54 : decode b_Md_tellContexts 54 = .ok (.istore_n 2, 1) := by decide +kernel
theorem d_Md_tellContexts_55 : decode b_Md_tellContexts 55 = .ok (.iinc 3 1, 3) := by decide +kernel
theorem d_Md_tellContexts_58 : decode b_Md_tellContexts 58 = .ok (.goto (-47), 3) := by decide +kernel
theorem d_Md_tellContexts_61 : decode b_Md_tellContexts 61 = .ok (.aload_n 0, 1) := by decide +kernel
theorem d_Md_tellContexts_62 : decode b_Md_tellContexts 62 = .ok (.iload_n 2, 1) := by decide +kernel
theorem d_Md_tellContexts_63 : decode b_Md_tellContexts 63 = .ok (.aload_n 0, 1) := by decide +kernel
theorem d_Md_tellContexts_64 : decode b_Md_tellContexts 64 = .ok (.getfield 132, 3) := by decide +kernel
theorem d_Md_tellContexts_67 : decode b_Md_tellContexts 67 = .ok (.if_icmp .eq 7, 3) := by decide +kernel
theorem d_Md_tellContexts_70 : decode b_Md_tellContexts 70 = .ok (.iconst 1, 1) := by decide +kernel
theorem d_Md_tellContexts_71 : decode b_Md_tellContexts 71 = .ok (.goto 4, 3) := by decide +kernel
theorem d_Md_tellContexts_74 : decode b_Md_tellContexts 74 = .ok (.iconst 0, 1) := by decide +kernel
theorem d_Md_tellContexts_75 : decode b_Md_tellContexts 75 = .ok (.aload_n 0, 1) := by decide +kernel
theorem d_Md_tellContexts_76 : decode b_Md_tellContexts 76 = .ok (.invokevirtual 135, 3) := by decide +kernel
theorem d_Md_tellContexts_79 : decode b_Md_tellContexts 79 = .ok (.iload_n 1, 1) := by decide +kernel
theorem d_Md_tellContexts_80 : decode b_Md_tellContexts 80 = .ok (.invokevirtual 138, 3) := by decide +kernel
theorem d_Md_tellContexts_83 : decode b_Md_tellContexts 83 = .ok (.aload_n 0, 1) := by decide +kernel
theorem d_Md_tellContexts_84 : decode b_Md_tellContexts 84 = .ok (.iload_n 2, 1) := by decide +kernel
theorem d_Md_tellContexts_85 : decode b_Md_tellContexts 85 = .ok (.putfield 132, 3) := by decide +kernel
theorem d_Md_tellContexts_88 : decode b_Md_tellContexts 88 = .ok (.iload_n 2, 1) := by decide +kernel
theorem d_Md_tellContexts_89 : decode b_Md_tellContexts 89 = .ok (.ifCond .eq 14, 3) := by decide +kernel
theorem d_Md_tellContexts_92 : decode b_Md_tellContexts 92 = .ok (.aload_n 0, 1) := by decide +kernel
theorem d_Md_tellContexts_93 : decode b_Md_tellContexts 93 = .ok (.dup, 1) := by decide +kernel
theorem d_Md_tellContexts_94 : decode b_Md_tellContexts 94 = .ok (.getfield 142, 3) := by decide +kernel
theorem d_Md_tellContexts_97 : decode b_Md_tellContexts 97 = .ok (.iconst 1, 1) := by decide +kernel
theorem d_Md_tellContexts_98 : decode b_Md_tellContexts 98 = .ok (.iadd, 1) := by decide +kernel
theorem d_Md_tellContexts_99 : decode b_Md_tellContexts 99 = .ok (.putfield 142, 3) := by decide +kernel
theorem d_Md_tellContexts_102 : decode b_Md_tellContexts 102 = .ok (.return_, 1) := by decide +kernel
theorem d_Md_tellContexts_103 : decode b_Md_tellContexts 103 = .ok (.iconst 0, 1) := by decide +kernel
theorem d_Md_tellContexts_104 : decode b_Md_tellContexts 104 = .ok (.istore_n 2, 1) := by decide +kernel
theorem d_Md_tellContexts_105 : decode b_Md_tellContexts 105 = .ok (.iload_n 2, 1) := by decide +kernel
theorem d_Md_tellContexts_106 : decode b_Md_tellContexts 106 = .ok (.aload_n 0, 1) := by decide +kernel
theorem d_Md_tellContexts_107 : decode b_Md_tellContexts 107 = .ok (.getfield 57, 3) := by decide +kernel
theorem d_Md_tellContexts_110 : decode b_Md_tellContexts 110 = .ok (.if_icmp .ge 57, 3) := by decide +kernel
theorem d_Md_tellContexts_113 : decode b_Md_tellContexts 113 = .ok (.aload_n 0, 1) := by decide +kernel
theorem d_Md_tellContexts_114 : decode b_Md_tellContexts 114 = .ok (.getfield 32, 3) := by decide +kernel
theorem d_Md_tellContexts_117 : decode b_Md_tellContexts 117 = .ok (.bipush 24, 2) := by decide +kernel
theorem d_Md_tellContexts_119 : decode b_Md_tellContexts 119 = .ok (.iload_n 1, 1) := by decide +kernel
theorem d_Md_tellContexts_120 : decode b_Md_tellContexts 120 = .ok (.imul, 1) := by decide +kernel
theorem d_Md_tellContexts_121 : decode b_Md_tellContexts 121 = .ok (.iload_n 2, 1) := by decide +kernel
theorem d_Md_tellContexts_122 : decode b_Md_tellContexts 122 = .ok (.iadd, 1) := by decide +kernel
theorem d_Md_tellContexts_123 : decode b_Md_tellContexts 123 = .ok (.baload, 1) := by decide +kernel
theorem d_Md_tellContexts_124 : decode b_Md_tellContexts 124 = .ok (.ifCond .ne 37, 3) := by decide +kernel
theorem d_Md_tellContexts_127 : decode b_Md_tellContexts 127 = .ok (.aload_n 0, 1) := by decide +kernel
theorem d_Md_tellContexts_128 : decode b_Md_tellContexts 128 = .ok (.aload_n 0, 1) := by decide +kernel
theorem d_Md_tellContexts_129 : decode b_Md_tellContexts 129 = .ok (.getfield 35, 3) := by decide +kernel
theorem d_Md_tellContexts_132 : decode b_Md_tellContexts 132 = .ok (.bipush 24, 2) := by decide +kernel
theorem d_Md_tellContexts_134 : decode b_Md_tellContexts 134 = .ok (.iload_n 1, 1) := by decide +kernel
theorem d_Md_tellContexts_135 : decode b_Md_tellContexts 135 = .ok (.imul, 1) := by decide +kernel
theorem d_Md_tellContexts_136 : decode b_Md_tellContexts 136 = .ok (.iload_n 2, 1) := by decide +kernel
theorem d_Md_tellContexts_137 : decode b_Md_tellContexts 137 = .ok (.iadd, 1) := by decide +kernel
theorem d_Md_tellContexts_138 : decode b_Md_tellContexts 138 = .ok (.baload, 1) := by decide +kernel
theorem d_Md_tellContexts_139 : decode b_Md_tellContexts 139 = .ok (.ifCond .eq 7, 3) := by decide +kernel
theorem d_Md_tellContexts_142 : decode b_Md_tellContexts 142 = .ok (.iconst 1, 1) := by decide +kernel
theorem d_Md_tellContexts_143 : decode b_Md_tellContexts 143 = .ok (.goto 4, 3) := by decide +kernel
theorem d_Md_tellContexts_146 : decode b_Md_tellContexts 146 = .ok (.iconst 0, 1) := by decide +kernel
theorem d_Md_tellContexts_147 : decode b_Md_tellContexts 147 = .ok (.aload_n 0, 1) := by decide +kernel
theorem d_Md_tellContexts_148 : decode b_Md_tellContexts 148 = .ok (.aload_n 0, 1) := by decide +kernel
theorem d_Md_tellContexts_149 : decode b_Md_tellContexts 149 = .ok (.getfield 35, 3) := by decide +kernel
theorem d_Md_tellContexts_152 : decode b_Md_tellContexts 152 = .ok (.iload_n 2, 1) := by decide +kernel
theorem d_Md_tellContexts_153 : decode b_Md_tellContexts 153 = .ok (.iload_n 1, 1) := by decide +kernel
theorem d_Md_tellContexts_154 : decode b_Md_tellContexts 154 = .ok (.invokevirtual 124, 3) := by decide +kernel
theorem d_Md_tellContexts_157 : decode b_Md_tellContexts 157 = .ok (.iload_n 1, 1) := by decide +kernel
theorem d_Md_tellContexts_158 : decode b_Md_tellContexts 158 = .ok (.invokevirtual 138, 3) := by decide +kernel
theorem d_Md_tellContexts_161 : decode b_Md_tellContexts 161 = .ok (.iinc 2 1, 3) := by decide +kernel
theorem d_Md_tellContexts_164 : decode b_Md_tellContexts 164 = .ok (.goto (-59), 3) := by decide +kernel
theorem d_Md_tellContexts_167 : decode b_Md_tellContexts 167 = .ok (.return_, 1) := by decide +kernel
theorem d_Md_firstOf_0 : decode b_Md_firstOf 0 = .ok (.iload_n 3, 1) := by decide +kernel
theorem d_Md_firstOf_1 : decode b_Md_firstOf 1 = .ok (.ifCond .ge 7, 3) := by decide +kernel
theorem d_Md_firstOf_4 : decode b_Md_firstOf 4 = .ok (.iconst 0, 1) := by decide +kernel
theorem d_Md_firstOf_5 : decode b_Md_firstOf 5 = .ok (.goto 4, 3) := by decide +kernel
theorem d_Md_firstOf_8 : decode b_Md_firstOf 8 = .ok (.iload_n 3, 1) := by decide +kernel
theorem d_Md_firstOf_9 : decode b_Md_firstOf 9 = .ok (.istore 5, 2) := by decide +kernel
theorem d_Md_firstOf_11 : decode b_Md_firstOf 11 = .ok (.iload 5, 2) := by decide +kernel
theorem d_Md_firstOf_13 : decode b_Md_firstOf 13 = .ok (.aload_n 0, 1) := by decide +kernel
theorem d_Md_firstOf_14 : decode b_Md_firstOf 14 = .ok (.getfield 57, 3) := by decide +kernel
theorem d_Md_firstOf_17 : decode b_Md_firstOf 17 = .ok (.if_icmp .ge 22, 3) := by decide +kernel
theorem d_Md_firstOf_20 : decode b_Md_firstOf 20 = .ok (.aload_n 0, 1) := by decide +kernel
theorem d_Md_firstOf_21 : decode b_Md_firstOf 21 = .ok (.aload_n 1, 1) := by decide +kernel
theorem d_Md_firstOf_22 : decode b_Md_firstOf 22 = .ok (.iload 5, 2) := by decide +kernel
theorem d_Md_firstOf_24 : decode b_Md_firstOf 24 = .ok (.iload_n 2, 1) := by decide +kernel
theorem d_Md_firstOf_25 : decode b_Md_firstOf 25 = .ok (.invokevirtual 117, 3) := by decide +kernel
theorem d_Md_firstOf_28 : decode b_Md_firstOf 28 = .ok (.iload 4, 2) := by decide +kernel
theorem d_Md_firstOf_30 : decode b_Md_firstOf 30 = .ok (.if_icmp .eq 9, 3) := by decide +kernel
theorem d_Md_firstOf_33 : decode b_Md_firstOf 33 = .ok (.iinc 5 1, 3) := by decide +kernel
theorem d_Md_firstOf_36 : decode b_Md_firstOf 36 = .ok (.goto (-25), 3) := by decide +kernel
theorem d_Md_firstOf_39 : decode b_Md_firstOf 39 = .ok (.iload 5, 2) := by decide +kernel
theorem d_Md_firstOf_41 : decode b_Md_firstOf 41 = .ok (.aload_n 0, 1) := by decide +kernel
theorem d_Md_firstOf_42 : decode b_Md_firstOf 42 = .ok (.getfield 57, 3) := by decide +kernel
theorem d_Md_firstOf_45 : decode b_Md_firstOf 45 = .ok (.if_icmp .ge 8, 3) := by decide +kernel
theorem d_Md_firstOf_48 : decode b_Md_firstOf 48 = .ok (.iload 5, 2) := by decide +kernel
theorem d_Md_firstOf_50 : decode b_Md_firstOf 50 = .ok (.goto 7, 3) := by decide +kernel
theorem d_Md_firstOf_53 : decode b_Md_firstOf 53 = .ok (.aload_n 0, 1) := by decide +kernel
theorem d_Md_firstOf_54 : decode b_Md_firstOf 54 = .ok (.getfield 57, 3) := by decide +kernel
theorem d_Md_firstOf_57 : decode b_Md_firstOf 57 = .ok (.ireturn, 1) := by decide +kernel
theorem d_Md_changeOf_0 : decode b_Md_changeOf 0 = .ok (.aload_n 0, 1) := by decide +kernel
theorem d_Md_changeOf_1 : decode b_Md_changeOf 1 = .ok (.getfield 145, 3) := by decide +kernel
theorem d_Md_changeOf_4 : decode b_Md_changeOf 4 = .ok (.iconst 1, 1) := by decide +kernel
theorem d_Md_changeOf_5 : decode b_Md_changeOf 5 = .ok (.iadd, 1) := by decide +kernel
theorem d_Md_changeOf_6 : decode b_Md_changeOf 6 = .ok (.istore_n 3, 1) := by decide +kernel
theorem d_Md_changeOf_7 : decode b_Md_changeOf 7 = .ok (.iload_n 3, 1) := by decide +kernel
theorem d_Md_changeOf_8 : decode b_Md_changeOf 8 = .ok (.aload_n 0, 1) := by decide +kernel
theorem d_Md_changeOf_9 : decode b_Md_changeOf 9 = .ok (.getfield 57, 3) := by decide +kernel
theorem d_Md_changeOf_12 : decode b_Md_changeOf 12 = .ok (.if_icmp .ge 45, 3) := by decide +kernel
theorem d_Md_changeOf_15 : decode b_Md_changeOf 15 = .ok (.aload_n 0, 1) := by decide +kernel
theorem d_Md_changeOf_16 : decode b_Md_changeOf 16 = .ok (.aload_n 1, 1) := by decide +kernel
theorem d_Md_changeOf_17 : decode b_Md_changeOf 17 = .ok (.iload_n 3, 1) := by decide +kernel
theorem d_Md_changeOf_18 : decode b_Md_changeOf 18 = .ok (.iload_n 2, 1) := by decide +kernel
theorem d_Md_changeOf_19 : decode b_Md_changeOf 19 = .ok (.iconst 1, 1) := by decide +kernel
theorem d_Md_changeOf_20 : decode b_Md_changeOf 20 = .ok (.isub, 1) := by decide +kernel
theorem d_Md_changeOf_21 : decode b_Md_changeOf 21 = .ok (.invokevirtual 117, 3) := by decide +kernel
theorem d_Md_changeOf_24 : decode b_Md_changeOf 24 = .ok (.aload_n 0, 1) := by decide +kernel
theorem d_Md_changeOf_25 : decode b_Md_changeOf 25 = .ok (.getfield 148, 3) := by decide +kernel
theorem d_Md_changeOf_28 : decode b_Md_changeOf 28 = .ok (.if_icmp .eq 23, 3) := by decide +kernel
theorem d_Md_changeOf_31 : decode b_Md_changeOf 31 = .ok (.aload_n 0, 1) := by decide +kernel
theorem d_Md_changeOf_32 : decode b_Md_changeOf 32 = .ok (.aload_n 1, 1) := by decide +kernel
theorem d_Md_changeOf_33 : decode b_Md_changeOf 33 = .ok (.iload_n 3, 1) := by decide +kernel
theorem d_Md_changeOf_34 : decode b_Md_changeOf 34 = .ok (.iconst 1, 1) := by decide +kernel
theorem d_Md_changeOf_35 : decode b_Md_changeOf 35 = .ok (.isub, 1) := by decide +kernel
theorem d_Md_changeOf_36 : decode b_Md_changeOf 36 = .ok (.iload_n 2, 1) := by decide +kernel
theorem d_Md_changeOf_37 : decode b_Md_changeOf 37 = .ok (.iconst 1, 1) := by decide +kernel
theorem d_Md_changeOf_38 : decode b_Md_changeOf 38 = .ok (.isub, 1) := by decide +kernel
theorem d_Md_changeOf_39 : decode b_Md_changeOf 39 = .ok (.invokevirtual 117, 3) := by decide +kernel
theorem d_Md_changeOf_42 : decode b_Md_changeOf 42 = .ok (.aload_n 0, 1) := by decide +kernel
theorem d_Md_changeOf_43 : decode b_Md_changeOf 43 = .ok (.getfield 148, 3) := by decide +kernel
theorem d_Md_changeOf_46 : decode b_Md_changeOf 46 = .ok (.if_icmp .ne 5, 3) := by decide +kernel
theorem d_Md_changeOf_49 : decode b_Md_changeOf 49 = .ok (.iload_n 3, 1) := by decide +kernel
theorem d_Md_changeOf_50 : decode b_Md_changeOf 50 = .ok (.ireturn, 1) := by decide +kernel
theorem d_Md_changeOf_51 : decode b_Md_changeOf 51 = .ok (.iinc 3 1, 3) := by decide +kernel
theorem d_Md_changeOf_54 : decode b_Md_changeOf 54 = .ok (.goto (-47), 3) := by decide +kernel
theorem d_Md_changeOf_57 : decode b_Md_changeOf 57 = .ok (.aload_n 0, 1) := by decide +kernel
theorem d_Md_changeOf_58 : decode b_Md_changeOf 58 = .ok (.getfield 57, 3) := by decide +kernel
theorem d_Md_changeOf_61 : decode b_Md_changeOf 61 = .ok (.ireturn, 1) := by decide +kernel
theorem d_Md_putCode_0 : decode b_Md_putCode 0 = .ok (.iconst 0, 1) := by decide +kernel
theorem d_Md_putCode_1 : decode b_Md_putCode 1 = .ok (.istore 4, 2) := by decide +kernel
theorem d_Md_putCode_3 : decode b_Md_putCode 3 = .ok (.iload 4, 2) := by decide +kernel
theorem d_Md_putCode_5 : decode b_Md_putCode 5 = .ok (.iload_n 1, 1) := by decide +kernel
theorem d_Md_putCode_6 : decode b_Md_putCode 6 = .ok (.if_icmp .ge 17, 3) := by decide +kernel
theorem d_Md_putCode_9 : decode b_Md_putCode 9 = .ok (.aload_n 0, 1) := by decide +kernel
theorem d_Md_putCode_10 : decode b_Md_putCode 10 = .ok (.iconst 0, 1) := by decide +kernel
theorem d_Md_putCode_11 : decode b_Md_putCode 11 = .ok (.ldc 151, 2) := by decide +kernel
theorem d_Md_putCode_13 : decode b_Md_putCode 13 = .ok (.iload_n 3, 1) := by decide +kernel
theorem d_Md_putCode_14 : decode b_Md_putCode 14 = .ok (.invokevirtual 138, 3) := by decide +kernel
theorem d_Md_putCode_17 : decode b_Md_putCode 17 = .ok (.iinc 4 1, 3) := by decide +kernel
theorem d_Md_putCode_20 : decode b_Md_putCode 20 = .ok (.goto (-17), 3) := by decide +kernel
theorem d_Md_putCode_23 : decode b_Md_putCode 23 = .ok (.aload_n 0, 1) := by decide +kernel
theorem d_Md_putCode_24 : decode b_Md_putCode 24 = .ok (.iconst 1, 1) := by decide +kernel
theorem d_Md_putCode_25 : decode b_Md_putCode 25 = .ok (.ldc 151, 2) := by decide +kernel
theorem d_Md_putCode_27 : decode b_Md_putCode 27 = .ok (.iload_n 3, 1) := by decide +kernel
theorem d_Md_putCode_28 : decode b_Md_putCode 28 = .ok (.invokevirtual 138, 3) := by decide +kernel
theorem d_Md_putCode_31 : decode b_Md_putCode 31 = .ok (.iload_n 2, 1) := by decide +kernel
theorem d_Md_putCode_32 : decode b_Md_putCode 32 = .ok (.ifCond .lt 11, 3) := by decide +kernel
theorem d_Md_putCode_35 : decode b_Md_putCode 35 = .ok (.aload_n 0, 1) := by decide +kernel
theorem d_Md_putCode_36 : decode b_Md_putCode 36 = .ok (.iload_n 2, 1) := by decide +kernel
theorem d_Md_putCode_37 : decode b_Md_putCode 37 = .ok (.ldc 151, 2) := by decide +kernel
theorem d_Md_putCode_39 : decode b_Md_putCode 39 = .ok (.iload_n 3, 1) := by decide +kernel
theorem d_Md_putCode_40 : decode b_Md_putCode 40 = .ok (.invokevirtual 138, 3) := by decide +kernel
theorem d_Md_putCode_43 : decode b_Md_putCode 43 = .ok (.return_, 1) := by decide +kernel
theorem d_Md_putNumber_0 : decode b_Md_putNumber 0 = .ok (.iconst 1, 1) := by decide +kernel
theorem d_Md_putNumber_1 : decode b_Md_putNumber 1 = .ok (.istore_n 3, 1) := by decide +kernel
theorem d_Md_putNumber_2 : decode b_Md_putNumber 2 = .ok (.iconst 2, 1) := by decide +kernel
theorem d_Md_putNumber_3 : decode b_Md_putNumber 3 = .ok (.iload_n 3, 1) := by decide +kernel
theorem d_Md_putNumber_4 : decode b_Md_putNumber 4 = .ok (.imul, 1) := by decide +kernel
theorem d_Md_putNumber_5 : decode b_Md_putNumber 5 = .ok (.iload_n 1, 1) := by decide +kernel
theorem d_Md_putNumber_6 : decode b_Md_putNumber 6 = .ok (.iconst 1, 1) := by decide +kernel
theorem d_Md_putNumber_7 : decode b_Md_putNumber 7 = .ok (.iadd, 1) := by decide +kernel
theorem d_Md_putNumber_8 : decode b_Md_putNumber 8 = .ok (.if_icmp .gt 18, 3) := by decide +kernel
theorem d_Md_putNumber_11 : decode b_Md_putNumber 11 = .ok (.aload_n 0, 1) := by decide +kernel
theorem d_Md_putNumber_12 : decode b_Md_putNumber 12 = .ok (.iconst 0, 1) := by decide +kernel
theorem d_Md_putNumber_13 : decode b_Md_putNumber 13 = .ok (.ldc 151, 2) := by decide +kernel
theorem d_Md_putNumber_15 : decode b_Md_putNumber 15 = .ok (.iload_n 2, 1) := by decide +kernel
theorem d_Md_putNumber_16 : decode b_Md_putNumber 16 = .ok (.invokevirtual 138, 3) := by decide +kernel
theorem d_Md_putNumber_19 : decode b_Md_putNumber 19 = .ok (.iconst 2, 1) := by decide +kernel
theorem d_Md_putNumber_20 : decode b_Md_putNumber 20 = .ok (.iload_n 3, 1) := by decide +kernel
theorem d_Md_putNumber_21 : decode b_Md_putNumber 21 = .ok (.imul, 1) := by decide +kernel
theorem d_Md_putNumber_22 : decode b_Md_putNumber 22 = .ok (.istore_n 3, 1) := by decide +kernel
theorem d_Md_putNumber_23 : decode b_Md_putNumber 23 = .ok (.goto (-21), 3) := by decide +kernel
theorem d_Md_putNumber_26 : decode b_Md_putNumber 26 = .ok (.iload_n 3, 1) := by decide +kernel
theorem d_Md_putNumber_27 : decode b_Md_putNumber 27 = .ok (.ifCond .le 24, 3) := by decide +kernel
theorem d_Md_putNumber_30 : decode b_Md_putNumber 30 = .ok (.aload_n 0, 1) := by decide +kernel
theorem d_Md_putNumber_31 : decode b_Md_putNumber 31 = .ok (.iload_n 1, 1) := by decide +kernel
theorem d_Md_putNumber_32 : decode b_Md_putNumber 32 = .ok (.iconst 1, 1) := by decide +kernel
theorem d_Md_putNumber_33 : decode b_Md_putNumber 33 = .ok (.iadd, 1) := by decide +kernel
theorem d_Md_putNumber_34 : decode b_Md_putNumber 34 = .ok (.iload_n 3, 1) := by decide +kernel
theorem d_Md_putNumber_35 : decode b_Md_putNumber 35 = .ok (.idiv, 1) := by decide +kernel
theorem d_Md_putNumber_36 : decode b_Md_putNumber 36 = .ok (.iconst 2, 1) := by decide +kernel
theorem d_Md_putNumber_37 : decode b_Md_putNumber 37 = .ok (.irem, 1) := by decide +kernel
theorem d_Md_putNumber_38 : decode b_Md_putNumber 38 = .ok (.ldc 151, 2) := by decide +kernel
theorem d_Md_putNumber_40 : decode b_Md_putNumber 40 = .ok (.iload_n 2, 1) := by decide +kernel
theorem d_Md_putNumber_41 : decode b_Md_putNumber 41 = .ok (.invokevirtual 138, 3) := by decide +kernel
theorem d_Md_putNumber_44 : decode b_Md_putNumber 44 = .ok (.iload_n 3, 1) := by decide +kernel
theorem d_Md_putNumber_45 : decode b_Md_putNumber 45 = .ok (.iconst 2, 1) := by decide +kernel
theorem d_Md_putNumber_46 : decode b_Md_putNumber 46 = .ok (.idiv, 1) := by decide +kernel
theorem d_Md_putNumber_47 : decode b_Md_putNumber 47 = .ok (.istore_n 3, 1) := by decide +kernel
theorem d_Md_putNumber_48 : decode b_Md_putNumber 48 = .ok (.goto (-22), 3) := by decide +kernel
theorem d_Md_putNumber_51 : decode b_Md_putNumber 51 = .ok (.return_, 1) := by decide +kernel
theorem d_Md_tellFax_0 : decode b_Md_tellFax 0 = .ok (.aload_n 0, 1) := by decide +kernel
theorem d_Md_tellFax_1 : decode b_Md_tellFax 1 = .ok (.iconst (-1), 1) := by decide +kernel
theorem d_Md_tellFax_2 : decode b_Md_tellFax 2 = .ok (.putfield 145, 3) := by decide +kernel
theorem d_Md_tellFax_5 : decode b_Md_tellFax 5 = .ok (.aload_n 0, 1) := by decide +kernel
theorem d_Md_tellFax_6 : decode b_Md_tellFax 6 = .ok (.iconst 0, 1) := by decide +kernel
theorem d_Md_tellFax_7 : decode b_Md_tellFax 7 = .ok (.putfield 148, 3) := by decide +kernel
theorem d_Md_tellFax_10 : decode b_Md_tellFax 10 = .ok (.aload_n 0, 1) := by decide +kernel
theorem d_Md_tellFax_11 : decode b_Md_tellFax 11 = .ok (.getfield 145, 3) := by decide +kernel
theorem d_Md_tellFax_14 : decode b_Md_tellFax 14 = .ok (.aload_n 0, 1) := by decide +kernel
theorem d_Md_tellFax_15 : decode b_Md_tellFax 15 = .ok (.getfield 57, 3) := by decide +kernel
theorem d_Md_tellFax_18 : decode b_Md_tellFax 18 = .ok (.if_icmp .ge 250, 3) := by decide +kernel
theorem d_Md_tellFax_21 : decode b_Md_tellFax 21 = .ok (.aload_n 0, 1) := by decide +kernel
theorem d_Md_tellFax_22 : decode b_Md_tellFax 22 = .ok (.aload_n 0, 1) := by decide +kernel
theorem d_Md_tellFax_23 : decode b_Md_tellFax 23 = .ok (.getfield 35, 3) := by decide +kernel
theorem d_Md_tellFax_26 : decode b_Md_tellFax 26 = .ok (.iload_n 1, 1) := by decide +kernel
theorem d_Md_tellFax_27 : decode b_Md_tellFax 27 = .ok (.aload_n 0, 1) := by decide +kernel
theorem d_Md_tellFax_28 : decode b_Md_tellFax 28 = .ok (.getfield 145, 3) := by decide +kernel
theorem d_Md_tellFax_31 : decode b_Md_tellFax 31 = .ok (.iconst 1, 1) := by decide +kernel
theorem d_Md_tellFax_32 : decode b_Md_tellFax 32 = .ok (.iadd, 1) := by decide +kernel
theorem d_Md_tellFax_33 : decode b_Md_tellFax 33 = .ok (.aload_n 0, 1) := by decide +kernel
theorem d_Md_tellFax_34 : decode b_Md_tellFax 34 = .ok (.getfield 148, 3) := by decide +kernel
theorem d_Md_tellFax_37 : decode b_Md_tellFax 37 = .ok (.ifCond .ne 7, 3) := by decide +kernel
theorem d_Md_tellFax_40 : decode b_Md_tellFax 40 = .ok (.iconst 1, 1) := by decide +kernel
theorem d_Md_tellFax_41 : decode b_Md_tellFax 41 = .ok (.goto 4, 3) := by decide +kernel
theorem d_Md_tellFax_44 : decode b_Md_tellFax 44 = .ok (.iconst 0, 1) := by decide +kernel
theorem d_Md_tellFax_45 : decode b_Md_tellFax 45 = .ok (.invokevirtual 152, 3) := by decide +kernel
theorem d_Md_tellFax_48 : decode b_Md_tellFax 48 = .ok (.istore_n 2, 1) := by decide +kernel
theorem d_Md_tellFax_49 : decode b_Md_tellFax 49 = .ok (.aload_n 0, 1) := by decide +kernel
theorem d_Md_tellFax_50 : decode b_Md_tellFax 50 = .ok (.aload_n 0, 1) := by decide +kernel
theorem d_Md_tellFax_51 : decode b_Md_tellFax 51 = .ok (.getfield 35, 3) := by decide +kernel
theorem d_Md_tellFax_54 : decode b_Md_tellFax 54 = .ok (.iload_n 1, 1) := by decide +kernel
theorem d_Md_tellFax_55 : decode b_Md_tellFax 55 = .ok (.invokevirtual 156, 3) := by decide +kernel
theorem d_Md_tellFax_58 : decode b_Md_tellFax 58 = .ok (.istore_n 3, 1) := by decide +kernel
theorem d_Md_tellFax_59 : decode b_Md_tellFax 59 = .ok (.aload_n 0, 1) := by decide +kernel
theorem d_Md_tellFax_60 : decode b_Md_tellFax 60 = .ok (.aload_n 0, 1) := by decide +kernel
theorem d_Md_tellFax_61 : decode b_Md_tellFax 61 = .ok (.getfield 35, 3) := by decide +kernel
theorem d_Md_tellFax_64 : decode b_Md_tellFax 64 = .ok (.iload_n 1, 1) := by decide +kernel
theorem d_Md_tellFax_65 : decode b_Md_tellFax 65 = .ok (.iconst 1, 1) := by decide +kernel
theorem d_Md_tellFax_66 : decode b_Md_tellFax 66 = .ok (.isub, 1) := by decide +kernel
theorem d_Md_tellFax_67 : decode b_Md_tellFax 67 = .ok (.iload_n 3, 1) := by decide +kernel
theorem d_Md_tellFax_68 : decode b_Md_tellFax 68 = .ok (.iconst 1, 1) := by decide +kernel
theorem d_Md_tellFax_69 : decode b_Md_tellFax 69 = .ok (.iadd, 1) := by decide +kernel
theorem d_Md_tellFax_70 : decode b_Md_tellFax 70 = .ok (.aload_n 0, 1) := by decide +kernel
theorem d_Md_tellFax_71 : decode b_Md_tellFax 71 = .ok (.getfield 148, 3) := by decide +kernel
theorem d_Md_tellFax_74 : decode b_Md_tellFax 74 = .ok (.invokevirtual 152, 3) := by decide +kernel
theorem d_Md_tellFax_77 : decode b_Md_tellFax 77 = .ok (.istore 4, 2) := by decide +kernel
theorem d_Md_tellFax_79 : decode b_Md_tellFax 79 = .ok (.iload_n 2, 1) := by decide +kernel
theorem d_Md_tellFax_80 : decode b_Md_tellFax 80 = .ok (.iload_n 3, 1) := by decide +kernel
theorem d_Md_tellFax_81 : decode b_Md_tellFax 81 = .ok (.isub, 1) := by decide +kernel
theorem d_Md_tellFax_82 : decode b_Md_tellFax 82 = .ok (.istore 5, 2) := by decide +kernel
theorem d_Md_tellFax_84 : decode b_Md_tellFax 84 = .ok (.iload 4, 2) := by decide +kernel
theorem d_Md_tellFax_86 : decode b_Md_tellFax 86 = .ok (.iload_n 2, 1) := by decide +kernel
theorem d_Md_tellFax_87 : decode b_Md_tellFax 87 = .ok (.if_icmp .ge 19, 3) := by decide +kernel
theorem d_Md_tellFax_90 : decode b_Md_tellFax 90 = .ok (.aload_n 0, 1) := by decide +kernel
theorem d_Md_tellFax_91 : decode b_Md_tellFax 91 = .ok (.iconst 3, 1) := by decide +kernel
theorem d_Md_tellFax_92 : decode b_Md_tellFax 92 = .ok (.iconst (-1), 1) := by decide +kernel
theorem d_Md_tellFax_93 : decode b_Md_tellFax 93 = .ok (.iload_n 1, 1) := by decide +kernel
theorem d_Md_tellFax_94 : decode b_Md_tellFax 94 = .ok (.invokevirtual 160, 3) := by decide +kernel
theorem d_Md_tellFax_97 : decode b_Md_tellFax 97 = .ok (.aload_n 0, 1) := by decide +kernel
theorem d_Md_tellFax_98 : decode b_Md_tellFax 98 = .ok (.iload 4, 2) := by decide +kernel
theorem d_Md_tellFax_100 : decode b_Md_tellFax 100 = .ok (.putfield 145, 3) := by decide +kernel
theorem d_Md_tellFax_103 : decode b_Md_tellFax 103 = .ok (.goto 162, 3) := by decide +kernel
theorem d_Md_tellFax_106 : decode b_Md_tellFax 106 = .ok (.iload 5, 2) := by decide +kernel
theorem d_Md_tellFax_108 : decode b_Md_tellFax 108 = .ok (.bipush (-3), 2) := by decide +kernel
theorem d_Md_tellFax_110 : decode b_Md_tellFax 110 = .ok (.iconst 3, 1) := by decide +kernel
theorem d_Md_tellFax_111 : decode b_Md_tellFax 111 = .ok (.invokestatic 73, 3) := by decide +kernel
theorem d_Md_tellFax_114 : decode b_Md_tellFax 114 = .ok (.ifCond .eq 89, 3) := by decide +kernel
theorem d_Md_tellFax_117 : decode b_Md_tellFax 117 = .ok (.iload 5, 2) := by decide +kernel
theorem d_Md_tellFax_119 : decode b_Md_tellFax 119 = .ok (.ifCond .ge 9, 3) := by decide +kernel
theorem d_Md_tellFax_122 : decode b_Md_tellFax 122 = .ok (.iload 5, 2) := by decide +kernel
theorem d_Md_tellFax_124 : decode b_Md_tellFax 124 = .ok (.ineg, 1) := by decide +kernel
theorem d_Md_tellFax_125 : decode b_Md_tellFax 125 = .ok (.goto 5, 3) := by decide +kernel
theorem d_Md_tellFax_128 : decode b_Md_tellFax 128 = .ok (.iload 5, 2) := by decide +kernel
theorem d_Md_tellFax_130 : decode b_Md_tellFax 130 = .ok (.istore 6, 2) := by decide +kernel
theorem d_Md_tellFax_132 : decode b_Md_tellFax 132 = .ok (.aload_n 0, 1) := by decide +kernel
theorem d_Md_tellFax_133 : decode b_Md_tellFax 133 = .ok (.iload 6, 2) := by decide +kernel
theorem d_Md_tellFax_135 : decode b_Md_tellFax 135 = .ok (.ifCond .ne 7, 3) := by decide +kernel
theorem d_Md_tellFax_138 : decode b_Md_tellFax 138 = .ok (.iconst 0, 1) := by decide +kernel
theorem d_Md_tellFax_139 : decode b_Md_tellFax 139 = .ok (.goto 17, 3) := by decide +kernel
theorem d_Md_tellFax_142 : decode b_Md_tellFax 142 = .ok (.iload 6, 2) := by decide +kernel
theorem d_Md_tellFax_144 : decode b_Md_tellFax 144 = .ok (.iconst 1, 1) := by decide +kernel
theorem d_Md_tellFax_145 : decode b_Md_tellFax 145 = .ok (.if_icmp .ne 7, 3) := by decide +kernel
theorem d_Md_tellFax_148 : decode b_Md_tellFax 148 = .ok (.iconst 1, 1) := by decide +kernel
theorem d_Md_tellFax_149 : decode b_Md_tellFax 149 = .ok (.goto 7, 3) := by decide +kernel
theorem d_Md_tellFax_152 : decode b_Md_tellFax 152 = .ok (.iload 6, 2) := by decide +kernel
theorem d_Md_tellFax_154 : decode b_Md_tellFax 154 = .ok (.iconst 2, 1) := by decide +kernel
theorem d_Md_tellFax_155 : decode b_Md_tellFax 155 = .ok (.iadd, 1) := by decide +kernel
theorem d_Md_tellFax_156 : decode b_Md_tellFax 156 = .ok (.iload 6, 2) := by decide +kernel
theorem d_Md_tellFax_158 : decode b_Md_tellFax 158 = .ok (.ifCond .ne 7, 3) := by decide +kernel
theorem d_Md_tellFax_161 : decode b_Md_tellFax 161 = .ok (.iconst (-1), 1) := by decide +kernel
theorem d_Md_tellFax_162 : decode b_Md_tellFax 162 = .ok (.goto 13, 3) := by decide +kernel
theorem d_Md_tellFax_165 : decode b_Md_tellFax 165 = .ok (.iload 5, 2) := by decide +kernel
theorem d_Md_tellFax_167 : decode b_Md_tellFax 167 = .ok (.ifCond .le 7, 3) := by decide +kernel
theorem d_Md_tellFax_170 : decode b_Md_tellFax 170 = .ok (.iconst 1, 1) := by decide +kernel
theorem d_Md_tellFax_171 : decode b_Md_tellFax 171 = .ok (.goto 4, 3) := by decide +kernel
theorem d_Md_tellFax_174 : decode b_Md_tellFax 174 = .ok (.iconst 0, 1) := by decide +kernel
theorem d_Md_tellFax_175 : decode b_Md_tellFax 175 = .ok (.iload_n 1, 1) := by decide +kernel
theorem d_Md_tellFax_176 : decode b_Md_tellFax 176 = .ok (.invokevirtual 160, 3) := by decide +kernel
theorem d_Md_tellFax_179 : decode b_Md_tellFax 179 = .ok (.aload_n 0, 1) := by decide +kernel
theorem d_Md_tellFax_180 : decode b_Md_tellFax 180 = .ok (.iload_n 2, 1) := by decide +kernel
theorem d_Md_tellFax_181 : decode b_Md_tellFax 181 = .ok (.putfield 145, 3) := by decide +kernel
theorem d_Md_tellFax_184 : decode b_Md_tellFax 184 = .ok (.aload_n 0, 1) := by decide +kernel
theorem d_Md_tellFax_185 : decode b_Md_tellFax 185 = .ok (.aload_n 0, 1) := by decide +kernel
theorem d_Md_tellFax_186 : decode b_Md_tellFax 186 = .ok (.getfield 148, 3) := by decide +kernel
theorem d_Md_tellFax_189 : decode b_Md_tellFax 189 = .ok (.ifCond .ne 7, 3) := by decide +kernel
