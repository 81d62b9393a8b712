theorem d_Md_isSample_49 : decode b_Md_isSample 49 = .ok (.ireturn, 1) := by decide +kernel
theorem d_Md_put_0 : decode b_Md_put 0 = .ok (.aload_n 0, 1) := by decide +kernel
theorem d_Md_put_1 : decode b_Md_put 1 = .ok (.iload_n 1, 1) := by decide +kernel
theorem d_Md_put_2 : decode b_Md_put 2 = .ok (.iload_n 2, 1) := by decide +kernel
theorem d_Md_put_3 : decode b_Md_put 3 = .ok (.invokevirtual 90, 3) := by decide +kernel
theorem d_Md_put_6 : decode b_Md_put 6 = .ok (.ifCond .ne 5, 3) := by decide +kernel
theorem d_Md_put_9 : decode b_Md_put 9 = .ok (.iconst 0, 1) := by decide +kernel
theorem d_Md_put_10 : decode b_Md_put 10 = .ok (.ireturn, 1) := by decide +kernel
theorem d_Md_put_11 : decode b_Md_put 11 = .ok (.aload_n 0, 1) := by decide +kernel
theorem d_Md_put_12 : decode b_Md_put 12 = .ok (.getfield 28, 3) := by decide +kernel
theorem d_Md_put_15 : decode b_Md_put 15 = .ok (.bipush 24, 2) := by decide +kernel
theorem d_Md_put_17 : decode b_Md_put 17 = .ok (.iload_n 2, 1) := by decide +kernel
theorem d_Md_put_18 : decode b_Md_put 18 = .ok (.imul, 1) := by decide +kernel
theorem d_Md_put_19 : decode b_Md_put 19 = .ok (.iload_n 1, 1) := by decide +kernel
theorem d_Md_put_20 : decode b_Md_put 20 = .ok (.iadd, 1) := by decide +kernel
theorem d_Md_put_21 : decode b_Md_put 21 = .ok (.baload, 1) := by decide +kernel
theorem d_Md_put_22 : decode b_Md_put 22 = .ok (.iload_n 3, 1) := by decide +kernel
theorem d_Md_put_23 : decode b_Md_put 23 = .ok (.if_icmp .eq 7, 3) := by decide +kernel
theorem d_Md_put_26 : decode b_Md_put 26 = .ok (.iconst 1, 1) := by decide +kernel
theorem d_Md_put_27 : decode b_Md_put 27 = .ok (.goto 4, 3) := by decide +kernel
theorem d_Md_put_30 : decode b_Md_put 30 = .ok (.iconst 0, 1) := by decide +kernel
theorem d_Md_put_31 : decode b_Md_put 31 = .ok (.istore 4, 2) := by decide +kernel
theorem d_Md_put_33 : decode b_Md_put 33 = .ok (.aload_n 0, 1) := by decide +kernel
theorem d_Md_put_34 : decode b_Md_put 34 = .ok (.getfield 28, 3) := by decide +kernel
theorem d_Md_put_37 : decode b_Md_put 37 = .ok (.bipush 24, 2) := by decide +kernel
theorem d_Md_put_39 : decode b_Md_put 39 = .ok (.iload_n 2, 1) := by decide +kernel
theorem d_Md_put_40 : decode b_Md_put 40 = .ok (.imul, 1) := by decide +kernel
theorem d_Md_put_41 : decode b_Md_put 41 = .ok (.iload_n 1, 1) := by decide +kernel
theorem d_Md_put_42 : decode b_Md_put 42 = .ok (.iadd, 1) := by decide +kernel
theorem d_Md_put_43 : decode b_Md_put 43 = .ok (.iload_n 3, 1) := by decide +kernel
theorem d_Md_put_44 : decode b_Md_put 44 = .ok (.bastore, 1) := by decide +kernel
theorem d_Md_put_45 : decode b_Md_put 45 = .ok (.iload 4, 2) := by decide +kernel
theorem d_Md_put_47 : decode b_Md_put 47 = .ok (.ireturn, 1) := by decide +kernel
theorem d_Md_row_0 : decode b_Md_row 0 = .ok (.aload_n 0, 1) := by decide +kernel
theorem d_Md_row_1 : decode b_Md_row 1 = .ok (.iload_n 1, 1) := by decide +kernel
theorem d_Md_row_2 : decode b_Md_row 2 = .ok (.iconst 0, 1) := by decide +kernel
theorem d_Md_row_3 : decode b_Md_row 3 = .ok (.aload_n 0, 1) := by decide +kernel
theorem d_Md_row_4 : decode b_Md_row 4 = .ok (.getfield 61, 3) := by decide +kernel
theorem d_Md_row_7 : decode b_Md_row 7 = .ok (.iconst 1, 1) := by decide +kernel
theorem d_Md_row_8 : decode b_Md_row 8 = .ok (.isub, 1) := by decide +kernel
theorem d_Md_row_9 : decode b_Md_row 9 = .ok (.invokestatic 73, 3) := by decide +kernel
theorem d_Md_row_12 : decode b_Md_row 12 = .ok (.ifCond .eq 7, 3) := by decide +kernel
theorem d_Md_row_15 : decode b_Md_row 15 = .ok (.iconst 0, 1) := by decide +kernel
theorem d_Md_row_16 : decode b_Md_row 16 = .ok (.goto 4, 3) := by decide +kernel
theorem d_Md_row_19 : decode b_Md_row 19 = .ok (.iconst 1, 1) := by decide +kernel
theorem d_Md_row_20 : decode b_Md_row 20 = .ok (.putfield 70, 3) := by decide +kernel
theorem d_Md_row_23 : decode b_Md_row 23 = .ok (.iconst 0, 1) := by decide +kernel
theorem d_Md_row_24 : decode b_Md_row 24 = .ok (.istore_n 3, 1) := by decide +kernel
theorem d_Md_row_25 : decode b_Md_row 25 = .ok (.iconst 0, 1) := by decide +kernel
theorem d_Md_row_26 : decode b_Md_row 26 = .ok (.istore 4, 2) := by decide +kernel
theorem d_Md_row_28 : decode b_Md_row 28 = .ok (.iload 4, 2) := by decide +kernel
theorem d_Md_row_30 : decode b_Md_row 30 = .ok (.aload_n 0, 1) := by decide +kernel
theorem d_Md_row_31 : decode b_Md_row 31 = .ok (.getfield 57, 3) := by decide +kernel
theorem d_Md_row_34 : decode b_Md_row 34 = .ok (.if_icmp .ge 52, 3) := by decide +kernel
theorem d_Md_row_37 : decode b_Md_row 37 = .ok (.aload_n 0, 1) := by decide +kernel
theorem d_Md_row_38 : decode b_Md_row 38 = .ok (.getfield 70, 3) := by decide +kernel
theorem d_Md_row_41 : decode b_Md_row 41 = .ok (.ifCond .ne 45, 3) := by decide +kernel
theorem d_Md_row_44 : decode b_Md_row 44 = .ok (.aload_n 0, 1) := by decide +kernel
theorem d_Md_row_45 : decode b_Md_row 45 = .ok (.getfield 28, 3) := by decide +kernel
theorem d_Md_row_48 : decode b_Md_row 48 = .ok (.bipush 24, 2) := by decide +kernel
theorem d_Md_row_50 : decode b_Md_row 50 = .ok (.iload_n 1, 1) := by decide +kernel
theorem d_Md_row_51 : decode b_Md_row 51 = .ok (.imul, 1) := by decide +kernel
theorem d_Md_row_52 : decode b_Md_row 52 = .ok (.iload 4, 2) := by decide +kernel
theorem d_Md_row_54 : decode b_Md_row 54 = .ok (.iadd, 1) := by decide +kernel
theorem d_Md_row_55 : decode b_Md_row 55 = .ok (.iload_n 2, 1) := by decide +kernel
theorem d_Md_row_56 : decode b_Md_row 56 = .ok (.iload 4, 2) := by decide +kernel
theorem d_Md_row_58 : decode b_Md_row 58 = .ok (.ishr, 1) := by decide +kernel
theorem d_Md_row_59 : decode b_Md_row 59 = .ok (.iconst 1, 1) := by decide +kernel
theorem d_Md_row_60 : decode b_Md_row 60 = .ok (.iand, 1) := by decide +kernel
theorem d_Md_row_61 : decode b_Md_row 61 = .ok (.iconst 1, 1) := by decide +kernel
theorem d_Md_row_62 : decode b_Md_row 62 = .ok (.if_icmp .ne 7, 3) := by decide +kernel
theorem d_Md_row_65 : decode b_Md_row 65 = .ok (.iconst 1, 1) := by decide +kernel
theorem d_Md_row_66 : decode b_Md_row 66 = .ok (.goto 4, 3) := by decide +kernel
theorem d_Md_row_69 : decode b_Md_row 69 = .ok (.iconst 0, 1) := by decide +kernel
theorem d_Md_row_70 : decode b_Md_row 70 = .ok (.bastore, 1) := by decide +kernel
theorem d_Md_row_71 : decode b_Md_row 71 = .ok (.iload_n 3, 1) := by decide +kernel
theorem d_Md_row_72 : decode b_Md_row 72 = .ok (.iload_n 2, 1) := by decide +kernel
theorem d_Md_row_73 : decode b_Md_row 73 = .ok (.iload 4, 2) := by decide +kernel
theorem d_Md_row_75 : decode b_Md_row 75 = .ok (.ishr, 1) := by decide +kernel
theorem d_Md_row_76 : decode b_Md_row 76 = .ok (.iconst 1, 1) := by decide +kernel
theorem d_Md_row_77 : decode b_Md_row 77 = .ok (.iand, 1) := by decide +kernel
theorem d_Md_row_78 : decode b_Md_row 78 = .ok (.iadd, 1) := by decide +kernel
theorem d_Md_row_79 : decode b_Md_row 79 = .ok (.istore_n 3, 1) := by decide +kernel
theorem d_Md_row_80 : decode b_Md_row 80 = .ok (.iinc 4 1, 3) := by decide +kernel
theorem d_Md_row_83 : decode b_Md_row 83 = .ok (.goto (-55), 3) := by decide +kernel
theorem d_Md_row_86 : decode b_Md_row 86 = .ok (.iload_n 3, 1) := by decide +kernel
theorem d_Md_row_87 : decode b_Md_row 87 = .ok (.ireturn, 1) := by decide +kernel
theorem d_Md_at_0 : decode b_Md_at 0 = .ok (.aload_n 0, 1) := by decide +kernel
theorem d_Md_at_1 : decode b_Md_at 1 = .ok (.iload_n 1, 1) := by decide +kernel
theorem d_Md_at_2 : decode b_Md_at 2 = .ok (.iload_n 2, 1) := by decide +kernel
theorem d_Md_at_3 : decode b_Md_at 3 = .ok (.invokevirtual 90, 3) := by decide +kernel
theorem d_Md_at_6 : decode b_Md_at 6 = .ok (.ifCond .eq 21, 3) := by decide +kernel
theorem d_Md_at_9 : decode b_Md_at 9 = .ok (.aload_n 0, 1) := by decide +kernel
theorem d_Md_at_10 : decode b_Md_at 10 = .ok (.getfield 28, 3) := by decide +kernel
theorem d_Md_at_13 : decode b_Md_at 13 = .ok (.bipush 24, 2) := by decide +kernel
theorem d_Md_at_15 : decode b_Md_at 15 = .ok (.iload_n 2, 1) := by decide +kernel
theorem d_Md_at_16 : decode b_Md_at 16 = .ok (.imul, 1) := by decide +kernel
theorem d_Md_at_17 : decode b_Md_at 17 = .ok (.iload_n 1, 1) := by decide +kernel
theorem d_Md_at_18 : decode b_Md_at 18 = .ok (.iadd, 1) := by decide +kernel
theorem d_Md_at_19 : decode b_Md_at 19 = .ok (.baload, 1) := by decide +kernel
theorem d_Md_at_20 : decode b_Md_at 20 = .ok (.ifCond .eq 7, 3) := by decide +kernel
theorem d_Md_at_23 : decode b_Md_at 23 = .ok (.iconst 1, 1) := by decide +kernel
theorem d_Md_at_24 : decode b_Md_at 24 = .ok (.goto 4, 3) := by decide +kernel
theorem d_Md_at_27 : decode b_Md_at 27 = .ok (.iconst 0, 1) := by decide +kernel
theorem d_Md_at_28 : decode b_Md_at 28 = .ok (.ireturn, 1) := by decide +kernel
theorem d_Md_skip_0 : decode b_Md_skip 0 = .ok (.aload_n 0, 1) := by decide +kernel
theorem d_Md_skip_1 : decode b_Md_skip 1 = .ok (.iload_n 1, 1) := by decide +kernel
theorem d_Md_skip_2 : decode b_Md_skip 2 = .ok (.iload_n 2, 1) := by decide +kernel
theorem d_Md_skip_3 : decode b_Md_skip 3 = .ok (.invokevirtual 90, 3) := by decide +kernel
theorem d_Md_skip_6 : decode b_Md_skip 6 = .ok (.ifCond .ne 5, 3) := by decide +kernel
theorem d_Md_skip_9 : decode b_Md_skip 9 = .ok (.iconst 0, 1) := by decide +kernel
theorem d_Md_skip_10 : decode b_Md_skip 10 = .ok (.ireturn, 1) := by decide +kernel
theorem d_Md_skip_11 : decode b_Md_skip 11 = .ok (.aload_n 0, 1) := by decide +kernel
theorem d_Md_skip_12 : decode b_Md_skip 12 = .ok (.getfield 32, 3) := by decide +kernel
theorem d_Md_skip_15 : decode b_Md_skip 15 = .ok (.bipush 24, 2) := by decide +kernel
theorem d_Md_skip_17 : decode b_Md_skip 17 = .ok (.iload_n 2, 1) := by decide +kernel
theorem d_Md_skip_18 : decode b_Md_skip 18 = .ok (.imul, 1) := by decide +kernel
theorem d_Md_skip_19 : decode b_Md_skip 19 = .ok (.iload_n 1, 1) := by decide +kernel
theorem d_Md_skip_20 : decode b_Md_skip 20 = .ok (.iadd, 1) := by decide +kernel
theorem d_Md_skip_21 : decode b_Md_skip 21 = .ok (.baload, 1) := by decide +kernel
theorem d_Md_skip_22 : decode b_Md_skip 22 = .ok (.iload_n 3, 1) := by decide +kernel
theorem d_Md_skip_23 : decode b_Md_skip 23 = .ok (.if_icmp .eq 7, 3) := by decide +kernel
theorem d_Md_skip_26 : decode b_Md_skip 26 = .ok (.iconst 1, 1) := by decide +kernel
theorem d_Md_skip_27 : decode b_Md_skip 27 = .ok (.goto 4, 3) := by decide +kernel
theorem d_Md_skip_30 : decode b_Md_skip 30 = .ok (.iconst 0, 1) := by decide +kernel
theorem d_Md_skip_31 : decode b_Md_skip 31 = .ok (.istore 4, 2) := by decide +kernel
theorem d_Md_skip_33 : decode b_Md_skip 33 = .ok (.aload_n 0, 1) := by decide +kernel
theorem d_Md_skip_34 : decode b_Md_skip 34 = .ok (.getfield 32, 3) := by decide +kernel
theorem d_Md_skip_37 : decode b_Md_skip 37 = .ok (.bipush 24, 2) := by decide +kernel
theorem d_Md_skip_39 : decode b_Md_skip 39 = .ok (.iload_n 2, 1) := by decide +kernel
theorem d_Md_skip_40 : decode b_Md_skip 40 = .ok (.imul, 1) := by decide +kernel
theorem d_Md_skip_41 : decode b_Md_skip 41 = .ok (.iload_n 1, 1) := by decide +kernel
theorem d_Md_skip_42 : decode b_Md_skip 42 = .ok (.iadd, 1) := by decide +kernel
theorem d_Md_skip_43 : decode b_Md_skip 43 = .ok (.iload_n 3, 1) := by decide +kernel
theorem d_Md_skip_44 : decode b_Md_skip 44 = .ok (.bastore, 1) := by decide +kernel
theorem d_Md_skip_45 : decode b_Md_skip 45 = .ok (.aload_n 0, 1) := by decide +kernel
theorem d_Md_skip_46 : decode b_Md_skip 46 = .ok (.invokevirtual 94, 3) := by decide +kernel
theorem d_Md_skip_49 : decode b_Md_skip 49 = .ok (.iload 4, 2) := by decide +kernel
theorem d_Md_skip_51 : decode b_Md_skip 51 = .ok (.ireturn, 1) := by decide +kernel
theorem d_Md_looseMany_0 : decode b_Md_looseMany 0 = .ok (.aload_n 0, 1) := by decide +kernel
theorem d_Md_looseMany_1 : decode b_Md_looseMany 1 = .ok (.getfield 64, 3) := by decide +kernel
theorem d_Md_looseMany_4 : decode b_Md_looseMany 4 = .ok (.ifCond .ne 7, 3) := by decide +kernel
theorem d_Md_looseMany_7 : decode b_Md_looseMany 7 = .ok (.iconst 4, 1) := by decide +kernel
theorem d_Md_looseMany_8 : decode b_Md_looseMany 8 = .ok (.goto 4, 3) := by decide +kernel
theorem d_Md_looseMany_11 : decode b_Md_looseMany 11 = .ok (.iconst 1, 1) := by decide +kernel
theorem d_Md_looseMany_12 : decode b_Md_looseMany 12 = .ok (.ireturn, 1) := by decide +kernel
theorem d_Md_looseAt_0 : decode b_Md_looseAt 0 = .ok (.aload_n 0, 1) := by decide +kernel
theorem d_Md_looseAt_1 : decode b_Md_looseAt 1 = .ok (.getfield 64, 3) := by decide +kernel
theorem d_Md_looseAt_4 : decode b_Md_looseAt 4 = .ok (.ifCond .ne 12, 3) := by decide +kernel
theorem d_Md_looseAt_7 : decode b_Md_looseAt 7 = .ok (.aload_n 0, 1) := by decide +kernel
theorem d_Md_looseAt_8 : decode b_Md_looseAt 8 = .ok (.getfield 22, 3) := by decide +kernel
theorem d_Md_looseAt_11 : decode b_Md_looseAt 11 = .ok (.iload_n 1, 1) := by decide +kernel
theorem d_Md_looseAt_12 : decode b_Md_looseAt 12 = .ok (.iaload, 1) := by decide +kernel
theorem d_Md_looseAt_13 : decode b_Md_looseAt 13 = .ok (.goto 28, 3) := by decide +kernel
theorem d_Md_looseAt_16 : decode b_Md_looseAt 16 = .ok (.aload_n 0, 1) := by decide +kernel
theorem d_Md_looseAt_17 : decode b_Md_looseAt 17 = .ok (.getfield 64, 3) := by decide +kernel
theorem d_Md_looseAt_20 : decode b_Md_looseAt 20 = .ok (.iconst 1, 1) := by decide +kernel
theorem d_Md_looseAt_21 : decode b_Md_looseAt 21 = .ok (.if_icmp .ne 7, 3) := by decide +kernel
theorem d_Md_looseAt_24 : decode b_Md_looseAt 24 = .ok (.iconst 3, 1) := by decide +kernel
theorem d_Md_looseAt_25 : decode b_Md_looseAt 25 = .ok (.goto 16, 3) := by decide +kernel
theorem d_Md_looseAt_28 : decode b_Md_looseAt 28 = .ok (.aload_n 0, 1) := by decide +kernel
theorem d_Md_looseAt_29 : decode b_Md_looseAt 29 = .ok (.getfield 64, 3) := by decide +kernel
theorem d_Md_looseAt_32 : decode b_Md_looseAt 32 = .ok (.iconst 2, 1) := by decide +kernel
theorem d_Md_looseAt_33 : decode b_Md_looseAt 33 = .ok (.if_icmp .ne 7, 3) := by decide +kernel
theorem d_Md_looseAt_36 : decode b_Md_looseAt 36 = .ok (.iconst 2, 1) := by decide +kernel
theorem d_Md_looseAt_37 : decode b_Md_looseAt 37 = .ok (.goto 4, 3) := by decide +kernel
theorem d_Md_looseAt_40 : decode b_Md_looseAt 40 = .ok (.iconst 4, 1) := by decide +kernel
theorem d_Md_looseAt_41 : decode b_Md_looseAt 41 = .ok (.ireturn, 1) := by decide +kernel
theorem d_Md_loose_0 : decode b_Md_loose 0 = .ok (.iload_n 2, 1) := by decide +kernel
theorem d_Md_loose_1 : decode b_Md_loose 1 = .ok (.bipush (-8), 2) := by decide +kernel
theorem d_Md_loose_3 : decode b_Md_loose 3 = .ok (.bipush 8, 2) := by decide +kernel
theorem d_Md_loose_5 : decode b_Md_loose 5 = .ok (.invokestatic 73, 3) := by decide +kernel
theorem d_Md_loose_8 : decode b_Md_loose 8 = .ok (.ifCond .eq 25, 3) := by decide +kernel
theorem d_Md_loose_11 : decode b_Md_loose 11 = .ok (.iload_n 3, 1) := by decide +kernel
theorem d_Md_loose_12 : decode b_Md_loose 12 = .ok (.bipush (-8), 2) := by decide +kernel
theorem d_Md_loose_14 : decode b_Md_loose 14 = .ok (.iconst 0, 1) := by decide +kernel
theorem d_Md_loose_15 : decode b_Md_loose 15 = .ok (.invokestatic 73, 3) := by decide +kernel
theorem d_Md_loose_18 : decode b_Md_loose 18 = .ok (.ifCond .eq 15, 3) := by decide +kernel
theorem d_Md_loose_21 : decode b_Md_loose 21 = .ok (.iload_n 3, 1) := by decide +kernel
theorem d_Md_loose_22 : decode b_Md_loose 22 = .ok (.ifCond .lt 7, 3) := by decide +kernel
theorem d_Md_loose_25 : decode b_Md_loose 25 = .ok (.iload_n 2, 1) := by decide +kernel
theorem d_Md_loose_26 : decode b_Md_loose 26 = .ok (.ifCond .ge 7, 3) := by decide +kernel
theorem d_Md_loose_29 : decode b_Md_loose 29 = .ok (.iconst 1, 1) := by decide +kernel
theorem d_Md_loose_30 : decode b_Md_loose 30 = .ok (.goto 4, 3) := by decide +kernel
theorem d_Md_loose_33 : decode b_Md_loose 33 = .ok (.iconst 0, 1) := by decide +kernel
theorem d_Md_loose_34 : decode b_Md_loose 34 = .ok (.istore 4, 2) := by decide +kernel
theorem d_Md_loose_36 : decode b_Md_loose 36 = .ok (.aload_n 0, 1) := by decide +kernel
theorem d_Md_loose_37 : decode b_Md_loose 37 = .ok (.iload_n 1, 1) := by decide +kernel
theorem d_Md_loose_38 : decode b_Md_loose 38 = .ok (.iconst 0, 1) := by decide +kernel
theorem d_Md_loose_39 : decode b_Md_loose 39 = .ok (.aload_n 0, 1) := by decide +kernel
theorem d_Md_loose_40 : decode b_Md_loose 40 = .ok (.invokevirtual 97, 3) := by decide +kernel
theorem d_Md_loose_43 : decode b_Md_loose 43 = .ok (.iconst 1, 1) := by decide +kernel
theorem d_Md_loose_44 : decode b_Md_loose 44 = .ok (.isub, 1) := by decide +kernel
theorem d_Md_loose_45 : decode b_Md_loose 45 = .ok (.invokestatic 73, 3) := by decide +kernel
theorem d_Md_loose_48 : decode b_Md_loose 48 = .ok (.ifCond .ne 7, 3) := by decide +kernel
theorem d_Md_loose_51 : decode b_Md_loose 51 = .ok (.iconst 1, 1) := by decide +kernel
theorem d_Md_loose_52 : decode b_Md_loose 52 = .ok (.goto 13, 3) := by decide +kernel
theorem d_Md_loose_55 : decode b_Md_loose 55 = .ok (.iload 4, 2) := by decide +kernel
theorem d_Md_loose_57 : decode b_Md_loose 57 = .ok (.ifCond .ne 7, 3) := by decide +kernel
theorem d_Md_loose_60 : decode b_Md_loose 60 = .ok (.iconst 2, 1) := by decide +kernel
theorem d_Md_loose_61 : decode b_Md_loose 61 = .ok (.goto 4, 3) := by decide +kernel
theorem d_Md_loose_64 : decode b_Md_loose 64 = .ok (.iconst 0, 1) := by decide +kernel
theorem d_Md_loose_65 : decode b_Md_loose 65 = .ok (.putfield 70, 3) := by decide +kernel
theorem d_Md_loose_68 : decode b_Md_loose 68 = .ok (.aload_n 0, 1) := by decide +kernel
theorem d_Md_loose_69 : decode b_Md_loose 69 = .ok (.getfield 70, 3) := by decide +kernel
theorem d_Md_loose_72 : decode b_Md_loose 72 = .ok (.ifCond .le 5, 3) := by decide +kernel
theorem d_Md_loose_75 : decode b_Md_loose 75 = .ok (.iconst 0, 1) := by decide +kernel
theorem d_Md_loose_76 : decode b_Md_loose 76 = .ok (.ireturn, 1) := by decide +kernel
theorem d_Md_loose_77 : decode b_Md_loose 77 = .ok (.iconst 2, 1) := by decide +kernel
theorem d_Md_loose_78 : decode b_Md_loose 78 = .ok (.aload_n 0, 1) := by decide +kernel
theorem d_Md_loose_79 : decode b_Md_loose 79 = .ok (.iload_n 1, 1) := by decide +kernel
theorem d_Md_loose_80 : decode b_Md_loose 80 = .ok (.invokevirtual 101, 3) := by decide +kernel
theorem d_Md_loose_83 : decode b_Md_loose 83 = .ok (.imul, 1) := by decide +kernel
theorem d_Md_loose_84 : decode b_Md_loose 84 = .ok (.istore 5, 2) := by decide +kernel
theorem d_Md_loose_86 : decode b_Md_loose 86 = .ok (.aload_n 0, 1) := by decide +kernel
theorem d_Md_loose_87 : decode b_Md_loose 87 = .ok (.getfield 25, 3) := by decide +kernel
theorem d_Md_loose_90 : decode b_Md_loose 90 = .ok (.iload 5, 2) := by decide +kernel
theorem d_Md_loose_92 : decode b_Md_loose 92 = .ok (.iaload, 1) := by decide +kernel
theorem d_Md_loose_93 : decode b_Md_loose 93 = .ok (.iload_n 2, 1) := by decide +kernel
theorem d_Md_loose_94 : decode b_Md_loose 94 = .ok (.if_icmp .ne 16, 3) := by decide +kernel
theorem d_Md_loose_97 : decode b_Md_loose 97 = .ok (.aload_n 0, 1) := by decide +kernel
theorem d_Md_loose_98 : decode b_Md_loose 98 = .ok (.getfield 25, 3) := by decide +kernel
theorem d_Md_loose_101 : decode b_Md_loose 101 = .ok (.iload 5, 2) := by decide +kernel
theorem d_Md_loose_103 : decode b_Md_loose 103 = .ok (.iconst 1, 1) := by decide +kernel
theorem d_Md_loose_104 : decode b_Md_loose 104 = .ok (.iadd, 1) := by decide +kernel
theorem d_Md_loose_105 : decode b_Md_loose 105 = .ok (.iaload, 1) := by decide +kernel
theorem d_Md_loose_106 : decode b_Md_loose 106 = .ok (.iload_n 3, 1) := by decide +kernel
theorem d_Md_loose_107 : decode b_Md_loose 107 = .ok (.if_icmp .eq 7, 3) := by decide +kernel
theorem d_Md_loose_110 : decode b_Md_loose 110 = .ok (.iconst 1, 1) := by decide +kernel
theorem d_Md_loose_111 : decode b_Md_loose 111 = .ok (.goto 4, 3) := by decide +kernel
theorem d_Md_loose_114 : decode b_Md_loose 114 = .ok (.iconst 0, 1) := by decide +kernel
theorem d_Md_loose_115 : decode b_Md_loose 115 = .ok (.istore 6, 2) := by decide +kernel
theorem d_Md_loose_117 : decode b_Md_loose 117 = .ok (.aload_n 0, 1) := by decide +kernel
theorem d_Md_loose_118 : decode b_Md_loose 118 = .ok (.getfield 25, 3) := by decide +kernel
theorem d_Md_loose_121 : decode b_Md_loose 121 = .ok (.iload 5, 2) := by decide +kernel
theorem d_Md_loose_123 : decode b_Md_loose 123 = .ok (.iload_n 2, 1) := by decide +kernel
theorem d_Md_loose_124 : decode b_Md_loose 124 = .ok (.iastore, 1) := by decide +kernel
theorem d_Md_loose_125 : decode b_Md_loose 125 = .ok (.aload_n 0, 1) := by decide +kernel
theorem d_Md_loose_126 : decode b_Md_loose 126 = .ok (.getfield 25, 3) := by decide +kernel
theorem d_Md_loose_129 : decode b_Md_loose 129 = .ok (.iload 5, 2) := by decide +kernel
theorem d_Md_loose_131 : decode b_Md_loose 131 = .ok (.iconst 1, 1) := by decide +kernel
theorem d_Md_loose_132 : decode b_Md_loose 132 = .ok (.iadd, 1) := by decide +kernel
theorem d_Md_loose_133 : decode b_Md_loose 133 = .ok (.iload_n 3, 1) := by decide +kernel
theorem d_Md_loose_134 : decode b_Md_loose 134 = .ok (.iastore, 1) := by decide +kernel
theorem d_Md_loose_135 : decode b_Md_loose 135 = .ok (.aload_n 0, 1) := by decide +kernel
theorem d_Md_loose_136 : decode b_Md_loose 136 = .ok (.invokevirtual 94, 3) := by decide +kernel
theorem d_Md_loose_139 : decode b_Md_loose 139 = .ok (.iload 6, 2) := by decide +kernel
theorem d_Md_loose_141 : decode b_Md_loose 141 = .ok (.ireturn, 1) := by decide +kernel
theorem d_Md_way_0 : decode b_Md_way 0 = .ok (.aload_n 0, 1) := by decide +kernel
theorem d_Md_way_1 : decode b_Md_way 1 = .ok (.iload_n 1, 1) := by decide +kernel
theorem d_Md_way_2 : decode b_Md_way 2 = .ok (.iconst 0, 1) := by decide +kernel
theorem d_Md_way_3 : decode b_Md_way 3 = .ok (.iconst 2, 1) := by decide +kernel
theorem d_Md_way_4 : decode b_Md_way 4 = .ok (.invokestatic 73, 3) := by decide +kernel
theorem d_Md_way_7 : decode b_Md_way 7 = .ok (.ifCond .eq 7, 3) := by decide +kernel
theorem d_Md_way_10 : decode b_Md_way 10 = .ok (.iconst 0, 1) := by decide +kernel
theorem d_Md_way_11 : decode b_Md_way 11 = .ok (.goto 4, 3) := by decide +kernel
theorem d_Md_way_14 : decode b_Md_way 14 = .ok (.iconst 1, 1) := by decide +kernel
theorem d_Md_way_15 : decode b_Md_way 15 = .ok (.putfield 70, 3) := by decide +kernel
theorem d_Md_way_18 : decode b_Md_way 18 = .ok (.aload_n 0, 1) := by decide +kernel
theorem d_Md_way_19 : decode b_Md_way 19 = .ok (.getfield 70, 3) := by decide +kernel
theorem d_Md_way_22 : decode b_Md_way 22 = .ok (.ifCond .le 5, 3) := by decide +kernel
theorem d_Md_way_25 : decode b_Md_way 25 = .ok (.iconst 0, 1) := by decide +kernel
theorem d_Md_way_26 : decode b_Md_way 26 = .ok (.ireturn, 1) := by decide +kernel
theorem d_Md_way_27 : decode b_Md_way 27 = .ok (.iload_n 1, 1) := by decide +kernel
theorem d_Md_way_28 : decode b_Md_way 28 = .ok (.ifCond .ne 10, 3) := by decide +kernel
theorem d_Md_way_31 : decode b_Md_way 31 = .ok (.aload_n 0, 1) := by decide +kernel
theorem d_Md_way_32 : decode b_Md_way 32 = .ok (.getfield 105, 3) := by decide +kernel
theorem d_Md_way_35 : decode b_Md_way 35 = .ok (.goto 19, 3) := by decide +kernel
theorem d_Md_way_38 : decode b_Md_way 38 = .ok (.iload_n 1, 1) := by decide +kernel
theorem d_Md_way_39 : decode b_Md_way 39 = .ok (.iconst 1, 1) := by decide +kernel
theorem d_Md_way_40 : decode b_Md_way 40 = .ok (.if_icmp .ne 10, 3) := by decide +kernel
theorem d_Md_way_43 : decode b_Md_way 43 = .ok (.aload_n 0, 1) := by decide +kernel
theorem d_Md_way_44 : decode b_Md_way 44 = .ok (.getfield 108, 3) := by decide +kernel
theorem d_Md_way_47 : decode b_Md_way 47 = .ok (.goto 7, 3) := by decide +kernel
theorem d_Md_way_50 : decode b_Md_way 50 = .ok (.aload_n 0, 1) := by decide +kernel
theorem d_Md_way_51 : decode b_Md_way 51 = .ok (.getfield 111, 3) := by decide +kernel
theorem d_Md_way_54 : decode b_Md_way 54 = .ok (.istore_n 3, 1) := by decide +kernel
theorem d_Md_way_55 : decode b_Md_way 55 = .ok (.aload_n 0, 1) := by decide +kernel
theorem d_Md_way_56 : decode b_Md_way 56 = .ok (.iload_n 1, 1) := by decide +kernel
theorem d_Md_way_57 : decode b_Md_way 57 = .ok (.ifCond .ne 7, 3) := by decide +kernel
theorem d_Md_way_60 : decode b_Md_way 60 = .ok (.iload_n 2, 1) := by decide +kernel
theorem d_Md_way_61 : decode b_Md_way 61 = .ok (.goto 7, 3) := by decide +kernel
theorem d_Md_way_64 : decode b_Md_way 64 = .ok (.aload_n 0, 1) := by decide +kernel
theorem d_Md_way_65 : decode b_Md_way 65 = .ok (.getfield 105, 3) := by decide +kernel
theorem d_Md_way_68 : decode b_Md_way 68 = .ok (.putfield 105, 3) := by decide +kernel
theorem d_Md_way_71 : decode b_Md_way 71 = .ok (.aload_n 0, 1) := by decide +kernel
theorem d_Md_way_72 : decode b_Md_way 72 = .ok (.iload_n 1, 1) := by decide +kernel
theorem d_Md_way_73 : decode b_Md_way 73 = .ok (.iconst 1, 1) := by decide +kernel
theorem d_Md_way_74 : decode b_Md_way 74 = .ok (.if_icmp .ne 7, 3) := by decide +kernel
theorem d_Md_way_77 : decode b_Md_way 77 = .ok (.iload_n 2, 1) := by decide +kernel
theorem d_Md_way_78 : decode b_Md_way 78 = .ok (.goto 7, 3) := by decide +kernel
theorem d_Md_way_81 : decode b_Md_way 81 = .ok (.aload_n 0, 1) := by decide +kernel
theorem d_Md_way_82 : decode b_Md_way 82 = .ok (.getfield 108, 3) := by decide +kernel
theorem d_Md_way_85 : decode b_Md_way 85 = .ok (.putfield 108, 3) := by decide +kernel
theorem d_Md_way_88 : decode b_Md_way 88 = .ok (.aload_n 0, 1) := by decide +kernel
theorem d_Md_way_89 : decode b_Md_way 89 = .ok (.iload_n 1, 1) := by decide +kernel
theorem d_Md_way_90 : decode b_Md_way 90 = .ok (.iconst 2, 1) := by decide +kernel
theorem d_Md_way_91 : decode b_Md_way 91 = .ok (.if_icmp .ne 7, 3) := by decide +kernel
theorem d_Md_way_94 : decode b_Md_way 94 = .ok (.iload_n 2, 1) := by decide +kernel
theorem d_Md_way_95 : decode b_Md_way 95 = .ok (.goto 7, 3) := by decide +kernel
theorem d_Md_way_98 : decode b_Md_way 98 = .ok (.aload_n 0, 1) := by decide +kernel
theorem d_Md_way_99 : decode b_Md_way 99 = .ok (.getfield 111, 3) := by decide +kernel
theorem d_Md_way_102 : decode b_Md_way 102 = .ok (.putfield 111, 3) := by decide +kernel
theorem d_Md_way_105 : decode b_Md_way 105 = .ok (.aload_n 0, 1) := by decide +kernel
theorem d_Md_way_106 : decode b_Md_way 106 = .ok (.invokevirtual 94, 3) := by decide +kernel
theorem d_Md_way_109 : decode b_Md_way 109 = .ok (.iload_n 3, 1) := by decide +kernel
theorem d_Md_way_110 : decode b_Md_way 110 = .ok (.iload_n 2, 1) := by decide +kernel
theorem d_Md_way_111 : decode b_Md_way 111 = .ok (.if_icmp .eq 7, 3) := by decide +kernel
theorem d_Md_way_114 : decode b_Md_way 114 = .ok (.iconst 1, 1) := by decide +kernel
theorem d_Md_way_115 : decode b_Md_way 115 = .ok (.goto 4, 3) := by decide +kernel
theorem d_Md_way_118 : decode b_Md_way 118 = .ok (.iconst 0, 1) := by decide +kernel
theorem d_Md_way_119 : decode b_Md_way 119 = .ok (.ireturn, 1) := by decide +kernel
theorem d_Md_isBlack_0 : decode b_Md_isBlack 0 = .ok (.iload_n 2, 1) := by decide +kernel
theorem d_Md_isBlack_1 : decode b_Md_isBlack 1 = .ok (.iconst 0, 1) := by decide +kernel
theorem d_Md_isBlack_2 : decode b_Md_isBlack 2 = .ok (.aload_n 0, 1) := by decide +kernel
theorem d_Md_isBlack_3 : decode b_Md_isBlack 3 = .ok (.getfield 57, 3) := by decide +kernel
theorem d_Md_isBlack_6 : decode b_Md_isBlack 6 = .ok (.iconst 1, 1) := by decide +kernel
theorem d_Md_isBlack_7 : decode b_Md_isBlack 7 = .ok (.isub, 1) := by decide +kernel
theorem d_Md_isBlack_8 : decode b_Md_isBlack 8 = .ok (.invokestatic 73, 3) := by decide +kernel
theorem d_Md_isBlack_11 : decode b_Md_isBlack 11 = .ok (.ifCond .eq 22, 3) := by decide +kernel
theorem d_Md_isBlack_14 : decode b_Md_isBlack 14 = .ok (.iload_n 3, 1) := by decide +kernel
theorem d_Md_isBlack_15 : decode b_Md_isBlack 15 = .ok (.ifCond .lt 18, 3) := by decide +kernel
theorem d_Md_isBlack_18 : decode b_Md_isBlack 18 = .ok (.aload_n 1, 1) := by decide +kernel
theorem d_Md_isBlack_19 : decode b_Md_isBlack 19 = .ok (.bipush 24, 2) := by decide +kernel
theorem d_Md_isBlack_21 : decode b_Md_isBlack 21 = .ok (.iload_n 3, 1) := by decide +kernel
theorem d_Md_isBlack_22 : decode b_Md_isBlack 22 = .ok (.imul, 1) := by decide +kernel
theorem d_Md_isBlack_23 : decode b_Md_isBlack 23 = .ok (.iload_n 2, 1) := by decide +kernel
theorem d_Md_isBlack_24 : decode b_Md_isBlack 24 = .ok (.iadd, 1) := by decide +kernel
theorem d_Md_isBlack_25 : decode b_Md_isBlack 25 = .ok (.baload, 1) := by decide +kernel
theorem d_Md_isBlack_26 : decode b_Md_isBlack 26 = .ok (.ifCond .eq 7, 3) := by decide +kernel
theorem d_Md_isBlack_29 : decode b_Md_isBlack 29 = .ok (.iconst 1, 1) := by decide +kernel
theorem d_Md_isBlack_30 : decode b_Md_isBlack 30 = .ok (.goto 4, 3) := by decide +kernel
theorem d_Md_isBlack_33 : decode b_Md_isBlack 33 = .ok (.iconst 0, 1) := by decide +kernel
theorem d_Md_isBlack_34 : decode b_Md_isBlack 34 = .ok (.ireturn, 1) := by decide +kernel
theorem d_Md_contextOf_0 : decode b_Md_contextOf 0 = .ok (.iconst 0, 1) := by decide +kernel
theorem d_Md_contextOf_1 : decode b_Md_contextOf 1 = .ok (.istore 4, 2) := by decide +kernel
theorem d_Md_contextOf_3 : decode b_Md_contextOf 3 = .ok (.iconst 1, 1) := by decide +kernel
theorem d_Md_contextOf_4 : decode b_Md_contextOf 4 = .ok (.istore 5, 2) := by decide +kernel
theorem d_Md_contextOf_6 : decode b_Md_contextOf 6 = .ok (.iconst 0, 1) := by decide +kernel
theorem d_Md_contextOf_7 : decode b_Md_contextOf 7 = .ok (.istore 6, 2) := by decide +kernel
theorem d_Md_contextOf_9 : decode b_Md_contextOf 9 = .ok (.iload 6, 2) := by decide +kernel
theorem d_Md_contextOf_11 : decode b_Md_contextOf 11 = .ok (.aload_n 0, 1) := by decide +kernel
theorem d_Md_contextOf_12 : decode b_Md_contextOf 12 = .ok (.getfield 114, 3) := by decide +kernel
theorem d_Md_contextOf_15 : decode b_Md_contextOf 15 = .ok (.if_icmp .ge 58, 3) := by decide +kernel
theorem d_Md_contextOf_18 : decode b_Md_contextOf 18 = .ok (.iload 4, 2) := by decide +kernel
theorem d_Md_contextOf_20 : decode b_Md_contextOf 20 = .ok (.aload_n 0, 1) := by decide +kernel
theorem d_Md_contextOf_21 : decode b_Md_contextOf 21 = .ok (.aload_n 1, 1) := by decide +kernel
theorem d_Md_contextOf_22 : decode b_Md_contextOf 22 = .ok (.iload_n 2, 1) := by decide +kernel
theorem d_Md_contextOf_23 : decode b_Md_contextOf 23 = .ok (.aload_n 0, 1) := by decide +kernel
theorem d_Md_contextOf_24 : decode b_Md_contextOf 24 = .ok (.getfield 25, 3) := by decide +kernel
theorem d_Md_contextOf_27 : decode b_Md_contextOf 27 = .ok (.iconst 2, 1) := by decide +kernel
theorem d_Md_contextOf_28 : decode b_Md_contextOf 28 = .ok (.iload 6, 2) := by decide +kernel
theorem d_Md_contextOf_30 : decode b_Md_contextOf 30 = .ok (.imul, 1) := by decide +kernel
theorem d_Md_contextOf_31 : decode b_Md_contextOf 31 = .ok (.iaload, 1) := by decide +kernel
theorem d_Md_contextOf_32 : decode b_Md_contextOf 32 = .ok (.iadd, 1) := by decide +kernel
theorem d_Md_contextOf_33 : decode b_Md_contextOf 33 = .ok (.iload_n 3, 1) := by decide +kernel
theorem d_Md_contextOf_34 : decode b_Md_contextOf 34 = .ok (.aload_n 0, 1) := by decide +kernel
theorem d_Md_contextOf_35 : decode b_Md_contextOf 35 = .ok (.getfield 25, 3) := by decide +kernel
theorem d_Md_contextOf_38 : decode b_Md_contextOf 38 = .ok (.iconst 2, 1) := by decide +kernel
theorem d_Md_contextOf_39 : decode b_Md_contextOf 39 = .ok (.iload 6, 2) := by decide +kernel
theorem d_Md_contextOf_41 : decode b_Md_contextOf 41 = .ok (.imul, 1) := by decide +kernel
theorem d_Md_contextOf_42 : decode b_Md_contextOf 42 = .ok (.iconst 1, 1) := by decide +kernel
theorem d_Md_contextOf_43 : decode b_Md_contextOf 43 = .ok (.iadd, 1) := by decide +kernel
theorem d_Md_contextOf_44 : decode b_Md_contextOf 44 = .ok (.iaload, 1) := by decide +kernel
theorem d_Md_contextOf_45 : decode b_Md_contextOf 45 = .ok (.iadd, 1) := by decide +kernel
theorem d_Md_contextOf_46 : decode b_Md_contextOf 46 = .ok (.invokevirtual 117, 3) := by decide +kernel
theorem d_Md_contextOf_49 : decode b_Md_contextOf 49 = .ok (.ifCond .eq 8, 3) := by decide +kernel
theorem d_Md_contextOf_52 : decode b_Md_contextOf 52 = .ok (.iload 5, 2) := by decide +kernel
theorem d_Md_contextOf_54 : decode b_Md_contextOf 54 = .ok (.goto 4, 3) := by decide +kernel
theorem d_Md_contextOf_57 : decode b_Md_contextOf 57 = .ok (.iconst 0, 1) := by decide +kernel
theorem d_Md_contextOf_58 : decode b_Md_contextOf 58 = .ok (.iadd, 1) := by decide +kernel
theorem d_Md_contextOf_59 : decode b_Md_contextOf 59 = .ok (.istore 4, 2) := by decide +kernel
theorem d_Md_contextOf_61 : decode b_Md_contextOf 61 = .ok (.iconst 2, 1) := by decide +kernel
theorem d_Md_contextOf_62 : decode b_Md_contextOf 62 = .ok (.iload 5, 2) := by decide +kernel
theorem d_Md_contextOf_64 : decode b_Md_contextOf 64 = .ok (.imul, 1) := by decide +kernel
theorem d_Md_contextOf_65 : decode b_Md_contextOf 65 = .ok (.istore 5, 2) := by decide +kernel
theorem d_Md_contextOf_67 : decode b_Md_contextOf 67 = .ok (.iinc 6 1, 3) := by decide +kernel
theorem d_Md_contextOf_70 : decode b_Md_contextOf 70 = .ok (.goto (-61), 3) := by decide +kernel
theorem d_Md_contextOf_73 : decode b_Md_contextOf 73 = .ok (.iload 4, 2) := by decide +kernel
theorem d_Md_contextOf_75 : decode b_Md_contextOf 75 = .ok (.ireturn, 1) := by decide +kernel
theorem d_Md_layKnown_0 : decode b_Md_layKnown 0 = .ok (.iconst 0, 1) := by decide +kernel
theorem d_Md_layKnown_1 : decode b_Md_layKnown 1 = .ok (.istore_n 1, 1) := by decide +kernel
theorem d_Md_layKnown_2 : decode b_Md_layKnown 2 = .ok (.iload_n 1, 1) := by decide +kernel
theorem d_Md_layKnown_3 : decode b_Md_layKnown 3 = .ok (.sipush 576, 3) := by decide +kernel
theorem d_Md_layKnown_6 : decode b_Md_layKnown 6 = .ok (.if_icmp .ge 45, 3) := by decide +kernel
theorem d_Md_layKnown_9 : decode b_Md_layKnown 9 = .ok (.aload_n 0, 1) := by decide +kernel
theorem d_Md_layKnown_10 : decode b_Md_layKnown 10 = .ok (.getfield 35, 3) := by decide +kernel
theorem d_Md_layKnown_13 : decode b_Md_layKnown 13 = .ok (.iload_n 1, 1) := by decide +kernel
theorem d_Md_layKnown_14 : decode b_Md_layKnown 14 = .ok (.aload_n 0, 1) := by decide +kernel
theorem d_Md_layKnown_15 : decode b_Md_layKnown 15 = .ok (.getfield 28, 3) := by decide +kernel
theorem d_Md_layKnown_18 : decode b_Md_layKnown 18 = .ok (.iload_n 1, 1) := by decide +kernel
theorem d_Md_layKnown_19 : decode b_Md_layKnown 19 = .ok (.baload, 1) := by decide +kernel
theorem d_Md_layKnown_20 : decode b_Md_layKnown 20 = .ok (.ifCond .eq 23, 3) := by decide +kernel
theorem d_Md_layKnown_23 : decode b_Md_layKnown 23 = .ok (.aload_n 0, 1) := by decide +kernel
theorem d_Md_layKnown_24 : decode b_Md_layKnown 24 = .ok (.getfield 108, 3) := by decide +kernel
theorem d_Md_layKnown_27 : decode b_Md_layKnown 27 = .ok (.ifCond .ne 12, 3) := by decide +kernel
theorem d_Md_layKnown_30 : decode b_Md_layKnown 30 = .ok (.aload_n 0, 1) := by decide +kernel
theorem d_Md_layKnown_31 : decode b_Md_layKnown 31 = .ok (.getfield 32, 3) := by decide +kernel
theorem d_Md_layKnown_34 : decode b_Md_layKnown 34 = .ok (.iload_n 1, 1) := by decide +kernel
theorem d_Md_layKnown_35 : decode b_Md_layKnown 35 = .ok (.baload, 1) := by decide +kernel
theorem d_Md_layKnown_36 : decode b_Md_layKnown 36 = .ok (.ifCond .ne 7, 3) := by decide +kernel
theorem d_Md_layKnown_39 : decode b_Md_layKnown 39 = .ok (.iconst 1, 1) := by decide +kernel
theorem d_Md_layKnown_40 : decode b_Md_layKnown 40 = .ok (.goto 4, 3) := by decide +kernel
theorem d_Md_layKnown_43 : decode b_Md_layKnown 43 = .ok (.iconst 0, 1) := by decide +kernel
theorem d_Md_layKnown_44 : decode b_Md_layKnown 44 = .ok (.bastore, 1) := by decide +kernel
theorem d_Md_layKnown_45 : decode b_Md_layKnown 45 = .ok (.iinc 1 1, 3) := by decide +kernel
theorem d_Md_layKnown_48 : decode b_Md_layKnown 48 = .ok (.goto (-46), 3) := by decide +kernel
theorem d_Md_layKnown_51 : decode b_Md_layKnown 51 = .ok (.return_, 1) := by decide +kernel
theorem d_Md_context_0 : decode b_Md_context 0 = .ok (.aload_n 0, 1) := by decide +kernel
theorem d_Md_context_1 : decode b_Md_context 1 = .ok (.iload_n 1, 1) := by decide +kernel
theorem d_Md_context_2 : decode b_Md_context 2 = .ok (.iload_n 2, 1) := by decide +kernel
theorem d_Md_context_3 : decode b_Md_context 3 = .ok (.invokevirtual 90, 3) := by decide +kernel
theorem d_Md_context_6 : decode b_Md_context 6 = .ok (.ifCond .ne 5, 3) := by decide +kernel
theorem d_Md_context_9 : decode b_Md_context 9 = .ok (.iconst 0, 1) := by decide +kernel
theorem d_Md_context_10 : decode b_Md_context 10 = .ok (.ireturn, 1) := by decide +kernel
theorem d_Md_context_11 : decode b_Md_context 11 = .ok (.aload_n 0, 1) := by decide +kernel
theorem d_Md_context_12 : decode b_Md_context 12 = .ok (.invokevirtual 121, 3) := by decide +kernel
theorem d_Md_context_15 : decode b_Md_context 15 = .ok (.aload_n 0, 1) := by decide +kernel
theorem d_Md_context_16 : decode b_Md_context 16 = .ok (.aload_n 0, 1) := by decide +kernel
theorem d_Md_context_17 : decode b_Md_context 17 = .ok (.getfield 35, 3) := by decide +kernel
theorem d_Md_context_20 : decode b_Md_context 20 = .ok (.iload_n 1, 1) := by decide +kernel
theorem d_Md_context_21 : decode b_Md_context 21 = .ok (.iload_n 2, 1) := by decide +kernel
theorem d_Md_context_22 : decode b_Md_context 22 = .ok (.invokevirtual 124, 3) := by decide +kernel
theorem d_Md_context_25 : decode b_Md_context 25 = .ok (.ireturn, 1) := by decide +kernel
theorem d_Md_typicalContext_0 : decode b_Md_typicalContext 0 = .ok (.aload_n 0, 1) := by decide +kernel
theorem d_Md_typicalContext_1 : decode b_Md_typicalContext 1 = .ok (.getfield 64, 3) := by decide +kernel
theorem d_Md_typicalContext_4 : decode b_Md_typicalContext 4 = .ok (.ifCond .ne 8, 3) := by decide +kernel
theorem d_Md_typicalContext_7 : decode b_Md_typicalContext 7 = .ok (.ldc 128, 2) := by decide +kernel
theorem d_Md_typicalContext_9 : decode b_Md_typicalContext 9 = .ok (.goto 34, 3) := by decide +kernel
theorem d_Md_typicalContext_12 : decode b_Md_typicalContext 12 = .ok (.aload_n 0, 1) := by decide +kernel
theorem d_Md_typicalContext_13 : decode b_Md_typicalContext 13 = .ok (.getfield 64, 3) := by decide +kernel
theorem d_Md_typicalContext_16 : decode b_Md_typicalContext 16 = .ok (.iconst 1, 1) := by decide +kernel
theorem d_Md_typicalContext_17 : decode b_Md_typicalContext 17 = .ok (.if_icmp .ne 9, 3) := by decide +kernel
theorem d_Md_typicalContext_20 : decode b_Md_typicalContext 20 = .ok (.sipush 1941, 3) := by decide +kernel
theorem d_Md_typicalContext_23 : decode b_Md_typicalContext 23 = .ok (.goto 20, 3) := by decide +kernel
theorem d_Md_typicalContext_26 : decode b_Md_typicalContext 26 = .ok (.aload_n 0, 1) := by decide +kernel
theorem d_Md_typicalContext_27 : decode b_Md_typicalContext 27 = .ok (.getfield 64, 3) := by decide +kernel
theorem d_Md_typicalContext_30 : decode b_Md_typicalContext 30 = .ok (.iconst 2, 1) := by decide +kernel
theorem d_Md_typicalContext_31 : decode b_Md_typicalContext 31 = .ok (.if_icmp .ne 9, 3) := by decide +kernel
theorem d_Md_typicalContext_34 : decode b_Md_typicalContext 34 = .ok (.sipush 229, 3) := by decide +kernel
theorem d_Md_typicalContext_37 : decode b_Md_typicalContext 37 = .ok (.goto 6, 3) := by decide +kernel
theorem d_Md_typicalContext_40 : decode b_Md_typicalContext 40 = .ok (.sipush 405, 3) := by decide +kernel
theorem d_Md_typicalContext_43 : decode b_Md_typicalContext 43 = .ok (.ireturn, 1) := by decide +kernel
theorem d_Md_tellBit_0 : decode b_Md_tellBit 0 = .ok (.aload_n 0, 1) := by decide +kernel
theorem d_Md_tellBit_1 : decode b_Md_tellBit 1 = .ok (.getfield 38, 3) := by decide +kernel
theorem d_Md_tellBit_4 : decode b_Md_tellBit 4 = .ok (.aload_n 0, 1) := by decide +kernel
theorem d_Md_tellBit_5 : decode b_Md_tellBit 5 = .ok (.getfield 129, 3) := by decide +kernel
theorem d_Md_tellBit_8 : decode b_Md_tellBit 8 = .ok (.iload_n 1, 1) := by decide +kernel
theorem d_Md_tellBit_9 : decode b_Md_tellBit 9 = .ok (.iastore, 1) := by decide +kernel
theorem d_Md_tellBit_10 : decode b_Md_tellBit 10 = .ok (.aload_n 0, 1) := by decide +kernel
theorem d_Md_tellBit_11 : decode b_Md_tellBit 11 = .ok (.getfield 41, 3) := by decide +kernel
theorem d_Md_tellBit_14 : decode b_Md_tellBit 14 = .ok (.aload_n 0, 1) := by decide +kernel
theorem d_Md_tellBit_15 : decode b_Md_tellBit 15 = .ok (.getfield 129, 3) := by decide +kernel
theorem d_Md_tellBit_18 : decode b_Md_tellBit 18 = .ok (.iload_n 2, 1) := by decide +kernel
theorem d_Md_tellBit_19 : decode b_Md_tellBit 19 = .ok (.iastore, 1) := by decide +kernel
theorem d_Md_tellBit_20 : decode b_Md_tellBit 20 = .ok (.aload_n 0, 1) := by decide +kernel
theorem d_Md_tellBit_21 : decode b_Md_tellBit 21 = .ok (.getfield 44, 3) := by decide +kernel
theorem d_Md_tellBit_24 : decode b_Md_tellBit 24 = .ok (.aload_n 0, 1) := by decide +kernel
theorem d_Md_tellBit_25 : decode b_Md_tellBit 25 = .ok (.getfield 129, 3) := by decide +kernel
theorem d_Md_tellBit_28 : decode b_Md_tellBit 28 = .ok (.iload_n 3, 1) := by decide +kernel
theorem d_Md_tellBit_29 : decode b_Md_tellBit 29 = .ok (.iastore, 1) := by decide +kernel
theorem d_Md_tellBit_30 : decode b_Md_tellBit 30 = .ok (.aload_n 0, 1) := by decide +kernel
theorem d_Md_tellBit_31 : decode b_Md_tellBit 31 = .ok (.dup, 1) := by decide +kernel
theorem d_Md_tellBit_32 : decode b_Md_tellBit 32 = .ok (.getfield 129, 3) := by decide +kernel
theorem d_Md_tellBit_35 : decode b_Md_tellBit 35 = .ok (.iconst 1, 1) := by decide +kernel
theorem d_Md_tellBit_36 : decode b_Md_tellBit 36 = .ok (.iadd, 1) := by decide +kernel
theorem d_Md_tellBit_37 : decode b_Md_tellBit 37 = .ok (.putfield 129, 3) := by decide +kernel
theorem d_Md_tellBit_40 : decode b_Md_tellBit 40 = .ok (.return_, 1) := by decide +kernel
theorem d_Md_tellContexts_0 : decode b_Md_tellContexts 0 = .ok (.aload_n 0, 1) := by decide +kernel
theorem d_Md_tellContexts_1 : decode b_Md_tellContexts 1 = .ok (.getfield 105, 3) := by decide +kernel
theorem d_Md_tellContexts_4 : decode b_Md_tellContexts 4 = .ok (.ifCond .eq 99, 3) := by decide +kernel
theorem d_Md_tellContexts_7 : decode b_Md_tellContexts 7 = .ok (.iconst 1, 1) := by decide +kernel
theorem d_Md_tellContexts_8 : decode b_Md_tellContexts 8 = .ok (.istore_n 2, 1) := by decide +kernel
theorem d_Md_tellContexts_9 : decode b_Md_tellContexts 9 = .ok (.iconst 0, 1) := by decide +kernel
theorem d_Md_tellContexts_10 : decode b_Md_tellContexts 10 = .ok (.istore_n 3, 1) := by decide +kernel
theorem d_Md_tellContexts_11 : decode b_Md_tellContexts 11 = .ok (.iload_n 3, 1) := by decide +kernel
theorem d_Md_tellContexts_12 : decode b_Md_tellContexts 12 = .ok (.aload_n 0, 1) := by decide +kernel
theorem d_Md_tellContexts_13 : decode b_Md_tellContexts 13 = .ok (.getfield 57, 3) := by decide +kernel
theorem d_Md_tellContexts_16 : decode b_Md_tellContexts 16 = .ok (.if_icmp .ge 45, 3) := by decide +kernel
theorem d_Md_tellContexts_19 : decode b_Md_tellContexts 19 = .ok (.iload_n 2, 1) := by decide +kernel
theorem d_Md_tellContexts_20 : decode b_Md_tellContexts 20 = .ok (.ifCond .eq 33, 3) := by decide +kernel
theorem d_Md_tellContexts_23 : decode b_Md_tellContexts 23 = .ok (.aload_n 0, 1) := by decide +kernel
theorem d_Md_tellContexts_24 : decode b_Md_tellContexts 24 = .ok (.getfield 35, 3) := by decide +kernel
theorem d_Md_tellContexts_27 : decode b_Md_tellContexts 27 = .ok (.bipush 24, 2) := by decide +kernel
theorem d_Md_tellContexts_29 : decode b_Md_tellContexts 29 = .ok (.iload_n 1, 1) := by decide +kernel
theorem d_Md_tellContexts_30 : decode b_Md_tellContexts 30 = .ok (.imul, 1) := by decide +kernel
theorem d_Md_tellContexts_31 : decode b_Md_tellContexts 31 = .ok (.iload_n 3, 1) := by decide +kernel
theorem d_Md_tellContexts_32 : decode b_Md_tellContexts 32 = .ok (.iadd, 1) := by decide +kernel
theorem d_Md_tellContexts_33 : decode b_Md_tellContexts 33 = .ok (.baload, 1) := by decide +kernel
theorem d_Md_tellContexts_34 : decode b_Md_tellContexts 34 = .ok (.aload_n 0, 1) := by decide +kernel
theorem d_Md_tellContexts_35 : decode b_Md_tellContexts 35 = .ok (.aload_n 0, 1) := by decide +kernel
theorem d_Md_tellContexts_36 : decode b_Md_tellContexts 36 = .ok (.getfield 35, 3) := by decide +kernel
theorem d_Md_tellContexts_39 : decode b_Md_tellContexts 39 = .ok (.iload_n 3, 1) := by decide +kernel
theorem d_Md_tellContexts_40 : decode b_Md_tellContexts 40 = .ok (.iload_n 1, 1) := by decide +kernel
theorem d_Md_tellContexts_41 : decode b_Md_tellContexts 41 = .ok (.iconst 1, 1) := by decide +kernel
theorem d_Md_tellContexts_42 : decode b_Md_tellContexts 42 = .ok (.isub, 1) := by decide +kernel
theorem d_Md_tellContexts_43 : decode b_Md_tellContexts 43 = .ok (.invokevirtual 117, 3) := by decide +kernel
theorem d_Md_tellContexts_46 : decode b_Md_tellContexts 46 = .ok (.if_icmp .ne 7, 3) := by decide +kernel
theorem d_Md_tellContexts_49 : decode b_Md_tellContexts 49 = .ok (.iconst 1, 1) := by decide +kernel
theorem d_Md_tellContexts_50 : decode b_Md_tellContexts 50 = .ok (.goto 4, 3) := by decide +kernel
