theorem d_Plane_mask_0 : decode b_Plane_mask 0 = .ok (.iload_n 1, 1) := by decide +kernel
theorem d_Plane_mask_1 : decode b_Plane_mask 1 = .ok (.ifCond .lt 21, 3) := by decide +kernel
theorem d_Plane_mask_4 : decode b_Plane_mask 4 = .ok (.iload_n 1, 1) := by decide +kernel
theorem d_Plane_mask_5 : decode b_Plane_mask 5 = .ok (.aload_n 0, 1) := by decide +kernel
theorem d_Plane_mask_6 : decode b_Plane_mask 6 = .ok (.getfield 19, 3) := by decide +kernel
theorem d_Plane_mask_9 : decode b_Plane_mask 9 = .ok (.arraylength, 1) := by decide +kernel
theorem d_Plane_mask_10 : decode b_Plane_mask 10 = .ok (.if_icmp .ge 12, 3) := by decide +kernel
theorem d_Plane_mask_13 : decode b_Plane_mask 13 = .ok (.aload_n 0, 1) := by decide +kernel
theorem d_Plane_mask_14 : decode b_Plane_mask 14 = .ok (.getfield 19, 3) := by decide +kernel
theorem d_Plane_mask_17 : decode b_Plane_mask 17 = .ok (.iload_n 1, 1) := by decide +kernel
theorem d_Plane_mask_18 : decode b_Plane_mask 18 = .ok (.iaload, 1) := by decide +kernel
theorem d_Plane_mask_19 : decode b_Plane_mask 19 = .ok (.goto 4, 3) := by decide +kernel
theorem d_Plane_mask_22 : decode b_Plane_mask 22 = .ok (.iconst 0, 1) := by decide +kernel
theorem d_Plane_mask_23 : decode b_Plane_mask 23 = .ok (.ireturn, 1) := by decide +kernel
theorem d_Plane_has_0 : decode b_Plane_has 0 = .ok (.iload_n 1, 1) := by decide +kernel
theorem d_Plane_has_1 : decode b_Plane_has 1 = .ok (.ifCond .lt 27, 3) := by decide +kernel
theorem d_Plane_has_4 : decode b_Plane_has 4 = .ok (.iload_n 1, 1) := by decide +kernel
theorem d_Plane_has_5 : decode b_Plane_has 5 = .ok (.aload_n 0, 1) := by decide +kernel
theorem d_Plane_has_6 : decode b_Plane_has 6 = .ok (.getfield 7, 3) := by decide +kernel
theorem d_Plane_has_9 : decode b_Plane_has 9 = .ok (.if_icmp .ge 19, 3) := by decide +kernel
theorem d_Plane_has_12 : decode b_Plane_has 12 = .ok (.aload_n 0, 1) := by decide +kernel
theorem d_Plane_has_13 : decode b_Plane_has 13 = .ok (.iload_n 2, 1) := by decide +kernel
theorem d_Plane_has_14 : decode b_Plane_has 14 = .ok (.invokevirtual 23, 3) := by decide +kernel
theorem d_Plane_has_17 : decode b_Plane_has 17 = .ok (.iload_n 1, 1) := by decide +kernel
theorem d_Plane_has_18 : decode b_Plane_has 18 = .ok (.iushr, 1) := by decide +kernel
theorem d_Plane_has_19 : decode b_Plane_has 19 = .ok (.iconst 1, 1) := by decide +kernel
theorem d_Plane_has_20 : decode b_Plane_has 20 = .ok (.iand, 1) := by decide +kernel
theorem d_Plane_has_21 : decode b_Plane_has 21 = .ok (.ifCond .eq 7, 3) := by decide +kernel
theorem d_Plane_has_24 : decode b_Plane_has 24 = .ok (.iconst 1, 1) := by decide +kernel
theorem d_Plane_has_25 : decode b_Plane_has 25 = .ok (.goto 4, 3) := by decide +kernel
theorem d_Plane_has_28 : decode b_Plane_has 28 = .ok (.iconst 0, 1) := by decide +kernel
theorem d_Plane_has_29 : decode b_Plane_has 29 = .ok (.ireturn, 1) := by decide +kernel
theorem d_Plane_width_0 : decode b_Plane_width 0 = .ok (.aload_n 0, 1) := by decide +kernel
theorem d_Plane_width_1 : decode b_Plane_width 1 = .ok (.getfield 7, 3) := by decide +kernel
theorem d_Plane_width_4 : decode b_Plane_width 4 = .ok (.ireturn, 1) := by decide +kernel
theorem d_Plane_height_0 : decode b_Plane_height 0 = .ok (.aload_n 0, 1) := by decide +kernel
theorem d_Plane_height_1 : decode b_Plane_height 1 = .ok (.getfield 19, 3) := by decide +kernel
theorem d_Plane_height_4 : decode b_Plane_height 4 = .ok (.arraylength, 1) := by decide +kernel
theorem d_Plane_height_5 : decode b_Plane_height 5 = .ok (.ireturn, 1) := by decide +kernel
theorem d_Plane_setMask_0 : decode b_Plane_setMask 0 = .ok (.iload_n 1, 1) := by decide +kernel
theorem d_Plane_setMask_1 : decode b_Plane_setMask 1 = .ok (.ifCond .lt 28, 3) := by decide +kernel
theorem d_Plane_setMask_4 : decode b_Plane_setMask 4 = .ok (.iload_n 1, 1) := by decide +kernel
theorem d_Plane_setMask_5 : decode b_Plane_setMask 5 = .ok (.aload_n 0, 1) := by decide +kernel
theorem d_Plane_setMask_6 : decode b_Plane_setMask 6 = .ok (.getfield 19, 3) := by decide +kernel
theorem d_Plane_setMask_9 : decode b_Plane_setMask 9 = .ok (.arraylength, 1) := by decide +kernel
theorem d_Plane_setMask_10 : decode b_Plane_setMask 10 = .ok (.if_icmp .ge 19, 3) := by decide +kernel
theorem d_Plane_setMask_13 : decode b_Plane_setMask 13 = .ok (.aload_n 0, 1) := by decide +kernel
theorem d_Plane_setMask_14 : decode b_Plane_setMask 14 = .ok (.getfield 19, 3) := by decide +kernel
theorem d_Plane_setMask_17 : decode b_Plane_setMask 17 = .ok (.iload_n 1, 1) := by decide +kernel
theorem d_Plane_setMask_18 : decode b_Plane_setMask 18 = .ok (.iload_n 2, 1) := by decide +kernel
theorem d_Plane_setMask_19 : decode b_Plane_setMask 19 = .ok (.iconst 1, 1) := by decide +kernel
theorem d_Plane_setMask_20 : decode b_Plane_setMask 20 = .ok (.aload_n 0, 1) := by decide +kernel
theorem d_Plane_setMask_21 : decode b_Plane_setMask 21 = .ok (.getfield 7, 3) := by decide +kernel
theorem d_Plane_setMask_24 : decode b_Plane_setMask 24 = .ok (.ishl, 1) := by decide +kernel
theorem d_Plane_setMask_25 : decode b_Plane_setMask 25 = .ok (.iconst 1, 1) := by decide +kernel
theorem d_Plane_setMask_26 : decode b_Plane_setMask 26 = .ok (.isub, 1) := by decide +kernel
theorem d_Plane_setMask_27 : decode b_Plane_setMask 27 = .ok (.iand, 1) := by decide +kernel
theorem d_Plane_setMask_28 : decode b_Plane_setMask 28 = .ok (.iastore, 1) := by decide +kernel
theorem d_Plane_setMask_29 : decode b_Plane_setMask 29 = .ok (.return_, 1) := by decide +kernel
theorem d_Plane_change_0 : decode b_Plane_change 0 = .ok (.aload_n 0, 1) := by decide +kernel
theorem d_Plane_change_1 : decode b_Plane_change 1 = .ok (.iload_n 1, 1) := by decide +kernel
theorem d_Plane_change_2 : decode b_Plane_change 2 = .ok (.iload_n 2, 1) := by decide +kernel
theorem d_Plane_change_3 : decode b_Plane_change 3 = .ok (.invokevirtual 27, 3) := by decide +kernel
theorem d_Plane_change_6 : decode b_Plane_change 6 = .ok (.iload_n 3, 1) := by decide +kernel
theorem d_Plane_change_7 : decode b_Plane_change 7 = .ok (.if_icmp .eq 7, 3) := by decide +kernel
theorem d_Plane_change_10 : decode b_Plane_change 10 = .ok (.iconst 1, 1) := by decide +kernel
theorem d_Plane_change_11 : decode b_Plane_change 11 = .ok (.goto 4, 3) := by decide +kernel
theorem d_Plane_change_14 : decode b_Plane_change 14 = .ok (.iconst 0, 1) := by decide +kernel
theorem d_Plane_change_15 : decode b_Plane_change 15 = .ok (.istore 4, 2) := by decide +kernel
theorem d_Plane_change_17 : decode b_Plane_change 17 = .ok (.iload 4, 2) := by decide +kernel
theorem d_Plane_change_19 : decode b_Plane_change 19 = .ok (.ifCond .eq 17, 3) := by decide +kernel
theorem d_Plane_change_22 : decode b_Plane_change 22 = .ok (.aload_n 0, 1) := by decide +kernel
theorem d_Plane_change_23 : decode b_Plane_change 23 = .ok (.iload_n 2, 1) := by decide +kernel
theorem d_Plane_change_24 : decode b_Plane_change 24 = .ok (.aload_n 0, 1) := by decide +kernel
theorem d_Plane_change_25 : decode b_Plane_change 25 = .ok (.iload_n 2, 1) := by decide +kernel
theorem d_Plane_change_26 : decode b_Plane_change 26 = .ok (.invokevirtual 23, 3) := by decide +kernel
theorem d_Plane_change_29 : decode b_Plane_change 29 = .ok (.iconst 1, 1) := by decide +kernel
theorem d_Plane_change_30 : decode b_Plane_change 30 = .ok (.iload_n 1, 1) := by decide +kernel
theorem d_Plane_change_31 : decode b_Plane_change 31 = .ok (.ishl, 1) := by decide +kernel
theorem d_Plane_change_32 : decode b_Plane_change 32 = .ok (.ixor, 1) := by decide +kernel
theorem d_Plane_change_33 : decode b_Plane_change 33 = .ok (.invokevirtual 31, 3) := by decide +kernel
theorem d_Plane_change_36 : decode b_Plane_change 36 = .ok (.iload 4, 2) := by decide +kernel
theorem d_Plane_change_38 : decode b_Plane_change 38 = .ok (.ireturn, 1) := by decide +kernel
theorem d_Plane_wipe_0 : decode b_Plane_wipe 0 = .ok (.iconst 0, 1) := by decide +kernel
theorem d_Plane_wipe_1 : decode b_Plane_wipe 1 = .ok (.istore_n 1, 1) := by decide +kernel
theorem d_Plane_wipe_2 : decode b_Plane_wipe 2 = .ok (.iload_n 1, 1) := by decide +kernel
theorem d_Plane_wipe_3 : decode b_Plane_wipe 3 = .ok (.aload_n 0, 1) := by decide +kernel
theorem d_Plane_wipe_4 : decode b_Plane_wipe 4 = .ok (.getfield 19, 3) := by decide +kernel
theorem d_Plane_wipe_7 : decode b_Plane_wipe 7 = .ok (.arraylength, 1) := by decide +kernel
theorem d_Plane_wipe_8 : decode b_Plane_wipe 8 = .ok (.if_icmp .ge 16, 3) := by decide +kernel
theorem d_Plane_wipe_11 : decode b_Plane_wipe 11 = .ok (.aload_n 0, 1) := by decide +kernel
theorem d_Plane_wipe_12 : decode b_Plane_wipe 12 = .ok (.getfield 19, 3) := by decide +kernel
theorem d_Plane_wipe_15 : decode b_Plane_wipe 15 = .ok (.iload_n 1, 1) := by decide +kernel
theorem d_Plane_wipe_16 : decode b_Plane_wipe 16 = .ok (.iconst 0, 1) := by decide +kernel
theorem d_Plane_wipe_17 : decode b_Plane_wipe 17 = .ok (.iastore, 1) := by decide +kernel
theorem d_Plane_wipe_18 : decode b_Plane_wipe 18 = .ok (.iinc 1 1, 3) := by decide +kernel
theorem d_Plane_wipe_21 : decode b_Plane_wipe 21 = .ok (.goto (-19), 3) := by decide +kernel
theorem d_Plane_wipe_24 : decode b_Plane_wipe 24 = .ok (.return_, 1) := by decide +kernel
