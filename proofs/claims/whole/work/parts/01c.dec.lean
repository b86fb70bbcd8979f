theorem dX3_init_0 : decode cX3_init 0 = .ok (.aload_n 0, 1) := by decide +kernel
theorem dX3_init_1 : decode cX3_init 1 = .ok (.invokespecial 1, 3) := by decide +kernel
theorem dX3_init_4 : decode cX3_init 4 = .ok (.aload_n 0, 1) := by decide +kernel
theorem dX3_init_5 : decode cX3_init 5 = .ok (.new 7, 3) := by decide +kernel
theorem dX3_init_8 : decode cX3_init 8 = .ok (.dup, 1) := by decide +kernel
theorem dX3_init_9 : decode cX3_init 9 = .ok (.invokespecial 9, 3) := by decide +kernel
theorem dX3_init_12 : decode cX3_init 12 = .ok (.putfield 10, 3) := by decide +kernel
theorem dX3_init_15 : decode cX3_init 15 = .ok (.aload_n 0, 1) := by decide +kernel
theorem dX3_init_16 : decode cX3_init 16 = .ok (.bipush 80, 2) := by decide +kernel
theorem dX3_init_18 : decode cX3_init 18 = .ok (.newarray .int, 2) := by decide +kernel
theorem dX3_init_20 : decode cX3_init 20 = .ok (.putfield 16, 3) := by decide +kernel
theorem dX3_init_23 : decode cX3_init 23 = .ok (.aload_n 0, 1) := by decide +kernel
theorem dX3_init_24 : decode cX3_init 24 = .ok (.iconst 0, 1) := by decide +kernel
theorem dX3_init_25 : decode cX3_init 25 = .ok (.putfield 20, 3) := by decide +kernel
theorem dX3_init_28 : decode cX3_init 28 = .ok (.return_, 1) := by decide +kernel
theorem dX3_cut_0 : decode cX3_cut 0 = .ok (.iload_n 1, 1) := by decide +kernel
theorem dX3_cut_1 : decode cX3_cut 1 = .ok (.iconst (-1), 1) := by decide +kernel
theorem dX3_cut_2 : decode cX3_cut 2 = .ok (.if_icmp .ge 5, 3) := by decide +kernel
theorem dX3_cut_5 : decode cX3_cut 5 = .ok (.iconst 0, 1) := by decide +kernel
theorem dX3_cut_6 : decode cX3_cut 6 = .ok (.ireturn, 1) := by decide +kernel
theorem dX3_cut_7 : decode cX3_cut 7 = .ok (.aload_n 0, 1) := by decide +kernel
theorem dX3_cut_8 : decode cX3_cut 8 = .ok (.getfield 10, 3) := by decide +kernel
theorem dX3_cut_11 : decode cX3_cut 11 = .ok (.iload_n 1, 1) := by decide +kernel
theorem dX3_cut_12 : decode cX3_cut 12 = .ok (.putfield 24, 3) := by decide +kernel
theorem dX3_cut_15 : decode cX3_cut 15 = .ok (.iconst 1, 1) := by decide +kernel
theorem dX3_cut_16 : decode cX3_cut 16 = .ok (.ireturn, 1) := by decide +kernel
theorem dX3_format_0 : decode cX3_format 0 = .ok (.aload_n 0, 1) := by decide +kernel
theorem dX3_format_1 : decode cX3_format 1 = .ok (.iload_n 1, 1) := by decide +kernel
theorem dX3_format_2 : decode cX3_format 2 = .ok (.iload_n 2, 1) := by decide +kernel
theorem dX3_format_3 : decode cX3_format 3 = .ok (.iload_n 3, 1) := by decide +kernel
theorem dX3_format_4 : decode cX3_format 4 = .ok (.iload 4, 2) := by decide +kernel
theorem dX3_format_6 : decode cX3_format 6 = .ok (.invokevirtual 27, 3) := by decide +kernel
theorem dX3_format_9 : decode cX3_format 9 = .ok (.aload_n 0, 1) := by decide +kernel
theorem dX3_format_10 : decode cX3_format 10 = .ok (.invokevirtual 31, 3) := by decide +kernel
theorem dX3_format_13 : decode cX3_format 13 = .ok (.ifCond .ne 8, 3) := by decide +kernel
theorem dX3_format_16 : decode cX3_format 16 = .ok (.aload_n 0, 1) := by decide +kernel
theorem dX3_format_17 : decode cX3_format 17 = .ok (.invokevirtual 35, 3) := by decide +kernel
theorem dX3_format_20 : decode cX3_format 20 = .ok (.ireturn, 1) := by decide +kernel
theorem dX3_format_21 : decode cX3_format 21 = .ok (.aload_n 0, 1) := by decide +kernel
theorem dX3_format_22 : decode cX3_format 22 = .ok (.iconst 1, 1) := by decide +kernel
theorem dX3_format_23 : decode cX3_format 23 = .ok (.invokevirtual 39, 3) := by decide +kernel
theorem dX3_format_26 : decode cX3_format 26 = .ok (.iconst 0, 1) := by decide +kernel
theorem dX3_format_27 : decode cX3_format 27 = .ok (.ireturn, 1) := by decide +kernel
theorem dX3_mount_0 : decode cX3_mount 0 = .ok (.aload_n 0, 1) := by decide +kernel
theorem dX3_mount_1 : decode cX3_mount 1 = .ok (.getfield 10, 3) := by decide +kernel
theorem dX3_mount_4 : decode cX3_mount 4 = .ok (.iconst 0, 1) := by decide +kernel
theorem dX3_mount_5 : decode cX3_mount 5 = .ok (.invokevirtual 43, 3) := by decide +kernel
theorem dX3_mount_8 : decode cX3_mount 8 = .ok (.ldc 47, 2) := by decide +kernel
theorem dX3_mount_10 : decode cX3_mount 10 = .ok (.if_icmp .eq 11, 3) := by decide +kernel
theorem dX3_mount_13 : decode cX3_mount 13 = .ok (.aload_n 0, 1) := by decide +kernel
theorem dX3_mount_14 : decode cX3_mount 14 = .ok (.iconst 0, 1) := by decide +kernel
theorem dX3_mount_15 : decode cX3_mount 15 = .ok (.invokevirtual 39, 3) := by decide +kernel
theorem dX3_mount_18 : decode cX3_mount 18 = .ok (.bipush (-3), 2) := by decide +kernel
theorem dX3_mount_20 : decode cX3_mount 20 = .ok (.ireturn, 1) := by decide +kernel
theorem dX3_mount_21 : decode cX3_mount 21 = .ok (.aload_n 0, 1) := by decide +kernel
theorem dX3_mount_22 : decode cX3_mount 22 = .ok (.getfield 10, 3) := by decide +kernel
theorem dX3_mount_25 : decode cX3_mount 25 = .ok (.invokevirtual 48, 3) := by decide +kernel
theorem dX3_mount_28 : decode cX3_mount 28 = .ok (.ifCond .ne 8, 3) := by decide +kernel
theorem dX3_mount_31 : decode cX3_mount 31 = .ok (.aload_n 0, 1) := by decide +kernel
theorem dX3_mount_32 : decode cX3_mount 32 = .ok (.invokevirtual 35, 3) := by decide +kernel
theorem dX3_mount_35 : decode cX3_mount 35 = .ok (.ireturn, 1) := by decide +kernel
theorem dX3_mount_36 : decode cX3_mount 36 = .ok (.aload_n 0, 1) := by decide +kernel
theorem dX3_mount_37 : decode cX3_mount 37 = .ok (.iconst 1, 1) := by decide +kernel
theorem dX3_mount_38 : decode cX3_mount 38 = .ok (.invokevirtual 39, 3) := by decide +kernel
theorem dX3_mount_41 : decode cX3_mount 41 = .ok (.aload_n 0, 1) := by decide +kernel
theorem dX3_mount_42 : decode cX3_mount 42 = .ok (.invokevirtual 51, 3) := by decide +kernel
theorem dX3_mount_45 : decode cX3_mount 45 = .ok (.ireturn, 1) := by decide +kernel
theorem dX3_unlock_0 : decode cX3_unlock 0 = .ok (.aload_n 0, 1) := by decide +kernel
theorem dX3_unlock_1 : decode cX3_unlock 1 = .ok (.getfield 20, 3) := by decide +kernel
theorem dX3_unlock_4 : decode cX3_unlock 4 = .ok (.ifCond .ne 6, 3) := by decide +kernel
theorem dX3_unlock_7 : decode cX3_unlock 7 = .ok (.bipush (-2), 2) := by decide +kernel
theorem dX3_unlock_9 : decode cX3_unlock 9 = .ok (.ireturn, 1) := by decide +kernel
theorem dX3_unlock_10 : decode cX3_unlock 10 = .ok (.iconst 0, 1) := by decide +kernel
theorem dX3_unlock_11 : decode cX3_unlock 11 = .ok (.istore_n 2, 1) := by decide +kernel
theorem dX3_unlock_12 : decode cX3_unlock 12 = .ok (.iload_n 2, 1) := by decide +kernel
theorem dX3_unlock_13 : decode cX3_unlock 13 = .ok (.iconst 4, 1) := by decide +kernel
theorem dX3_unlock_14 : decode cX3_unlock 14 = .ok (.if_icmp .ge 28, 3) := by decide +kernel
theorem dX3_unlock_17 : decode cX3_unlock 17 = .ok (.aload_n 0, 1) := by decide +kernel
theorem dX3_unlock_18 : decode cX3_unlock 18 = .ok (.iload_n 2, 1) := by decide +kernel
theorem dX3_unlock_19 : decode cX3_unlock 19 = .ok (.invokevirtual 54, 3) := by decide +kernel
theorem dX3_unlock_22 : decode cX3_unlock 22 = .ok (.ifCond .eq 14, 3) := by decide +kernel
theorem dX3_unlock_25 : decode cX3_unlock 25 = .ok (.aload_n 0, 1) := by decide +kernel
theorem dX3_unlock_26 : decode cX3_unlock 26 = .ok (.iload_n 2, 1) := by decide +kernel
theorem dX3_unlock_27 : decode cX3_unlock 27 = .ok (.iload_n 1, 1) := by decide +kernel
theorem dX3_unlock_28 : decode cX3_unlock 28 = .ok (.invokevirtual 58, 3) := by decide +kernel
theorem dX3_unlock_31 : decode cX3_unlock 31 = .ok (.ifCond .eq 5, 3) := by decide +kernel
theorem dX3_unlock_34 : decode cX3_unlock 34 = .ok (.iload_n 2, 1) := by decide +kernel
theorem dX3_unlock_35 : decode cX3_unlock 35 = .ok (.ireturn, 1) := by decide +kernel
theorem dX3_unlock_36 : decode cX3_unlock 36 = .ok (.iinc 2 1, 3) := by decide +kernel
theorem dX3_unlock_39 : decode cX3_unlock 39 = .ok (.goto (-27), 3) := by decide +kernel
theorem dX3_unlock_42 : decode cX3_unlock 42 = .ok (.bipush (-9), 2) := by decide +kernel
theorem dX3_unlock_44 : decode cX3_unlock 44 = .ok (.ireturn, 1) := by decide +kernel
theorem dX3_lock_0 : decode cX3_lock 0 = .ok (.aload_n 0, 1) := by decide +kernel
theorem dX3_lock_1 : decode cX3_lock 1 = .ok (.getfield 20, 3) := by decide +kernel
theorem dX3_lock_4 : decode cX3_lock 4 = .ok (.ifCond .ne 6, 3) := by decide +kernel
theorem dX3_lock_7 : decode cX3_lock 7 = .ok (.bipush (-2), 2) := by decide +kernel
theorem dX3_lock_9 : decode cX3_lock 9 = .ok (.ireturn, 1) := by decide +kernel
theorem dX3_lock_10 : decode cX3_lock 10 = .ok (.aload_n 0, 1) := by decide +kernel
theorem dX3_lock_11 : decode cX3_lock 11 = .ok (.getfield 20, 3) := by decide +kernel
theorem dX3_lock_14 : decode cX3_lock 14 = .ok (.iconst 2, 1) := by decide +kernel
theorem dX3_lock_15 : decode cX3_lock 15 = .ok (.if_icmp .ne 7, 3) := by decide +kernel
theorem dX3_lock_18 : decode cX3_lock 18 = .ok (.iconst 1, 1) := by decide +kernel
theorem dX3_lock_19 : decode cX3_lock 19 = .ok (.goto 4, 3) := by decide +kernel
theorem dX3_lock_22 : decode cX3_lock 22 = .ok (.iconst 0, 1) := by decide +kernel
theorem dX3_lock_23 : decode cX3_lock 23 = .ok (.istore_n 1, 1) := by decide +kernel
theorem dX3_lock_24 : decode cX3_lock 24 = .ok (.aload_n 0, 1) := by decide +kernel
theorem dX3_lock_25 : decode cX3_lock 25 = .ok (.iconst 1, 1) := by decide +kernel
theorem dX3_lock_26 : decode cX3_lock 26 = .ok (.invokevirtual 39, 3) := by decide +kernel
theorem dX3_lock_29 : decode cX3_lock 29 = .ok (.iload_n 1, 1) := by decide +kernel
theorem dX3_lock_30 : decode cX3_lock 30 = .ok (.ireturn, 1) := by decide +kernel
theorem dX3_add_0 : decode cX3_add 0 = .ok (.aload_n 0, 1) := by decide +kernel
theorem dX3_add_1 : decode cX3_add 1 = .ok (.invokevirtual 62, 3) := by decide +kernel
theorem dX3_add_4 : decode cX3_add 4 = .ok (.istore_n 3, 1) := by decide +kernel
theorem dX3_add_5 : decode cX3_add 5 = .ok (.iload_n 3, 1) := by decide +kernel
theorem dX3_add_6 : decode cX3_add 6 = .ok (.ifCond .eq 5, 3) := by decide +kernel
theorem dX3_add_9 : decode cX3_add 9 = .ok (.iload_n 3, 1) := by decide +kernel
theorem dX3_add_10 : decode cX3_add 10 = .ok (.ireturn, 1) := by decide +kernel
theorem dX3_add_11 : decode cX3_add 11 = .ok (.aload_n 0, 1) := by decide +kernel
theorem dX3_add_12 : decode cX3_add 12 = .ok (.invokevirtual 65, 3) := by decide +kernel
theorem dX3_add_15 : decode cX3_add 15 = .ok (.istore 4, 2) := by decide +kernel
theorem dX3_add_17 : decode cX3_add 17 = .ok (.iload 4, 2) := by decide +kernel
theorem dX3_add_19 : decode cX3_add 19 = .ok (.iconst 4, 1) := by decide +kernel
theorem dX3_add_20 : decode cX3_add 20 = .ok (.if_icmp .ne 6, 3) := by decide +kernel
theorem dX3_add_23 : decode cX3_add 23 = .ok (.bipush (-7), 2) := by decide +kernel
theorem dX3_add_25 : decode cX3_add 25 = .ok (.ireturn, 1) := by decide +kernel
theorem dX3_add_26 : decode cX3_add 26 = .ok (.aload_n 0, 1) := by decide +kernel
theorem dX3_add_27 : decode cX3_add 27 = .ok (.iload 4, 2) := by decide +kernel
theorem dX3_add_29 : decode cX3_add 29 = .ok (.iload_n 1, 1) := by decide +kernel
theorem dX3_add_30 : decode cX3_add 30 = .ok (.iload_n 2, 1) := by decide +kernel
theorem dX3_add_31 : decode cX3_add 31 = .ok (.invokevirtual 68, 3) := by decide +kernel
theorem dX3_add_34 : decode cX3_add 34 = .ok (.ifCond .eq 8, 3) := by decide +kernel
theorem dX3_add_37 : decode cX3_add 37 = .ok (.iload 4, 2) := by decide +kernel
theorem dX3_add_39 : decode cX3_add 39 = .ok (.goto 7, 3) := by decide +kernel
theorem dX3_add_42 : decode cX3_add 42 = .ok (.aload_n 0, 1) := by decide +kernel
theorem dX3_add_43 : decode cX3_add 43 = .ok (.invokevirtual 35, 3) := by decide +kernel
theorem dX3_add_46 : decode cX3_add 46 = .ok (.ireturn, 1) := by decide +kernel
theorem dX3_change_0 : decode cX3_change 0 = .ok (.aload_n 0, 1) := by decide +kernel
theorem dX3_change_1 : decode cX3_change 1 = .ok (.iload_n 1, 1) := by decide +kernel
theorem dX3_change_2 : decode cX3_change 2 = .ok (.invokevirtual 72, 3) := by decide +kernel
theorem dX3_change_5 : decode cX3_change 5 = .ok (.istore 4, 2) := by decide +kernel
theorem dX3_change_7 : decode cX3_change 7 = .ok (.iload 4, 2) := by decide +kernel
theorem dX3_change_9 : decode cX3_change 9 = .ok (.ifCond .eq 6, 3) := by decide +kernel
theorem dX3_change_12 : decode cX3_change 12 = .ok (.iload 4, 2) := by decide +kernel
theorem dX3_change_14 : decode cX3_change 14 = .ok (.ireturn, 1) := by decide +kernel
theorem dX3_change_15 : decode cX3_change 15 = .ok (.aload_n 0, 1) := by decide +kernel
theorem dX3_change_16 : decode cX3_change 16 = .ok (.iload_n 1, 1) := by decide +kernel
theorem dX3_change_17 : decode cX3_change 17 = .ok (.iload_n 2, 1) := by decide +kernel
theorem dX3_change_18 : decode cX3_change 18 = .ok (.iload_n 3, 1) := by decide +kernel
theorem dX3_change_19 : decode cX3_change 19 = .ok (.invokevirtual 68, 3) := by decide +kernel
theorem dX3_change_22 : decode cX3_change 22 = .ok (.ifCond .eq 7, 3) := by decide +kernel
theorem dX3_change_25 : decode cX3_change 25 = .ok (.iconst 0, 1) := by decide +kernel
theorem dX3_change_26 : decode cX3_change 26 = .ok (.goto 7, 3) := by decide +kernel
theorem dX3_change_29 : decode cX3_change 29 = .ok (.aload_n 0, 1) := by decide +kernel
theorem dX3_change_30 : decode cX3_change 30 = .ok (.invokevirtual 35, 3) := by decide +kernel
theorem dX3_change_33 : decode cX3_change 33 = .ok (.ireturn, 1) := by decide +kernel
theorem dX3_revoke_0 : decode cX3_revoke 0 = .ok (.aload_n 0, 1) := by decide +kernel
theorem dX3_revoke_1 : decode cX3_revoke 1 = .ok (.iload_n 1, 1) := by decide +kernel
theorem dX3_revoke_2 : decode cX3_revoke 2 = .ok (.invokevirtual 72, 3) := by decide +kernel
theorem dX3_revoke_5 : decode cX3_revoke 5 = .ok (.istore_n 2, 1) := by decide +kernel
theorem dX3_revoke_6 : decode cX3_revoke 6 = .ok (.iload_n 2, 1) := by decide +kernel
theorem dX3_revoke_7 : decode cX3_revoke 7 = .ok (.ifCond .eq 5, 3) := by decide +kernel
theorem dX3_revoke_10 : decode cX3_revoke 10 = .ok (.iload_n 2, 1) := by decide +kernel
theorem dX3_revoke_11 : decode cX3_revoke 11 = .ok (.ireturn, 1) := by decide +kernel
theorem dX3_revoke_12 : decode cX3_revoke 12 = .ok (.aload_n 0, 1) := by decide +kernel
theorem dX3_revoke_13 : decode cX3_revoke 13 = .ok (.invokevirtual 51, 3) := by decide +kernel
theorem dX3_revoke_16 : decode cX3_revoke 16 = .ok (.iconst 1, 1) := by decide +kernel
theorem dX3_revoke_17 : decode cX3_revoke 17 = .ok (.if_icmp .ne 6, 3) := by decide +kernel
theorem dX3_revoke_20 : decode cX3_revoke 20 = .ok (.bipush (-8), 2) := by decide +kernel
theorem dX3_revoke_22 : decode cX3_revoke 22 = .ok (.ireturn, 1) := by decide +kernel
theorem dX3_revoke_23 : decode cX3_revoke 23 = .ok (.aload_n 0, 1) := by decide +kernel
theorem dX3_revoke_24 : decode cX3_revoke 24 = .ok (.iload_n 1, 1) := by decide +kernel
theorem dX3_revoke_25 : decode cX3_revoke 25 = .ok (.invokevirtual 75, 3) := by decide +kernel
theorem dX3_revoke_28 : decode cX3_revoke 28 = .ok (.ifCond .eq 7, 3) := by decide +kernel
theorem dX3_revoke_31 : decode cX3_revoke 31 = .ok (.iconst 0, 1) := by decide +kernel
theorem dX3_revoke_32 : decode cX3_revoke 32 = .ok (.goto 7, 3) := by decide +kernel
theorem dX3_revoke_35 : decode cX3_revoke 35 = .ok (.aload_n 0, 1) := by decide +kernel
theorem dX3_revoke_36 : decode cX3_revoke 36 = .ok (.invokevirtual 35, 3) := by decide +kernel
theorem dX3_revoke_39 : decode cX3_revoke 39 = .ok (.ireturn, 1) := by decide +kernel
theorem dX3_write_0 : decode cX3_write 0 = .ok (.aload_n 0, 1) := by decide +kernel
theorem dX3_write_1 : decode cX3_write 1 = .ok (.iload_n 1, 1) := by decide +kernel
theorem dX3_write_2 : decode cX3_write 2 = .ok (.iload_n 2, 1) := by decide +kernel
theorem dX3_write_3 : decode cX3_write 3 = .ok (.invokevirtual 78, 3) := by decide +kernel
theorem dX3_write_6 : decode cX3_write 6 = .ok (.istore 4, 2) := by decide +kernel
theorem dX3_write_8 : decode cX3_write 8 = .ok (.iload 4, 2) := by decide +kernel
theorem dX3_write_10 : decode cX3_write 10 = .ok (.ifCond .eq 6, 3) := by decide +kernel
theorem dX3_write_13 : decode cX3_write 13 = .ok (.iload 4, 2) := by decide +kernel
theorem dX3_write_15 : decode cX3_write 15 = .ok (.ireturn, 1) := by decide +kernel
theorem dX3_write_16 : decode cX3_write 16 = .ok (.iconst 0, 1) := by decide +kernel
theorem dX3_write_17 : decode cX3_write 17 = .ok (.istore 5, 2) := by decide +kernel
theorem dX3_write_19 : decode cX3_write 19 = .ok (.iload 5, 2) := by decide +kernel
theorem dX3_write_21 : decode cX3_write 21 = .ok (.iconst 4, 1) := by decide +kernel
theorem dX3_write_22 : decode cX3_write 22 = .ok (.if_icmp .ge 51, 3) := by decide +kernel
theorem dX3_write_25 : decode cX3_write 25 = .ok (.iload 5, 2) := by decide +kernel
theorem dX3_write_27 : decode cX3_write 27 = .ok (.iload_n 2, 1) := by decide +kernel
theorem dX3_write_28 : decode cX3_write 28 = .ok (.if_icmp .ne 7, 3) := by decide +kernel
theorem dX3_write_31 : decode cX3_write 31 = .ok (.iload_n 3, 1) := by decide +kernel
theorem dX3_write_32 : decode cX3_write 32 = .ok (.goto 10, 3) := by decide +kernel
theorem dX3_write_35 : decode cX3_write 35 = .ok (.aload_n 0, 1) := by decide +kernel
theorem dX3_write_36 : decode cX3_write 36 = .ok (.iload_n 1, 1) := by decide +kernel
theorem dX3_write_37 : decode cX3_write 37 = .ok (.iload 5, 2) := by decide +kernel
theorem dX3_write_39 : decode cX3_write 39 = .ok (.invokevirtual 82, 3) := by decide +kernel
theorem dX3_write_42 : decode cX3_write 42 = .ok (.istore 6, 2) := by decide +kernel
theorem dX3_write_44 : decode cX3_write 44 = .ok (.aload_n 0, 1) := by decide +kernel
theorem dX3_write_45 : decode cX3_write 45 = .ok (.getfield 16, 3) := by decide +kernel
theorem dX3_write_48 : decode cX3_write 48 = .ok (.iload 5, 2) := by decide +kernel
theorem dX3_write_50 : decode cX3_write 50 = .ok (.aload_n 0, 1) := by decide +kernel
theorem dX3_write_51 : decode cX3_write 51 = .ok (.getfield 85, 3) := by decide +kernel
theorem dX3_write_54 : decode cX3_write 54 = .ok (.aload_n 0, 1) := by decide +kernel
theorem dX3_write_55 : decode cX3_write 55 = .ok (.getfield 88, 3) := by decide +kernel
theorem dX3_write_58 : decode cX3_write 58 = .ok (.iload_n 1, 1) := by decide +kernel
theorem dX3_write_59 : decode cX3_write 59 = .ok (.iload 5, 2) := by decide +kernel
theorem dX3_write_61 : decode cX3_write 61 = .ok (.iload 6, 2) := by decide +kernel
theorem dX3_write_63 : decode cX3_write 63 = .ok (.invokestatic 91, 3) := by decide +kernel
theorem dX3_write_66 : decode cX3_write 66 = .ok (.iastore, 1) := by decide +kernel
theorem dX3_write_67 : decode cX3_write 67 = .ok (.iinc 5 1, 3) := by decide +kernel
theorem dX3_write_70 : decode cX3_write 70 = .ok (.goto (-51), 3) := by decide +kernel
theorem dX3_write_73 : decode cX3_write 73 = .ok (.aload_n 0, 1) := by decide +kernel
theorem dX3_write_74 : decode cX3_write 74 = .ok (.getfield 10, 3) := by decide +kernel
theorem dX3_write_77 : decode cX3_write 77 = .ok (.iload_n 1, 1) := by decide +kernel
theorem dX3_write_78 : decode cX3_write 78 = .ok (.invokestatic 97, 3) := by decide +kernel
theorem dX3_write_81 : decode cX3_write 81 = .ok (.iconst 4, 1) := by decide +kernel
theorem dX3_write_82 : decode cX3_write 82 = .ok (.aload_n 0, 1) := by decide +kernel
theorem dX3_write_83 : decode cX3_write 83 = .ok (.getfield 16, 3) := by decide +kernel
theorem dX3_write_86 : decode cX3_write 86 = .ok (.invokevirtual 100, 3) := by decide +kernel
theorem dX3_write_89 : decode cX3_write 89 = .ok (.ifCond .eq 7, 3) := by decide +kernel
theorem dX3_write_92 : decode cX3_write 92 = .ok (.iconst 0, 1) := by decide +kernel
theorem dX3_write_93 : decode cX3_write 93 = .ok (.goto 7, 3) := by decide +kernel
theorem dX3_write_96 : decode cX3_write 96 = .ok (.aload_n 0, 1) := by decide +kernel
theorem dX3_write_97 : decode cX3_write 97 = .ok (.invokevirtual 35, 3) := by decide +kernel
theorem dX3_write_100 : decode cX3_write 100 = .ok (.ireturn, 1) := by decide +kernel
theorem dX3_read_0 : decode cX3_read 0 = .ok (.aload_n 0, 1) := by decide +kernel
theorem dX3_read_1 : decode cX3_read 1 = .ok (.iload_n 1, 1) := by decide +kernel
theorem dX3_read_2 : decode cX3_read 2 = .ok (.iload_n 2, 1) := by decide +kernel
theorem dX3_read_3 : decode cX3_read 3 = .ok (.invokevirtual 78, 3) := by decide +kernel
theorem dX3_read_6 : decode cX3_read 6 = .ok (.istore_n 3, 1) := by decide +kernel
theorem dX3_read_7 : decode cX3_read 7 = .ok (.iload_n 3, 1) := by decide +kernel
theorem dX3_read_8 : decode cX3_read 8 = .ok (.ifCond .eq 6, 3) := by decide +kernel
theorem dX3_read_11 : decode cX3_read 11 = .ok (.iload_n 3, 1) := by decide +kernel
theorem dX3_read_12 : decode cX3_read 12 = .ok (.i2l, 1) := by decide +kernel
theorem dX3_read_13 : decode cX3_read 13 = .ok (.lreturn, 1) := by decide +kernel
theorem dX3_read_14 : decode cX3_read 14 = .ok (.aload_n 0, 1) := by decide +kernel
theorem dX3_read_15 : decode cX3_read 15 = .ok (.iload_n 1, 1) := by decide +kernel
theorem dX3_read_16 : decode cX3_read 16 = .ok (.iload_n 2, 1) := by decide +kernel
theorem dX3_read_17 : decode cX3_read 17 = .ok (.invokevirtual 82, 3) := by decide +kernel
theorem dX3_read_20 : decode cX3_read 20 = .ok (.i2l, 1) := by decide +kernel
theorem dX3_read_21 : decode cX3_read 21 = .ok (.ldc2_w 104, 3) := by decide +kernel
theorem dX3_read_24 : decode cX3_read 24 = .ok (.land, 1) := by decide +kernel
theorem dX3_read_25 : decode cX3_read 25 = .ok (.lreturn, 1) := by decide +kernel
theorem dX3_state_0 : decode cX3_state 0 = .ok (.aload_n 0, 1) := by decide +kernel
theorem dX3_state_1 : decode cX3_state 1 = .ok (.getfield 20, 3) := by decide +kernel
theorem dX3_state_4 : decode cX3_state 4 = .ok (.ireturn, 1) := by decide +kernel
theorem dX3_slots_0 : decode cX3_slots 0 = .ok (.iconst 0, 1) := by decide +kernel
theorem dX3_slots_1 : decode cX3_slots 1 = .ok (.istore_n 1, 1) := by decide +kernel
theorem dX3_slots_2 : decode cX3_slots 2 = .ok (.iconst 0, 1) := by decide +kernel
theorem dX3_slots_3 : decode cX3_slots 3 = .ok (.istore_n 2, 1) := by decide +kernel
theorem dX3_slots_4 : decode cX3_slots 4 = .ok (.iload_n 2, 1) := by decide +kernel
theorem dX3_slots_5 : decode cX3_slots 5 = .ok (.iconst 4, 1) := by decide +kernel
theorem dX3_slots_6 : decode cX3_slots 6 = .ok (.if_icmp .ge 23, 3) := by decide +kernel
theorem dX3_slots_9 : decode cX3_slots 9 = .ok (.aload_n 0, 1) := by decide +kernel
theorem dX3_slots_10 : decode cX3_slots 10 = .ok (.iload_n 2, 1) := by decide +kernel
theorem dX3_slots_11 : decode cX3_slots 11 = .ok (.invokevirtual 54, 3) := by decide +kernel
theorem dX3_slots_14 : decode cX3_slots 14 = .ok (.ifCond .eq 9, 3) := by decide +kernel
theorem dX3_slots_17 : decode cX3_slots 17 = .ok (.iload_n 1, 1) := by decide +kernel
theorem dX3_slots_18 : decode cX3_slots 18 = .ok (.iconst 1, 1) := by decide +kernel
theorem dX3_slots_19 : decode cX3_slots 19 = .ok (.iload_n 2, 1) := by decide +kernel
theorem dX3_slots_20 : decode cX3_slots 20 = .ok (.ishl, 1) := by decide +kernel
theorem dX3_slots_21 : decode cX3_slots 21 = .ok (.iadd, 1) := by decide +kernel
theorem dX3_slots_22 : decode cX3_slots 22 = .ok (.istore_n 1, 1) := by decide +kernel
theorem dX3_slots_23 : decode cX3_slots 23 = .ok (.iinc 2 1, 3) := by decide +kernel
theorem dX3_slots_26 : decode cX3_slots 26 = .ok (.goto (-22), 3) := by decide +kernel
theorem dX3_slots_29 : decode cX3_slots 29 = .ok (.iload_n 1, 1) := by decide +kernel
theorem dX3_slots_30 : decode cX3_slots 30 = .ok (.ireturn, 1) := by decide +kernel
theorem dX3_peek_0 : decode cX3_peek 0 = .ok (.aload_n 0, 1) := by decide +kernel
theorem dX3_peek_1 : decode cX3_peek 1 = .ok (.getfield 10, 3) := by decide +kernel
theorem dX3_peek_4 : decode cX3_peek 4 = .ok (.iload_n 1, 1) := by decide +kernel
theorem dX3_peek_5 : decode cX3_peek 5 = .ok (.invokevirtual 43, 3) := by decide +kernel
theorem dX3_peek_8 : decode cX3_peek 8 = .ok (.ireturn, 1) := by decide +kernel
theorem dX3_writes_0 : decode cX3_writes 0 = .ok (.aload_n 0, 1) := by decide +kernel
theorem dX3_writes_1 : decode cX3_writes 1 = .ok (.getfield 10, 3) := by decide +kernel
theorem dX3_writes_4 : decode cX3_writes 4 = .ok (.getfield 106, 3) := by decide +kernel
theorem dX3_writes_7 : decode cX3_writes 7 = .ok (.ireturn, 1) := by decide +kernel
theorem dX3_powerLost_0 : decode cX3_powerLost 0 = .ok (.aload_n 0, 1) := by decide +kernel
theorem dX3_powerLost_1 : decode cX3_powerLost 1 = .ok (.iconst 0, 1) := by decide +kernel
theorem dX3_powerLost_2 : decode cX3_powerLost 2 = .ok (.invokevirtual 39, 3) := by decide +kernel
theorem dX3_powerLost_5 : decode cX3_powerLost 5 = .ok (.iconst (-1), 1) := by decide +kernel
theorem dX3_powerLost_6 : decode cX3_powerLost 6 = .ok (.ireturn, 1) := by decide +kernel
theorem dX3_holdNoKeys_0 : decode cX3_holdNoKeys 0 = .ok (.aload_n 0, 1) := by decide +kernel
theorem dX3_holdNoKeys_1 : decode cX3_holdNoKeys 1 = .ok (.iload_n 1, 1) := by decide +kernel
theorem dX3_holdNoKeys_2 : decode cX3_holdNoKeys 2 = .ok (.putfield 20, 3) := by decide +kernel
theorem dX3_holdNoKeys_5 : decode cX3_holdNoKeys 5 = .ok (.aload_n 0, 1) := by decide +kernel
theorem dX3_holdNoKeys_6 : decode cX3_holdNoKeys 6 = .ok (.iconst 0, 1) := by decide +kernel
theorem dX3_holdNoKeys_7 : decode cX3_holdNoKeys 7 = .ok (.putfield 85, 3) := by decide +kernel
theorem dX3_holdNoKeys_10 : decode cX3_holdNoKeys 10 = .ok (.aload_n 0, 1) := by decide +kernel
theorem dX3_holdNoKeys_11 : decode cX3_holdNoKeys 11 = .ok (.iconst 0, 1) := by decide +kernel
theorem dX3_holdNoKeys_12 : decode cX3_holdNoKeys 12 = .ok (.putfield 88, 3) := by decide +kernel
theorem dX3_holdNoKeys_15 : decode cX3_holdNoKeys 15 = .ok (.return_, 1) := by decide +kernel
theorem dX3_refusalUnlessOpen_0 : decode cX3_refusalUnlessOpen 0 = .ok (.aload_n 0, 1) := by decide +kernel
theorem dX3_refusalUnlessOpen_1 : decode cX3_refusalUnlessOpen 1 = .ok (.getfield 20, 3) := by decide +kernel
theorem dX3_refusalUnlessOpen_4 : decode cX3_refusalUnlessOpen 4 = .ok (.ifCond .ne 6, 3) := by decide +kernel
theorem dX3_refusalUnlessOpen_7 : decode cX3_refusalUnlessOpen 7 = .ok (.bipush (-2), 2) := by decide +kernel
theorem dX3_refusalUnlessOpen_9 : decode cX3_refusalUnlessOpen 9 = .ok (.ireturn, 1) := by decide +kernel
theorem dX3_refusalUnlessOpen_10 : decode cX3_refusalUnlessOpen 10 = .ok (.aload_n 0, 1) := by decide +kernel
theorem dX3_refusalUnlessOpen_11 : decode cX3_refusalUnlessOpen 11 = .ok (.getfield 20, 3) := by decide +kernel
theorem dX3_refusalUnlessOpen_14 : decode cX3_refusalUnlessOpen 14 = .ok (.iconst 1, 1) := by decide +kernel
theorem dX3_refusalUnlessOpen_15 : decode cX3_refusalUnlessOpen 15 = .ok (.if_icmp .ne 8, 3) := by decide +kernel
theorem dX3_refusalUnlessOpen_18 : decode cX3_refusalUnlessOpen 18 = .ok (.bipush (-4), 2) := by decide +kernel
theorem dX3_refusalUnlessOpen_20 : decode cX3_refusalUnlessOpen 20 = .ok (.goto 4, 3) := by decide +kernel
theorem dX3_refusalUnlessOpen_23 : decode cX3_refusalUnlessOpen 23 = .ok (.iconst 0, 1) := by decide +kernel
theorem dX3_refusalUnlessOpen_24 : decode cX3_refusalUnlessOpen 24 = .ok (.ireturn, 1) := by decide +kernel
theorem dX3_refusalOfSlot_0 : decode cX3_refusalOfSlot 0 = .ok (.aload_n 0, 1) := by decide +kernel
theorem dX3_refusalOfSlot_1 : decode cX3_refusalOfSlot 1 = .ok (.invokevirtual 62, 3) := by decide +kernel
theorem dX3_refusalOfSlot_4 : decode cX3_refusalOfSlot 4 = .ok (.istore_n 2, 1) := by decide +kernel
theorem dX3_refusalOfSlot_5 : decode cX3_refusalOfSlot 5 = .ok (.iload_n 2, 1) := by decide +kernel
theorem dX3_refusalOfSlot_6 : decode cX3_refusalOfSlot 6 = .ok (.ifCond .eq 5, 3) := by decide +kernel
theorem dX3_refusalOfSlot_9 : decode cX3_refusalOfSlot 9 = .ok (.iload_n 2, 1) := by decide +kernel
theorem dX3_refusalOfSlot_10 : decode cX3_refusalOfSlot 10 = .ok (.ireturn, 1) := by decide +kernel
theorem dX3_refusalOfSlot_11 : decode cX3_refusalOfSlot 11 = .ok (.iload_n 1, 1) := by decide +kernel
theorem dX3_refusalOfSlot_12 : decode cX3_refusalOfSlot 12 = .ok (.ifCond .lt 8, 3) := by decide +kernel
theorem dX3_refusalOfSlot_15 : decode cX3_refusalOfSlot 15 = .ok (.iload_n 1, 1) := by decide +kernel
theorem dX3_refusalOfSlot_16 : decode cX3_refusalOfSlot 16 = .ok (.iconst 4, 1) := by decide +kernel
theorem dX3_refusalOfSlot_17 : decode cX3_refusalOfSlot 17 = .ok (.if_icmp .lt 6, 3) := by decide +kernel
theorem dX3_refusalOfSlot_20 : decode cX3_refusalOfSlot 20 = .ok (.bipush (-5), 2) := by decide +kernel
theorem dX3_refusalOfSlot_22 : decode cX3_refusalOfSlot 22 = .ok (.ireturn, 1) := by decide +kernel
theorem dX3_refusalOfSlot_23 : decode cX3_refusalOfSlot 23 = .ok (.aload_n 0, 1) := by decide +kernel
theorem dX3_refusalOfSlot_24 : decode cX3_refusalOfSlot 24 = .ok (.iload_n 1, 1) := by decide +kernel
theorem dX3_refusalOfSlot_25 : decode cX3_refusalOfSlot 25 = .ok (.invokevirtual 54, 3) := by decide +kernel
theorem dX3_refusalOfSlot_28 : decode cX3_refusalOfSlot 28 = .ok (.ifCond .eq 7, 3) := by decide +kernel
theorem dX3_refusalOfSlot_31 : decode cX3_refusalOfSlot 31 = .ok (.iconst 0, 1) := by decide +kernel
theorem dX3_refusalOfSlot_32 : decode cX3_refusalOfSlot 32 = .ok (.goto 5, 3) := by decide +kernel
theorem dX3_refusalOfSlot_35 : decode cX3_refusalOfSlot 35 = .ok (.bipush (-6), 2) := by decide +kernel
theorem dX3_refusalOfSlot_37 : decode cX3_refusalOfSlot 37 = .ok (.ireturn, 1) := by decide +kernel
theorem dX3_refusalOfWord_0 : decode cX3_refusalOfWord 0 = .ok (.aload_n 0, 1) := by decide +kernel
theorem dX3_refusalOfWord_1 : decode cX3_refusalOfWord 1 = .ok (.invokevirtual 62, 3) := by decide +kernel
theorem dX3_refusalOfWord_4 : decode cX3_refusalOfWord 4 = .ok (.istore_n 3, 1) := by decide +kernel
theorem dX3_refusalOfWord_5 : decode cX3_refusalOfWord 5 = .ok (.iload_n 3, 1) := by decide +kernel
theorem dX3_refusalOfWord_6 : decode cX3_refusalOfWord 6 = .ok (.ifCond .eq 5, 3) := by decide +kernel
theorem dX3_refusalOfWord_9 : decode cX3_refusalOfWord 9 = .ok (.iload_n 3, 1) := by decide +kernel
theorem dX3_refusalOfWord_10 : decode cX3_refusalOfWord 10 = .ok (.ireturn, 1) := by decide +kernel
theorem dX3_refusalOfWord_11 : decode cX3_refusalOfWord 11 = .ok (.iload_n 1, 1) := by decide +kernel
theorem dX3_refusalOfWord_12 : decode cX3_refusalOfWord 12 = .ok (.ifCond .lt 22, 3) := by decide +kernel
theorem dX3_refusalOfWord_15 : decode cX3_refusalOfWord 15 = .ok (.iload_n 1, 1) := by decide +kernel
theorem dX3_refusalOfWord_16 : decode cX3_refusalOfWord 16 = .ok (.bipush 8, 2) := by decide +kernel
theorem dX3_refusalOfWord_18 : decode cX3_refusalOfWord 18 = .ok (.if_icmp .ge 16, 3) := by decide +kernel
theorem dX3_refusalOfWord_21 : decode cX3_refusalOfWord 21 = .ok (.iload_n 2, 1) := by decide +kernel
theorem dX3_refusalOfWord_22 : decode cX3_refusalOfWord 22 = .ok (.ifCond .lt 12, 3) := by decide +kernel
theorem dX3_refusalOfWord_25 : decode cX3_refusalOfWord 25 = .ok (.iload_n 2, 1) := by decide +kernel
theorem dX3_refusalOfWord_26 : decode cX3_refusalOfWord 26 = .ok (.iconst 4, 1) := by decide +kernel
theorem dX3_refusalOfWord_27 : decode cX3_refusalOfWord 27 = .ok (.if_icmp .ge 7, 3) := by decide +kernel
theorem dX3_refusalOfWord_30 : decode cX3_refusalOfWord 30 = .ok (.iconst 1, 1) := by decide +kernel
theorem dX3_refusalOfWord_31 : decode cX3_refusalOfWord 31 = .ok (.goto 4, 3) := by decide +kernel
theorem dX3_refusalOfWord_34 : decode cX3_refusalOfWord 34 = .ok (.iconst 0, 1) := by decide +kernel
theorem dX3_refusalOfWord_35 : decode cX3_refusalOfWord 35 = .ok (.istore 4, 2) := by decide +kernel
theorem dX3_refusalOfWord_37 : decode cX3_refusalOfWord 37 = .ok (.iload 4, 2) := by decide +kernel
theorem dX3_refusalOfWord_39 : decode cX3_refusalOfWord 39 = .ok (.ifCond .eq 7, 3) := by decide +kernel
theorem dX3_refusalOfWord_42 : decode cX3_refusalOfWord 42 = .ok (.iconst 0, 1) := by decide +kernel
theorem dX3_refusalOfWord_43 : decode cX3_refusalOfWord 43 = .ok (.goto 5, 3) := by decide +kernel
theorem dX3_refusalOfWord_46 : decode cX3_refusalOfWord 46 = .ok (.bipush (-5), 2) := by decide +kernel
theorem dX3_refusalOfWord_48 : decode cX3_refusalOfWord 48 = .ok (.ireturn, 1) := by decide +kernel
theorem dX3_workOutVolume_0 : decode cX3_workOutVolume 0 = .ok (.aload_n 0, 1) := by decide +kernel
theorem dX3_workOutVolume_1 : decode cX3_workOutVolume 1 = .ok (.getfield 16, 3) := by decide +kernel
theorem dX3_workOutVolume_4 : decode cX3_workOutVolume 4 = .ok (.iconst 0, 1) := by decide +kernel
theorem dX3_workOutVolume_5 : decode cX3_workOutVolume 5 = .ok (.invokestatic 109, 3) := by decide +kernel
theorem dX3_workOutVolume_8 : decode cX3_workOutVolume 8 = .ok (.iload 4, 2) := by decide +kernel
theorem dX3_workOutVolume_10 : decode cX3_workOutVolume 10 = .ok (.iconst 5, 1) := by decide +kernel
theorem dX3_workOutVolume_11 : decode cX3_workOutVolume 11 = .ok (.invokestatic 115, 3) := by decide +kernel
theorem dX3_workOutVolume_14 : decode cX3_workOutVolume 14 = .ok (.istore 5, 2) := by decide +kernel
theorem dX3_workOutVolume_16 : decode cX3_workOutVolume 16 = .ok (.aload_n 0, 1) := by decide +kernel
theorem dX3_workOutVolume_17 : decode cX3_workOutVolume 17 = .ok (.getfield 16, 3) := by decide +kernel
theorem dX3_workOutVolume_20 : decode cX3_workOutVolume 20 = .ok (.iconst 2, 1) := by decide +kernel
theorem dX3_workOutVolume_21 : decode cX3_workOutVolume 21 = .ok (.iload 5, 2) := by decide +kernel
theorem dX3_workOutVolume_23 : decode cX3_workOutVolume 23 = .ok (.iastore, 1) := by decide +kernel
theorem dX3_workOutVolume_24 : decode cX3_workOutVolume 24 = .ok (.aload_n 0, 1) := by decide +kernel
theorem dX3_workOutVolume_25 : decode cX3_workOutVolume 25 = .ok (.getfield 16, 3) := by decide +kernel
theorem dX3_workOutVolume_28 : decode cX3_workOutVolume 28 = .ok (.iconst 1, 1) := by decide +kernel
theorem dX3_workOutVolume_29 : decode cX3_workOutVolume 29 = .ok (.iload_n 1, 1) := by decide +kernel
theorem dX3_workOutVolume_30 : decode cX3_workOutVolume 30 = .ok (.iload_n 2, 1) := by decide +kernel
theorem dX3_workOutVolume_31 : decode cX3_workOutVolume 31 = .ok (.iload 5, 2) := by decide +kernel
theorem dX3_workOutVolume_33 : decode cX3_workOutVolume 33 = .ok (.invokestatic 118, 3) := by decide +kernel
theorem dX3_workOutVolume_36 : decode cX3_workOutVolume 36 = .ok (.iastore, 1) := by decide +kernel
theorem dX3_workOutVolume_37 : decode cX3_workOutVolume 37 = .ok (.aload_n 0, 1) := by decide +kernel
theorem dX3_workOutVolume_38 : decode cX3_workOutVolume 38 = .ok (.getfield 16, 3) := by decide +kernel
theorem dX3_workOutVolume_41 : decode cX3_workOutVolume 41 = .ok (.iconst 0, 1) := by decide +kernel
theorem dX3_workOutVolume_42 : decode cX3_workOutVolume 42 = .ok (.invokestatic 122, 3) := by decide +kernel
theorem dX3_workOutVolume_45 : decode cX3_workOutVolume 45 = .ok (.iload_n 1, 1) := by decide +kernel
theorem dX3_workOutVolume_46 : decode cX3_workOutVolume 46 = .ok (.iload_n 2, 1) := by decide +kernel
theorem dX3_workOutVolume_47 : decode cX3_workOutVolume 47 = .ok (.iload_n 3, 1) := by decide +kernel
theorem dX3_workOutVolume_48 : decode cX3_workOutVolume 48 = .ok (.iload 4, 2) := by decide +kernel
theorem dX3_workOutVolume_50 : decode cX3_workOutVolume 50 = .ok (.invokestatic 125, 3) := by decide +kernel
theorem dX3_workOutVolume_53 : decode cX3_workOutVolume 53 = .ok (.iconst 0, 1) := by decide +kernel
theorem dX3_workOutVolume_54 : decode cX3_workOutVolume 54 = .ok (.istore 6, 2) := by decide +kernel
theorem dX3_workOutVolume_56 : decode cX3_workOutVolume 56 = .ok (.iload 6, 2) := by decide +kernel
theorem dX3_workOutVolume_58 : decode cX3_workOutVolume 58 = .ok (.bipush 8, 2) := by decide +kernel
theorem dX3_workOutVolume_60 : decode cX3_workOutVolume 60 = .ok (.if_icmp .ge 47, 3) := by decide +kernel
theorem dX3_workOutVolume_63 : decode cX3_workOutVolume 63 = .ok (.iconst 0, 1) := by decide +kernel
theorem dX3_workOutVolume_64 : decode cX3_workOutVolume 64 = .ok (.istore 7, 2) := by decide +kernel
theorem dX3_workOutVolume_66 : decode cX3_workOutVolume 66 = .ok (.iload 7, 2) := by decide +kernel
theorem dX3_workOutVolume_68 : decode cX3_workOutVolume 68 = .ok (.iconst 4, 1) := by decide +kernel
theorem dX3_workOutVolume_69 : decode cX3_workOutVolume 69 = .ok (.if_icmp .ge 32, 3) := by decide +kernel
theorem dX3_workOutVolume_72 : decode cX3_workOutVolume 72 = .ok (.aload_n 0, 1) := by decide +kernel
theorem dX3_workOutVolume_73 : decode cX3_workOutVolume 73 = .ok (.getfield 16, 3) := by decide +kernel
theorem dX3_workOutVolume_76 : decode cX3_workOutVolume 76 = .ok (.iload 6, 2) := by decide +kernel
theorem dX3_workOutVolume_78 : decode cX3_workOutVolume 78 = .ok (.invokestatic 97, 3) := by decide +kernel
theorem dX3_workOutVolume_81 : decode cX3_workOutVolume 81 = .ok (.iload 7, 2) := by decide +kernel
theorem dX3_workOutVolume_83 : decode cX3_workOutVolume 83 = .ok (.iadd, 1) := by decide +kernel
theorem dX3_workOutVolume_84 : decode cX3_workOutVolume 84 = .ok (.iload_n 1, 1) := by decide +kernel
theorem dX3_workOutVolume_85 : decode cX3_workOutVolume 85 = .ok (.iload_n 2, 1) := by decide +kernel
theorem dX3_workOutVolume_86 : decode cX3_workOutVolume 86 = .ok (.iload 6, 2) := by decide +kernel
theorem dX3_workOutVolume_88 : decode cX3_workOutVolume 88 = .ok (.iload 7, 2) := by decide +kernel
theorem dX3_workOutVolume_90 : decode cX3_workOutVolume 90 = .ok (.iconst 0, 1) := by decide +kernel
theorem dX3_workOutVolume_91 : decode cX3_workOutVolume 91 = .ok (.invokestatic 91, 3) := by decide +kernel
theorem dX3_workOutVolume_94 : decode cX3_workOutVolume 94 = .ok (.iastore, 1) := by decide +kernel
theorem dX3_workOutVolume_95 : decode cX3_workOutVolume 95 = .ok (.iinc 7 1, 3) := by decide +kernel
theorem dX3_workOutVolume_98 : decode cX3_workOutVolume 98 = .ok (.goto (-32), 3) := by decide +kernel
theorem dX3_workOutVolume_101 : decode cX3_workOutVolume 101 = .ok (.iinc 6 1, 3) := by decide +kernel
theorem dX3_workOutVolume_104 : decode cX3_workOutVolume 104 = .ok (.goto (-48), 3) := by decide +kernel
theorem dX3_workOutVolume_107 : decode cX3_workOutVolume 107 = .ok (.return_, 1) := by decide +kernel
theorem dX3_putVolume_0 : decode cX3_putVolume 0 = .ok (.aload_n 0, 1) := by decide +kernel
theorem dX3_putVolume_1 : decode cX3_putVolume 1 = .ok (.getfield 10, 3) := by decide +kernel
theorem dX3_putVolume_4 : decode cX3_putVolume 4 = .ok (.iconst 0, 1) := by decide +kernel
theorem dX3_putVolume_5 : decode cX3_putVolume 5 = .ok (.iconst 0, 1) := by decide +kernel
theorem dX3_putVolume_6 : decode cX3_putVolume 6 = .ok (.invokevirtual 131, 3) := by decide +kernel
theorem dX3_putVolume_9 : decode cX3_putVolume 9 = .ok (.ifCond .ne 5, 3) := by decide +kernel
theorem dX3_putVolume_12 : decode cX3_putVolume 12 = .ok (.iconst 0, 1) := by decide +kernel
theorem dX3_putVolume_13 : decode cX3_putVolume 13 = .ok (.ireturn, 1) := by decide +kernel
theorem dX3_putVolume_14 : decode cX3_putVolume 14 = .ok (.iconst 1, 1) := by decide +kernel
theorem dX3_putVolume_15 : decode cX3_putVolume 15 = .ok (.istore_n 1, 1) := by decide +kernel
theorem dX3_putVolume_16 : decode cX3_putVolume 16 = .ok (.iload_n 1, 1) := by decide +kernel
theorem dX3_putVolume_17 : decode cX3_putVolume 17 = .ok (.bipush 80, 2) := by decide +kernel
theorem dX3_putVolume_19 : decode cX3_putVolume 19 = .ok (.if_icmp .ge 28, 3) := by decide +kernel
theorem dX3_putVolume_22 : decode cX3_putVolume 22 = .ok (.aload_n 0, 1) := by decide +kernel
theorem dX3_putVolume_23 : decode cX3_putVolume 23 = .ok (.getfield 10, 3) := by decide +kernel
theorem dX3_putVolume_26 : decode cX3_putVolume 26 = .ok (.iload_n 1, 1) := by decide +kernel
theorem dX3_putVolume_27 : decode cX3_putVolume 27 = .ok (.aload_n 0, 1) := by decide +kernel
theorem dX3_putVolume_28 : decode cX3_putVolume 28 = .ok (.getfield 16, 3) := by decide +kernel
theorem dX3_putVolume_31 : decode cX3_putVolume 31 = .ok (.iload_n 1, 1) := by decide +kernel
theorem dX3_putVolume_32 : decode cX3_putVolume 32 = .ok (.iaload, 1) := by decide +kernel
theorem dX3_putVolume_33 : decode cX3_putVolume 33 = .ok (.invokevirtual 131, 3) := by decide +kernel
theorem dX3_putVolume_36 : decode cX3_putVolume 36 = .ok (.ifCond .ne 5, 3) := by decide +kernel
theorem dX3_putVolume_39 : decode cX3_putVolume 39 = .ok (.iconst 0, 1) := by decide +kernel
theorem dX3_putVolume_40 : decode cX3_putVolume 40 = .ok (.ireturn, 1) := by decide +kernel
theorem dX3_putVolume_41 : decode cX3_putVolume 41 = .ok (.iinc 1 1, 3) := by decide +kernel
theorem dX3_putVolume_44 : decode cX3_putVolume 44 = .ok (.goto (-28), 3) := by decide +kernel
theorem dX3_putVolume_47 : decode cX3_putVolume 47 = .ok (.aload_n 0, 1) := by decide +kernel
theorem dX3_putVolume_48 : decode cX3_putVolume 48 = .ok (.getfield 10, 3) := by decide +kernel
theorem dX3_putVolume_51 : decode cX3_putVolume 51 = .ok (.iconst 0, 1) := by decide +kernel
theorem dX3_putVolume_52 : decode cX3_putVolume 52 = .ok (.ldc 47, 2) := by decide +kernel
theorem dX3_putVolume_54 : decode cX3_putVolume 54 = .ok (.invokevirtual 131, 3) := by decide +kernel
theorem dX3_putVolume_57 : decode cX3_putVolume 57 = .ok (.ireturn, 1) := by decide +kernel
theorem dX3_opensWith_0 : decode cX3_opensWith 0 = .ok (.aload_n 0, 1) := by decide +kernel
theorem dX3_opensWith_1 : decode cX3_opensWith 1 = .ok (.getfield 10, 3) := by decide +kernel
theorem dX3_opensWith_4 : decode cX3_opensWith 4 = .ok (.iload_n 1, 1) := by decide +kernel
theorem dX3_opensWith_5 : decode cX3_opensWith 5 = .ok (.invokestatic 122, 3) := by decide +kernel
theorem dX3_opensWith_8 : decode cX3_opensWith 8 = .ok (.iconst 0, 1) := by decide +kernel
theorem dX3_opensWith_9 : decode cX3_opensWith 9 = .ok (.iload_n 2, 1) := by decide +kernel
theorem dX3_opensWith_10 : decode cX3_opensWith 10 = .ok (.invokestatic 134, 3) := by decide +kernel
theorem dX3_opensWith_13 : decode cX3_opensWith 13 = .ok (.istore_n 3, 1) := by decide +kernel
theorem dX3_opensWith_14 : decode cX3_opensWith 14 = .ok (.aload_n 0, 1) := by decide +kernel
theorem dX3_opensWith_15 : decode cX3_opensWith 15 = .ok (.getfield 10, 3) := by decide +kernel
theorem dX3_opensWith_18 : decode cX3_opensWith 18 = .ok (.iload_n 1, 1) := by decide +kernel
theorem dX3_opensWith_19 : decode cX3_opensWith 19 = .ok (.invokestatic 122, 3) := by decide +kernel
theorem dX3_opensWith_22 : decode cX3_opensWith 22 = .ok (.iconst 1, 1) := by decide +kernel
theorem dX3_opensWith_23 : decode cX3_opensWith 23 = .ok (.iload_n 2, 1) := by decide +kernel
theorem dX3_opensWith_24 : decode cX3_opensWith 24 = .ok (.invokestatic 134, 3) := by decide +kernel
theorem dX3_opensWith_27 : decode cX3_opensWith 27 = .ok (.istore 4, 2) := by decide +kernel
theorem dX3_opensWith_29 : decode cX3_opensWith 29 = .ok (.aload_n 0, 1) := by decide +kernel
theorem dX3_opensWith_30 : decode cX3_opensWith 30 = .ok (.getfield 10, 3) := by decide +kernel
theorem dX3_opensWith_33 : decode cX3_opensWith 33 = .ok (.iconst 2, 1) := by decide +kernel
theorem dX3_opensWith_34 : decode cX3_opensWith 34 = .ok (.invokevirtual 43, 3) := by decide +kernel
theorem dX3_opensWith_37 : decode cX3_opensWith 37 = .ok (.istore 5, 2) := by decide +kernel
theorem dX3_opensWith_39 : decode cX3_opensWith 39 = .ok (.iload_n 3, 1) := by decide +kernel
theorem dX3_opensWith_40 : decode cX3_opensWith 40 = .ok (.iload 4, 2) := by decide +kernel
theorem dX3_opensWith_42 : decode cX3_opensWith 42 = .ok (.iload 5, 2) := by decide +kernel
theorem dX3_opensWith_44 : decode cX3_opensWith 44 = .ok (.invokestatic 118, 3) := by decide +kernel
theorem dX3_opensWith_47 : decode cX3_opensWith 47 = .ok (.aload_n 0, 1) := by decide +kernel
theorem dX3_opensWith_48 : decode cX3_opensWith 48 = .ok (.getfield 10, 3) := by decide +kernel
theorem dX3_opensWith_51 : decode cX3_opensWith 51 = .ok (.iconst 1, 1) := by decide +kernel
theorem dX3_opensWith_52 : decode cX3_opensWith 52 = .ok (.invokevirtual 43, 3) := by decide +kernel
theorem dX3_opensWith_55 : decode cX3_opensWith 55 = .ok (.if_icmp .eq 5, 3) := by decide +kernel
theorem dX3_opensWith_58 : decode cX3_opensWith 58 = .ok (.iconst 0, 1) := by decide +kernel
theorem dX3_opensWith_59 : decode cX3_opensWith 59 = .ok (.ireturn, 1) := by decide +kernel
theorem dX3_opensWith_60 : decode cX3_opensWith 60 = .ok (.aload_n 0, 1) := by decide +kernel
theorem dX3_opensWith_61 : decode cX3_opensWith 61 = .ok (.iconst 2, 1) := by decide +kernel
theorem dX3_opensWith_62 : decode cX3_opensWith 62 = .ok (.putfield 20, 3) := by decide +kernel
theorem dX3_opensWith_65 : decode cX3_opensWith 65 = .ok (.aload_n 0, 1) := by decide +kernel
theorem dX3_opensWith_66 : decode cX3_opensWith 66 = .ok (.iload_n 3, 1) := by decide +kernel
theorem dX3_opensWith_67 : decode cX3_opensWith 67 = .ok (.putfield 85, 3) := by decide +kernel
theorem dX3_opensWith_70 : decode cX3_opensWith 70 = .ok (.aload_n 0, 1) := by decide +kernel
theorem dX3_opensWith_71 : decode cX3_opensWith 71 = .ok (.iload 4, 2) := by decide +kernel
theorem dX3_opensWith_73 : decode cX3_opensWith 73 = .ok (.putfield 88, 3) := by decide +kernel
theorem dX3_opensWith_76 : decode cX3_opensWith 76 = .ok (.iconst 1, 1) := by decide +kernel
theorem dX3_opensWith_77 : decode cX3_opensWith 77 = .ok (.ireturn, 1) := by decide +kernel
theorem dX3_fillSlot_0 : decode cX3_fillSlot 0 = .ok (.aload_n 0, 1) := by decide +kernel
theorem dX3_fillSlot_1 : decode cX3_fillSlot 1 = .ok (.getfield 16, 3) := by decide +kernel
theorem dX3_fillSlot_4 : decode cX3_fillSlot 4 = .ok (.iconst 0, 1) := by decide +kernel
theorem dX3_fillSlot_5 : decode cX3_fillSlot 5 = .ok (.aload_n 0, 1) := by decide +kernel
theorem dX3_fillSlot_6 : decode cX3_fillSlot 6 = .ok (.getfield 85, 3) := by decide +kernel
theorem dX3_fillSlot_9 : decode cX3_fillSlot 9 = .ok (.aload_n 0, 1) := by decide +kernel
theorem dX3_fillSlot_10 : decode cX3_fillSlot 10 = .ok (.getfield 88, 3) := by decide +kernel
theorem dX3_fillSlot_13 : decode cX3_fillSlot 13 = .ok (.iload_n 2, 1) := by decide +kernel
theorem dX3_fillSlot_14 : decode cX3_fillSlot 14 = .ok (.iload_n 3, 1) := by decide +kernel
theorem dX3_fillSlot_15 : decode cX3_fillSlot 15 = .ok (.invokestatic 125, 3) := by decide +kernel
theorem dX3_fillSlot_18 : decode cX3_fillSlot 18 = .ok (.aload_n 0, 1) := by decide +kernel
theorem dX3_fillSlot_19 : decode cX3_fillSlot 19 = .ok (.getfield 10, 3) := by decide +kernel
theorem dX3_fillSlot_22 : decode cX3_fillSlot 22 = .ok (.iload_n 1, 1) := by decide +kernel
theorem dX3_fillSlot_23 : decode cX3_fillSlot 23 = .ok (.invokestatic 122, 3) := by decide +kernel
theorem dX3_fillSlot_26 : decode cX3_fillSlot 26 = .ok (.bipush 8, 2) := by decide +kernel
theorem dX3_fillSlot_28 : decode cX3_fillSlot 28 = .ok (.aload_n 0, 1) := by decide +kernel
theorem dX3_fillSlot_29 : decode cX3_fillSlot 29 = .ok (.getfield 16, 3) := by decide +kernel
theorem dX3_fillSlot_32 : decode cX3_fillSlot 32 = .ok (.invokevirtual 100, 3) := by decide +kernel
theorem dX3_fillSlot_35 : decode cX3_fillSlot 35 = .ok (.ireturn, 1) := by decide +kernel
theorem dX3_clearSlot_0 : decode cX3_clearSlot 0 = .ok (.aload_n 0, 1) := by decide +kernel
theorem dX3_clearSlot_1 : decode cX3_clearSlot 1 = .ok (.getfield 16, 3) := by decide +kernel
theorem dX3_clearSlot_4 : decode cX3_clearSlot 4 = .ok (.iconst 0, 1) := by decide +kernel
theorem dX3_clearSlot_5 : decode cX3_clearSlot 5 = .ok (.invokestatic 109, 3) := by decide +kernel
theorem dX3_clearSlot_8 : decode cX3_clearSlot 8 = .ok (.aload_n 0, 1) := by decide +kernel
theorem dX3_clearSlot_9 : decode cX3_clearSlot 9 = .ok (.getfield 10, 3) := by decide +kernel
theorem dX3_clearSlot_12 : decode cX3_clearSlot 12 = .ok (.iload_n 1, 1) := by decide +kernel
theorem dX3_clearSlot_13 : decode cX3_clearSlot 13 = .ok (.invokestatic 122, 3) := by decide +kernel
theorem dX3_clearSlot_16 : decode cX3_clearSlot 16 = .ok (.bipush 8, 2) := by decide +kernel
theorem dX3_clearSlot_18 : decode cX3_clearSlot 18 = .ok (.aload_n 0, 1) := by decide +kernel
theorem dX3_clearSlot_19 : decode cX3_clearSlot 19 = .ok (.getfield 16, 3) := by decide +kernel
theorem dX3_clearSlot_22 : decode cX3_clearSlot 22 = .ok (.invokevirtual 100, 3) := by decide +kernel
theorem dX3_clearSlot_25 : decode cX3_clearSlot 25 = .ok (.ireturn, 1) := by decide +kernel
theorem dX3_isActive_0 : decode cX3_isActive 0 = .ok (.aload_n 0, 1) := by decide +kernel
theorem dX3_isActive_1 : decode cX3_isActive 1 = .ok (.getfield 10, 3) := by decide +kernel
theorem dX3_isActive_4 : decode cX3_isActive 4 = .ok (.iload_n 1, 1) := by decide +kernel
theorem dX3_isActive_5 : decode cX3_isActive 5 = .ok (.invokestatic 122, 3) := by decide +kernel
theorem dX3_isActive_8 : decode cX3_isActive 8 = .ok (.invokevirtual 43, 3) := by decide +kernel
theorem dX3_isActive_11 : decode cX3_isActive 11 = .ok (.iconst 1, 1) := by decide +kernel
theorem dX3_isActive_12 : decode cX3_isActive 12 = .ok (.if_icmp .ne 7, 3) := by decide +kernel
theorem dX3_isActive_15 : decode cX3_isActive 15 = .ok (.iconst 1, 1) := by decide +kernel
theorem dX3_isActive_16 : decode cX3_isActive 16 = .ok (.goto 4, 3) := by decide +kernel
theorem dX3_isActive_19 : decode cX3_isActive 19 = .ok (.iconst 0, 1) := by decide +kernel
theorem dX3_isActive_20 : decode cX3_isActive 20 = .ok (.ireturn, 1) := by decide +kernel
theorem dX3_activeSlots_0 : decode cX3_activeSlots 0 = .ok (.aload_n 0, 1) := by decide +kernel
theorem dX3_activeSlots_1 : decode cX3_activeSlots 1 = .ok (.invokevirtual 138, 3) := by decide +kernel
theorem dX3_activeSlots_4 : decode cX3_activeSlots 4 = .ok (.invokestatic 141, 3) := by decide +kernel
theorem dX3_activeSlots_7 : decode cX3_activeSlots 7 = .ok (.ireturn, 1) := by decide +kernel
theorem dX3_leastFreeSlot_0 : decode cX3_leastFreeSlot 0 = .ok (.iconst 0, 1) := by decide +kernel
theorem dX3_leastFreeSlot_1 : decode cX3_leastFreeSlot 1 = .ok (.istore_n 1, 1) := by decide +kernel
theorem dX3_leastFreeSlot_2 : decode cX3_leastFreeSlot 2 = .ok (.iload_n 1, 1) := by decide +kernel
theorem dX3_leastFreeSlot_3 : decode cX3_leastFreeSlot 3 = .ok (.iconst 4, 1) := by decide +kernel
theorem dX3_leastFreeSlot_4 : decode cX3_leastFreeSlot 4 = .ok (.if_icmp .ge 17, 3) := by decide +kernel
theorem dX3_leastFreeSlot_7 : decode cX3_leastFreeSlot 7 = .ok (.aload_n 0, 1) := by decide +kernel
theorem dX3_leastFreeSlot_8 : decode cX3_leastFreeSlot 8 = .ok (.iload_n 1, 1) := by decide +kernel
theorem dX3_leastFreeSlot_9 : decode cX3_leastFreeSlot 9 = .ok (.invokevirtual 54, 3) := by decide +kernel
theorem dX3_leastFreeSlot_12 : decode cX3_leastFreeSlot 12 = .ok (.ifCond .eq 9, 3) := by decide +kernel
theorem dX3_leastFreeSlot_15 : decode cX3_leastFreeSlot 15 = .ok (.iinc 1 1, 3) := by decide +kernel
theorem dX3_leastFreeSlot_18 : decode cX3_leastFreeSlot 18 = .ok (.goto (-16), 3) := by decide +kernel
theorem dX3_leastFreeSlot_21 : decode cX3_leastFreeSlot 21 = .ok (.iload_n 1, 1) := by decide +kernel
theorem dX3_leastFreeSlot_22 : decode cX3_leastFreeSlot 22 = .ok (.ireturn, 1) := by decide +kernel
theorem dX3_plainWord_0 : decode cX3_plainWord 0 = .ok (.aload_n 0, 1) := by decide +kernel
theorem dX3_plainWord_1 : decode cX3_plainWord 1 = .ok (.getfield 10, 3) := by decide +kernel
theorem dX3_plainWord_4 : decode cX3_plainWord 4 = .ok (.iload_n 1, 1) := by decide +kernel
theorem dX3_plainWord_5 : decode cX3_plainWord 5 = .ok (.invokestatic 97, 3) := by decide +kernel
theorem dX3_plainWord_8 : decode cX3_plainWord 8 = .ok (.iload_n 2, 1) := by decide +kernel
theorem dX3_plainWord_9 : decode cX3_plainWord 9 = .ok (.iadd, 1) := by decide +kernel
theorem dX3_plainWord_10 : decode cX3_plainWord 10 = .ok (.invokevirtual 43, 3) := by decide +kernel
theorem dX3_plainWord_13 : decode cX3_plainWord 13 = .ok (.istore_n 3, 1) := by decide +kernel
theorem dX3_plainWord_14 : decode cX3_plainWord 14 = .ok (.aload_n 0, 1) := by decide +kernel
theorem dX3_plainWord_15 : decode cX3_plainWord 15 = .ok (.getfield 85, 3) := by decide +kernel
theorem dX3_plainWord_18 : decode cX3_plainWord 18 = .ok (.aload_n 0, 1) := by decide +kernel
theorem dX3_plainWord_19 : decode cX3_plainWord 19 = .ok (.getfield 88, 3) := by decide +kernel
theorem dX3_plainWord_22 : decode cX3_plainWord 22 = .ok (.iload_n 1, 1) := by decide +kernel
theorem dX3_plainWord_23 : decode cX3_plainWord 23 = .ok (.iload_n 2, 1) := by decide +kernel
theorem dX3_plainWord_24 : decode cX3_plainWord 24 = .ok (.iload_n 3, 1) := by decide +kernel
theorem dX3_plainWord_25 : decode cX3_plainWord 25 = .ok (.invokestatic 146, 3) := by decide +kernel
theorem dX3_plainWord_28 : decode cX3_plainWord 28 = .ok (.ireturn, 1) := by decide +kernel
theorem dX3_slotPlace_0 : decode cX3_slotPlace 0 = .ok (.iconst 4, 1) := by decide +kernel
theorem dX3_slotPlace_1 : decode cX3_slotPlace 1 = .ok (.bipush 8, 2) := by decide +kernel
theorem dX3_slotPlace_3 : decode cX3_slotPlace 3 = .ok (.iload_n 0, 1) := by decide +kernel
theorem dX3_slotPlace_4 : decode cX3_slotPlace 4 = .ok (.imul, 1) := by decide +kernel
theorem dX3_slotPlace_5 : decode cX3_slotPlace 5 = .ok (.iadd, 1) := by decide +kernel
theorem dX3_slotPlace_6 : decode cX3_slotPlace 6 = .ok (.ireturn, 1) := by decide +kernel
theorem dX3_sectorPlace_0 : decode cX3_sectorPlace 0 = .ok (.bipush 48, 2) := by decide +kernel
theorem dX3_sectorPlace_2 : decode cX3_sectorPlace 2 = .ok (.iconst 4, 1) := by decide +kernel
theorem dX3_sectorPlace_3 : decode cX3_sectorPlace 3 = .ok (.iload_n 0, 1) := by decide +kernel
theorem dX3_sectorPlace_4 : decode cX3_sectorPlace 4 = .ok (.imul, 1) := by decide +kernel
theorem dX3_sectorPlace_5 : decode cX3_sectorPlace 5 = .ok (.iadd, 1) := by decide +kernel
theorem dX3_sectorPlace_6 : decode cX3_sectorPlace 6 = .ok (.ireturn, 1) := by decide +kernel
