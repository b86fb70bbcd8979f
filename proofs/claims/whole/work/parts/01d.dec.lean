theorem dX4_init_0 : decode cX4_init 0 = .ok (.aload_n 0, 1) := by decide +kernel
theorem dX4_init_1 : decode cX4_init 1 = .ok (.invokespecial 1, 3) := by decide +kernel
theorem dX4_init_4 : decode cX4_init 4 = .ok (.aload_n 0, 1) := by decide +kernel
theorem dX4_init_5 : decode cX4_init 5 = .ok (.bipush 80, 2) := by decide +kernel
theorem dX4_init_7 : decode cX4_init 7 = .ok (.newarray .int, 2) := by decide +kernel
theorem dX4_init_9 : decode cX4_init 9 = .ok (.putfield 7, 3) := by decide +kernel
theorem dX4_init_12 : decode cX4_init 12 = .ok (.aload_n 0, 1) := by decide +kernel
theorem dX4_init_13 : decode cX4_init 13 = .ok (.iconst (-1), 1) := by decide +kernel
theorem dX4_init_14 : decode cX4_init 14 = .ok (.putfield 13, 3) := by decide +kernel
theorem dX4_init_17 : decode cX4_init 17 = .ok (.aload_n 0, 1) := by decide +kernel
theorem dX4_init_18 : decode cX4_init 18 = .ok (.bipush 100, 2) := by decide +kernel
theorem dX4_init_20 : decode cX4_init 20 = .ok (.newarray .int, 2) := by decide +kernel
theorem dX4_init_22 : decode cX4_init 22 = .ok (.putfield 17, 3) := by decide +kernel
theorem dX4_init_25 : decode cX4_init 25 = .ok (.aload_n 0, 1) := by decide +kernel
theorem dX4_init_26 : decode cX4_init 26 = .ok (.bipush 100, 2) := by decide +kernel
theorem dX4_init_28 : decode cX4_init 28 = .ok (.newarray .int, 2) := by decide +kernel
theorem dX4_init_30 : decode cX4_init 30 = .ok (.putfield 20, 3) := by decide +kernel
theorem dX4_init_33 : decode cX4_init 33 = .ok (.aload_n 0, 1) := by decide +kernel
theorem dX4_init_34 : decode cX4_init 34 = .ok (.bipush 80, 2) := by decide +kernel
theorem dX4_init_36 : decode cX4_init 36 = .ok (.newarray .int, 2) := by decide +kernel
theorem dX4_init_38 : decode cX4_init 38 = .ok (.putfield 23, 3) := by decide +kernel
theorem dX4_init_41 : decode cX4_init 41 = .ok (.aload_n 0, 1) := by decide +kernel
theorem dX4_init_42 : decode cX4_init 42 = .ok (.bipush 8, 2) := by decide +kernel
theorem dX4_init_44 : decode cX4_init 44 = .ok (.newarray .int, 2) := by decide +kernel
theorem dX4_init_46 : decode cX4_init 46 = .ok (.putfield 26, 3) := by decide +kernel
theorem dX4_init_49 : decode cX4_init 49 = .ok (.aload_n 0, 1) := by decide +kernel
theorem dX4_init_50 : decode cX4_init 50 = .ok (.bipush 6, 2) := by decide +kernel
theorem dX4_init_52 : decode cX4_init 52 = .ok (.newarray .int, 2) := by decide +kernel
theorem dX4_init_54 : decode cX4_init 54 = .ok (.putfield 29, 3) := by decide +kernel
theorem dX4_init_57 : decode cX4_init 57 = .ok (.return_, 1) := by decide +kernel
theorem dX4_h_0 : decode cX4_h 0 = .ok (.iload_n 0, 1) := by decide +kernel
theorem dX4_h_1 : decode cX4_h 1 = .ok (.ldc 32, 2) := by decide +kernel
theorem dX4_h_3 : decode cX4_h 3 = .ok (.ixor, 1) := by decide +kernel
theorem dX4_h_4 : decode cX4_h 4 = .ok (.ldc 33, 2) := by decide +kernel
theorem dX4_h_6 : decode cX4_h 6 = .ok (.imul, 1) := by decide +kernel
theorem dX4_h_7 : decode cX4_h 7 = .ok (.iload_n 1, 1) := by decide +kernel
theorem dX4_h_8 : decode cX4_h 8 = .ok (.iadd, 1) := by decide +kernel
theorem dX4_h_9 : decode cX4_h 9 = .ok (.istore_n 2, 1) := by decide +kernel
theorem dX4_h_10 : decode cX4_h 10 = .ok (.iload_n 2, 1) := by decide +kernel
theorem dX4_h_11 : decode cX4_h 11 = .ok (.iload_n 2, 1) := by decide +kernel
theorem dX4_h_12 : decode cX4_h 12 = .ok (.bipush 15, 2) := by decide +kernel
theorem dX4_h_14 : decode cX4_h 14 = .ok (.iushr, 1) := by decide +kernel
theorem dX4_h_15 : decode cX4_h 15 = .ok (.ixor, 1) := by decide +kernel
theorem dX4_h_16 : decode cX4_h 16 = .ok (.istore_n 2, 1) := by decide +kernel
theorem dX4_h_17 : decode cX4_h 17 = .ok (.iload_n 2, 1) := by decide +kernel
theorem dX4_h_18 : decode cX4_h 18 = .ok (.ldc 34, 2) := by decide +kernel
theorem dX4_h_20 : decode cX4_h 20 = .ok (.imul, 1) := by decide +kernel
theorem dX4_h_21 : decode cX4_h 21 = .ok (.istore_n 2, 1) := by decide +kernel
theorem dX4_h_22 : decode cX4_h 22 = .ok (.iload_n 2, 1) := by decide +kernel
theorem dX4_h_23 : decode cX4_h 23 = .ok (.iload_n 2, 1) := by decide +kernel
theorem dX4_h_24 : decode cX4_h 24 = .ok (.bipush 13, 2) := by decide +kernel
theorem dX4_h_26 : decode cX4_h 26 = .ok (.iushr, 1) := by decide +kernel
theorem dX4_h_27 : decode cX4_h 27 = .ok (.ixor, 1) := by decide +kernel
theorem dX4_h_28 : decode cX4_h 28 = .ok (.ireturn, 1) := by decide +kernel
theorem dX4_round_0 : decode cX4_round 0 = .ok (.iload_n 0, 1) := by decide +kernel
theorem dX4_round_1 : decode cX4_round 1 = .ok (.iload_n 1, 1) := by decide +kernel
theorem dX4_round_2 : decode cX4_round 2 = .ok (.invokestatic 35, 3) := by decide +kernel
theorem dX4_round_5 : decode cX4_round 5 = .ok (.istore_n 3, 1) := by decide +kernel
theorem dX4_round_6 : decode cX4_round 6 = .ok (.iload_n 3, 1) := by decide +kernel
theorem dX4_round_7 : decode cX4_round 7 = .ok (.iload_n 2, 1) := by decide +kernel
theorem dX4_round_8 : decode cX4_round 8 = .ok (.invokestatic 35, 3) := by decide +kernel
theorem dX4_round_11 : decode cX4_round 11 = .ok (.ldc 39, 2) := by decide +kernel
theorem dX4_round_13 : decode cX4_round 13 = .ok (.iand, 1) := by decide +kernel
theorem dX4_round_14 : decode cX4_round 14 = .ok (.ireturn, 1) := by decide +kernel
theorem dX4_enc_0 : decode cX4_enc 0 = .ok (.iload_n 1, 1) := by decide +kernel
theorem dX4_enc_1 : decode cX4_enc 1 = .ok (.bipush 16, 2) := by decide +kernel
theorem dX4_enc_3 : decode cX4_enc 3 = .ok (.iushr, 1) := by decide +kernel
theorem dX4_enc_4 : decode cX4_enc 4 = .ok (.istore_n 2, 1) := by decide +kernel
theorem dX4_enc_5 : decode cX4_enc 5 = .ok (.iload_n 1, 1) := by decide +kernel
theorem dX4_enc_6 : decode cX4_enc 6 = .ok (.ldc 39, 2) := by decide +kernel
theorem dX4_enc_8 : decode cX4_enc 8 = .ok (.iand, 1) := by decide +kernel
theorem dX4_enc_9 : decode cX4_enc 9 = .ok (.istore_n 3, 1) := by decide +kernel
theorem dX4_enc_10 : decode cX4_enc 10 = .ok (.iconst 0, 1) := by decide +kernel
theorem dX4_enc_11 : decode cX4_enc 11 = .ok (.istore 4, 2) := by decide +kernel
theorem dX4_enc_13 : decode cX4_enc 13 = .ok (.iload 4, 2) := by decide +kernel
theorem dX4_enc_15 : decode cX4_enc 15 = .ok (.iconst 4, 1) := by decide +kernel
theorem dX4_enc_16 : decode cX4_enc 16 = .ok (.if_icmp .ge 25, 3) := by decide +kernel
theorem dX4_enc_19 : decode cX4_enc 19 = .ok (.iload_n 2, 1) := by decide +kernel
theorem dX4_enc_20 : decode cX4_enc 20 = .ok (.iload_n 0, 1) := by decide +kernel
theorem dX4_enc_21 : decode cX4_enc 21 = .ok (.iload 4, 2) := by decide +kernel
theorem dX4_enc_23 : decode cX4_enc 23 = .ok (.iload_n 3, 1) := by decide +kernel
theorem dX4_enc_24 : decode cX4_enc 24 = .ok (.invokestatic 40, 3) := by decide +kernel
theorem dX4_enc_27 : decode cX4_enc 27 = .ok (.ixor, 1) := by decide +kernel
theorem dX4_enc_28 : decode cX4_enc 28 = .ok (.istore 5, 2) := by decide +kernel
theorem dX4_enc_30 : decode cX4_enc 30 = .ok (.iload_n 3, 1) := by decide +kernel
theorem dX4_enc_31 : decode cX4_enc 31 = .ok (.istore_n 2, 1) := by decide +kernel
theorem dX4_enc_32 : decode cX4_enc 32 = .ok (.iload 5, 2) := by decide +kernel
theorem dX4_enc_34 : decode cX4_enc 34 = .ok (.istore_n 3, 1) := by decide +kernel
theorem dX4_enc_35 : decode cX4_enc 35 = .ok (.iinc 4 1, 3) := by decide +kernel
theorem dX4_enc_38 : decode cX4_enc 38 = .ok (.goto (-25), 3) := by decide +kernel
theorem dX4_enc_41 : decode cX4_enc 41 = .ok (.iload_n 2, 1) := by decide +kernel
theorem dX4_enc_42 : decode cX4_enc 42 = .ok (.bipush 16, 2) := by decide +kernel
theorem dX4_enc_44 : decode cX4_enc 44 = .ok (.ishl, 1) := by decide +kernel
theorem dX4_enc_45 : decode cX4_enc 45 = .ok (.iload_n 3, 1) := by decide +kernel
theorem dX4_enc_46 : decode cX4_enc 46 = .ok (.ior, 1) := by decide +kernel
theorem dX4_enc_47 : decode cX4_enc 47 = .ok (.ireturn, 1) := by decide +kernel
theorem dX4_dec_0 : decode cX4_dec 0 = .ok (.iload_n 1, 1) := by decide +kernel
theorem dX4_dec_1 : decode cX4_dec 1 = .ok (.bipush 16, 2) := by decide +kernel
theorem dX4_dec_3 : decode cX4_dec 3 = .ok (.iushr, 1) := by decide +kernel
theorem dX4_dec_4 : decode cX4_dec 4 = .ok (.istore_n 2, 1) := by decide +kernel
theorem dX4_dec_5 : decode cX4_dec 5 = .ok (.iload_n 1, 1) := by decide +kernel
theorem dX4_dec_6 : decode cX4_dec 6 = .ok (.ldc 39, 2) := by decide +kernel
theorem dX4_dec_8 : decode cX4_dec 8 = .ok (.iand, 1) := by decide +kernel
theorem dX4_dec_9 : decode cX4_dec 9 = .ok (.istore_n 3, 1) := by decide +kernel
theorem dX4_dec_10 : decode cX4_dec 10 = .ok (.iconst 3, 1) := by decide +kernel
theorem dX4_dec_11 : decode cX4_dec 11 = .ok (.istore 4, 2) := by decide +kernel
theorem dX4_dec_13 : decode cX4_dec 13 = .ok (.iload 4, 2) := by decide +kernel
theorem dX4_dec_15 : decode cX4_dec 15 = .ok (.ifCond .lt 25, 3) := by decide +kernel
theorem dX4_dec_18 : decode cX4_dec 18 = .ok (.iload_n 3, 1) := by decide +kernel
theorem dX4_dec_19 : decode cX4_dec 19 = .ok (.iload_n 0, 1) := by decide +kernel
theorem dX4_dec_20 : decode cX4_dec 20 = .ok (.iload 4, 2) := by decide +kernel
theorem dX4_dec_22 : decode cX4_dec 22 = .ok (.iload_n 2, 1) := by decide +kernel
theorem dX4_dec_23 : decode cX4_dec 23 = .ok (.invokestatic 40, 3) := by decide +kernel
theorem dX4_dec_26 : decode cX4_dec 26 = .ok (.ixor, 1) := by decide +kernel
theorem dX4_dec_27 : decode cX4_dec 27 = .ok (.istore 5, 2) := by decide +kernel
theorem dX4_dec_29 : decode cX4_dec 29 = .ok (.iload_n 2, 1) := by decide +kernel
theorem dX4_dec_30 : decode cX4_dec 30 = .ok (.istore_n 3, 1) := by decide +kernel
theorem dX4_dec_31 : decode cX4_dec 31 = .ok (.iload 5, 2) := by decide +kernel
theorem dX4_dec_33 : decode cX4_dec 33 = .ok (.istore_n 2, 1) := by decide +kernel
theorem dX4_dec_34 : decode cX4_dec 34 = .ok (.iinc 4 (-1), 3) := by decide +kernel
theorem dX4_dec_37 : decode cX4_dec 37 = .ok (.goto (-24), 3) := by decide +kernel
theorem dX4_dec_40 : decode cX4_dec 40 = .ok (.iload_n 2, 1) := by decide +kernel
theorem dX4_dec_41 : decode cX4_dec 41 = .ok (.bipush 16, 2) := by decide +kernel
theorem dX4_dec_43 : decode cX4_dec 43 = .ok (.ishl, 1) := by decide +kernel
theorem dX4_dec_44 : decode cX4_dec 44 = .ok (.iload_n 3, 1) := by decide +kernel
theorem dX4_dec_45 : decode cX4_dec 45 = .ok (.ior, 1) := by decide +kernel
theorem dX4_dec_46 : decode cX4_dec 46 = .ok (.ireturn, 1) := by decide +kernel
theorem dX4_slotKey_0 : decode cX4_slotKey 0 = .ok (.iload_n 0, 1) := by decide +kernel
theorem dX4_slotKey_1 : decode cX4_slotKey 1 = .ok (.iload_n 1, 1) := by decide +kernel
theorem dX4_slotKey_2 : decode cX4_slotKey 2 = .ok (.invokestatic 35, 3) := by decide +kernel
theorem dX4_slotKey_5 : decode cX4_slotKey 5 = .ok (.istore_n 3, 1) := by decide +kernel
theorem dX4_slotKey_6 : decode cX4_slotKey 6 = .ok (.iload_n 3, 1) := by decide +kernel
theorem dX4_slotKey_7 : decode cX4_slotKey 7 = .ok (.iload_n 2, 1) := by decide +kernel
theorem dX4_slotKey_8 : decode cX4_slotKey 8 = .ok (.invokestatic 35, 3) := by decide +kernel
theorem dX4_slotKey_11 : decode cX4_slotKey 11 = .ok (.istore_n 3, 1) := by decide +kernel
theorem dX4_slotKey_12 : decode cX4_slotKey 12 = .ok (.iload_n 3, 1) := by decide +kernel
theorem dX4_slotKey_13 : decode cX4_slotKey 13 = .ok (.istore 4, 2) := by decide +kernel
theorem dX4_slotKey_15 : decode cX4_slotKey 15 = .ok (.iconst 0, 1) := by decide +kernel
theorem dX4_slotKey_16 : decode cX4_slotKey 16 = .ok (.istore 5, 2) := by decide +kernel
theorem dX4_slotKey_18 : decode cX4_slotKey 18 = .ok (.iload 5, 2) := by decide +kernel
theorem dX4_slotKey_20 : decode cX4_slotKey 20 = .ok (.bipush 7, 2) := by decide +kernel
theorem dX4_slotKey_22 : decode cX4_slotKey 22 = .ok (.if_icmp .ge 21, 3) := by decide +kernel
theorem dX4_slotKey_25 : decode cX4_slotKey 25 = .ok (.iload_n 0, 1) := by decide +kernel
theorem dX4_slotKey_26 : decode cX4_slotKey 26 = .ok (.iload_n 3, 1) := by decide +kernel
theorem dX4_slotKey_27 : decode cX4_slotKey 27 = .ok (.invokestatic 35, 3) := by decide +kernel
theorem dX4_slotKey_30 : decode cX4_slotKey 30 = .ok (.istore_n 3, 1) := by decide +kernel
theorem dX4_slotKey_31 : decode cX4_slotKey 31 = .ok (.iload 4, 2) := by decide +kernel
theorem dX4_slotKey_33 : decode cX4_slotKey 33 = .ok (.iload_n 3, 1) := by decide +kernel
theorem dX4_slotKey_34 : decode cX4_slotKey 34 = .ok (.ixor, 1) := by decide +kernel
theorem dX4_slotKey_35 : decode cX4_slotKey 35 = .ok (.istore 4, 2) := by decide +kernel
theorem dX4_slotKey_37 : decode cX4_slotKey 37 = .ok (.iinc 5 1, 3) := by decide +kernel
theorem dX4_slotKey_40 : decode cX4_slotKey 40 = .ok (.goto (-22), 3) := by decide +kernel
theorem dX4_slotKey_43 : decode cX4_slotKey 43 = .ok (.iload 4, 2) := by decide +kernel
theorem dX4_slotKey_45 : decode cX4_slotKey 45 = .ok (.ireturn, 1) := by decide +kernel
theorem dX4_mask_0 : decode cX4_mask 0 = .ok (.iload_n 0, 1) := by decide +kernel
theorem dX4_mask_1 : decode cX4_mask 1 = .ok (.iload_n 1, 1) := by decide +kernel
theorem dX4_mask_2 : decode cX4_mask 2 = .ok (.invokestatic 44, 3) := by decide +kernel
theorem dX4_mask_5 : decode cX4_mask 5 = .ok (.istore_n 3, 1) := by decide +kernel
theorem dX4_mask_6 : decode cX4_mask 6 = .ok (.iconst 0, 1) := by decide +kernel
theorem dX4_mask_7 : decode cX4_mask 7 = .ok (.istore 4, 2) := by decide +kernel
theorem dX4_mask_9 : decode cX4_mask 9 = .ok (.iload 4, 2) := by decide +kernel
theorem dX4_mask_11 : decode cX4_mask 11 = .ok (.iload_n 2, 1) := by decide +kernel
theorem dX4_mask_12 : decode cX4_mask 12 = .ok (.if_icmp .ge 25, 3) := by decide +kernel
theorem dX4_mask_15 : decode cX4_mask 15 = .ok (.iload_n 3, 1) := by decide +kernel
theorem dX4_mask_16 : decode cX4_mask 16 = .ok (.iconst 1, 1) := by decide +kernel
theorem dX4_mask_17 : decode cX4_mask 17 = .ok (.ishl, 1) := by decide +kernel
theorem dX4_mask_18 : decode cX4_mask 18 = .ok (.iload_n 3, 1) := by decide +kernel
theorem dX4_mask_19 : decode cX4_mask 19 = .ok (.ifCond .ge 9, 3) := by decide +kernel
theorem dX4_mask_22 : decode cX4_mask 22 = .ok (.sipush 141, 3) := by decide +kernel
theorem dX4_mask_25 : decode cX4_mask 25 = .ok (.goto 4, 3) := by decide +kernel
theorem dX4_mask_28 : decode cX4_mask 28 = .ok (.iconst 0, 1) := by decide +kernel
theorem dX4_mask_29 : decode cX4_mask 29 = .ok (.ixor, 1) := by decide +kernel
theorem dX4_mask_30 : decode cX4_mask 30 = .ok (.istore_n 3, 1) := by decide +kernel
theorem dX4_mask_31 : decode cX4_mask 31 = .ok (.iinc 4 1, 3) := by decide +kernel
theorem dX4_mask_34 : decode cX4_mask 34 = .ok (.goto (-25), 3) := by decide +kernel
theorem dX4_mask_37 : decode cX4_mask 37 = .ok (.iload_n 3, 1) := by decide +kernel
theorem dX4_mask_38 : decode cX4_mask 38 = .ok (.ireturn, 1) := by decide +kernel
theorem dX4_hide_0 : decode cX4_hide 0 = .ok (.iload_n 1, 1) := by decide +kernel
theorem dX4_hide_1 : decode cX4_hide 1 = .ok (.iload_n 2, 1) := by decide +kernel
theorem dX4_hide_2 : decode cX4_hide 2 = .ok (.iload_n 3, 1) := by decide +kernel
theorem dX4_hide_3 : decode cX4_hide 3 = .ok (.invokestatic 47, 3) := by decide +kernel
theorem dX4_hide_6 : decode cX4_hide 6 = .ok (.istore 5, 2) := by decide +kernel
theorem dX4_hide_8 : decode cX4_hide 8 = .ok (.iload_n 0, 1) := by decide +kernel
theorem dX4_hide_9 : decode cX4_hide 9 = .ok (.iload 4, 2) := by decide +kernel
theorem dX4_hide_11 : decode cX4_hide 11 = .ok (.iload 5, 2) := by decide +kernel
theorem dX4_hide_13 : decode cX4_hide 13 = .ok (.ixor, 1) := by decide +kernel
theorem dX4_hide_14 : decode cX4_hide 14 = .ok (.invokestatic 44, 3) := by decide +kernel
theorem dX4_hide_17 : decode cX4_hide 17 = .ok (.iload 5, 2) := by decide +kernel
theorem dX4_hide_19 : decode cX4_hide 19 = .ok (.ixor, 1) := by decide +kernel
theorem dX4_hide_20 : decode cX4_hide 20 = .ok (.ireturn, 1) := by decide +kernel
theorem dX4_show_0 : decode cX4_show 0 = .ok (.iload_n 1, 1) := by decide +kernel
theorem dX4_show_1 : decode cX4_show 1 = .ok (.iload_n 2, 1) := by decide +kernel
theorem dX4_show_2 : decode cX4_show 2 = .ok (.iload_n 3, 1) := by decide +kernel
theorem dX4_show_3 : decode cX4_show 3 = .ok (.invokestatic 47, 3) := by decide +kernel
theorem dX4_show_6 : decode cX4_show 6 = .ok (.istore 5, 2) := by decide +kernel
theorem dX4_show_8 : decode cX4_show 8 = .ok (.iload_n 0, 1) := by decide +kernel
theorem dX4_show_9 : decode cX4_show 9 = .ok (.iload 4, 2) := by decide +kernel
theorem dX4_show_11 : decode cX4_show 11 = .ok (.iload 5, 2) := by decide +kernel
theorem dX4_show_13 : decode cX4_show 13 = .ok (.ixor, 1) := by decide +kernel
theorem dX4_show_14 : decode cX4_show 14 = .ok (.invokestatic 50, 3) := by decide +kernel
theorem dX4_show_17 : decode cX4_show 17 = .ok (.iload 5, 2) := by decide +kernel
theorem dX4_show_19 : decode cX4_show 19 = .ok (.ixor, 1) := by decide +kernel
theorem dX4_show_20 : decode cX4_show 20 = .ok (.ireturn, 1) := by decide +kernel
theorem dX4_digest_0 : decode cX4_digest 0 = .ok (.iload_n 0, 1) := by decide +kernel
theorem dX4_digest_1 : decode cX4_digest 1 = .ok (.iload_n 2, 1) := by decide +kernel
theorem dX4_digest_2 : decode cX4_digest 2 = .ok (.invokestatic 35, 3) := by decide +kernel
theorem dX4_digest_5 : decode cX4_digest 5 = .ok (.istore_n 3, 1) := by decide +kernel
theorem dX4_digest_6 : decode cX4_digest 6 = .ok (.iload_n 3, 1) := by decide +kernel
theorem dX4_digest_7 : decode cX4_digest 7 = .ok (.iload_n 1, 1) := by decide +kernel
theorem dX4_digest_8 : decode cX4_digest 8 = .ok (.invokestatic 35, 3) := by decide +kernel
theorem dX4_digest_11 : decode cX4_digest 11 = .ok (.ireturn, 1) := by decide +kernel
theorem dX4_cover_0 : decode cX4_cover 0 = .ok (.aload_n 0, 1) := by decide +kernel
theorem dX4_cover_1 : decode cX4_cover 1 = .ok (.getfield 29, 3) := by decide +kernel
theorem dX4_cover_4 : decode cX4_cover 4 = .ok (.iload_n 1, 1) := by decide +kernel
theorem dX4_cover_5 : decode cX4_cover 5 = .ok (.iaload, 1) := by decide +kernel
theorem dX4_cover_6 : decode cX4_cover 6 = .ok (.iload_n 1, 1) := by decide +kernel
theorem dX4_cover_7 : decode cX4_cover 7 = .ok (.iconst 1, 1) := by decide +kernel
theorem dX4_cover_8 : decode cX4_cover 8 = .ok (.iadd, 1) := by decide +kernel
theorem dX4_cover_9 : decode cX4_cover 9 = .ok (.invokestatic 35, 3) := by decide +kernel
theorem dX4_cover_12 : decode cX4_cover 12 = .ok (.istore_n 2, 1) := by decide +kernel
theorem dX4_cover_13 : decode cX4_cover 13 = .ok (.iload_n 2, 1) := by decide +kernel
theorem dX4_cover_14 : decode cX4_cover 14 = .ok (.aload_n 0, 1) := by decide +kernel
theorem dX4_cover_15 : decode cX4_cover 15 = .ok (.getfield 29, 3) := by decide +kernel
theorem dX4_cover_18 : decode cX4_cover 18 = .ok (.iload_n 1, 1) := by decide +kernel
theorem dX4_cover_19 : decode cX4_cover 19 = .ok (.iconst 2, 1) := by decide +kernel
theorem dX4_cover_20 : decode cX4_cover 20 = .ok (.iadd, 1) := by decide +kernel
theorem dX4_cover_21 : decode cX4_cover 21 = .ok (.iaload, 1) := by decide +kernel
theorem dX4_cover_22 : decode cX4_cover 22 = .ok (.ixor, 1) := by decide +kernel
theorem dX4_cover_23 : decode cX4_cover 23 = .ok (.iload_n 1, 1) := by decide +kernel
theorem dX4_cover_24 : decode cX4_cover 24 = .ok (.iconst 1, 1) := by decide +kernel
theorem dX4_cover_25 : decode cX4_cover 25 = .ok (.iadd, 1) := by decide +kernel
theorem dX4_cover_26 : decode cX4_cover 26 = .ok (.invokestatic 35, 3) := by decide +kernel
theorem dX4_cover_29 : decode cX4_cover 29 = .ok (.ireturn, 1) := by decide +kernel
theorem dX4_makeSlot_0 : decode cX4_makeSlot 0 = .ok (.iconst 0, 1) := by decide +kernel
theorem dX4_makeSlot_1 : decode cX4_makeSlot 1 = .ok (.istore 5, 2) := by decide +kernel
theorem dX4_makeSlot_3 : decode cX4_makeSlot 3 = .ok (.iload 5, 2) := by decide +kernel
theorem dX4_makeSlot_5 : decode cX4_makeSlot 5 = .ok (.iconst 4, 1) := by decide +kernel
theorem dX4_makeSlot_6 : decode cX4_makeSlot 6 = .ok (.if_icmp .ge 24, 3) := by decide +kernel
theorem dX4_makeSlot_9 : decode cX4_makeSlot 9 = .ok (.aload_n 0, 1) := by decide +kernel
theorem dX4_makeSlot_10 : decode cX4_makeSlot 10 = .ok (.getfield 29, 3) := by decide +kernel
theorem dX4_makeSlot_13 : decode cX4_makeSlot 13 = .ok (.iload 5, 2) := by decide +kernel
theorem dX4_makeSlot_15 : decode cX4_makeSlot 15 = .ok (.iload_n 2, 1) := by decide +kernel
theorem dX4_makeSlot_16 : decode cX4_makeSlot 16 = .ok (.iload 5, 2) := by decide +kernel
theorem dX4_makeSlot_18 : decode cX4_makeSlot 18 = .ok (.iconst 1, 1) := by decide +kernel
theorem dX4_makeSlot_19 : decode cX4_makeSlot 19 = .ok (.iadd, 1) := by decide +kernel
theorem dX4_makeSlot_20 : decode cX4_makeSlot 20 = .ok (.invokestatic 35, 3) := by decide +kernel
theorem dX4_makeSlot_23 : decode cX4_makeSlot 23 = .ok (.iastore, 1) := by decide +kernel
theorem dX4_makeSlot_24 : decode cX4_makeSlot 24 = .ok (.iinc 5 1, 3) := by decide +kernel
theorem dX4_makeSlot_27 : decode cX4_makeSlot 27 = .ok (.goto (-24), 3) := by decide +kernel
theorem dX4_makeSlot_30 : decode cX4_makeSlot 30 = .ok (.aload_n 0, 1) := by decide +kernel
theorem dX4_makeSlot_31 : decode cX4_makeSlot 31 = .ok (.getfield 29, 3) := by decide +kernel
theorem dX4_makeSlot_34 : decode cX4_makeSlot 34 = .ok (.iconst 4, 1) := by decide +kernel
theorem dX4_makeSlot_35 : decode cX4_makeSlot 35 = .ok (.aload_n 0, 1) := by decide +kernel
theorem dX4_makeSlot_36 : decode cX4_makeSlot 36 = .ok (.iconst 0, 1) := by decide +kernel
theorem dX4_makeSlot_37 : decode cX4_makeSlot 37 = .ok (.invokevirtual 53, 3) := by decide +kernel
theorem dX4_makeSlot_40 : decode cX4_makeSlot 40 = .ok (.iload_n 3, 1) := by decide +kernel
theorem dX4_makeSlot_41 : decode cX4_makeSlot 41 = .ok (.ixor, 1) := by decide +kernel
theorem dX4_makeSlot_42 : decode cX4_makeSlot 42 = .ok (.iastore, 1) := by decide +kernel
theorem dX4_makeSlot_43 : decode cX4_makeSlot 43 = .ok (.aload_n 0, 1) := by decide +kernel
theorem dX4_makeSlot_44 : decode cX4_makeSlot 44 = .ok (.getfield 29, 3) := by decide +kernel
theorem dX4_makeSlot_47 : decode cX4_makeSlot 47 = .ok (.iconst 5, 1) := by decide +kernel
theorem dX4_makeSlot_48 : decode cX4_makeSlot 48 = .ok (.aload_n 0, 1) := by decide +kernel
theorem dX4_makeSlot_49 : decode cX4_makeSlot 49 = .ok (.iconst 1, 1) := by decide +kernel
theorem dX4_makeSlot_50 : decode cX4_makeSlot 50 = .ok (.invokevirtual 53, 3) := by decide +kernel
theorem dX4_makeSlot_53 : decode cX4_makeSlot 53 = .ok (.iload 4, 2) := by decide +kernel
theorem dX4_makeSlot_55 : decode cX4_makeSlot 55 = .ok (.ixor, 1) := by decide +kernel
theorem dX4_makeSlot_56 : decode cX4_makeSlot 56 = .ok (.iastore, 1) := by decide +kernel
theorem dX4_makeSlot_57 : decode cX4_makeSlot 57 = .ok (.iload_n 2, 1) := by decide +kernel
theorem dX4_makeSlot_58 : decode cX4_makeSlot 58 = .ok (.iconst 0, 1) := by decide +kernel
theorem dX4_makeSlot_59 : decode cX4_makeSlot 59 = .ok (.invokestatic 35, 3) := by decide +kernel
theorem dX4_makeSlot_62 : decode cX4_makeSlot 62 = .ok (.istore 5, 2) := by decide +kernel
theorem dX4_makeSlot_64 : decode cX4_makeSlot 64 = .ok (.aload_n 0, 1) := by decide +kernel
theorem dX4_makeSlot_65 : decode cX4_makeSlot 65 = .ok (.getfield 26, 3) := by decide +kernel
theorem dX4_makeSlot_68 : decode cX4_makeSlot 68 = .ok (.iconst 0, 1) := by decide +kernel
theorem dX4_makeSlot_69 : decode cX4_makeSlot 69 = .ok (.iconst 1, 1) := by decide +kernel
theorem dX4_makeSlot_70 : decode cX4_makeSlot 70 = .ok (.iastore, 1) := by decide +kernel
theorem dX4_makeSlot_71 : decode cX4_makeSlot 71 = .ok (.aload_n 0, 1) := by decide +kernel
theorem dX4_makeSlot_72 : decode cX4_makeSlot 72 = .ok (.getfield 26, 3) := by decide +kernel
theorem dX4_makeSlot_75 : decode cX4_makeSlot 75 = .ok (.iconst 1, 1) := by decide +kernel
theorem dX4_makeSlot_76 : decode cX4_makeSlot 76 = .ok (.iload 5, 2) := by decide +kernel
theorem dX4_makeSlot_78 : decode cX4_makeSlot 78 = .ok (.iastore, 1) := by decide +kernel
theorem dX4_makeSlot_79 : decode cX4_makeSlot 79 = .ok (.iconst 0, 1) := by decide +kernel
theorem dX4_makeSlot_80 : decode cX4_makeSlot 80 = .ok (.istore 6, 2) := by decide +kernel
theorem dX4_makeSlot_82 : decode cX4_makeSlot 82 = .ok (.iload 6, 2) := by decide +kernel
theorem dX4_makeSlot_84 : decode cX4_makeSlot 84 = .ok (.bipush 6, 2) := by decide +kernel
theorem dX4_makeSlot_86 : decode cX4_makeSlot 86 = .ok (.if_icmp .ge 42, 3) := by decide +kernel
theorem dX4_makeSlot_89 : decode cX4_makeSlot 89 = .ok (.iload_n 1, 1) := by decide +kernel
theorem dX4_makeSlot_90 : decode cX4_makeSlot 90 = .ok (.iload 5, 2) := by decide +kernel
theorem dX4_makeSlot_92 : decode cX4_makeSlot 92 = .ok (.iload 6, 2) := by decide +kernel
theorem dX4_makeSlot_94 : decode cX4_makeSlot 94 = .ok (.iconst 2, 1) := by decide +kernel
theorem dX4_makeSlot_95 : decode cX4_makeSlot 95 = .ok (.irem, 1) := by decide +kernel
theorem dX4_makeSlot_96 : decode cX4_makeSlot 96 = .ok (.invokestatic 57, 3) := by decide +kernel
theorem dX4_makeSlot_99 : decode cX4_makeSlot 99 = .ok (.istore 7, 2) := by decide +kernel
theorem dX4_makeSlot_101 : decode cX4_makeSlot 101 = .ok (.aload_n 0, 1) := by decide +kernel
theorem dX4_makeSlot_102 : decode cX4_makeSlot 102 = .ok (.getfield 26, 3) := by decide +kernel
theorem dX4_makeSlot_105 : decode cX4_makeSlot 105 = .ok (.iconst 2, 1) := by decide +kernel
theorem dX4_makeSlot_106 : decode cX4_makeSlot 106 = .ok (.iload 6, 2) := by decide +kernel
theorem dX4_makeSlot_108 : decode cX4_makeSlot 108 = .ok (.iadd, 1) := by decide +kernel
theorem dX4_makeSlot_109 : decode cX4_makeSlot 109 = .ok (.iload 7, 2) := by decide +kernel
theorem dX4_makeSlot_111 : decode cX4_makeSlot 111 = .ok (.aload_n 0, 1) := by decide +kernel
theorem dX4_makeSlot_112 : decode cX4_makeSlot 112 = .ok (.getfield 29, 3) := by decide +kernel
theorem dX4_makeSlot_115 : decode cX4_makeSlot 115 = .ok (.iload 6, 2) := by decide +kernel
theorem dX4_makeSlot_117 : decode cX4_makeSlot 117 = .ok (.iaload, 1) := by decide +kernel
theorem dX4_makeSlot_118 : decode cX4_makeSlot 118 = .ok (.invokestatic 44, 3) := by decide +kernel
theorem dX4_makeSlot_121 : decode cX4_makeSlot 121 = .ok (.iastore, 1) := by decide +kernel
theorem dX4_makeSlot_122 : decode cX4_makeSlot 122 = .ok (.iinc 6 1, 3) := by decide +kernel
theorem dX4_makeSlot_125 : decode cX4_makeSlot 125 = .ok (.goto (-43), 3) := by decide +kernel
theorem dX4_makeSlot_128 : decode cX4_makeSlot 128 = .ok (.return_, 1) := by decide +kernel
theorem dX4_active_0 : decode cX4_active 0 = .ok (.aload_n 0, 1) := by decide +kernel
theorem dX4_active_1 : decode cX4_active 1 = .ok (.getfield 7, 3) := by decide +kernel
theorem dX4_active_4 : decode cX4_active 4 = .ok (.iconst 4, 1) := by decide +kernel
theorem dX4_active_5 : decode cX4_active 5 = .ok (.bipush 8, 2) := by decide +kernel
theorem dX4_active_7 : decode cX4_active 7 = .ok (.iload_n 1, 1) := by decide +kernel
theorem dX4_active_8 : decode cX4_active 8 = .ok (.imul, 1) := by decide +kernel
theorem dX4_active_9 : decode cX4_active 9 = .ok (.iadd, 1) := by decide +kernel
theorem dX4_active_10 : decode cX4_active 10 = .ok (.iaload, 1) := by decide +kernel
theorem dX4_active_11 : decode cX4_active 11 = .ok (.iconst 1, 1) := by decide +kernel
theorem dX4_active_12 : decode cX4_active 12 = .ok (.if_icmp .ne 7, 3) := by decide +kernel
theorem dX4_active_15 : decode cX4_active 15 = .ok (.iconst 1, 1) := by decide +kernel
theorem dX4_active_16 : decode cX4_active 16 = .ok (.goto 4, 3) := by decide +kernel
theorem dX4_active_19 : decode cX4_active 19 = .ok (.iconst 0, 1) := by decide +kernel
theorem dX4_active_20 : decode cX4_active 20 = .ok (.ireturn, 1) := by decide +kernel
theorem dX4_opens_0 : decode cX4_opens 0 = .ok (.iconst 4, 1) := by decide +kernel
theorem dX4_opens_1 : decode cX4_opens 1 = .ok (.bipush 8, 2) := by decide +kernel
theorem dX4_opens_3 : decode cX4_opens 3 = .ok (.iload_n 1, 1) := by decide +kernel
theorem dX4_opens_4 : decode cX4_opens 4 = .ok (.imul, 1) := by decide +kernel
theorem dX4_opens_5 : decode cX4_opens 5 = .ok (.iadd, 1) := by decide +kernel
theorem dX4_opens_6 : decode cX4_opens 6 = .ok (.istore_n 3, 1) := by decide +kernel
theorem dX4_opens_7 : decode cX4_opens 7 = .ok (.iconst 0, 1) := by decide +kernel
theorem dX4_opens_8 : decode cX4_opens 8 = .ok (.istore 4, 2) := by decide +kernel
theorem dX4_opens_10 : decode cX4_opens 10 = .ok (.iload 4, 2) := by decide +kernel
theorem dX4_opens_12 : decode cX4_opens 12 = .ok (.bipush 6, 2) := by decide +kernel
theorem dX4_opens_14 : decode cX4_opens 14 = .ok (.if_icmp .ge 50, 3) := by decide +kernel
theorem dX4_opens_17 : decode cX4_opens 17 = .ok (.iload_n 2, 1) := by decide +kernel
theorem dX4_opens_18 : decode cX4_opens 18 = .ok (.aload_n 0, 1) := by decide +kernel
theorem dX4_opens_19 : decode cX4_opens 19 = .ok (.getfield 7, 3) := by decide +kernel
theorem dX4_opens_22 : decode cX4_opens 22 = .ok (.iload_n 3, 1) := by decide +kernel
theorem dX4_opens_23 : decode cX4_opens 23 = .ok (.iconst 1, 1) := by decide +kernel
theorem dX4_opens_24 : decode cX4_opens 24 = .ok (.iadd, 1) := by decide +kernel
theorem dX4_opens_25 : decode cX4_opens 25 = .ok (.iaload, 1) := by decide +kernel
theorem dX4_opens_26 : decode cX4_opens 26 = .ok (.iload 4, 2) := by decide +kernel
theorem dX4_opens_28 : decode cX4_opens 28 = .ok (.iconst 2, 1) := by decide +kernel
theorem dX4_opens_29 : decode cX4_opens 29 = .ok (.irem, 1) := by decide +kernel
theorem dX4_opens_30 : decode cX4_opens 30 = .ok (.invokestatic 57, 3) := by decide +kernel
theorem dX4_opens_33 : decode cX4_opens 33 = .ok (.istore 5, 2) := by decide +kernel
theorem dX4_opens_35 : decode cX4_opens 35 = .ok (.aload_n 0, 1) := by decide +kernel
theorem dX4_opens_36 : decode cX4_opens 36 = .ok (.getfield 29, 3) := by decide +kernel
theorem dX4_opens_39 : decode cX4_opens 39 = .ok (.iload 4, 2) := by decide +kernel
theorem dX4_opens_41 : decode cX4_opens 41 = .ok (.iload 5, 2) := by decide +kernel
theorem dX4_opens_43 : decode cX4_opens 43 = .ok (.aload_n 0, 1) := by decide +kernel
theorem dX4_opens_44 : decode cX4_opens 44 = .ok (.getfield 7, 3) := by decide +kernel
theorem dX4_opens_47 : decode cX4_opens 47 = .ok (.iload_n 3, 1) := by decide +kernel
theorem dX4_opens_48 : decode cX4_opens 48 = .ok (.iconst 2, 1) := by decide +kernel
theorem dX4_opens_49 : decode cX4_opens 49 = .ok (.iadd, 1) := by decide +kernel
theorem dX4_opens_50 : decode cX4_opens 50 = .ok (.iload 4, 2) := by decide +kernel
theorem dX4_opens_52 : decode cX4_opens 52 = .ok (.iadd, 1) := by decide +kernel
theorem dX4_opens_53 : decode cX4_opens 53 = .ok (.iaload, 1) := by decide +kernel
theorem dX4_opens_54 : decode cX4_opens 54 = .ok (.invokestatic 50, 3) := by decide +kernel
theorem dX4_opens_57 : decode cX4_opens 57 = .ok (.iastore, 1) := by decide +kernel
theorem dX4_opens_58 : decode cX4_opens 58 = .ok (.iinc 4 1, 3) := by decide +kernel
theorem dX4_opens_61 : decode cX4_opens 61 = .ok (.goto (-51), 3) := by decide +kernel
theorem dX4_opens_64 : decode cX4_opens 64 = .ok (.aload_n 0, 1) := by decide +kernel
theorem dX4_opens_65 : decode cX4_opens 65 = .ok (.aload_n 0, 1) := by decide +kernel
theorem dX4_opens_66 : decode cX4_opens 66 = .ok (.iconst 0, 1) := by decide +kernel
theorem dX4_opens_67 : decode cX4_opens 67 = .ok (.invokevirtual 53, 3) := by decide +kernel
theorem dX4_opens_70 : decode cX4_opens 70 = .ok (.aload_n 0, 1) := by decide +kernel
theorem dX4_opens_71 : decode cX4_opens 71 = .ok (.getfield 29, 3) := by decide +kernel
theorem dX4_opens_74 : decode cX4_opens 74 = .ok (.iconst 4, 1) := by decide +kernel
theorem dX4_opens_75 : decode cX4_opens 75 = .ok (.iaload, 1) := by decide +kernel
theorem dX4_opens_76 : decode cX4_opens 76 = .ok (.ixor, 1) := by decide +kernel
theorem dX4_opens_77 : decode cX4_opens 77 = .ok (.putfield 60, 3) := by decide +kernel
theorem dX4_opens_80 : decode cX4_opens 80 = .ok (.aload_n 0, 1) := by decide +kernel
theorem dX4_opens_81 : decode cX4_opens 81 = .ok (.aload_n 0, 1) := by decide +kernel
theorem dX4_opens_82 : decode cX4_opens 82 = .ok (.iconst 1, 1) := by decide +kernel
theorem dX4_opens_83 : decode cX4_opens 83 = .ok (.invokevirtual 53, 3) := by decide +kernel
theorem dX4_opens_86 : decode cX4_opens 86 = .ok (.aload_n 0, 1) := by decide +kernel
theorem dX4_opens_87 : decode cX4_opens 87 = .ok (.getfield 29, 3) := by decide +kernel
theorem dX4_opens_90 : decode cX4_opens 90 = .ok (.iconst 5, 1) := by decide +kernel
theorem dX4_opens_91 : decode cX4_opens 91 = .ok (.iaload, 1) := by decide +kernel
theorem dX4_opens_92 : decode cX4_opens 92 = .ok (.ixor, 1) := by decide +kernel
theorem dX4_opens_93 : decode cX4_opens 93 = .ok (.putfield 63, 3) := by decide +kernel
theorem dX4_opens_96 : decode cX4_opens 96 = .ok (.aload_n 0, 1) := by decide +kernel
theorem dX4_opens_97 : decode cX4_opens 97 = .ok (.iload_n 1, 1) := by decide +kernel
theorem dX4_opens_98 : decode cX4_opens 98 = .ok (.invokevirtual 66, 3) := by decide +kernel
theorem dX4_opens_101 : decode cX4_opens 101 = .ok (.ifCond .eq 33, 3) := by decide +kernel
theorem dX4_opens_104 : decode cX4_opens 104 = .ok (.aload_n 0, 1) := by decide +kernel
theorem dX4_opens_105 : decode cX4_opens 105 = .ok (.getfield 60, 3) := by decide +kernel
theorem dX4_opens_108 : decode cX4_opens 108 = .ok (.aload_n 0, 1) := by decide +kernel
theorem dX4_opens_109 : decode cX4_opens 109 = .ok (.getfield 63, 3) := by decide +kernel
theorem dX4_opens_112 : decode cX4_opens 112 = .ok (.aload_n 0, 1) := by decide +kernel
theorem dX4_opens_113 : decode cX4_opens 113 = .ok (.getfield 7, 3) := by decide +kernel
theorem dX4_opens_116 : decode cX4_opens 116 = .ok (.iconst 2, 1) := by decide +kernel
theorem dX4_opens_117 : decode cX4_opens 117 = .ok (.iaload, 1) := by decide +kernel
theorem dX4_opens_118 : decode cX4_opens 118 = .ok (.invokestatic 70, 3) := by decide +kernel
theorem dX4_opens_121 : decode cX4_opens 121 = .ok (.aload_n 0, 1) := by decide +kernel
theorem dX4_opens_122 : decode cX4_opens 122 = .ok (.getfield 7, 3) := by decide +kernel
theorem dX4_opens_125 : decode cX4_opens 125 = .ok (.iconst 1, 1) := by decide +kernel
theorem dX4_opens_126 : decode cX4_opens 126 = .ok (.iaload, 1) := by decide +kernel
theorem dX4_opens_127 : decode cX4_opens 127 = .ok (.if_icmp .ne 7, 3) := by decide +kernel
theorem dX4_opens_130 : decode cX4_opens 130 = .ok (.iconst 1, 1) := by decide +kernel
theorem dX4_opens_131 : decode cX4_opens 131 = .ok (.goto 4, 3) := by decide +kernel
theorem dX4_opens_134 : decode cX4_opens 134 = .ok (.iconst 0, 1) := by decide +kernel
theorem dX4_opens_135 : decode cX4_opens 135 = .ok (.ireturn, 1) := by decide +kernel
theorem dX4_count_0 : decode cX4_count 0 = .ok (.iconst 0, 1) := by decide +kernel
theorem dX4_count_1 : decode cX4_count 1 = .ok (.istore_n 1, 1) := by decide +kernel
theorem dX4_count_2 : decode cX4_count 2 = .ok (.iconst 0, 1) := by decide +kernel
theorem dX4_count_3 : decode cX4_count 3 = .ok (.istore_n 2, 1) := by decide +kernel
theorem dX4_count_4 : decode cX4_count 4 = .ok (.iload_n 2, 1) := by decide +kernel
theorem dX4_count_5 : decode cX4_count 5 = .ok (.iconst 4, 1) := by decide +kernel
theorem dX4_count_6 : decode cX4_count 6 = .ok (.if_icmp .ge 25, 3) := by decide +kernel
theorem dX4_count_9 : decode cX4_count 9 = .ok (.iload_n 1, 1) := by decide +kernel
theorem dX4_count_10 : decode cX4_count 10 = .ok (.aload_n 0, 1) := by decide +kernel
theorem dX4_count_11 : decode cX4_count 11 = .ok (.iload_n 2, 1) := by decide +kernel
theorem dX4_count_12 : decode cX4_count 12 = .ok (.invokevirtual 66, 3) := by decide +kernel
theorem dX4_count_15 : decode cX4_count 15 = .ok (.ifCond .eq 7, 3) := by decide +kernel
theorem dX4_count_18 : decode cX4_count 18 = .ok (.iconst 1, 1) := by decide +kernel
theorem dX4_count_19 : decode cX4_count 19 = .ok (.goto 4, 3) := by decide +kernel
theorem dX4_count_22 : decode cX4_count 22 = .ok (.iconst 0, 1) := by decide +kernel
theorem dX4_count_23 : decode cX4_count 23 = .ok (.iadd, 1) := by decide +kernel
theorem dX4_count_24 : decode cX4_count 24 = .ok (.istore_n 1, 1) := by decide +kernel
theorem dX4_count_25 : decode cX4_count 25 = .ok (.iinc 2 1, 3) := by decide +kernel
theorem dX4_count_28 : decode cX4_count 28 = .ok (.goto (-24), 3) := by decide +kernel
theorem dX4_count_31 : decode cX4_count 31 = .ok (.iload_n 1, 1) := by decide +kernel
theorem dX4_count_32 : decode cX4_count 32 = .ok (.ireturn, 1) := by decide +kernel
theorem dX4_begin_0 : decode cX4_begin 0 = .ok (.aload_n 0, 1) := by decide +kernel
theorem dX4_begin_1 : decode cX4_begin 1 = .ok (.iconst 0, 1) := by decide +kernel
theorem dX4_begin_2 : decode cX4_begin 2 = .ok (.putfield 73, 3) := by decide +kernel
theorem dX4_begin_5 : decode cX4_begin 5 = .ok (.iconst 0, 1) := by decide +kernel
theorem dX4_begin_6 : decode cX4_begin 6 = .ok (.istore_n 1, 1) := by decide +kernel
theorem dX4_begin_7 : decode cX4_begin 7 = .ok (.iload_n 1, 1) := by decide +kernel
theorem dX4_begin_8 : decode cX4_begin 8 = .ok (.bipush 80, 2) := by decide +kernel
theorem dX4_begin_10 : decode cX4_begin 10 = .ok (.if_icmp .ge 21, 3) := by decide +kernel
theorem dX4_begin_13 : decode cX4_begin 13 = .ok (.aload_n 0, 1) := by decide +kernel
theorem dX4_begin_14 : decode cX4_begin 14 = .ok (.getfield 23, 3) := by decide +kernel
theorem dX4_begin_17 : decode cX4_begin 17 = .ok (.iload_n 1, 1) := by decide +kernel
theorem dX4_begin_18 : decode cX4_begin 18 = .ok (.aload_n 0, 1) := by decide +kernel
theorem dX4_begin_19 : decode cX4_begin 19 = .ok (.getfield 7, 3) := by decide +kernel
theorem dX4_begin_22 : decode cX4_begin 22 = .ok (.iload_n 1, 1) := by decide +kernel
theorem dX4_begin_23 : decode cX4_begin 23 = .ok (.iaload, 1) := by decide +kernel
theorem dX4_begin_24 : decode cX4_begin 24 = .ok (.iastore, 1) := by decide +kernel
theorem dX4_begin_25 : decode cX4_begin 25 = .ok (.iinc 1 1, 3) := by decide +kernel
theorem dX4_begin_28 : decode cX4_begin 28 = .ok (.goto (-21), 3) := by decide +kernel
theorem dX4_begin_31 : decode cX4_begin 31 = .ok (.return_, 1) := by decide +kernel
theorem dX4_plan_0 : decode cX4_plan 0 = .ok (.aload_n 0, 1) := by decide +kernel
theorem dX4_plan_1 : decode cX4_plan 1 = .ok (.getfield 17, 3) := by decide +kernel
theorem dX4_plan_4 : decode cX4_plan 4 = .ok (.aload_n 0, 1) := by decide +kernel
theorem dX4_plan_5 : decode cX4_plan 5 = .ok (.getfield 73, 3) := by decide +kernel
theorem dX4_plan_8 : decode cX4_plan 8 = .ok (.iload_n 1, 1) := by decide +kernel
theorem dX4_plan_9 : decode cX4_plan 9 = .ok (.iastore, 1) := by decide +kernel
theorem dX4_plan_10 : decode cX4_plan 10 = .ok (.aload_n 0, 1) := by decide +kernel
theorem dX4_plan_11 : decode cX4_plan 11 = .ok (.getfield 20, 3) := by decide +kernel
theorem dX4_plan_14 : decode cX4_plan 14 = .ok (.aload_n 0, 1) := by decide +kernel
theorem dX4_plan_15 : decode cX4_plan 15 = .ok (.getfield 73, 3) := by decide +kernel
theorem dX4_plan_18 : decode cX4_plan 18 = .ok (.iload_n 2, 1) := by decide +kernel
theorem dX4_plan_19 : decode cX4_plan 19 = .ok (.iastore, 1) := by decide +kernel
theorem dX4_plan_20 : decode cX4_plan 20 = .ok (.aload_n 0, 1) := by decide +kernel
theorem dX4_plan_21 : decode cX4_plan 21 = .ok (.dup, 1) := by decide +kernel
theorem dX4_plan_22 : decode cX4_plan 22 = .ok (.getfield 73, 3) := by decide +kernel
theorem dX4_plan_25 : decode cX4_plan 25 = .ok (.iconst 1, 1) := by decide +kernel
theorem dX4_plan_26 : decode cX4_plan 26 = .ok (.iadd, 1) := by decide +kernel
theorem dX4_plan_27 : decode cX4_plan 27 = .ok (.putfield 73, 3) := by decide +kernel
theorem dX4_plan_30 : decode cX4_plan 30 = .ok (.aload_n 0, 1) := by decide +kernel
theorem dX4_plan_31 : decode cX4_plan 31 = .ok (.getfield 23, 3) := by decide +kernel
theorem dX4_plan_34 : decode cX4_plan 34 = .ok (.iload_n 1, 1) := by decide +kernel
theorem dX4_plan_35 : decode cX4_plan 35 = .ok (.iload_n 2, 1) := by decide +kernel
theorem dX4_plan_36 : decode cX4_plan 36 = .ok (.iastore, 1) := by decide +kernel
theorem dX4_plan_37 : decode cX4_plan 37 = .ok (.return_, 1) := by decide +kernel
theorem dX4_planClean_0 : decode cX4_planClean 0 = .ok (.bipush 37, 2) := by decide +kernel
theorem dX4_planClean_2 : decode cX4_planClean 2 = .ok (.istore_n 1, 1) := by decide +kernel
theorem dX4_planClean_3 : decode cX4_planClean 3 = .ok (.iload_n 1, 1) := by decide +kernel
theorem dX4_planClean_4 : decode cX4_planClean 4 = .ok (.bipush 46, 2) := by decide +kernel
theorem dX4_planClean_6 : decode cX4_planClean 6 = .ok (.if_icmp .ge 24, 3) := by decide +kernel
theorem dX4_planClean_9 : decode cX4_planClean 9 = .ok (.aload_n 0, 1) := by decide +kernel
theorem dX4_planClean_10 : decode cX4_planClean 10 = .ok (.getfield 23, 3) := by decide +kernel
theorem dX4_planClean_13 : decode cX4_planClean 13 = .ok (.iload_n 1, 1) := by decide +kernel
theorem dX4_planClean_14 : decode cX4_planClean 14 = .ok (.iaload, 1) := by decide +kernel
theorem dX4_planClean_15 : decode cX4_planClean 15 = .ok (.ifCond .eq 9, 3) := by decide +kernel
theorem dX4_planClean_18 : decode cX4_planClean 18 = .ok (.aload_n 0, 1) := by decide +kernel
theorem dX4_planClean_19 : decode cX4_planClean 19 = .ok (.iload_n 1, 1) := by decide +kernel
theorem dX4_planClean_20 : decode cX4_planClean 20 = .ok (.iconst 0, 1) := by decide +kernel
theorem dX4_planClean_21 : decode cX4_planClean 21 = .ok (.invokevirtual 76, 3) := by decide +kernel
theorem dX4_planClean_24 : decode cX4_planClean 24 = .ok (.iinc 1 1, 3) := by decide +kernel
theorem dX4_planClean_27 : decode cX4_planClean 27 = .ok (.goto (-24), 3) := by decide +kernel
theorem dX4_planClean_30 : decode cX4_planClean 30 = .ok (.return_, 1) := by decide +kernel
theorem dX4_planFinish_0 : decode cX4_planFinish 0 = .ok (.aload_n 0, 1) := by decide +kernel
theorem dX4_planFinish_1 : decode cX4_planFinish 1 = .ok (.getfield 23, 3) := by decide +kernel
theorem dX4_planFinish_4 : decode cX4_planFinish 4 = .ok (.bipush 37, 2) := by decide +kernel
theorem dX4_planFinish_6 : decode cX4_planFinish 6 = .ok (.iaload, 1) := by decide +kernel
theorem dX4_planFinish_7 : decode cX4_planFinish 7 = .ok (.sipush 255, 3) := by decide +kernel
theorem dX4_planFinish_10 : decode cX4_planFinish 10 = .ok (.iand, 1) := by decide +kernel
theorem dX4_planFinish_11 : decode cX4_planFinish 11 = .ok (.istore_n 1, 1) := by decide +kernel
theorem dX4_planFinish_12 : decode cX4_planFinish 12 = .ok (.aload_n 0, 1) := by decide +kernel
theorem dX4_planFinish_13 : decode cX4_planFinish 13 = .ok (.getfield 23, 3) := by decide +kernel
theorem dX4_planFinish_16 : decode cX4_planFinish 16 = .ok (.bipush 37, 2) := by decide +kernel
theorem dX4_planFinish_18 : decode cX4_planFinish 18 = .ok (.iaload, 1) := by decide +kernel
theorem dX4_planFinish_19 : decode cX4_planFinish 19 = .ok (.bipush 8, 2) := by decide +kernel
theorem dX4_planFinish_21 : decode cX4_planFinish 21 = .ok (.iushr, 1) := by decide +kernel
theorem dX4_planFinish_22 : decode cX4_planFinish 22 = .ok (.istore_n 2, 1) := by decide +kernel
theorem dX4_planFinish_23 : decode cX4_planFinish 23 = .ok (.iconst 0, 1) := by decide +kernel
theorem dX4_planFinish_24 : decode cX4_planFinish 24 = .ok (.istore_n 3, 1) := by decide +kernel
theorem dX4_planFinish_25 : decode cX4_planFinish 25 = .ok (.iload_n 3, 1) := by decide +kernel
theorem dX4_planFinish_26 : decode cX4_planFinish 26 = .ok (.iload_n 2, 1) := by decide +kernel
theorem dX4_planFinish_27 : decode cX4_planFinish 27 = .ok (.if_icmp .ge 25, 3) := by decide +kernel
theorem dX4_planFinish_30 : decode cX4_planFinish 30 = .ok (.aload_n 0, 1) := by decide +kernel
theorem dX4_planFinish_31 : decode cX4_planFinish 31 = .ok (.iload_n 1, 1) := by decide +kernel
theorem dX4_planFinish_32 : decode cX4_planFinish 32 = .ok (.iload_n 3, 1) := by decide +kernel
theorem dX4_planFinish_33 : decode cX4_planFinish 33 = .ok (.iadd, 1) := by decide +kernel
theorem dX4_planFinish_34 : decode cX4_planFinish 34 = .ok (.aload_n 0, 1) := by decide +kernel
theorem dX4_planFinish_35 : decode cX4_planFinish 35 = .ok (.getfield 23, 3) := by decide +kernel
theorem dX4_planFinish_38 : decode cX4_planFinish 38 = .ok (.bipush 38, 2) := by decide +kernel
theorem dX4_planFinish_40 : decode cX4_planFinish 40 = .ok (.iload_n 3, 1) := by decide +kernel
theorem dX4_planFinish_41 : decode cX4_planFinish 41 = .ok (.iadd, 1) := by decide +kernel
theorem dX4_planFinish_42 : decode cX4_planFinish 42 = .ok (.iaload, 1) := by decide +kernel
theorem dX4_planFinish_43 : decode cX4_planFinish 43 = .ok (.invokevirtual 76, 3) := by decide +kernel
theorem dX4_planFinish_46 : decode cX4_planFinish 46 = .ok (.iinc 3 1, 3) := by decide +kernel
theorem dX4_planFinish_49 : decode cX4_planFinish 49 = .ok (.goto (-24), 3) := by decide +kernel
theorem dX4_planFinish_52 : decode cX4_planFinish 52 = .ok (.aload_n 0, 1) := by decide +kernel
theorem dX4_planFinish_53 : decode cX4_planFinish 53 = .ok (.bipush 36, 2) := by decide +kernel
theorem dX4_planFinish_55 : decode cX4_planFinish 55 = .ok (.iconst 0, 1) := by decide +kernel
theorem dX4_planFinish_56 : decode cX4_planFinish 56 = .ok (.invokevirtual 76, 3) := by decide +kernel
theorem dX4_planFinish_59 : decode cX4_planFinish 59 = .ok (.aload_n 0, 1) := by decide +kernel
theorem dX4_planFinish_60 : decode cX4_planFinish 60 = .ok (.invokevirtual 80, 3) := by decide +kernel
theorem dX4_planFinish_63 : decode cX4_planFinish 63 = .ok (.return_, 1) := by decide +kernel
theorem dX4_planChange_0 : decode cX4_planChange 0 = .ok (.aload_n 0, 1) := by decide +kernel
theorem dX4_planChange_1 : decode cX4_planChange 1 = .ok (.invokevirtual 83, 3) := by decide +kernel
theorem dX4_planChange_4 : decode cX4_planChange 4 = .ok (.iconst 0, 1) := by decide +kernel
theorem dX4_planChange_5 : decode cX4_planChange 5 = .ok (.istore_n 3, 1) := by decide +kernel
theorem dX4_planChange_6 : decode cX4_planChange 6 = .ok (.iload_n 3, 1) := by decide +kernel
theorem dX4_planChange_7 : decode cX4_planChange 7 = .ok (.iload_n 2, 1) := by decide +kernel
theorem dX4_planChange_8 : decode cX4_planChange 8 = .ok (.if_icmp .ge 23, 3) := by decide +kernel
theorem dX4_planChange_11 : decode cX4_planChange 11 = .ok (.aload_n 0, 1) := by decide +kernel
theorem dX4_planChange_12 : decode cX4_planChange 12 = .ok (.bipush 38, 2) := by decide +kernel
theorem dX4_planChange_14 : decode cX4_planChange 14 = .ok (.iload_n 3, 1) := by decide +kernel
theorem dX4_planChange_15 : decode cX4_planChange 15 = .ok (.iadd, 1) := by decide +kernel
theorem dX4_planChange_16 : decode cX4_planChange 16 = .ok (.aload_n 0, 1) := by decide +kernel
theorem dX4_planChange_17 : decode cX4_planChange 17 = .ok (.getfield 26, 3) := by decide +kernel
theorem dX4_planChange_20 : decode cX4_planChange 20 = .ok (.iload_n 3, 1) := by decide +kernel
theorem dX4_planChange_21 : decode cX4_planChange 21 = .ok (.iaload, 1) := by decide +kernel
theorem dX4_planChange_22 : decode cX4_planChange 22 = .ok (.invokevirtual 76, 3) := by decide +kernel
theorem dX4_planChange_25 : decode cX4_planChange 25 = .ok (.iinc 3 1, 3) := by decide +kernel
theorem dX4_planChange_28 : decode cX4_planChange 28 = .ok (.goto (-22), 3) := by decide +kernel
theorem dX4_planChange_31 : decode cX4_planChange 31 = .ok (.aload_n 0, 1) := by decide +kernel
theorem dX4_planChange_32 : decode cX4_planChange 32 = .ok (.bipush 37, 2) := by decide +kernel
theorem dX4_planChange_34 : decode cX4_planChange 34 = .ok (.iload_n 1, 1) := by decide +kernel
theorem dX4_planChange_35 : decode cX4_planChange 35 = .ok (.sipush 256, 3) := by decide +kernel
theorem dX4_planChange_38 : decode cX4_planChange 38 = .ok (.iload_n 2, 1) := by decide +kernel
theorem dX4_planChange_39 : decode cX4_planChange 39 = .ok (.imul, 1) := by decide +kernel
theorem dX4_planChange_40 : decode cX4_planChange 40 = .ok (.iadd, 1) := by decide +kernel
theorem dX4_planChange_41 : decode cX4_planChange 41 = .ok (.invokevirtual 76, 3) := by decide +kernel
theorem dX4_planChange_44 : decode cX4_planChange 44 = .ok (.aload_n 0, 1) := by decide +kernel
theorem dX4_planChange_45 : decode cX4_planChange 45 = .ok (.bipush 36, 2) := by decide +kernel
theorem dX4_planChange_47 : decode cX4_planChange 47 = .ok (.iconst 1, 1) := by decide +kernel
theorem dX4_planChange_48 : decode cX4_planChange 48 = .ok (.invokevirtual 76, 3) := by decide +kernel
theorem dX4_planChange_51 : decode cX4_planChange 51 = .ok (.aload_n 0, 1) := by decide +kernel
theorem dX4_planChange_52 : decode cX4_planChange 52 = .ok (.invokevirtual 86, 3) := by decide +kernel
theorem dX4_planChange_55 : decode cX4_planChange 55 = .ok (.return_, 1) := by decide +kernel
theorem dX4_perform_0 : decode cX4_perform 0 = .ok (.iconst 0, 1) := by decide +kernel
theorem dX4_perform_1 : decode cX4_perform 1 = .ok (.istore_n 1, 1) := by decide +kernel
theorem dX4_perform_2 : decode cX4_perform 2 = .ok (.iload_n 1, 1) := by decide +kernel
theorem dX4_perform_3 : decode cX4_perform 3 = .ok (.aload_n 0, 1) := by decide +kernel
theorem dX4_perform_4 : decode cX4_perform 4 = .ok (.getfield 73, 3) := by decide +kernel
theorem dX4_perform_7 : decode cX4_perform 7 = .ok (.if_icmp .ge 79, 3) := by decide +kernel
theorem dX4_perform_10 : decode cX4_perform 10 = .ok (.aload_n 0, 1) := by decide +kernel
theorem dX4_perform_11 : decode cX4_perform 11 = .ok (.getfield 13, 3) := by decide +kernel
theorem dX4_perform_14 : decode cX4_perform 14 = .ok (.ifCond .ne 15, 3) := by decide +kernel
theorem dX4_perform_17 : decode cX4_perform 17 = .ok (.aload_n 0, 1) := by decide +kernel
theorem dX4_perform_18 : decode cX4_perform 18 = .ok (.iconst (-1), 1) := by decide +kernel
theorem dX4_perform_19 : decode cX4_perform 19 = .ok (.putfield 13, 3) := by decide +kernel
theorem dX4_perform_22 : decode cX4_perform 22 = .ok (.aload_n 0, 1) := by decide +kernel
theorem dX4_perform_23 : decode cX4_perform 23 = .ok (.iconst 0, 1) := by decide +kernel
theorem dX4_perform_24 : decode cX4_perform 24 = .ok (.putfield 89, 3) := by decide +kernel
theorem dX4_perform_27 : decode cX4_perform 27 = .ok (.iconst 0, 1) := by decide +kernel
theorem dX4_perform_28 : decode cX4_perform 28 = .ok (.ireturn, 1) := by decide +kernel
theorem dX4_perform_29 : decode cX4_perform 29 = .ok (.aload_n 0, 1) := by decide +kernel
theorem dX4_perform_30 : decode cX4_perform 30 = .ok (.aload_n 0, 1) := by decide +kernel
theorem dX4_perform_31 : decode cX4_perform 31 = .ok (.getfield 13, 3) := by decide +kernel
theorem dX4_perform_34 : decode cX4_perform 34 = .ok (.ifCond .le 12, 3) := by decide +kernel
theorem dX4_perform_37 : decode cX4_perform 37 = .ok (.aload_n 0, 1) := by decide +kernel
theorem dX4_perform_38 : decode cX4_perform 38 = .ok (.getfield 13, 3) := by decide +kernel
theorem dX4_perform_41 : decode cX4_perform 41 = .ok (.iconst 1, 1) := by decide +kernel
theorem dX4_perform_42 : decode cX4_perform 42 = .ok (.isub, 1) := by decide +kernel
theorem dX4_perform_43 : decode cX4_perform 43 = .ok (.goto 7, 3) := by decide +kernel
theorem dX4_perform_46 : decode cX4_perform 46 = .ok (.aload_n 0, 1) := by decide +kernel
theorem dX4_perform_47 : decode cX4_perform 47 = .ok (.getfield 13, 3) := by decide +kernel
theorem dX4_perform_50 : decode cX4_perform 50 = .ok (.putfield 13, 3) := by decide +kernel
theorem dX4_perform_53 : decode cX4_perform 53 = .ok (.aload_n 0, 1) := by decide +kernel
theorem dX4_perform_54 : decode cX4_perform 54 = .ok (.dup, 1) := by decide +kernel
theorem dX4_perform_55 : decode cX4_perform 55 = .ok (.getfield 92, 3) := by decide +kernel
theorem dX4_perform_58 : decode cX4_perform 58 = .ok (.iconst 1, 1) := by decide +kernel
theorem dX4_perform_59 : decode cX4_perform 59 = .ok (.iadd, 1) := by decide +kernel
theorem dX4_perform_60 : decode cX4_perform 60 = .ok (.putfield 92, 3) := by decide +kernel
theorem dX4_perform_63 : decode cX4_perform 63 = .ok (.aload_n 0, 1) := by decide +kernel
theorem dX4_perform_64 : decode cX4_perform 64 = .ok (.getfield 7, 3) := by decide +kernel
theorem dX4_perform_67 : decode cX4_perform 67 = .ok (.aload_n 0, 1) := by decide +kernel
theorem dX4_perform_68 : decode cX4_perform 68 = .ok (.getfield 17, 3) := by decide +kernel
theorem dX4_perform_71 : decode cX4_perform 71 = .ok (.iload_n 1, 1) := by decide +kernel
theorem dX4_perform_72 : decode cX4_perform 72 = .ok (.iaload, 1) := by decide +kernel
theorem dX4_perform_73 : decode cX4_perform 73 = .ok (.aload_n 0, 1) := by decide +kernel
theorem dX4_perform_74 : decode cX4_perform 74 = .ok (.getfield 20, 3) := by decide +kernel
theorem dX4_perform_77 : decode cX4_perform 77 = .ok (.iload_n 1, 1) := by decide +kernel
theorem dX4_perform_78 : decode cX4_perform 78 = .ok (.iaload, 1) := by decide +kernel
theorem dX4_perform_79 : decode cX4_perform 79 = .ok (.iastore, 1) := by decide +kernel
theorem dX4_perform_80 : decode cX4_perform 80 = .ok (.iinc 1 1, 3) := by decide +kernel
theorem dX4_perform_83 : decode cX4_perform 83 = .ok (.goto (-81), 3) := by decide +kernel
theorem dX4_perform_86 : decode cX4_perform 86 = .ok (.iconst 1, 1) := by decide +kernel
theorem dX4_perform_87 : decode cX4_perform 87 = .ok (.ireturn, 1) := by decide +kernel
theorem dX4_cut_0 : decode cX4_cut 0 = .ok (.iload_n 1, 1) := by decide +kernel
theorem dX4_cut_1 : decode cX4_cut 1 = .ok (.iconst (-1), 1) := by decide +kernel
theorem dX4_cut_2 : decode cX4_cut 2 = .ok (.if_icmp .ge 5, 3) := by decide +kernel
theorem dX4_cut_5 : decode cX4_cut 5 = .ok (.iconst 0, 1) := by decide +kernel
theorem dX4_cut_6 : decode cX4_cut 6 = .ok (.ireturn, 1) := by decide +kernel
theorem dX4_cut_7 : decode cX4_cut 7 = .ok (.aload_n 0, 1) := by decide +kernel
theorem dX4_cut_8 : decode cX4_cut 8 = .ok (.iload_n 1, 1) := by decide +kernel
theorem dX4_cut_9 : decode cX4_cut 9 = .ok (.putfield 13, 3) := by decide +kernel
theorem dX4_cut_12 : decode cX4_cut 12 = .ok (.iconst 1, 1) := by decide +kernel
theorem dX4_cut_13 : decode cX4_cut 13 = .ok (.ireturn, 1) := by decide +kernel
theorem dX4_format_0 : decode cX4_format 0 = .ok (.aload_n 0, 1) := by decide +kernel
theorem dX4_format_1 : decode cX4_format 1 = .ok (.invokevirtual 83, 3) := by decide +kernel
theorem dX4_format_4 : decode cX4_format 4 = .ok (.iconst 0, 1) := by decide +kernel
theorem dX4_format_5 : decode cX4_format 5 = .ok (.istore 5, 2) := by decide +kernel
theorem dX4_format_7 : decode cX4_format 7 = .ok (.iload 5, 2) := by decide +kernel
theorem dX4_format_9 : decode cX4_format 9 = .ok (.bipush 80, 2) := by decide +kernel
theorem dX4_format_11 : decode cX4_format 11 = .ok (.if_icmp .ge 17, 3) := by decide +kernel
theorem dX4_format_14 : decode cX4_format 14 = .ok (.aload_n 0, 1) := by decide +kernel
theorem dX4_format_15 : decode cX4_format 15 = .ok (.getfield 23, 3) := by decide +kernel
theorem dX4_format_18 : decode cX4_format 18 = .ok (.iload 5, 2) := by decide +kernel
theorem dX4_format_20 : decode cX4_format 20 = .ok (.iconst 0, 1) := by decide +kernel
theorem dX4_format_21 : decode cX4_format 21 = .ok (.iastore, 1) := by decide +kernel
theorem dX4_format_22 : decode cX4_format 22 = .ok (.iinc 5 1, 3) := by decide +kernel
theorem dX4_format_25 : decode cX4_format 25 = .ok (.goto (-18), 3) := by decide +kernel
theorem dX4_format_28 : decode cX4_format 28 = .ok (.iload 4, 2) := by decide +kernel
theorem dX4_format_30 : decode cX4_format 30 = .ok (.iconst 5, 1) := by decide +kernel
theorem dX4_format_31 : decode cX4_format 31 = .ok (.invokestatic 35, 3) := by decide +kernel
theorem dX4_format_34 : decode cX4_format 34 = .ok (.istore 5, 2) := by decide +kernel
theorem dX4_format_36 : decode cX4_format 36 = .ok (.aload_n 0, 1) := by decide +kernel
theorem dX4_format_37 : decode cX4_format 37 = .ok (.getfield 23, 3) := by decide +kernel
theorem dX4_format_40 : decode cX4_format 40 = .ok (.iconst 1, 1) := by decide +kernel
theorem dX4_format_41 : decode cX4_format 41 = .ok (.iload_n 1, 1) := by decide +kernel
theorem dX4_format_42 : decode cX4_format 42 = .ok (.iload_n 2, 1) := by decide +kernel
theorem dX4_format_43 : decode cX4_format 43 = .ok (.iload 5, 2) := by decide +kernel
theorem dX4_format_45 : decode cX4_format 45 = .ok (.invokestatic 70, 3) := by decide +kernel
theorem dX4_format_48 : decode cX4_format 48 = .ok (.iastore, 1) := by decide +kernel
theorem dX4_format_49 : decode cX4_format 49 = .ok (.aload_n 0, 1) := by decide +kernel
theorem dX4_format_50 : decode cX4_format 50 = .ok (.getfield 23, 3) := by decide +kernel
theorem dX4_format_53 : decode cX4_format 53 = .ok (.iconst 2, 1) := by decide +kernel
theorem dX4_format_54 : decode cX4_format 54 = .ok (.iload 5, 2) := by decide +kernel
theorem dX4_format_56 : decode cX4_format 56 = .ok (.iastore, 1) := by decide +kernel
theorem dX4_format_57 : decode cX4_format 57 = .ok (.aload_n 0, 1) := by decide +kernel
theorem dX4_format_58 : decode cX4_format 58 = .ok (.iload_n 3, 1) := by decide +kernel
theorem dX4_format_59 : decode cX4_format 59 = .ok (.iload 4, 2) := by decide +kernel
theorem dX4_format_61 : decode cX4_format 61 = .ok (.iload_n 1, 1) := by decide +kernel
theorem dX4_format_62 : decode cX4_format 62 = .ok (.iload_n 2, 1) := by decide +kernel
theorem dX4_format_63 : decode cX4_format 63 = .ok (.invokevirtual 95, 3) := by decide +kernel
theorem dX4_format_66 : decode cX4_format 66 = .ok (.iconst 0, 1) := by decide +kernel
theorem dX4_format_67 : decode cX4_format 67 = .ok (.istore 6, 2) := by decide +kernel
theorem dX4_format_69 : decode cX4_format 69 = .ok (.iload 6, 2) := by decide +kernel
theorem dX4_format_71 : decode cX4_format 71 = .ok (.bipush 8, 2) := by decide +kernel
theorem dX4_format_73 : decode cX4_format 73 = .ok (.if_icmp .ge 25, 3) := by decide +kernel
theorem dX4_format_76 : decode cX4_format 76 = .ok (.aload_n 0, 1) := by decide +kernel
theorem dX4_format_77 : decode cX4_format 77 = .ok (.getfield 23, 3) := by decide +kernel
theorem dX4_format_80 : decode cX4_format 80 = .ok (.iconst 4, 1) := by decide +kernel
theorem dX4_format_81 : decode cX4_format 81 = .ok (.iload 6, 2) := by decide +kernel
theorem dX4_format_83 : decode cX4_format 83 = .ok (.iadd, 1) := by decide +kernel
theorem dX4_format_84 : decode cX4_format 84 = .ok (.aload_n 0, 1) := by decide +kernel
theorem dX4_format_85 : decode cX4_format 85 = .ok (.getfield 26, 3) := by decide +kernel
theorem dX4_format_88 : decode cX4_format 88 = .ok (.iload 6, 2) := by decide +kernel
theorem dX4_format_90 : decode cX4_format 90 = .ok (.iaload, 1) := by decide +kernel
theorem dX4_format_91 : decode cX4_format 91 = .ok (.iastore, 1) := by decide +kernel
theorem dX4_format_92 : decode cX4_format 92 = .ok (.iinc 6 1, 3) := by decide +kernel
theorem dX4_format_95 : decode cX4_format 95 = .ok (.goto (-26), 3) := by decide +kernel
theorem dX4_format_98 : decode cX4_format 98 = .ok (.iconst 0, 1) := by decide +kernel
theorem dX4_format_99 : decode cX4_format 99 = .ok (.istore 6, 2) := by decide +kernel
theorem dX4_format_101 : decode cX4_format 101 = .ok (.iload 6, 2) := by decide +kernel
theorem dX4_format_103 : decode cX4_format 103 = .ok (.bipush 32, 2) := by decide +kernel
theorem dX4_format_105 : decode cX4_format 105 = .ok (.if_icmp .ge 33, 3) := by decide +kernel
theorem dX4_format_108 : decode cX4_format 108 = .ok (.aload_n 0, 1) := by decide +kernel
theorem dX4_format_109 : decode cX4_format 109 = .ok (.getfield 23, 3) := by decide +kernel
theorem dX4_format_112 : decode cX4_format 112 = .ok (.bipush 48, 2) := by decide +kernel
theorem dX4_format_114 : decode cX4_format 114 = .ok (.iload 6, 2) := by decide +kernel
theorem dX4_format_116 : decode cX4_format 116 = .ok (.iadd, 1) := by decide +kernel
theorem dX4_format_117 : decode cX4_format 117 = .ok (.iload_n 1, 1) := by decide +kernel
theorem dX4_format_118 : decode cX4_format 118 = .ok (.iload_n 2, 1) := by decide +kernel
theorem dX4_format_119 : decode cX4_format 119 = .ok (.iload 6, 2) := by decide +kernel
theorem dX4_format_121 : decode cX4_format 121 = .ok (.iconst 4, 1) := by decide +kernel
theorem dX4_format_122 : decode cX4_format 122 = .ok (.idiv, 1) := by decide +kernel
theorem dX4_format_123 : decode cX4_format 123 = .ok (.iload 6, 2) := by decide +kernel
theorem dX4_format_125 : decode cX4_format 125 = .ok (.iconst 4, 1) := by decide +kernel
theorem dX4_format_126 : decode cX4_format 126 = .ok (.irem, 1) := by decide +kernel
theorem dX4_format_127 : decode cX4_format 127 = .ok (.iconst 0, 1) := by decide +kernel
theorem dX4_format_128 : decode cX4_format 128 = .ok (.invokestatic 99, 3) := by decide +kernel
theorem dX4_format_131 : decode cX4_format 131 = .ok (.iastore, 1) := by decide +kernel
theorem dX4_format_132 : decode cX4_format 132 = .ok (.iinc 6 1, 3) := by decide +kernel
theorem dX4_format_135 : decode cX4_format 135 = .ok (.goto (-34), 3) := by decide +kernel
theorem dX4_format_138 : decode cX4_format 138 = .ok (.iconst 0, 1) := by decide +kernel
theorem dX4_format_139 : decode cX4_format 139 = .ok (.istore 6, 2) := by decide +kernel
theorem dX4_format_141 : decode cX4_format 141 = .ok (.iload 6, 2) := by decide +kernel
theorem dX4_format_143 : decode cX4_format 143 = .ok (.bipush 80, 2) := by decide +kernel
theorem dX4_format_145 : decode cX4_format 145 = .ok (.if_icmp .ge 22, 3) := by decide +kernel
theorem dX4_format_148 : decode cX4_format 148 = .ok (.aload_n 0, 1) := by decide +kernel
theorem dX4_format_149 : decode cX4_format 149 = .ok (.iload 6, 2) := by decide +kernel
theorem dX4_format_151 : decode cX4_format 151 = .ok (.aload_n 0, 1) := by decide +kernel
theorem dX4_format_152 : decode cX4_format 152 = .ok (.getfield 23, 3) := by decide +kernel
theorem dX4_format_155 : decode cX4_format 155 = .ok (.iload 6, 2) := by decide +kernel
theorem dX4_format_157 : decode cX4_format 157 = .ok (.iaload, 1) := by decide +kernel
theorem dX4_format_158 : decode cX4_format 158 = .ok (.invokevirtual 76, 3) := by decide +kernel
theorem dX4_format_161 : decode cX4_format 161 = .ok (.iinc 6 1, 3) := by decide +kernel
theorem dX4_format_164 : decode cX4_format 164 = .ok (.goto (-23), 3) := by decide +kernel
theorem dX4_format_167 : decode cX4_format 167 = .ok (.aload_n 0, 1) := by decide +kernel
theorem dX4_format_168 : decode cX4_format 168 = .ok (.iconst 0, 1) := by decide +kernel
theorem dX4_format_169 : decode cX4_format 169 = .ok (.ldc 103, 2) := by decide +kernel
theorem dX4_format_171 : decode cX4_format 171 = .ok (.invokevirtual 76, 3) := by decide +kernel
theorem dX4_format_174 : decode cX4_format 174 = .ok (.aload_n 0, 1) := by decide +kernel
theorem dX4_format_175 : decode cX4_format 175 = .ok (.invokevirtual 104, 3) := by decide +kernel
theorem dX4_format_178 : decode cX4_format 178 = .ok (.ifCond .ne 5, 3) := by decide +kernel
theorem dX4_format_181 : decode cX4_format 181 = .ok (.iconst (-1), 1) := by decide +kernel
theorem dX4_format_182 : decode cX4_format 182 = .ok (.ireturn, 1) := by decide +kernel
theorem dX4_format_183 : decode cX4_format 183 = .ok (.aload_n 0, 1) := by decide +kernel
theorem dX4_format_184 : decode cX4_format 184 = .ok (.iconst 1, 1) := by decide +kernel
theorem dX4_format_185 : decode cX4_format 185 = .ok (.putfield 89, 3) := by decide +kernel
theorem dX4_format_188 : decode cX4_format 188 = .ok (.iconst 0, 1) := by decide +kernel
theorem dX4_format_189 : decode cX4_format 189 = .ok (.ireturn, 1) := by decide +kernel
theorem dX4_mount_0 : decode cX4_mount 0 = .ok (.aload_n 0, 1) := by decide +kernel
theorem dX4_mount_1 : decode cX4_mount 1 = .ok (.getfield 7, 3) := by decide +kernel
theorem dX4_mount_4 : decode cX4_mount 4 = .ok (.iconst 0, 1) := by decide +kernel
theorem dX4_mount_5 : decode cX4_mount 5 = .ok (.iaload, 1) := by decide +kernel
theorem dX4_mount_6 : decode cX4_mount 6 = .ok (.ldc 103, 2) := by decide +kernel
theorem dX4_mount_8 : decode cX4_mount 8 = .ok (.if_icmp .eq 11, 3) := by decide +kernel
theorem dX4_mount_11 : decode cX4_mount 11 = .ok (.aload_n 0, 1) := by decide +kernel
theorem dX4_mount_12 : decode cX4_mount 12 = .ok (.iconst 0, 1) := by decide +kernel
theorem dX4_mount_13 : decode cX4_mount 13 = .ok (.putfield 89, 3) := by decide +kernel
theorem dX4_mount_16 : decode cX4_mount 16 = .ok (.bipush (-3), 2) := by decide +kernel
theorem dX4_mount_18 : decode cX4_mount 18 = .ok (.ireturn, 1) := by decide +kernel
theorem dX4_mount_19 : decode cX4_mount 19 = .ok (.aload_n 0, 1) := by decide +kernel
theorem dX4_mount_20 : decode cX4_mount 20 = .ok (.invokevirtual 83, 3) := by decide +kernel
theorem dX4_mount_23 : decode cX4_mount 23 = .ok (.aload_n 0, 1) := by decide +kernel
theorem dX4_mount_24 : decode cX4_mount 24 = .ok (.getfield 23, 3) := by decide +kernel
theorem dX4_mount_27 : decode cX4_mount 27 = .ok (.bipush 36, 2) := by decide +kernel
theorem dX4_mount_29 : decode cX4_mount 29 = .ok (.iaload, 1) := by decide +kernel
theorem dX4_mount_30 : decode cX4_mount 30 = .ok (.iconst 1, 1) := by decide +kernel
theorem dX4_mount_31 : decode cX4_mount 31 = .ok (.if_icmp .ne 10, 3) := by decide +kernel
theorem dX4_mount_34 : decode cX4_mount 34 = .ok (.aload_n 0, 1) := by decide +kernel
theorem dX4_mount_35 : decode cX4_mount 35 = .ok (.invokevirtual 86, 3) := by decide +kernel
theorem dX4_mount_38 : decode cX4_mount 38 = .ok (.goto 7, 3) := by decide +kernel
theorem dX4_mount_41 : decode cX4_mount 41 = .ok (.aload_n 0, 1) := by decide +kernel
theorem dX4_mount_42 : decode cX4_mount 42 = .ok (.invokevirtual 80, 3) := by decide +kernel
theorem dX4_mount_45 : decode cX4_mount 45 = .ok (.aload_n 0, 1) := by decide +kernel
theorem dX4_mount_46 : decode cX4_mount 46 = .ok (.invokevirtual 104, 3) := by decide +kernel
theorem dX4_mount_49 : decode cX4_mount 49 = .ok (.ifCond .ne 5, 3) := by decide +kernel
theorem dX4_mount_52 : decode cX4_mount 52 = .ok (.iconst (-1), 1) := by decide +kernel
theorem dX4_mount_53 : decode cX4_mount 53 = .ok (.ireturn, 1) := by decide +kernel
theorem dX4_mount_54 : decode cX4_mount 54 = .ok (.aload_n 0, 1) := by decide +kernel
theorem dX4_mount_55 : decode cX4_mount 55 = .ok (.iconst 1, 1) := by decide +kernel
theorem dX4_mount_56 : decode cX4_mount 56 = .ok (.putfield 89, 3) := by decide +kernel
theorem dX4_mount_59 : decode cX4_mount 59 = .ok (.aload_n 0, 1) := by decide +kernel
theorem dX4_mount_60 : decode cX4_mount 60 = .ok (.invokevirtual 108, 3) := by decide +kernel
theorem dX4_mount_63 : decode cX4_mount 63 = .ok (.ireturn, 1) := by decide +kernel
theorem dX4_unlock_0 : decode cX4_unlock 0 = .ok (.aload_n 0, 1) := by decide +kernel
theorem dX4_unlock_1 : decode cX4_unlock 1 = .ok (.getfield 89, 3) := by decide +kernel
theorem dX4_unlock_4 : decode cX4_unlock 4 = .ok (.ifCond .ne 6, 3) := by decide +kernel
theorem dX4_unlock_7 : decode cX4_unlock 7 = .ok (.bipush (-2), 2) := by decide +kernel
theorem dX4_unlock_9 : decode cX4_unlock 9 = .ok (.ireturn, 1) := by decide +kernel
theorem dX4_unlock_10 : decode cX4_unlock 10 = .ok (.iconst 0, 1) := by decide +kernel
theorem dX4_unlock_11 : decode cX4_unlock 11 = .ok (.istore_n 2, 1) := by decide +kernel
theorem dX4_unlock_12 : decode cX4_unlock 12 = .ok (.iload_n 2, 1) := by decide +kernel
theorem dX4_unlock_13 : decode cX4_unlock 13 = .ok (.iconst 4, 1) := by decide +kernel
theorem dX4_unlock_14 : decode cX4_unlock 14 = .ok (.if_icmp .ge 41, 3) := by decide +kernel
theorem dX4_unlock_17 : decode cX4_unlock 17 = .ok (.aload_n 0, 1) := by decide +kernel
theorem dX4_unlock_18 : decode cX4_unlock 18 = .ok (.iload_n 2, 1) := by decide +kernel
theorem dX4_unlock_19 : decode cX4_unlock 19 = .ok (.iload_n 1, 1) := by decide +kernel
theorem dX4_unlock_20 : decode cX4_unlock 20 = .ok (.invokevirtual 112, 3) := by decide +kernel
theorem dX4_unlock_23 : decode cX4_unlock 23 = .ok (.ifCond .eq 26, 3) := by decide +kernel
theorem dX4_unlock_26 : decode cX4_unlock 26 = .ok (.aload_n 0, 1) := by decide +kernel
theorem dX4_unlock_27 : decode cX4_unlock 27 = .ok (.iconst 2, 1) := by decide +kernel
theorem dX4_unlock_28 : decode cX4_unlock 28 = .ok (.putfield 89, 3) := by decide +kernel
theorem dX4_unlock_31 : decode cX4_unlock 31 = .ok (.aload_n 0, 1) := by decide +kernel
theorem dX4_unlock_32 : decode cX4_unlock 32 = .ok (.aload_n 0, 1) := by decide +kernel
theorem dX4_unlock_33 : decode cX4_unlock 33 = .ok (.getfield 60, 3) := by decide +kernel
theorem dX4_unlock_36 : decode cX4_unlock 36 = .ok (.putfield 116, 3) := by decide +kernel
theorem dX4_unlock_39 : decode cX4_unlock 39 = .ok (.aload_n 0, 1) := by decide +kernel
theorem dX4_unlock_40 : decode cX4_unlock 40 = .ok (.aload_n 0, 1) := by decide +kernel
theorem dX4_unlock_41 : decode cX4_unlock 41 = .ok (.getfield 63, 3) := by decide +kernel
theorem dX4_unlock_44 : decode cX4_unlock 44 = .ok (.putfield 119, 3) := by decide +kernel
theorem dX4_unlock_47 : decode cX4_unlock 47 = .ok (.iload_n 2, 1) := by decide +kernel
theorem dX4_unlock_48 : decode cX4_unlock 48 = .ok (.ireturn, 1) := by decide +kernel
theorem dX4_unlock_49 : decode cX4_unlock 49 = .ok (.iinc 2 1, 3) := by decide +kernel
theorem dX4_unlock_52 : decode cX4_unlock 52 = .ok (.goto (-40), 3) := by decide +kernel
theorem dX4_unlock_55 : decode cX4_unlock 55 = .ok (.bipush (-9), 2) := by decide +kernel
theorem dX4_unlock_57 : decode cX4_unlock 57 = .ok (.ireturn, 1) := by decide +kernel
theorem dX4_lock_0 : decode cX4_lock 0 = .ok (.aload_n 0, 1) := by decide +kernel
theorem dX4_lock_1 : decode cX4_lock 1 = .ok (.getfield 89, 3) := by decide +kernel
theorem dX4_lock_4 : decode cX4_lock 4 = .ok (.ifCond .ne 6, 3) := by decide +kernel
theorem dX4_lock_7 : decode cX4_lock 7 = .ok (.bipush (-2), 2) := by decide +kernel
theorem dX4_lock_9 : decode cX4_lock 9 = .ok (.ireturn, 1) := by decide +kernel
theorem dX4_lock_10 : decode cX4_lock 10 = .ok (.aload_n 0, 1) := by decide +kernel
theorem dX4_lock_11 : decode cX4_lock 11 = .ok (.getfield 89, 3) := by decide +kernel
theorem dX4_lock_14 : decode cX4_lock 14 = .ok (.istore_n 1, 1) := by decide +kernel
theorem dX4_lock_15 : decode cX4_lock 15 = .ok (.aload_n 0, 1) := by decide +kernel
theorem dX4_lock_16 : decode cX4_lock 16 = .ok (.iconst 1, 1) := by decide +kernel
theorem dX4_lock_17 : decode cX4_lock 17 = .ok (.putfield 89, 3) := by decide +kernel
theorem dX4_lock_20 : decode cX4_lock 20 = .ok (.iload_n 1, 1) := by decide +kernel
theorem dX4_lock_21 : decode cX4_lock 21 = .ok (.iconst 1, 1) := by decide +kernel
theorem dX4_lock_22 : decode cX4_lock 22 = .ok (.isub, 1) := by decide +kernel
theorem dX4_lock_23 : decode cX4_lock 23 = .ok (.ireturn, 1) := by decide +kernel
theorem dX4_closed_0 : decode cX4_closed 0 = .ok (.aload_n 0, 1) := by decide +kernel
theorem dX4_closed_1 : decode cX4_closed 1 = .ok (.getfield 89, 3) := by decide +kernel
theorem dX4_closed_4 : decode cX4_closed 4 = .ok (.ifCond .ne 8, 3) := by decide +kernel
theorem dX4_closed_7 : decode cX4_closed 7 = .ok (.bipush (-2), 2) := by decide +kernel
theorem dX4_closed_9 : decode cX4_closed 9 = .ok (.goto 17, 3) := by decide +kernel
theorem dX4_closed_12 : decode cX4_closed 12 = .ok (.aload_n 0, 1) := by decide +kernel
theorem dX4_closed_13 : decode cX4_closed 13 = .ok (.getfield 89, 3) := by decide +kernel
theorem dX4_closed_16 : decode cX4_closed 16 = .ok (.iconst 1, 1) := by decide +kernel
theorem dX4_closed_17 : decode cX4_closed 17 = .ok (.if_icmp .ne 8, 3) := by decide +kernel
theorem dX4_closed_20 : decode cX4_closed 20 = .ok (.bipush (-4), 2) := by decide +kernel
theorem dX4_closed_22 : decode cX4_closed 22 = .ok (.goto 4, 3) := by decide +kernel
theorem dX4_closed_25 : decode cX4_closed 25 = .ok (.iconst 0, 1) := by decide +kernel
theorem dX4_closed_26 : decode cX4_closed 26 = .ok (.ireturn, 1) := by decide +kernel
theorem dX4_add_0 : decode cX4_add 0 = .ok (.aload_n 0, 1) := by decide +kernel
theorem dX4_add_1 : decode cX4_add 1 = .ok (.invokevirtual 122, 3) := by decide +kernel
theorem dX4_add_4 : decode cX4_add 4 = .ok (.ifCond .ge 8, 3) := by decide +kernel
theorem dX4_add_7 : decode cX4_add 7 = .ok (.aload_n 0, 1) := by decide +kernel
theorem dX4_add_8 : decode cX4_add 8 = .ok (.invokevirtual 122, 3) := by decide +kernel
theorem dX4_add_11 : decode cX4_add 11 = .ok (.ireturn, 1) := by decide +kernel
theorem dX4_add_12 : decode cX4_add 12 = .ok (.iconst 0, 1) := by decide +kernel
theorem dX4_add_13 : decode cX4_add 13 = .ok (.istore_n 3, 1) := by decide +kernel
theorem dX4_add_14 : decode cX4_add 14 = .ok (.iload_n 3, 1) := by decide +kernel
theorem dX4_add_15 : decode cX4_add 15 = .ok (.iconst 4, 1) := by decide +kernel
theorem dX4_add_16 : decode cX4_add 16 = .ok (.if_icmp .ge 17, 3) := by decide +kernel
theorem dX4_add_19 : decode cX4_add 19 = .ok (.aload_n 0, 1) := by decide +kernel
theorem dX4_add_20 : decode cX4_add 20 = .ok (.iload_n 3, 1) := by decide +kernel
theorem dX4_add_21 : decode cX4_add 21 = .ok (.invokevirtual 66, 3) := by decide +kernel
theorem dX4_add_24 : decode cX4_add 24 = .ok (.ifCond .eq 9, 3) := by decide +kernel
theorem dX4_add_27 : decode cX4_add 27 = .ok (.iinc 3 1, 3) := by decide +kernel
theorem dX4_add_30 : decode cX4_add 30 = .ok (.goto (-16), 3) := by decide +kernel
theorem dX4_add_33 : decode cX4_add 33 = .ok (.iload_n 3, 1) := by decide +kernel
theorem dX4_add_34 : decode cX4_add 34 = .ok (.iconst 4, 1) := by decide +kernel
theorem dX4_add_35 : decode cX4_add 35 = .ok (.if_icmp .ne 6, 3) := by decide +kernel
theorem dX4_add_38 : decode cX4_add 38 = .ok (.bipush (-7), 2) := by decide +kernel
theorem dX4_add_40 : decode cX4_add 40 = .ok (.ireturn, 1) := by decide +kernel
theorem dX4_add_41 : decode cX4_add 41 = .ok (.aload_n 0, 1) := by decide +kernel
theorem dX4_add_42 : decode cX4_add 42 = .ok (.iload_n 1, 1) := by decide +kernel
theorem dX4_add_43 : decode cX4_add 43 = .ok (.iload_n 2, 1) := by decide +kernel
theorem dX4_add_44 : decode cX4_add 44 = .ok (.aload_n 0, 1) := by decide +kernel
theorem dX4_add_45 : decode cX4_add 45 = .ok (.getfield 116, 3) := by decide +kernel
theorem dX4_add_48 : decode cX4_add 48 = .ok (.aload_n 0, 1) := by decide +kernel
theorem dX4_add_49 : decode cX4_add 49 = .ok (.getfield 119, 3) := by decide +kernel
theorem dX4_add_52 : decode cX4_add 52 = .ok (.invokevirtual 95, 3) := by decide +kernel
theorem dX4_add_55 : decode cX4_add 55 = .ok (.aload_n 0, 1) := by decide +kernel
theorem dX4_add_56 : decode cX4_add 56 = .ok (.iconst 4, 1) := by decide +kernel
theorem dX4_add_57 : decode cX4_add 57 = .ok (.bipush 8, 2) := by decide +kernel
theorem dX4_add_59 : decode cX4_add 59 = .ok (.iload_n 3, 1) := by decide +kernel
theorem dX4_add_60 : decode cX4_add 60 = .ok (.imul, 1) := by decide +kernel
theorem dX4_add_61 : decode cX4_add 61 = .ok (.iadd, 1) := by decide +kernel
theorem dX4_add_62 : decode cX4_add 62 = .ok (.bipush 8, 2) := by decide +kernel
theorem dX4_add_64 : decode cX4_add 64 = .ok (.invokevirtual 125, 3) := by decide +kernel
theorem dX4_add_67 : decode cX4_add 67 = .ok (.aload_n 0, 1) := by decide +kernel
theorem dX4_add_68 : decode cX4_add 68 = .ok (.invokevirtual 104, 3) := by decide +kernel
theorem dX4_add_71 : decode cX4_add 71 = .ok (.ifCond .eq 7, 3) := by decide +kernel
theorem dX4_add_74 : decode cX4_add 74 = .ok (.iload_n 3, 1) := by decide +kernel
theorem dX4_add_75 : decode cX4_add 75 = .ok (.goto 4, 3) := by decide +kernel
theorem dX4_add_78 : decode cX4_add 78 = .ok (.iconst (-1), 1) := by decide +kernel
theorem dX4_add_79 : decode cX4_add 79 = .ok (.ireturn, 1) := by decide +kernel
theorem dX4_badSlot_0 : decode cX4_badSlot 0 = .ok (.aload_n 0, 1) := by decide +kernel
theorem dX4_badSlot_1 : decode cX4_badSlot 1 = .ok (.invokevirtual 122, 3) := by decide +kernel
theorem dX4_badSlot_4 : decode cX4_badSlot 4 = .ok (.ifCond .ge 8, 3) := by decide +kernel
theorem dX4_badSlot_7 : decode cX4_badSlot 7 = .ok (.aload_n 0, 1) := by decide +kernel
theorem dX4_badSlot_8 : decode cX4_badSlot 8 = .ok (.invokevirtual 122, 3) := by decide +kernel
theorem dX4_badSlot_11 : decode cX4_badSlot 11 = .ok (.ireturn, 1) := by decide +kernel
theorem dX4_badSlot_12 : decode cX4_badSlot 12 = .ok (.iload_n 1, 1) := by decide +kernel
theorem dX4_badSlot_13 : decode cX4_badSlot 13 = .ok (.ifCond .lt 8, 3) := by decide +kernel
theorem dX4_badSlot_16 : decode cX4_badSlot 16 = .ok (.iload_n 1, 1) := by decide +kernel
theorem dX4_badSlot_17 : decode cX4_badSlot 17 = .ok (.iconst 3, 1) := by decide +kernel
theorem dX4_badSlot_18 : decode cX4_badSlot 18 = .ok (.if_icmp .le 6, 3) := by decide +kernel
theorem dX4_badSlot_21 : decode cX4_badSlot 21 = .ok (.bipush (-5), 2) := by decide +kernel
theorem dX4_badSlot_23 : decode cX4_badSlot 23 = .ok (.ireturn, 1) := by decide +kernel
theorem dX4_badSlot_24 : decode cX4_badSlot 24 = .ok (.aload_n 0, 1) := by decide +kernel
theorem dX4_badSlot_25 : decode cX4_badSlot 25 = .ok (.iload_n 1, 1) := by decide +kernel
theorem dX4_badSlot_26 : decode cX4_badSlot 26 = .ok (.invokevirtual 66, 3) := by decide +kernel
theorem dX4_badSlot_29 : decode cX4_badSlot 29 = .ok (.ifCond .eq 7, 3) := by decide +kernel
theorem dX4_badSlot_32 : decode cX4_badSlot 32 = .ok (.iconst 0, 1) := by decide +kernel
theorem dX4_badSlot_33 : decode cX4_badSlot 33 = .ok (.goto 5, 3) := by decide +kernel
theorem dX4_badSlot_36 : decode cX4_badSlot 36 = .ok (.bipush (-6), 2) := by decide +kernel
theorem dX4_badSlot_38 : decode cX4_badSlot 38 = .ok (.ireturn, 1) := by decide +kernel
theorem dX4_change_0 : decode cX4_change 0 = .ok (.aload_n 0, 1) := by decide +kernel
theorem dX4_change_1 : decode cX4_change 1 = .ok (.iload_n 1, 1) := by decide +kernel
theorem dX4_change_2 : decode cX4_change 2 = .ok (.invokevirtual 128, 3) := by decide +kernel
theorem dX4_change_5 : decode cX4_change 5 = .ok (.ifCond .ge 9, 3) := by decide +kernel
theorem dX4_change_8 : decode cX4_change 8 = .ok (.aload_n 0, 1) := by decide +kernel
theorem dX4_change_9 : decode cX4_change 9 = .ok (.iload_n 1, 1) := by decide +kernel
theorem dX4_change_10 : decode cX4_change 10 = .ok (.invokevirtual 128, 3) := by decide +kernel
theorem dX4_change_13 : decode cX4_change 13 = .ok (.ireturn, 1) := by decide +kernel
theorem dX4_change_14 : decode cX4_change 14 = .ok (.aload_n 0, 1) := by decide +kernel
theorem dX4_change_15 : decode cX4_change 15 = .ok (.iload_n 2, 1) := by decide +kernel
theorem dX4_change_16 : decode cX4_change 16 = .ok (.iload_n 3, 1) := by decide +kernel
theorem dX4_change_17 : decode cX4_change 17 = .ok (.aload_n 0, 1) := by decide +kernel
theorem dX4_change_18 : decode cX4_change 18 = .ok (.getfield 116, 3) := by decide +kernel
theorem dX4_change_21 : decode cX4_change 21 = .ok (.aload_n 0, 1) := by decide +kernel
theorem dX4_change_22 : decode cX4_change 22 = .ok (.getfield 119, 3) := by decide +kernel
theorem dX4_change_25 : decode cX4_change 25 = .ok (.invokevirtual 95, 3) := by decide +kernel
theorem dX4_change_28 : decode cX4_change 28 = .ok (.aload_n 0, 1) := by decide +kernel
theorem dX4_change_29 : decode cX4_change 29 = .ok (.iconst 4, 1) := by decide +kernel
theorem dX4_change_30 : decode cX4_change 30 = .ok (.bipush 8, 2) := by decide +kernel
theorem dX4_change_32 : decode cX4_change 32 = .ok (.iload_n 1, 1) := by decide +kernel
theorem dX4_change_33 : decode cX4_change 33 = .ok (.imul, 1) := by decide +kernel
theorem dX4_change_34 : decode cX4_change 34 = .ok (.iadd, 1) := by decide +kernel
theorem dX4_change_35 : decode cX4_change 35 = .ok (.bipush 8, 2) := by decide +kernel
theorem dX4_change_37 : decode cX4_change 37 = .ok (.invokevirtual 125, 3) := by decide +kernel
theorem dX4_change_40 : decode cX4_change 40 = .ok (.aload_n 0, 1) := by decide +kernel
theorem dX4_change_41 : decode cX4_change 41 = .ok (.invokevirtual 104, 3) := by decide +kernel
theorem dX4_change_44 : decode cX4_change 44 = .ok (.ifCond .eq 7, 3) := by decide +kernel
theorem dX4_change_47 : decode cX4_change 47 = .ok (.iconst 0, 1) := by decide +kernel
theorem dX4_change_48 : decode cX4_change 48 = .ok (.goto 4, 3) := by decide +kernel
theorem dX4_change_51 : decode cX4_change 51 = .ok (.iconst (-1), 1) := by decide +kernel
theorem dX4_change_52 : decode cX4_change 52 = .ok (.ireturn, 1) := by decide +kernel
theorem dX4_revoke_0 : decode cX4_revoke 0 = .ok (.aload_n 0, 1) := by decide +kernel
theorem dX4_revoke_1 : decode cX4_revoke 1 = .ok (.iload_n 1, 1) := by decide +kernel
theorem dX4_revoke_2 : decode cX4_revoke 2 = .ok (.invokevirtual 128, 3) := by decide +kernel
theorem dX4_revoke_5 : decode cX4_revoke 5 = .ok (.ifCond .ge 9, 3) := by decide +kernel
theorem dX4_revoke_8 : decode cX4_revoke 8 = .ok (.aload_n 0, 1) := by decide +kernel
theorem dX4_revoke_9 : decode cX4_revoke 9 = .ok (.iload_n 1, 1) := by decide +kernel
theorem dX4_revoke_10 : decode cX4_revoke 10 = .ok (.invokevirtual 128, 3) := by decide +kernel
theorem dX4_revoke_13 : decode cX4_revoke 13 = .ok (.ireturn, 1) := by decide +kernel
theorem dX4_revoke_14 : decode cX4_revoke 14 = .ok (.aload_n 0, 1) := by decide +kernel
theorem dX4_revoke_15 : decode cX4_revoke 15 = .ok (.invokevirtual 108, 3) := by decide +kernel
theorem dX4_revoke_18 : decode cX4_revoke 18 = .ok (.iconst 1, 1) := by decide +kernel
theorem dX4_revoke_19 : decode cX4_revoke 19 = .ok (.if_icmp .ne 6, 3) := by decide +kernel
theorem dX4_revoke_22 : decode cX4_revoke 22 = .ok (.bipush (-8), 2) := by decide +kernel
theorem dX4_revoke_24 : decode cX4_revoke 24 = .ok (.ireturn, 1) := by decide +kernel
theorem dX4_revoke_25 : decode cX4_revoke 25 = .ok (.iconst 0, 1) := by decide +kernel
theorem dX4_revoke_26 : decode cX4_revoke 26 = .ok (.istore_n 2, 1) := by decide +kernel
theorem dX4_revoke_27 : decode cX4_revoke 27 = .ok (.iload_n 2, 1) := by decide +kernel
theorem dX4_revoke_28 : decode cX4_revoke 28 = .ok (.bipush 8, 2) := by decide +kernel
theorem dX4_revoke_30 : decode cX4_revoke 30 = .ok (.if_icmp .ge 16, 3) := by decide +kernel
theorem dX4_revoke_33 : decode cX4_revoke 33 = .ok (.aload_n 0, 1) := by decide +kernel
theorem dX4_revoke_34 : decode cX4_revoke 34 = .ok (.getfield 26, 3) := by decide +kernel
theorem dX4_revoke_37 : decode cX4_revoke 37 = .ok (.iload_n 2, 1) := by decide +kernel
theorem dX4_revoke_38 : decode cX4_revoke 38 = .ok (.iconst 0, 1) := by decide +kernel
theorem dX4_revoke_39 : decode cX4_revoke 39 = .ok (.iastore, 1) := by decide +kernel
theorem dX4_revoke_40 : decode cX4_revoke 40 = .ok (.iinc 2 1, 3) := by decide +kernel
theorem dX4_revoke_43 : decode cX4_revoke 43 = .ok (.goto (-16), 3) := by decide +kernel
theorem dX4_revoke_46 : decode cX4_revoke 46 = .ok (.aload_n 0, 1) := by decide +kernel
theorem dX4_revoke_47 : decode cX4_revoke 47 = .ok (.iconst 4, 1) := by decide +kernel
theorem dX4_revoke_48 : decode cX4_revoke 48 = .ok (.bipush 8, 2) := by decide +kernel
theorem dX4_revoke_50 : decode cX4_revoke 50 = .ok (.iload_n 1, 1) := by decide +kernel
theorem dX4_revoke_51 : decode cX4_revoke 51 = .ok (.imul, 1) := by decide +kernel
theorem dX4_revoke_52 : decode cX4_revoke 52 = .ok (.iadd, 1) := by decide +kernel
theorem dX4_revoke_53 : decode cX4_revoke 53 = .ok (.bipush 8, 2) := by decide +kernel
theorem dX4_revoke_55 : decode cX4_revoke 55 = .ok (.invokevirtual 125, 3) := by decide +kernel
theorem dX4_revoke_58 : decode cX4_revoke 58 = .ok (.aload_n 0, 1) := by decide +kernel
theorem dX4_revoke_59 : decode cX4_revoke 59 = .ok (.invokevirtual 104, 3) := by decide +kernel
theorem dX4_revoke_62 : decode cX4_revoke 62 = .ok (.ifCond .eq 7, 3) := by decide +kernel
theorem dX4_revoke_65 : decode cX4_revoke 65 = .ok (.iconst 0, 1) := by decide +kernel
theorem dX4_revoke_66 : decode cX4_revoke 66 = .ok (.goto 4, 3) := by decide +kernel
theorem dX4_revoke_69 : decode cX4_revoke 69 = .ok (.iconst (-1), 1) := by decide +kernel
theorem dX4_revoke_70 : decode cX4_revoke 70 = .ok (.ireturn, 1) := by decide +kernel
theorem dX4_badWord_0 : decode cX4_badWord 0 = .ok (.aload_n 0, 1) := by decide +kernel
theorem dX4_badWord_1 : decode cX4_badWord 1 = .ok (.invokevirtual 122, 3) := by decide +kernel
theorem dX4_badWord_4 : decode cX4_badWord 4 = .ok (.ifCond .ge 8, 3) := by decide +kernel
theorem dX4_badWord_7 : decode cX4_badWord 7 = .ok (.aload_n 0, 1) := by decide +kernel
theorem dX4_badWord_8 : decode cX4_badWord 8 = .ok (.invokevirtual 122, 3) := by decide +kernel
theorem dX4_badWord_11 : decode cX4_badWord 11 = .ok (.ireturn, 1) := by decide +kernel
theorem dX4_badWord_12 : decode cX4_badWord 12 = .ok (.iload_n 1, 1) := by decide +kernel
theorem dX4_badWord_13 : decode cX4_badWord 13 = .ok (.ifCond .lt 18, 3) := by decide +kernel
theorem dX4_badWord_16 : decode cX4_badWord 16 = .ok (.iload_n 1, 1) := by decide +kernel
theorem dX4_badWord_17 : decode cX4_badWord 17 = .ok (.bipush 7, 2) := by decide +kernel
theorem dX4_badWord_19 : decode cX4_badWord 19 = .ok (.if_icmp .gt 12, 3) := by decide +kernel
theorem dX4_badWord_22 : decode cX4_badWord 22 = .ok (.iload_n 2, 1) := by decide +kernel
theorem dX4_badWord_23 : decode cX4_badWord 23 = .ok (.ifCond .lt 8, 3) := by decide +kernel
theorem dX4_badWord_26 : decode cX4_badWord 26 = .ok (.iload_n 2, 1) := by decide +kernel
theorem dX4_badWord_27 : decode cX4_badWord 27 = .ok (.iconst 3, 1) := by decide +kernel
theorem dX4_badWord_28 : decode cX4_badWord 28 = .ok (.if_icmp .le 8, 3) := by decide +kernel
theorem dX4_badWord_31 : decode cX4_badWord 31 = .ok (.bipush (-5), 2) := by decide +kernel
theorem dX4_badWord_33 : decode cX4_badWord 33 = .ok (.goto 4, 3) := by decide +kernel
theorem dX4_badWord_36 : decode cX4_badWord 36 = .ok (.iconst 0, 1) := by decide +kernel
theorem dX4_badWord_37 : decode cX4_badWord 37 = .ok (.ireturn, 1) := by decide +kernel
theorem dX4_write_0 : decode cX4_write 0 = .ok (.aload_n 0, 1) := by decide +kernel
theorem dX4_write_1 : decode cX4_write 1 = .ok (.iload_n 1, 1) := by decide +kernel
theorem dX4_write_2 : decode cX4_write 2 = .ok (.iload_n 2, 1) := by decide +kernel
theorem dX4_write_3 : decode cX4_write 3 = .ok (.invokevirtual 131, 3) := by decide +kernel
theorem dX4_write_6 : decode cX4_write 6 = .ok (.ifCond .ge 10, 3) := by decide +kernel
theorem dX4_write_9 : decode cX4_write 9 = .ok (.aload_n 0, 1) := by decide +kernel
theorem dX4_write_10 : decode cX4_write 10 = .ok (.iload_n 1, 1) := by decide +kernel
theorem dX4_write_11 : decode cX4_write 11 = .ok (.iload_n 2, 1) := by decide +kernel
theorem dX4_write_12 : decode cX4_write 12 = .ok (.invokevirtual 131, 3) := by decide +kernel
theorem dX4_write_15 : decode cX4_write 15 = .ok (.ireturn, 1) := by decide +kernel
theorem dX4_write_16 : decode cX4_write 16 = .ok (.iconst 0, 1) := by decide +kernel
theorem dX4_write_17 : decode cX4_write 17 = .ok (.istore 4, 2) := by decide +kernel
theorem dX4_write_19 : decode cX4_write 19 = .ok (.iload 4, 2) := by decide +kernel
theorem dX4_write_21 : decode cX4_write 21 = .ok (.iconst 4, 1) := by decide +kernel
theorem dX4_write_22 : decode cX4_write 22 = .ok (.if_icmp .ge 72, 3) := by decide +kernel
theorem dX4_write_25 : decode cX4_write 25 = .ok (.iload 4, 2) := by decide +kernel
theorem dX4_write_27 : decode cX4_write 27 = .ok (.iload_n 2, 1) := by decide +kernel
theorem dX4_write_28 : decode cX4_write 28 = .ok (.if_icmp .ne 7, 3) := by decide +kernel
theorem dX4_write_31 : decode cX4_write 31 = .ok (.iload_n 3, 1) := by decide +kernel
theorem dX4_write_32 : decode cX4_write 32 = .ok (.goto 31, 3) := by decide +kernel
theorem dX4_write_35 : decode cX4_write 35 = .ok (.aload_n 0, 1) := by decide +kernel
theorem dX4_write_36 : decode cX4_write 36 = .ok (.getfield 116, 3) := by decide +kernel
theorem dX4_write_39 : decode cX4_write 39 = .ok (.aload_n 0, 1) := by decide +kernel
theorem dX4_write_40 : decode cX4_write 40 = .ok (.getfield 119, 3) := by decide +kernel
theorem dX4_write_43 : decode cX4_write 43 = .ok (.iload_n 1, 1) := by decide +kernel
theorem dX4_write_44 : decode cX4_write 44 = .ok (.iload 4, 2) := by decide +kernel
theorem dX4_write_46 : decode cX4_write 46 = .ok (.aload_n 0, 1) := by decide +kernel
theorem dX4_write_47 : decode cX4_write 47 = .ok (.getfield 7, 3) := by decide +kernel
theorem dX4_write_50 : decode cX4_write 50 = .ok (.bipush 48, 2) := by decide +kernel
theorem dX4_write_52 : decode cX4_write 52 = .ok (.iconst 4, 1) := by decide +kernel
theorem dX4_write_53 : decode cX4_write 53 = .ok (.iload_n 1, 1) := by decide +kernel
theorem dX4_write_54 : decode cX4_write 54 = .ok (.imul, 1) := by decide +kernel
theorem dX4_write_55 : decode cX4_write 55 = .ok (.iadd, 1) := by decide +kernel
theorem dX4_write_56 : decode cX4_write 56 = .ok (.iload 4, 2) := by decide +kernel
theorem dX4_write_58 : decode cX4_write 58 = .ok (.iadd, 1) := by decide +kernel
theorem dX4_write_59 : decode cX4_write 59 = .ok (.iaload, 1) := by decide +kernel
theorem dX4_write_60 : decode cX4_write 60 = .ok (.invokestatic 134, 3) := by decide +kernel
theorem dX4_write_63 : decode cX4_write 63 = .ok (.istore 5, 2) := by decide +kernel
theorem dX4_write_65 : decode cX4_write 65 = .ok (.aload_n 0, 1) := by decide +kernel
theorem dX4_write_66 : decode cX4_write 66 = .ok (.getfield 26, 3) := by decide +kernel
theorem dX4_write_69 : decode cX4_write 69 = .ok (.iload 4, 2) := by decide +kernel
theorem dX4_write_71 : decode cX4_write 71 = .ok (.aload_n 0, 1) := by decide +kernel
theorem dX4_write_72 : decode cX4_write 72 = .ok (.getfield 116, 3) := by decide +kernel
theorem dX4_write_75 : decode cX4_write 75 = .ok (.aload_n 0, 1) := by decide +kernel
theorem dX4_write_76 : decode cX4_write 76 = .ok (.getfield 119, 3) := by decide +kernel
theorem dX4_write_79 : decode cX4_write 79 = .ok (.iload_n 1, 1) := by decide +kernel
theorem dX4_write_80 : decode cX4_write 80 = .ok (.iload 4, 2) := by decide +kernel
theorem dX4_write_82 : decode cX4_write 82 = .ok (.iload 5, 2) := by decide +kernel
theorem dX4_write_84 : decode cX4_write 84 = .ok (.invokestatic 99, 3) := by decide +kernel
theorem dX4_write_87 : decode cX4_write 87 = .ok (.iastore, 1) := by decide +kernel
theorem dX4_write_88 : decode cX4_write 88 = .ok (.iinc 4 1, 3) := by decide +kernel
theorem dX4_write_91 : decode cX4_write 91 = .ok (.goto (-72), 3) := by decide +kernel
theorem dX4_write_94 : decode cX4_write 94 = .ok (.aload_n 0, 1) := by decide +kernel
theorem dX4_write_95 : decode cX4_write 95 = .ok (.bipush 48, 2) := by decide +kernel
theorem dX4_write_97 : decode cX4_write 97 = .ok (.iconst 4, 1) := by decide +kernel
theorem dX4_write_98 : decode cX4_write 98 = .ok (.iload_n 1, 1) := by decide +kernel
theorem dX4_write_99 : decode cX4_write 99 = .ok (.imul, 1) := by decide +kernel
theorem dX4_write_100 : decode cX4_write 100 = .ok (.iadd, 1) := by decide +kernel
theorem dX4_write_101 : decode cX4_write 101 = .ok (.iconst 4, 1) := by decide +kernel
theorem dX4_write_102 : decode cX4_write 102 = .ok (.invokevirtual 125, 3) := by decide +kernel
theorem dX4_write_105 : decode cX4_write 105 = .ok (.aload_n 0, 1) := by decide +kernel
theorem dX4_write_106 : decode cX4_write 106 = .ok (.invokevirtual 104, 3) := by decide +kernel
theorem dX4_write_109 : decode cX4_write 109 = .ok (.ifCond .eq 7, 3) := by decide +kernel
theorem dX4_write_112 : decode cX4_write 112 = .ok (.iconst 0, 1) := by decide +kernel
theorem dX4_write_113 : decode cX4_write 113 = .ok (.goto 4, 3) := by decide +kernel
theorem dX4_write_116 : decode cX4_write 116 = .ok (.iconst (-1), 1) := by decide +kernel
theorem dX4_write_117 : decode cX4_write 117 = .ok (.ireturn, 1) := by decide +kernel
theorem dX4_read_0 : decode cX4_read 0 = .ok (.aload_n 0, 1) := by decide +kernel
theorem dX4_read_1 : decode cX4_read 1 = .ok (.iload_n 1, 1) := by decide +kernel
theorem dX4_read_2 : decode cX4_read 2 = .ok (.iload_n 2, 1) := by decide +kernel
theorem dX4_read_3 : decode cX4_read 3 = .ok (.invokevirtual 131, 3) := by decide +kernel
theorem dX4_read_6 : decode cX4_read 6 = .ok (.ifCond .ge 11, 3) := by decide +kernel
theorem dX4_read_9 : decode cX4_read 9 = .ok (.aload_n 0, 1) := by decide +kernel
theorem dX4_read_10 : decode cX4_read 10 = .ok (.iload_n 1, 1) := by decide +kernel
theorem dX4_read_11 : decode cX4_read 11 = .ok (.iload_n 2, 1) := by decide +kernel
theorem dX4_read_12 : decode cX4_read 12 = .ok (.invokevirtual 131, 3) := by decide +kernel
theorem dX4_read_15 : decode cX4_read 15 = .ok (.i2l, 1) := by decide +kernel
theorem dX4_read_16 : decode cX4_read 16 = .ok (.lreturn, 1) := by decide +kernel
theorem dX4_read_17 : decode cX4_read 17 = .ok (.aload_n 0, 1) := by decide +kernel
theorem dX4_read_18 : decode cX4_read 18 = .ok (.getfield 116, 3) := by decide +kernel
theorem dX4_read_21 : decode cX4_read 21 = .ok (.aload_n 0, 1) := by decide +kernel
theorem dX4_read_22 : decode cX4_read 22 = .ok (.getfield 119, 3) := by decide +kernel
theorem dX4_read_25 : decode cX4_read 25 = .ok (.iload_n 1, 1) := by decide +kernel
theorem dX4_read_26 : decode cX4_read 26 = .ok (.iload_n 2, 1) := by decide +kernel
theorem dX4_read_27 : decode cX4_read 27 = .ok (.aload_n 0, 1) := by decide +kernel
theorem dX4_read_28 : decode cX4_read 28 = .ok (.getfield 7, 3) := by decide +kernel
theorem dX4_read_31 : decode cX4_read 31 = .ok (.bipush 48, 2) := by decide +kernel
theorem dX4_read_33 : decode cX4_read 33 = .ok (.iconst 4, 1) := by decide +kernel
theorem dX4_read_34 : decode cX4_read 34 = .ok (.iload_n 1, 1) := by decide +kernel
theorem dX4_read_35 : decode cX4_read 35 = .ok (.imul, 1) := by decide +kernel
theorem dX4_read_36 : decode cX4_read 36 = .ok (.iadd, 1) := by decide +kernel
theorem dX4_read_37 : decode cX4_read 37 = .ok (.iload_n 2, 1) := by decide +kernel
theorem dX4_read_38 : decode cX4_read 38 = .ok (.iadd, 1) := by decide +kernel
theorem dX4_read_39 : decode cX4_read 39 = .ok (.iaload, 1) := by decide +kernel
theorem dX4_read_40 : decode cX4_read 40 = .ok (.invokestatic 134, 3) := by decide +kernel
theorem dX4_read_43 : decode cX4_read 43 = .ok (.istore_n 3, 1) := by decide +kernel
theorem dX4_read_44 : decode cX4_read 44 = .ok (.iload_n 3, 1) := by decide +kernel
theorem dX4_read_45 : decode cX4_read 45 = .ok (.ifCond .ge 12, 3) := by decide +kernel
theorem dX4_read_48 : decode cX4_read 48 = .ok (.iload_n 3, 1) := by decide +kernel
theorem dX4_read_49 : decode cX4_read 49 = .ok (.i2l, 1) := by decide +kernel
theorem dX4_read_50 : decode cX4_read 50 = .ok (.ldc2_w 137, 3) := by decide +kernel
theorem dX4_read_53 : decode cX4_read 53 = .ok (.ladd, 1) := by decide +kernel
theorem dX4_read_54 : decode cX4_read 54 = .ok (.goto 5, 3) := by decide +kernel
theorem dX4_read_57 : decode cX4_read 57 = .ok (.iload_n 3, 1) := by decide +kernel
theorem dX4_read_58 : decode cX4_read 58 = .ok (.i2l, 1) := by decide +kernel
theorem dX4_read_59 : decode cX4_read 59 = .ok (.lreturn, 1) := by decide +kernel
theorem dX4_state_0 : decode cX4_state 0 = .ok (.aload_n 0, 1) := by decide +kernel
theorem dX4_state_1 : decode cX4_state 1 = .ok (.getfield 89, 3) := by decide +kernel
theorem dX4_state_4 : decode cX4_state 4 = .ok (.ireturn, 1) := by decide +kernel
theorem dX4_slots_0 : decode cX4_slots 0 = .ok (.iconst 0, 1) := by decide +kernel
theorem dX4_slots_1 : decode cX4_slots 1 = .ok (.istore_n 1, 1) := by decide +kernel
theorem dX4_slots_2 : decode cX4_slots 2 = .ok (.iconst 0, 1) := by decide +kernel
theorem dX4_slots_3 : decode cX4_slots 3 = .ok (.istore_n 2, 1) := by decide +kernel
theorem dX4_slots_4 : decode cX4_slots 4 = .ok (.iload_n 2, 1) := by decide +kernel
theorem dX4_slots_5 : decode cX4_slots 5 = .ok (.iconst 4, 1) := by decide +kernel
theorem dX4_slots_6 : decode cX4_slots 6 = .ok (.if_icmp .ge 27, 3) := by decide +kernel
theorem dX4_slots_9 : decode cX4_slots 9 = .ok (.iload_n 1, 1) := by decide +kernel
theorem dX4_slots_10 : decode cX4_slots 10 = .ok (.aload_n 0, 1) := by decide +kernel
theorem dX4_slots_11 : decode cX4_slots 11 = .ok (.iload_n 2, 1) := by decide +kernel
theorem dX4_slots_12 : decode cX4_slots 12 = .ok (.invokevirtual 66, 3) := by decide +kernel
theorem dX4_slots_15 : decode cX4_slots 15 = .ok (.ifCond .eq 9, 3) := by decide +kernel
theorem dX4_slots_18 : decode cX4_slots 18 = .ok (.iconst 1, 1) := by decide +kernel
theorem dX4_slots_19 : decode cX4_slots 19 = .ok (.iload_n 2, 1) := by decide +kernel
theorem dX4_slots_20 : decode cX4_slots 20 = .ok (.ishl, 1) := by decide +kernel
theorem dX4_slots_21 : decode cX4_slots 21 = .ok (.goto 4, 3) := by decide +kernel
theorem dX4_slots_24 : decode cX4_slots 24 = .ok (.iconst 0, 1) := by decide +kernel
theorem dX4_slots_25 : decode cX4_slots 25 = .ok (.iadd, 1) := by decide +kernel
theorem dX4_slots_26 : decode cX4_slots 26 = .ok (.istore_n 1, 1) := by decide +kernel
theorem dX4_slots_27 : decode cX4_slots 27 = .ok (.iinc 2 1, 3) := by decide +kernel
theorem dX4_slots_30 : decode cX4_slots 30 = .ok (.goto (-26), 3) := by decide +kernel
theorem dX4_slots_33 : decode cX4_slots 33 = .ok (.iload_n 1, 1) := by decide +kernel
theorem dX4_slots_34 : decode cX4_slots 34 = .ok (.ireturn, 1) := by decide +kernel
theorem dX4_peek_0 : decode cX4_peek 0 = .ok (.iload_n 1, 1) := by decide +kernel
theorem dX4_peek_1 : decode cX4_peek 1 = .ok (.ifCond .lt 9, 3) := by decide +kernel
theorem dX4_peek_4 : decode cX4_peek 4 = .ok (.iload_n 1, 1) := by decide +kernel
theorem dX4_peek_5 : decode cX4_peek 5 = .ok (.bipush 79, 2) := by decide +kernel
theorem dX4_peek_7 : decode cX4_peek 7 = .ok (.if_icmp .le 7, 3) := by decide +kernel
theorem dX4_peek_10 : decode cX4_peek 10 = .ok (.iconst 0, 1) := by decide +kernel
theorem dX4_peek_11 : decode cX4_peek 11 = .ok (.goto 9, 3) := by decide +kernel
theorem dX4_peek_14 : decode cX4_peek 14 = .ok (.aload_n 0, 1) := by decide +kernel
theorem dX4_peek_15 : decode cX4_peek 15 = .ok (.getfield 7, 3) := by decide +kernel
theorem dX4_peek_18 : decode cX4_peek 18 = .ok (.iload_n 1, 1) := by decide +kernel
theorem dX4_peek_19 : decode cX4_peek 19 = .ok (.iaload, 1) := by decide +kernel
theorem dX4_peek_20 : decode cX4_peek 20 = .ok (.ireturn, 1) := by decide +kernel
theorem dX4_writes_0 : decode cX4_writes 0 = .ok (.aload_n 0, 1) := by decide +kernel
theorem dX4_writes_1 : decode cX4_writes 1 = .ok (.getfield 92, 3) := by decide +kernel
theorem dX4_writes_4 : decode cX4_writes 4 = .ok (.ireturn, 1) := by decide +kernel
