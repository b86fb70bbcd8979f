theorem dX0_mix_0 : decode cX0_mix 0 = .ok (.iload_n 0, 1) := by decide +kernel
theorem dX0_mix_1 : decode cX0_mix 1 = .ok (.ldc 7, 2) := by decide +kernel
theorem dX0_mix_3 : decode cX0_mix 3 = .ok (.ixor, 1) := by decide +kernel
theorem dX0_mix_4 : decode cX0_mix 4 = .ok (.ldc 8, 2) := by decide +kernel
theorem dX0_mix_6 : decode cX0_mix 6 = .ok (.imul, 1) := by decide +kernel
theorem dX0_mix_7 : decode cX0_mix 7 = .ok (.iload_n 1, 1) := by decide +kernel
theorem dX0_mix_8 : decode cX0_mix 8 = .ok (.iadd, 1) := by decide +kernel
theorem dX0_mix_9 : decode cX0_mix 9 = .ok (.istore_n 2, 1) := by decide +kernel
theorem dX0_mix_10 : decode cX0_mix 10 = .ok (.iload_n 2, 1) := by decide +kernel
theorem dX0_mix_11 : decode cX0_mix 11 = .ok (.iload_n 2, 1) := by decide +kernel
theorem dX0_mix_12 : decode cX0_mix 12 = .ok (.bipush 15, 2) := by decide +kernel
theorem dX0_mix_14 : decode cX0_mix 14 = .ok (.iushr, 1) := by decide +kernel
theorem dX0_mix_15 : decode cX0_mix 15 = .ok (.ixor, 1) := by decide +kernel
theorem dX0_mix_16 : decode cX0_mix 16 = .ok (.istore_n 2, 1) := by decide +kernel
theorem dX0_mix_17 : decode cX0_mix 17 = .ok (.iload_n 2, 1) := by decide +kernel
theorem dX0_mix_18 : decode cX0_mix 18 = .ok (.ldc 9, 2) := by decide +kernel
theorem dX0_mix_20 : decode cX0_mix 20 = .ok (.imul, 1) := by decide +kernel
theorem dX0_mix_21 : decode cX0_mix 21 = .ok (.istore_n 2, 1) := by decide +kernel
theorem dX0_mix_22 : decode cX0_mix 22 = .ok (.iload_n 2, 1) := by decide +kernel
theorem dX0_mix_23 : decode cX0_mix 23 = .ok (.iload_n 2, 1) := by decide +kernel
theorem dX0_mix_24 : decode cX0_mix 24 = .ok (.bipush 13, 2) := by decide +kernel
theorem dX0_mix_26 : decode cX0_mix 26 = .ok (.iushr, 1) := by decide +kernel
theorem dX0_mix_27 : decode cX0_mix 27 = .ok (.ixor, 1) := by decide +kernel
theorem dX0_mix_28 : decode cX0_mix 28 = .ok (.ireturn, 1) := by decide +kernel
theorem dX0_encipher_0 : decode cX0_encipher 0 = .ok (.iload_n 1, 1) := by decide +kernel
theorem dX0_encipher_1 : decode cX0_encipher 1 = .ok (.bipush 16, 2) := by decide +kernel
theorem dX0_encipher_3 : decode cX0_encipher 3 = .ok (.iushr, 1) := by decide +kernel
theorem dX0_encipher_4 : decode cX0_encipher 4 = .ok (.istore_n 2, 1) := by decide +kernel
theorem dX0_encipher_5 : decode cX0_encipher 5 = .ok (.iload_n 1, 1) := by decide +kernel
theorem dX0_encipher_6 : decode cX0_encipher 6 = .ok (.ldc 12, 2) := by decide +kernel
theorem dX0_encipher_8 : decode cX0_encipher 8 = .ok (.iand, 1) := by decide +kernel
theorem dX0_encipher_9 : decode cX0_encipher 9 = .ok (.istore_n 3, 1) := by decide +kernel
theorem dX0_encipher_10 : decode cX0_encipher 10 = .ok (.iconst 0, 1) := by decide +kernel
theorem dX0_encipher_11 : decode cX0_encipher 11 = .ok (.istore 4, 2) := by decide +kernel
theorem dX0_encipher_13 : decode cX0_encipher 13 = .ok (.iload 4, 2) := by decide +kernel
theorem dX0_encipher_15 : decode cX0_encipher 15 = .ok (.iconst 4, 1) := by decide +kernel
theorem dX0_encipher_16 : decode cX0_encipher 16 = .ok (.if_icmp .ge 25, 3) := by decide +kernel
theorem dX0_encipher_19 : decode cX0_encipher 19 = .ok (.iload_n 2, 1) := by decide +kernel
theorem dX0_encipher_20 : decode cX0_encipher 20 = .ok (.istore 5, 2) := by decide +kernel
theorem dX0_encipher_22 : decode cX0_encipher 22 = .ok (.iload_n 3, 1) := by decide +kernel
theorem dX0_encipher_23 : decode cX0_encipher 23 = .ok (.istore_n 2, 1) := by decide +kernel
theorem dX0_encipher_24 : decode cX0_encipher 24 = .ok (.iload 5, 2) := by decide +kernel
theorem dX0_encipher_26 : decode cX0_encipher 26 = .ok (.iload_n 0, 1) := by decide +kernel
theorem dX0_encipher_27 : decode cX0_encipher 27 = .ok (.iload 4, 2) := by decide +kernel
theorem dX0_encipher_29 : decode cX0_encipher 29 = .ok (.iload_n 3, 1) := by decide +kernel
theorem dX0_encipher_30 : decode cX0_encipher 30 = .ok (.invokestatic 13, 3) := by decide +kernel
theorem dX0_encipher_33 : decode cX0_encipher 33 = .ok (.ixor, 1) := by decide +kernel
theorem dX0_encipher_34 : decode cX0_encipher 34 = .ok (.istore_n 3, 1) := by decide +kernel
theorem dX0_encipher_35 : decode cX0_encipher 35 = .ok (.iinc 4 1, 3) := by decide +kernel
theorem dX0_encipher_38 : decode cX0_encipher 38 = .ok (.goto (-25), 3) := by decide +kernel
theorem dX0_encipher_41 : decode cX0_encipher 41 = .ok (.iload_n 2, 1) := by decide +kernel
theorem dX0_encipher_42 : decode cX0_encipher 42 = .ok (.bipush 16, 2) := by decide +kernel
theorem dX0_encipher_44 : decode cX0_encipher 44 = .ok (.ishl, 1) := by decide +kernel
theorem dX0_encipher_45 : decode cX0_encipher 45 = .ok (.iload_n 3, 1) := by decide +kernel
theorem dX0_encipher_46 : decode cX0_encipher 46 = .ok (.ior, 1) := by decide +kernel
theorem dX0_encipher_47 : decode cX0_encipher 47 = .ok (.ireturn, 1) := by decide +kernel
theorem dX0_decipher_0 : decode cX0_decipher 0 = .ok (.iload_n 1, 1) := by decide +kernel
theorem dX0_decipher_1 : decode cX0_decipher 1 = .ok (.bipush 16, 2) := by decide +kernel
theorem dX0_decipher_3 : decode cX0_decipher 3 = .ok (.iushr, 1) := by decide +kernel
theorem dX0_decipher_4 : decode cX0_decipher 4 = .ok (.istore_n 2, 1) := by decide +kernel
theorem dX0_decipher_5 : decode cX0_decipher 5 = .ok (.iload_n 1, 1) := by decide +kernel
theorem dX0_decipher_6 : decode cX0_decipher 6 = .ok (.ldc 12, 2) := by decide +kernel
theorem dX0_decipher_8 : decode cX0_decipher 8 = .ok (.iand, 1) := by decide +kernel
theorem dX0_decipher_9 : decode cX0_decipher 9 = .ok (.istore_n 3, 1) := by decide +kernel
theorem dX0_decipher_10 : decode cX0_decipher 10 = .ok (.iconst 3, 1) := by decide +kernel
theorem dX0_decipher_11 : decode cX0_decipher 11 = .ok (.istore 4, 2) := by decide +kernel
theorem dX0_decipher_13 : decode cX0_decipher 13 = .ok (.iload 4, 2) := by decide +kernel
theorem dX0_decipher_15 : decode cX0_decipher 15 = .ok (.ifCond .lt 25, 3) := by decide +kernel
theorem dX0_decipher_18 : decode cX0_decipher 18 = .ok (.iload_n 3, 1) := by decide +kernel
theorem dX0_decipher_19 : decode cX0_decipher 19 = .ok (.istore 5, 2) := by decide +kernel
theorem dX0_decipher_21 : decode cX0_decipher 21 = .ok (.iload_n 2, 1) := by decide +kernel
theorem dX0_decipher_22 : decode cX0_decipher 22 = .ok (.istore_n 3, 1) := by decide +kernel
theorem dX0_decipher_23 : decode cX0_decipher 23 = .ok (.iload 5, 2) := by decide +kernel
theorem dX0_decipher_25 : decode cX0_decipher 25 = .ok (.iload_n 0, 1) := by decide +kernel
theorem dX0_decipher_26 : decode cX0_decipher 26 = .ok (.iload 4, 2) := by decide +kernel
theorem dX0_decipher_28 : decode cX0_decipher 28 = .ok (.iload_n 2, 1) := by decide +kernel
theorem dX0_decipher_29 : decode cX0_decipher 29 = .ok (.invokestatic 13, 3) := by decide +kernel
theorem dX0_decipher_32 : decode cX0_decipher 32 = .ok (.ixor, 1) := by decide +kernel
theorem dX0_decipher_33 : decode cX0_decipher 33 = .ok (.istore_n 2, 1) := by decide +kernel
theorem dX0_decipher_34 : decode cX0_decipher 34 = .ok (.iinc 4 (-1), 3) := by decide +kernel
theorem dX0_decipher_37 : decode cX0_decipher 37 = .ok (.goto (-24), 3) := by decide +kernel
theorem dX0_decipher_40 : decode cX0_decipher 40 = .ok (.iload_n 2, 1) := by decide +kernel
theorem dX0_decipher_41 : decode cX0_decipher 41 = .ok (.bipush 16, 2) := by decide +kernel
theorem dX0_decipher_43 : decode cX0_decipher 43 = .ok (.ishl, 1) := by decide +kernel
theorem dX0_decipher_44 : decode cX0_decipher 44 = .ok (.iload_n 3, 1) := by decide +kernel
theorem dX0_decipher_45 : decode cX0_decipher 45 = .ok (.ior, 1) := by decide +kernel
theorem dX0_decipher_46 : decode cX0_decipher 46 = .ok (.ireturn, 1) := by decide +kernel
theorem dX0_roundMask_0 : decode cX0_roundMask 0 = .ok (.iload_n 0, 1) := by decide +kernel
theorem dX0_roundMask_1 : decode cX0_roundMask 1 = .ok (.iload_n 1, 1) := by decide +kernel
theorem dX0_roundMask_2 : decode cX0_roundMask 2 = .ok (.invokestatic 17, 3) := by decide +kernel
theorem dX0_roundMask_5 : decode cX0_roundMask 5 = .ok (.iload_n 2, 1) := by decide +kernel
theorem dX0_roundMask_6 : decode cX0_roundMask 6 = .ok (.invokestatic 17, 3) := by decide +kernel
theorem dX0_roundMask_9 : decode cX0_roundMask 9 = .ok (.ldc 12, 2) := by decide +kernel
theorem dX0_roundMask_11 : decode cX0_roundMask 11 = .ok (.iand, 1) := by decide +kernel
theorem dX0_roundMask_12 : decode cX0_roundMask 12 = .ok (.ireturn, 1) := by decide +kernel
theorem dX0_slotKey_0 : decode cX0_slotKey 0 = .ok (.iload_n 0, 1) := by decide +kernel
theorem dX0_slotKey_1 : decode cX0_slotKey 1 = .ok (.iload_n 1, 1) := by decide +kernel
theorem dX0_slotKey_2 : decode cX0_slotKey 2 = .ok (.invokestatic 17, 3) := by decide +kernel
theorem dX0_slotKey_5 : decode cX0_slotKey 5 = .ok (.iload_n 2, 1) := by decide +kernel
theorem dX0_slotKey_6 : decode cX0_slotKey 6 = .ok (.invokestatic 17, 3) := by decide +kernel
theorem dX0_slotKey_9 : decode cX0_slotKey 9 = .ok (.istore_n 3, 1) := by decide +kernel
theorem dX0_slotKey_10 : decode cX0_slotKey 10 = .ok (.iload_n 3, 1) := by decide +kernel
theorem dX0_slotKey_11 : decode cX0_slotKey 11 = .ok (.istore 4, 2) := by decide +kernel
theorem dX0_slotKey_13 : decode cX0_slotKey 13 = .ok (.iconst 0, 1) := by decide +kernel
theorem dX0_slotKey_14 : decode cX0_slotKey 14 = .ok (.istore 5, 2) := by decide +kernel
theorem dX0_slotKey_16 : decode cX0_slotKey 16 = .ok (.iload 5, 2) := by decide +kernel
theorem dX0_slotKey_18 : decode cX0_slotKey 18 = .ok (.bipush 7, 2) := by decide +kernel
theorem dX0_slotKey_20 : decode cX0_slotKey 20 = .ok (.if_icmp .ge 21, 3) := by decide +kernel
theorem dX0_slotKey_23 : decode cX0_slotKey 23 = .ok (.iload_n 0, 1) := by decide +kernel
theorem dX0_slotKey_24 : decode cX0_slotKey 24 = .ok (.iload_n 3, 1) := by decide +kernel
theorem dX0_slotKey_25 : decode cX0_slotKey 25 = .ok (.invokestatic 17, 3) := by decide +kernel
theorem dX0_slotKey_28 : decode cX0_slotKey 28 = .ok (.istore_n 3, 1) := by decide +kernel
theorem dX0_slotKey_29 : decode cX0_slotKey 29 = .ok (.iload 4, 2) := by decide +kernel
theorem dX0_slotKey_31 : decode cX0_slotKey 31 = .ok (.iload_n 3, 1) := by decide +kernel
theorem dX0_slotKey_32 : decode cX0_slotKey 32 = .ok (.ixor, 1) := by decide +kernel
theorem dX0_slotKey_33 : decode cX0_slotKey 33 = .ok (.istore 4, 2) := by decide +kernel
theorem dX0_slotKey_35 : decode cX0_slotKey 35 = .ok (.iinc 5 1, 3) := by decide +kernel
theorem dX0_slotKey_38 : decode cX0_slotKey 38 = .ok (.goto (-22), 3) := by decide +kernel
theorem dX0_slotKey_41 : decode cX0_slotKey 41 = .ok (.iload 4, 2) := by decide +kernel
theorem dX0_slotKey_43 : decode cX0_slotKey 43 = .ok (.ireturn, 1) := by decide +kernel
theorem dX0_digest_0 : decode cX0_digest 0 = .ok (.iload_n 0, 1) := by decide +kernel
theorem dX0_digest_1 : decode cX0_digest 1 = .ok (.iload_n 2, 1) := by decide +kernel
theorem dX0_digest_2 : decode cX0_digest 2 = .ok (.invokestatic 17, 3) := by decide +kernel
theorem dX0_digest_5 : decode cX0_digest 5 = .ok (.iload_n 1, 1) := by decide +kernel
theorem dX0_digest_6 : decode cX0_digest 6 = .ok (.invokestatic 17, 3) := by decide +kernel
theorem dX0_digest_9 : decode cX0_digest 9 = .ok (.ireturn, 1) := by decide +kernel
theorem dX0_encipherSectorWord_0 : decode cX0_encipherSectorWord 0 = .ok (.iload_n 1, 1) := by decide +kernel
theorem dX0_encipherSectorWord_1 : decode cX0_encipherSectorWord 1 = .ok (.iload_n 2, 1) := by decide +kernel
theorem dX0_encipherSectorWord_2 : decode cX0_encipherSectorWord 2 = .ok (.iload_n 3, 1) := by decide +kernel
theorem dX0_encipherSectorWord_3 : decode cX0_encipherSectorWord 3 = .ok (.invokestatic 21, 3) := by decide +kernel
theorem dX0_encipherSectorWord_6 : decode cX0_encipherSectorWord 6 = .ok (.istore 5, 2) := by decide +kernel
theorem dX0_encipherSectorWord_8 : decode cX0_encipherSectorWord 8 = .ok (.iload_n 0, 1) := by decide +kernel
theorem dX0_encipherSectorWord_9 : decode cX0_encipherSectorWord 9 = .ok (.iload 4, 2) := by decide +kernel
theorem dX0_encipherSectorWord_11 : decode cX0_encipherSectorWord 11 = .ok (.iload 5, 2) := by decide +kernel
theorem dX0_encipherSectorWord_13 : decode cX0_encipherSectorWord 13 = .ok (.ixor, 1) := by decide +kernel
theorem dX0_encipherSectorWord_14 : decode cX0_encipherSectorWord 14 = .ok (.invokestatic 24, 3) := by decide +kernel
theorem dX0_encipherSectorWord_17 : decode cX0_encipherSectorWord 17 = .ok (.iload 5, 2) := by decide +kernel
theorem dX0_encipherSectorWord_19 : decode cX0_encipherSectorWord 19 = .ok (.ixor, 1) := by decide +kernel
theorem dX0_encipherSectorWord_20 : decode cX0_encipherSectorWord 20 = .ok (.ireturn, 1) := by decide +kernel
theorem dX0_decipherSectorWord_0 : decode cX0_decipherSectorWord 0 = .ok (.iload_n 1, 1) := by decide +kernel
theorem dX0_decipherSectorWord_1 : decode cX0_decipherSectorWord 1 = .ok (.iload_n 2, 1) := by decide +kernel
theorem dX0_decipherSectorWord_2 : decode cX0_decipherSectorWord 2 = .ok (.iload_n 3, 1) := by decide +kernel
theorem dX0_decipherSectorWord_3 : decode cX0_decipherSectorWord 3 = .ok (.invokestatic 21, 3) := by decide +kernel
theorem dX0_decipherSectorWord_6 : decode cX0_decipherSectorWord 6 = .ok (.istore 5, 2) := by decide +kernel
theorem dX0_decipherSectorWord_8 : decode cX0_decipherSectorWord 8 = .ok (.iload_n 0, 1) := by decide +kernel
theorem dX0_decipherSectorWord_9 : decode cX0_decipherSectorWord 9 = .ok (.iload 4, 2) := by decide +kernel
theorem dX0_decipherSectorWord_11 : decode cX0_decipherSectorWord 11 = .ok (.iload 5, 2) := by decide +kernel
theorem dX0_decipherSectorWord_13 : decode cX0_decipherSectorWord 13 = .ok (.ixor, 1) := by decide +kernel
theorem dX0_decipherSectorWord_14 : decode cX0_decipherSectorWord 14 = .ok (.invokestatic 27, 3) := by decide +kernel
theorem dX0_decipherSectorWord_17 : decode cX0_decipherSectorWord 17 = .ok (.iload 5, 2) := by decide +kernel
theorem dX0_decipherSectorWord_19 : decode cX0_decipherSectorWord 19 = .ok (.ixor, 1) := by decide +kernel
theorem dX0_decipherSectorWord_20 : decode cX0_decipherSectorWord 20 = .ok (.ireturn, 1) := by decide +kernel
theorem dX0_tweak_0 : decode cX0_tweak 0 = .ok (.iload_n 0, 1) := by decide +kernel
theorem dX0_tweak_1 : decode cX0_tweak 1 = .ok (.iload_n 1, 1) := by decide +kernel
theorem dX0_tweak_2 : decode cX0_tweak 2 = .ok (.invokestatic 24, 3) := by decide +kernel
theorem dX0_tweak_5 : decode cX0_tweak 5 = .ok (.istore_n 3, 1) := by decide +kernel
theorem dX0_tweak_6 : decode cX0_tweak 6 = .ok (.iconst 0, 1) := by decide +kernel
theorem dX0_tweak_7 : decode cX0_tweak 7 = .ok (.istore 4, 2) := by decide +kernel
theorem dX0_tweak_9 : decode cX0_tweak 9 = .ok (.iload 4, 2) := by decide +kernel
theorem dX0_tweak_11 : decode cX0_tweak 11 = .ok (.iload_n 2, 1) := by decide +kernel
theorem dX0_tweak_12 : decode cX0_tweak 12 = .ok (.if_icmp .ge 25, 3) := by decide +kernel
theorem dX0_tweak_15 : decode cX0_tweak 15 = .ok (.iload_n 3, 1) := by decide +kernel
theorem dX0_tweak_16 : decode cX0_tweak 16 = .ok (.iconst 1, 1) := by decide +kernel
theorem dX0_tweak_17 : decode cX0_tweak 17 = .ok (.ishl, 1) := by decide +kernel
theorem dX0_tweak_18 : decode cX0_tweak 18 = .ok (.iload_n 3, 1) := by decide +kernel
theorem dX0_tweak_19 : decode cX0_tweak 19 = .ok (.ifCond .ge 9, 3) := by decide +kernel
theorem dX0_tweak_22 : decode cX0_tweak 22 = .ok (.sipush 141, 3) := by decide +kernel
theorem dX0_tweak_25 : decode cX0_tweak 25 = .ok (.goto 4, 3) := by decide +kernel
theorem dX0_tweak_28 : decode cX0_tweak 28 = .ok (.iconst 0, 1) := by decide +kernel
theorem dX0_tweak_29 : decode cX0_tweak 29 = .ok (.ixor, 1) := by decide +kernel
theorem dX0_tweak_30 : decode cX0_tweak 30 = .ok (.istore_n 3, 1) := by decide +kernel
theorem dX0_tweak_31 : decode cX0_tweak 31 = .ok (.iinc 4 1, 3) := by decide +kernel
theorem dX0_tweak_34 : decode cX0_tweak 34 = .ok (.goto (-25), 3) := by decide +kernel
theorem dX0_tweak_37 : decode cX0_tweak 37 = .ok (.iload_n 3, 1) := by decide +kernel
theorem dX0_tweak_38 : decode cX0_tweak 38 = .ok (.ireturn, 1) := by decide +kernel
theorem dX1_init_0 : decode cX1_init 0 = .ok (.aload_n 0, 1) := by decide +kernel
theorem dX1_init_1 : decode cX1_init 1 = .ok (.invokespecial 1, 3) := by decide +kernel
theorem dX1_init_4 : decode cX1_init 4 = .ok (.aload_n 0, 1) := by decide +kernel
theorem dX1_init_5 : decode cX1_init 5 = .ok (.bipush 80, 2) := by decide +kernel
theorem dX1_init_7 : decode cX1_init 7 = .ok (.newarray .int, 2) := by decide +kernel
theorem dX1_init_9 : decode cX1_init 9 = .ok (.putfield 9, 3) := by decide +kernel
theorem dX1_init_12 : decode cX1_init 12 = .ok (.aload_n 0, 1) := by decide +kernel
theorem dX1_init_13 : decode cX1_init 13 = .ok (.iconst (-1), 1) := by decide +kernel
theorem dX1_init_14 : decode cX1_init 14 = .ok (.putfield 13, 3) := by decide +kernel
theorem dX1_init_17 : decode cX1_init 17 = .ok (.return_, 1) := by decide +kernel
theorem dX1_wordAt_0 : decode cX1_wordAt 0 = .ok (.iload_n 1, 1) := by decide +kernel
theorem dX1_wordAt_1 : decode cX1_wordAt 1 = .ok (.ifCond .lt 18, 3) := by decide +kernel
theorem dX1_wordAt_4 : decode cX1_wordAt 4 = .ok (.iload_n 1, 1) := by decide +kernel
theorem dX1_wordAt_5 : decode cX1_wordAt 5 = .ok (.bipush 80, 2) := by decide +kernel
theorem dX1_wordAt_7 : decode cX1_wordAt 7 = .ok (.if_icmp .ge 12, 3) := by decide +kernel
theorem dX1_wordAt_10 : decode cX1_wordAt 10 = .ok (.aload_n 0, 1) := by decide +kernel
theorem dX1_wordAt_11 : decode cX1_wordAt 11 = .ok (.getfield 9, 3) := by decide +kernel
theorem dX1_wordAt_14 : decode cX1_wordAt 14 = .ok (.iload_n 1, 1) := by decide +kernel
theorem dX1_wordAt_15 : decode cX1_wordAt 15 = .ok (.iaload, 1) := by decide +kernel
theorem dX1_wordAt_16 : decode cX1_wordAt 16 = .ok (.goto 4, 3) := by decide +kernel
theorem dX1_wordAt_19 : decode cX1_wordAt 19 = .ok (.iconst 0, 1) := by decide +kernel
theorem dX1_wordAt_20 : decode cX1_wordAt 20 = .ok (.ireturn, 1) := by decide +kernel
theorem dX1_put_0 : decode cX1_put 0 = .ok (.aload_n 0, 1) := by decide +kernel
theorem dX1_put_1 : decode cX1_put 1 = .ok (.getfield 13, 3) := by decide +kernel
theorem dX1_put_4 : decode cX1_put 4 = .ok (.ifCond .ne 10, 3) := by decide +kernel
theorem dX1_put_7 : decode cX1_put 7 = .ok (.aload_n 0, 1) := by decide +kernel
theorem dX1_put_8 : decode cX1_put 8 = .ok (.iconst (-1), 1) := by decide +kernel
theorem dX1_put_9 : decode cX1_put 9 = .ok (.putfield 13, 3) := by decide +kernel
theorem dX1_put_12 : decode cX1_put 12 = .ok (.iconst 0, 1) := by decide +kernel
theorem dX1_put_13 : decode cX1_put 13 = .ok (.ireturn, 1) := by decide +kernel
theorem dX1_put_14 : decode cX1_put 14 = .ok (.aload_n 0, 1) := by decide +kernel
theorem dX1_put_15 : decode cX1_put 15 = .ok (.getfield 13, 3) := by decide +kernel
theorem dX1_put_18 : decode cX1_put 18 = .ok (.ifCond .le 13, 3) := by decide +kernel
theorem dX1_put_21 : decode cX1_put 21 = .ok (.aload_n 0, 1) := by decide +kernel
theorem dX1_put_22 : decode cX1_put 22 = .ok (.dup, 1) := by decide +kernel
theorem dX1_put_23 : decode cX1_put 23 = .ok (.getfield 13, 3) := by decide +kernel
theorem dX1_put_26 : decode cX1_put 26 = .ok (.iconst 1, 1) := by decide +kernel
theorem dX1_put_27 : decode cX1_put 27 = .ok (.isub, 1) := by decide +kernel
theorem dX1_put_28 : decode cX1_put 28 = .ok (.putfield 13, 3) := by decide +kernel
theorem dX1_put_31 : decode cX1_put 31 = .ok (.aload_n 0, 1) := by decide +kernel
theorem dX1_put_32 : decode cX1_put 32 = .ok (.dup, 1) := by decide +kernel
theorem dX1_put_33 : decode cX1_put 33 = .ok (.getfield 17, 3) := by decide +kernel
theorem dX1_put_36 : decode cX1_put 36 = .ok (.iconst 1, 1) := by decide +kernel
theorem dX1_put_37 : decode cX1_put 37 = .ok (.iadd, 1) := by decide +kernel
theorem dX1_put_38 : decode cX1_put 38 = .ok (.putfield 17, 3) := by decide +kernel
theorem dX1_put_41 : decode cX1_put 41 = .ok (.iload_n 1, 1) := by decide +kernel
theorem dX1_put_42 : decode cX1_put 42 = .ok (.ifCond .lt 16, 3) := by decide +kernel
theorem dX1_put_45 : decode cX1_put 45 = .ok (.iload_n 1, 1) := by decide +kernel
theorem dX1_put_46 : decode cX1_put 46 = .ok (.bipush 80, 2) := by decide +kernel
theorem dX1_put_48 : decode cX1_put 48 = .ok (.if_icmp .ge 10, 3) := by decide +kernel
theorem dX1_put_51 : decode cX1_put 51 = .ok (.aload_n 0, 1) := by decide +kernel
theorem dX1_put_52 : decode cX1_put 52 = .ok (.getfield 9, 3) := by decide +kernel
theorem dX1_put_55 : decode cX1_put 55 = .ok (.iload_n 1, 1) := by decide +kernel
theorem dX1_put_56 : decode cX1_put 56 = .ok (.iload_n 2, 1) := by decide +kernel
theorem dX1_put_57 : decode cX1_put 57 = .ok (.iastore, 1) := by decide +kernel
theorem dX1_put_58 : decode cX1_put 58 = .ok (.iconst 1, 1) := by decide +kernel
theorem dX1_put_59 : decode cX1_put 59 = .ok (.ireturn, 1) := by decide +kernel
theorem dX1_replaceByJournal_0 : decode cX1_replaceByJournal 0 = .ok (.iconst 0, 1) := by decide +kernel
theorem dX1_replaceByJournal_1 : decode cX1_replaceByJournal 1 = .ok (.istore 4, 2) := by decide +kernel
theorem dX1_replaceByJournal_3 : decode cX1_replaceByJournal 3 = .ok (.iload 4, 2) := by decide +kernel
theorem dX1_replaceByJournal_5 : decode cX1_replaceByJournal 5 = .ok (.iload_n 2, 1) := by decide +kernel
theorem dX1_replaceByJournal_6 : decode cX1_replaceByJournal 6 = .ok (.if_icmp .ge 34, 3) := by decide +kernel
theorem dX1_replaceByJournal_9 : decode cX1_replaceByJournal 9 = .ok (.iload 4, 2) := by decide +kernel
theorem dX1_replaceByJournal_11 : decode cX1_replaceByJournal 11 = .ok (.aload_n 3, 1) := by decide +kernel
theorem dX1_replaceByJournal_12 : decode cX1_replaceByJournal 12 = .ok (.arraylength, 1) := by decide +kernel
theorem dX1_replaceByJournal_13 : decode cX1_replaceByJournal 13 = .ok (.if_icmp .ge 27, 3) := by decide +kernel
theorem dX1_replaceByJournal_16 : decode cX1_replaceByJournal 16 = .ok (.aload_n 0, 1) := by decide +kernel
theorem dX1_replaceByJournal_17 : decode cX1_replaceByJournal 17 = .ok (.bipush 38, 2) := by decide +kernel
theorem dX1_replaceByJournal_19 : decode cX1_replaceByJournal 19 = .ok (.iload 4, 2) := by decide +kernel
theorem dX1_replaceByJournal_21 : decode cX1_replaceByJournal 21 = .ok (.iadd, 1) := by decide +kernel
theorem dX1_replaceByJournal_22 : decode cX1_replaceByJournal 22 = .ok (.aload_n 3, 1) := by decide +kernel
theorem dX1_replaceByJournal_23 : decode cX1_replaceByJournal 23 = .ok (.iload 4, 2) := by decide +kernel
theorem dX1_replaceByJournal_25 : decode cX1_replaceByJournal 25 = .ok (.iaload, 1) := by decide +kernel
theorem dX1_replaceByJournal_26 : decode cX1_replaceByJournal 26 = .ok (.invokevirtual 20, 3) := by decide +kernel
theorem dX1_replaceByJournal_29 : decode cX1_replaceByJournal 29 = .ok (.ifCond .ne 5, 3) := by decide +kernel
theorem dX1_replaceByJournal_32 : decode cX1_replaceByJournal 32 = .ok (.iconst 0, 1) := by decide +kernel
theorem dX1_replaceByJournal_33 : decode cX1_replaceByJournal 33 = .ok (.ireturn, 1) := by decide +kernel
theorem dX1_replaceByJournal_34 : decode cX1_replaceByJournal 34 = .ok (.iinc 4 1, 3) := by decide +kernel
theorem dX1_replaceByJournal_37 : decode cX1_replaceByJournal 37 = .ok (.goto (-34), 3) := by decide +kernel
theorem dX1_replaceByJournal_40 : decode cX1_replaceByJournal 40 = .ok (.aload_n 0, 1) := by decide +kernel
theorem dX1_replaceByJournal_41 : decode cX1_replaceByJournal 41 = .ok (.bipush 37, 2) := by decide +kernel
theorem dX1_replaceByJournal_43 : decode cX1_replaceByJournal 43 = .ok (.iload_n 1, 1) := by decide +kernel
theorem dX1_replaceByJournal_44 : decode cX1_replaceByJournal 44 = .ok (.sipush 256, 3) := by decide +kernel
theorem dX1_replaceByJournal_47 : decode cX1_replaceByJournal 47 = .ok (.iload_n 2, 1) := by decide +kernel
theorem dX1_replaceByJournal_48 : decode cX1_replaceByJournal 48 = .ok (.imul, 1) := by decide +kernel
theorem dX1_replaceByJournal_49 : decode cX1_replaceByJournal 49 = .ok (.iadd, 1) := by decide +kernel
theorem dX1_replaceByJournal_50 : decode cX1_replaceByJournal 50 = .ok (.invokevirtual 20, 3) := by decide +kernel
theorem dX1_replaceByJournal_53 : decode cX1_replaceByJournal 53 = .ok (.ifCond .eq 24, 3) := by decide +kernel
theorem dX1_replaceByJournal_56 : decode cX1_replaceByJournal 56 = .ok (.aload_n 0, 1) := by decide +kernel
theorem dX1_replaceByJournal_57 : decode cX1_replaceByJournal 57 = .ok (.bipush 36, 2) := by decide +kernel
theorem dX1_replaceByJournal_59 : decode cX1_replaceByJournal 59 = .ok (.iconst 1, 1) := by decide +kernel
theorem dX1_replaceByJournal_60 : decode cX1_replaceByJournal 60 = .ok (.invokevirtual 20, 3) := by decide +kernel
theorem dX1_replaceByJournal_63 : decode cX1_replaceByJournal 63 = .ok (.ifCond .eq 14, 3) := by decide +kernel
theorem dX1_replaceByJournal_66 : decode cX1_replaceByJournal 66 = .ok (.aload_n 0, 1) := by decide +kernel
theorem dX1_replaceByJournal_67 : decode cX1_replaceByJournal 67 = .ok (.invokevirtual 24, 3) := by decide +kernel
theorem dX1_replaceByJournal_70 : decode cX1_replaceByJournal 70 = .ok (.ifCond .eq 7, 3) := by decide +kernel
theorem dX1_replaceByJournal_73 : decode cX1_replaceByJournal 73 = .ok (.iconst 1, 1) := by decide +kernel
theorem dX1_replaceByJournal_74 : decode cX1_replaceByJournal 74 = .ok (.goto 4, 3) := by decide +kernel
theorem dX1_replaceByJournal_77 : decode cX1_replaceByJournal 77 = .ok (.iconst 0, 1) := by decide +kernel
theorem dX1_replaceByJournal_78 : decode cX1_replaceByJournal 78 = .ok (.ireturn, 1) := by decide +kernel
theorem dX1_settleJournal_0 : decode cX1_settleJournal 0 = .ok (.aload_n 0, 1) := by decide +kernel
theorem dX1_settleJournal_1 : decode cX1_settleJournal 1 = .ok (.bipush 36, 2) := by decide +kernel
theorem dX1_settleJournal_3 : decode cX1_settleJournal 3 = .ok (.invokevirtual 28, 3) := by decide +kernel
theorem dX1_settleJournal_6 : decode cX1_settleJournal 6 = .ok (.iconst 1, 1) := by decide +kernel
theorem dX1_settleJournal_7 : decode cX1_settleJournal 7 = .ok (.if_icmp .ne 10, 3) := by decide +kernel
theorem dX1_settleJournal_10 : decode cX1_settleJournal 10 = .ok (.aload_n 0, 1) := by decide +kernel
theorem dX1_settleJournal_11 : decode cX1_settleJournal 11 = .ok (.invokevirtual 24, 3) := by decide +kernel
theorem dX1_settleJournal_14 : decode cX1_settleJournal 14 = .ok (.goto 7, 3) := by decide +kernel
theorem dX1_settleJournal_17 : decode cX1_settleJournal 17 = .ok (.aload_n 0, 1) := by decide +kernel
theorem dX1_settleJournal_18 : decode cX1_settleJournal 18 = .ok (.invokevirtual 32, 3) := by decide +kernel
theorem dX1_settleJournal_21 : decode cX1_settleJournal 21 = .ok (.ireturn, 1) := by decide +kernel
theorem dX1_finishJournal_0 : decode cX1_finishJournal 0 = .ok (.aload_n 0, 1) := by decide +kernel
theorem dX1_finishJournal_1 : decode cX1_finishJournal 1 = .ok (.bipush 37, 2) := by decide +kernel
theorem dX1_finishJournal_3 : decode cX1_finishJournal 3 = .ok (.invokevirtual 28, 3) := by decide +kernel
theorem dX1_finishJournal_6 : decode cX1_finishJournal 6 = .ok (.sipush 255, 3) := by decide +kernel
theorem dX1_finishJournal_9 : decode cX1_finishJournal 9 = .ok (.iand, 1) := by decide +kernel
theorem dX1_finishJournal_10 : decode cX1_finishJournal 10 = .ok (.istore_n 1, 1) := by decide +kernel
theorem dX1_finishJournal_11 : decode cX1_finishJournal 11 = .ok (.aload_n 0, 1) := by decide +kernel
theorem dX1_finishJournal_12 : decode cX1_finishJournal 12 = .ok (.bipush 37, 2) := by decide +kernel
theorem dX1_finishJournal_14 : decode cX1_finishJournal 14 = .ok (.invokevirtual 28, 3) := by decide +kernel
theorem dX1_finishJournal_17 : decode cX1_finishJournal 17 = .ok (.bipush 8, 2) := by decide +kernel
theorem dX1_finishJournal_19 : decode cX1_finishJournal 19 = .ok (.iushr, 1) := by decide +kernel
theorem dX1_finishJournal_20 : decode cX1_finishJournal 20 = .ok (.istore_n 2, 1) := by decide +kernel
theorem dX1_finishJournal_21 : decode cX1_finishJournal 21 = .ok (.iconst 0, 1) := by decide +kernel
theorem dX1_finishJournal_22 : decode cX1_finishJournal 22 = .ok (.istore_n 3, 1) := by decide +kernel
theorem dX1_finishJournal_23 : decode cX1_finishJournal 23 = .ok (.iload_n 3, 1) := by decide +kernel
theorem dX1_finishJournal_24 : decode cX1_finishJournal 24 = .ok (.iload_n 2, 1) := by decide +kernel
theorem dX1_finishJournal_25 : decode cX1_finishJournal 25 = .ok (.if_icmp .ge 35, 3) := by decide +kernel
theorem dX1_finishJournal_28 : decode cX1_finishJournal 28 = .ok (.iload_n 3, 1) := by decide +kernel
theorem dX1_finishJournal_29 : decode cX1_finishJournal 29 = .ok (.bipush 8, 2) := by decide +kernel
theorem dX1_finishJournal_31 : decode cX1_finishJournal 31 = .ok (.if_icmp .ge 29, 3) := by decide +kernel
theorem dX1_finishJournal_34 : decode cX1_finishJournal 34 = .ok (.aload_n 0, 1) := by decide +kernel
theorem dX1_finishJournal_35 : decode cX1_finishJournal 35 = .ok (.iload_n 1, 1) := by decide +kernel
theorem dX1_finishJournal_36 : decode cX1_finishJournal 36 = .ok (.iload_n 3, 1) := by decide +kernel
theorem dX1_finishJournal_37 : decode cX1_finishJournal 37 = .ok (.iadd, 1) := by decide +kernel
theorem dX1_finishJournal_38 : decode cX1_finishJournal 38 = .ok (.aload_n 0, 1) := by decide +kernel
theorem dX1_finishJournal_39 : decode cX1_finishJournal 39 = .ok (.bipush 38, 2) := by decide +kernel
theorem dX1_finishJournal_41 : decode cX1_finishJournal 41 = .ok (.iload_n 3, 1) := by decide +kernel
theorem dX1_finishJournal_42 : decode cX1_finishJournal 42 = .ok (.iadd, 1) := by decide +kernel
theorem dX1_finishJournal_43 : decode cX1_finishJournal 43 = .ok (.invokevirtual 28, 3) := by decide +kernel
theorem dX1_finishJournal_46 : decode cX1_finishJournal 46 = .ok (.invokevirtual 20, 3) := by decide +kernel
theorem dX1_finishJournal_49 : decode cX1_finishJournal 49 = .ok (.ifCond .ne 5, 3) := by decide +kernel
theorem dX1_finishJournal_52 : decode cX1_finishJournal 52 = .ok (.iconst 0, 1) := by decide +kernel
theorem dX1_finishJournal_53 : decode cX1_finishJournal 53 = .ok (.ireturn, 1) := by decide +kernel
theorem dX1_finishJournal_54 : decode cX1_finishJournal 54 = .ok (.iinc 3 1, 3) := by decide +kernel
theorem dX1_finishJournal_57 : decode cX1_finishJournal 57 = .ok (.goto (-34), 3) := by decide +kernel
theorem dX1_finishJournal_60 : decode cX1_finishJournal 60 = .ok (.aload_n 0, 1) := by decide +kernel
theorem dX1_finishJournal_61 : decode cX1_finishJournal 61 = .ok (.bipush 36, 2) := by decide +kernel
theorem dX1_finishJournal_63 : decode cX1_finishJournal 63 = .ok (.iconst 0, 1) := by decide +kernel
theorem dX1_finishJournal_64 : decode cX1_finishJournal 64 = .ok (.invokevirtual 20, 3) := by decide +kernel
theorem dX1_finishJournal_67 : decode cX1_finishJournal 67 = .ok (.ifCond .eq 14, 3) := by decide +kernel
theorem dX1_finishJournal_70 : decode cX1_finishJournal 70 = .ok (.aload_n 0, 1) := by decide +kernel
theorem dX1_finishJournal_71 : decode cX1_finishJournal 71 = .ok (.invokevirtual 32, 3) := by decide +kernel
theorem dX1_finishJournal_74 : decode cX1_finishJournal 74 = .ok (.ifCond .eq 7, 3) := by decide +kernel
theorem dX1_finishJournal_77 : decode cX1_finishJournal 77 = .ok (.iconst 1, 1) := by decide +kernel
theorem dX1_finishJournal_78 : decode cX1_finishJournal 78 = .ok (.goto 4, 3) := by decide +kernel
theorem dX1_finishJournal_81 : decode cX1_finishJournal 81 = .ok (.iconst 0, 1) := by decide +kernel
theorem dX1_finishJournal_82 : decode cX1_finishJournal 82 = .ok (.ireturn, 1) := by decide +kernel
theorem dX1_clearJournal_0 : decode cX1_clearJournal 0 = .ok (.bipush 37, 2) := by decide +kernel
theorem dX1_clearJournal_2 : decode cX1_clearJournal 2 = .ok (.istore_n 1, 1) := by decide +kernel
theorem dX1_clearJournal_3 : decode cX1_clearJournal 3 = .ok (.iload_n 1, 1) := by decide +kernel
theorem dX1_clearJournal_4 : decode cX1_clearJournal 4 = .ok (.bipush 45, 2) := by decide +kernel
theorem dX1_clearJournal_6 : decode cX1_clearJournal 6 = .ok (.if_icmp .gt 28, 3) := by decide +kernel
theorem dX1_clearJournal_9 : decode cX1_clearJournal 9 = .ok (.aload_n 0, 1) := by decide +kernel
theorem dX1_clearJournal_10 : decode cX1_clearJournal 10 = .ok (.iload_n 1, 1) := by decide +kernel
theorem dX1_clearJournal_11 : decode cX1_clearJournal 11 = .ok (.invokevirtual 28, 3) := by decide +kernel
theorem dX1_clearJournal_14 : decode cX1_clearJournal 14 = .ok (.ifCond .eq 14, 3) := by decide +kernel
theorem dX1_clearJournal_17 : decode cX1_clearJournal 17 = .ok (.aload_n 0, 1) := by decide +kernel
theorem dX1_clearJournal_18 : decode cX1_clearJournal 18 = .ok (.iload_n 1, 1) := by decide +kernel
theorem dX1_clearJournal_19 : decode cX1_clearJournal 19 = .ok (.iconst 0, 1) := by decide +kernel
theorem dX1_clearJournal_20 : decode cX1_clearJournal 20 = .ok (.invokevirtual 20, 3) := by decide +kernel
theorem dX1_clearJournal_23 : decode cX1_clearJournal 23 = .ok (.ifCond .ne 5, 3) := by decide +kernel
theorem dX1_clearJournal_26 : decode cX1_clearJournal 26 = .ok (.iconst 0, 1) := by decide +kernel
theorem dX1_clearJournal_27 : decode cX1_clearJournal 27 = .ok (.ireturn, 1) := by decide +kernel
theorem dX1_clearJournal_28 : decode cX1_clearJournal 28 = .ok (.iinc 1 1, 3) := by decide +kernel
theorem dX1_clearJournal_31 : decode cX1_clearJournal 31 = .ok (.goto (-28), 3) := by decide +kernel
theorem dX1_clearJournal_34 : decode cX1_clearJournal 34 = .ok (.iconst 1, 1) := by decide +kernel
theorem dX1_clearJournal_35 : decode cX1_clearJournal 35 = .ok (.ireturn, 1) := by decide +kernel
theorem dX2_workOut_0 : decode cX2_workOut 0 = .ok (.iload_n 1, 1) := by decide +kernel
theorem dX2_workOut_1 : decode cX2_workOut 1 = .ok (.ifCond .lt 12, 3) := by decide +kernel
theorem dX2_workOut_4 : decode cX2_workOut 4 = .ok (.iload_n 1, 1) := by decide +kernel
theorem dX2_workOut_5 : decode cX2_workOut 5 = .ok (.aload_n 0, 1) := by decide +kernel
theorem dX2_workOut_6 : decode cX2_workOut 6 = .ok (.arraylength, 1) := by decide +kernel
theorem dX2_workOut_7 : decode cX2_workOut 7 = .ok (.bipush 8, 2) := by decide +kernel
theorem dX2_workOut_9 : decode cX2_workOut 9 = .ok (.isub, 1) := by decide +kernel
theorem dX2_workOut_10 : decode cX2_workOut 10 = .ok (.if_icmp .le 4, 3) := by decide +kernel
theorem dX2_workOut_13 : decode cX2_workOut 13 = .ok (.return_, 1) := by decide +kernel
theorem dX2_workOut_14 : decode cX2_workOut 14 = .ok (.aload_n 0, 1) := by decide +kernel
theorem dX2_workOut_15 : decode cX2_workOut 15 = .ok (.iload_n 1, 1) := by decide +kernel
theorem dX2_workOut_16 : decode cX2_workOut 16 = .ok (.iconst 1, 1) := by decide +kernel
theorem dX2_workOut_17 : decode cX2_workOut 17 = .ok (.iastore, 1) := by decide +kernel
theorem dX2_workOut_18 : decode cX2_workOut 18 = .ok (.aload_n 0, 1) := by decide +kernel
theorem dX2_workOut_19 : decode cX2_workOut 19 = .ok (.iload_n 1, 1) := by decide +kernel
theorem dX2_workOut_20 : decode cX2_workOut 20 = .ok (.iconst 1, 1) := by decide +kernel
theorem dX2_workOut_21 : decode cX2_workOut 21 = .ok (.iadd, 1) := by decide +kernel
theorem dX2_workOut_22 : decode cX2_workOut 22 = .ok (.iload 5, 2) := by decide +kernel
theorem dX2_workOut_24 : decode cX2_workOut 24 = .ok (.iconst 0, 1) := by decide +kernel
theorem dX2_workOut_25 : decode cX2_workOut 25 = .ok (.invokestatic 11, 3) := by decide +kernel
theorem dX2_workOut_28 : decode cX2_workOut 28 = .ok (.iastore, 1) := by decide +kernel
theorem dX2_workOut_29 : decode cX2_workOut 29 = .ok (.aload_n 0, 1) := by decide +kernel
theorem dX2_workOut_30 : decode cX2_workOut 30 = .ok (.iload_n 1, 1) := by decide +kernel
theorem dX2_workOut_31 : decode cX2_workOut 31 = .ok (.iconst 0, 1) := by decide +kernel
theorem dX2_workOut_32 : decode cX2_workOut 32 = .ok (.iload_n 2, 1) := by decide +kernel
theorem dX2_workOut_33 : decode cX2_workOut 33 = .ok (.iload 4, 2) := by decide +kernel
theorem dX2_workOut_35 : decode cX2_workOut 35 = .ok (.iload 5, 2) := by decide +kernel
theorem dX2_workOut_37 : decode cX2_workOut 37 = .ok (.invokestatic 17, 3) := by decide +kernel
theorem dX2_workOut_40 : decode cX2_workOut 40 = .ok (.aload_n 0, 1) := by decide +kernel
theorem dX2_workOut_41 : decode cX2_workOut 41 = .ok (.iload_n 1, 1) := by decide +kernel
theorem dX2_workOut_42 : decode cX2_workOut 42 = .ok (.iconst 1, 1) := by decide +kernel
theorem dX2_workOut_43 : decode cX2_workOut 43 = .ok (.iload_n 3, 1) := by decide +kernel
theorem dX2_workOut_44 : decode cX2_workOut 44 = .ok (.iload 4, 2) := by decide +kernel
theorem dX2_workOut_46 : decode cX2_workOut 46 = .ok (.iload 5, 2) := by decide +kernel
theorem dX2_workOut_48 : decode cX2_workOut 48 = .ok (.invokestatic 17, 3) := by decide +kernel
theorem dX2_workOut_51 : decode cX2_workOut 51 = .ok (.return_, 1) := by decide +kernel
theorem dX2_workOutHalf_0 : decode cX2_workOutHalf 0 = .ok (.iload 4, 2) := by decide +kernel
theorem dX2_workOutHalf_2 : decode cX2_workOutHalf 2 = .ok (.aload_n 0, 1) := by decide +kernel
theorem dX2_workOutHalf_3 : decode cX2_workOutHalf 3 = .ok (.iload_n 1, 1) := by decide +kernel
theorem dX2_workOutHalf_4 : decode cX2_workOutHalf 4 = .ok (.iconst 1, 1) := by decide +kernel
theorem dX2_workOutHalf_5 : decode cX2_workOutHalf 5 = .ok (.iadd, 1) := by decide +kernel
theorem dX2_workOutHalf_6 : decode cX2_workOutHalf 6 = .ok (.iaload, 1) := by decide +kernel
theorem dX2_workOutHalf_7 : decode cX2_workOutHalf 7 = .ok (.iload_n 2, 1) := by decide +kernel
theorem dX2_workOutHalf_8 : decode cX2_workOutHalf 8 = .ok (.invokestatic 21, 3) := by decide +kernel
theorem dX2_workOutHalf_11 : decode cX2_workOutHalf 11 = .ok (.istore 6, 2) := by decide +kernel
theorem dX2_workOutHalf_13 : decode cX2_workOutHalf 13 = .ok (.iload 5, 2) := by decide +kernel
theorem dX2_workOutHalf_15 : decode cX2_workOutHalf 15 = .ok (.iload_n 2, 1) := by decide +kernel
theorem dX2_workOutHalf_16 : decode cX2_workOutHalf 16 = .ok (.iconst 1, 1) := by decide +kernel
theorem dX2_workOutHalf_17 : decode cX2_workOutHalf 17 = .ok (.iadd, 1) := by decide +kernel
theorem dX2_workOutHalf_18 : decode cX2_workOutHalf 18 = .ok (.invokestatic 11, 3) := by decide +kernel
theorem dX2_workOutHalf_21 : decode cX2_workOutHalf 21 = .ok (.istore 7, 2) := by decide +kernel
theorem dX2_workOutHalf_23 : decode cX2_workOutHalf 23 = .ok (.iload 5, 2) := by decide +kernel
theorem dX2_workOutHalf_25 : decode cX2_workOutHalf 25 = .ok (.iload_n 2, 1) := by decide +kernel
theorem dX2_workOutHalf_26 : decode cX2_workOutHalf 26 = .ok (.iconst 3, 1) := by decide +kernel
theorem dX2_workOutHalf_27 : decode cX2_workOutHalf 27 = .ok (.iadd, 1) := by decide +kernel
theorem dX2_workOutHalf_28 : decode cX2_workOutHalf 28 = .ok (.invokestatic 11, 3) := by decide +kernel
theorem dX2_workOutHalf_31 : decode cX2_workOutHalf 31 = .ok (.istore 8, 2) := by decide +kernel
theorem dX2_workOutHalf_33 : decode cX2_workOutHalf 33 = .ok (.iload 7, 2) := by decide +kernel
theorem dX2_workOutHalf_35 : decode cX2_workOutHalf 35 = .ok (.iload 8, 2) := by decide +kernel
theorem dX2_workOutHalf_37 : decode cX2_workOutHalf 37 = .ok (.iload_n 2, 1) := by decide +kernel
theorem dX2_workOutHalf_38 : decode cX2_workOutHalf 38 = .ok (.invokestatic 25, 3) := by decide +kernel
theorem dX2_workOutHalf_41 : decode cX2_workOutHalf 41 = .ok (.iload_n 3, 1) := by decide +kernel
theorem dX2_workOutHalf_42 : decode cX2_workOutHalf 42 = .ok (.ixor, 1) := by decide +kernel
theorem dX2_workOutHalf_43 : decode cX2_workOutHalf 43 = .ok (.istore 9, 2) := by decide +kernel
theorem dX2_workOutHalf_45 : decode cX2_workOutHalf 45 = .ok (.iload_n 1, 1) := by decide +kernel
theorem dX2_workOutHalf_46 : decode cX2_workOutHalf 46 = .ok (.iconst 2, 1) := by decide +kernel
theorem dX2_workOutHalf_47 : decode cX2_workOutHalf 47 = .ok (.iadd, 1) := by decide +kernel
theorem dX2_workOutHalf_48 : decode cX2_workOutHalf 48 = .ok (.iload_n 2, 1) := by decide +kernel
theorem dX2_workOutHalf_49 : decode cX2_workOutHalf 49 = .ok (.iadd, 1) := by decide +kernel
theorem dX2_workOutHalf_50 : decode cX2_workOutHalf 50 = .ok (.istore 10, 2) := by decide +kernel
theorem dX2_workOutHalf_52 : decode cX2_workOutHalf 52 = .ok (.aload_n 0, 1) := by decide +kernel
theorem dX2_workOutHalf_53 : decode cX2_workOutHalf 53 = .ok (.iload 10, 2) := by decide +kernel
theorem dX2_workOutHalf_55 : decode cX2_workOutHalf 55 = .ok (.iload 6, 2) := by decide +kernel
theorem dX2_workOutHalf_57 : decode cX2_workOutHalf 57 = .ok (.iload 7, 2) := by decide +kernel
theorem dX2_workOutHalf_59 : decode cX2_workOutHalf 59 = .ok (.invokestatic 28, 3) := by decide +kernel
theorem dX2_workOutHalf_62 : decode cX2_workOutHalf 62 = .ok (.iastore, 1) := by decide +kernel
theorem dX2_workOutHalf_63 : decode cX2_workOutHalf 63 = .ok (.aload_n 0, 1) := by decide +kernel
theorem dX2_workOutHalf_64 : decode cX2_workOutHalf 64 = .ok (.iload 10, 2) := by decide +kernel
theorem dX2_workOutHalf_66 : decode cX2_workOutHalf 66 = .ok (.iconst 2, 1) := by decide +kernel
theorem dX2_workOutHalf_67 : decode cX2_workOutHalf 67 = .ok (.iadd, 1) := by decide +kernel
theorem dX2_workOutHalf_68 : decode cX2_workOutHalf 68 = .ok (.iload 6, 2) := by decide +kernel
theorem dX2_workOutHalf_70 : decode cX2_workOutHalf 70 = .ok (.iload 8, 2) := by decide +kernel
theorem dX2_workOutHalf_72 : decode cX2_workOutHalf 72 = .ok (.invokestatic 28, 3) := by decide +kernel
theorem dX2_workOutHalf_75 : decode cX2_workOutHalf 75 = .ok (.iastore, 1) := by decide +kernel
theorem dX2_workOutHalf_76 : decode cX2_workOutHalf 76 = .ok (.aload_n 0, 1) := by decide +kernel
theorem dX2_workOutHalf_77 : decode cX2_workOutHalf 77 = .ok (.iload 10, 2) := by decide +kernel
theorem dX2_workOutHalf_79 : decode cX2_workOutHalf 79 = .ok (.iconst 4, 1) := by decide +kernel
theorem dX2_workOutHalf_80 : decode cX2_workOutHalf 80 = .ok (.iadd, 1) := by decide +kernel
theorem dX2_workOutHalf_81 : decode cX2_workOutHalf 81 = .ok (.iload 6, 2) := by decide +kernel
theorem dX2_workOutHalf_83 : decode cX2_workOutHalf 83 = .ok (.iload 9, 2) := by decide +kernel
theorem dX2_workOutHalf_85 : decode cX2_workOutHalf 85 = .ok (.invokestatic 28, 3) := by decide +kernel
theorem dX2_workOutHalf_88 : decode cX2_workOutHalf 88 = .ok (.iastore, 1) := by decide +kernel
theorem dX2_workOutHalf_89 : decode cX2_workOutHalf 89 = .ok (.return_, 1) := by decide +kernel
theorem dX2_openHalf_0 : decode cX2_openHalf 0 = .ok (.iload_n 3, 1) := by decide +kernel
theorem dX2_openHalf_1 : decode cX2_openHalf 1 = .ok (.aload_n 0, 1) := by decide +kernel
theorem dX2_openHalf_2 : decode cX2_openHalf 2 = .ok (.iload_n 1, 1) := by decide +kernel
theorem dX2_openHalf_3 : decode cX2_openHalf 3 = .ok (.iconst 1, 1) := by decide +kernel
theorem dX2_openHalf_4 : decode cX2_openHalf 4 = .ok (.iadd, 1) := by decide +kernel
theorem dX2_openHalf_5 : decode cX2_openHalf 5 = .ok (.invokevirtual 31, 3) := by decide +kernel
theorem dX2_openHalf_8 : decode cX2_openHalf 8 = .ok (.iload_n 2, 1) := by decide +kernel
theorem dX2_openHalf_9 : decode cX2_openHalf 9 = .ok (.invokestatic 21, 3) := by decide +kernel
theorem dX2_openHalf_12 : decode cX2_openHalf 12 = .ok (.istore 4, 2) := by decide +kernel
theorem dX2_openHalf_14 : decode cX2_openHalf 14 = .ok (.iload_n 1, 1) := by decide +kernel
theorem dX2_openHalf_15 : decode cX2_openHalf 15 = .ok (.iconst 2, 1) := by decide +kernel
theorem dX2_openHalf_16 : decode cX2_openHalf 16 = .ok (.iadd, 1) := by decide +kernel
theorem dX2_openHalf_17 : decode cX2_openHalf 17 = .ok (.iload_n 2, 1) := by decide +kernel
theorem dX2_openHalf_18 : decode cX2_openHalf 18 = .ok (.iadd, 1) := by decide +kernel
theorem dX2_openHalf_19 : decode cX2_openHalf 19 = .ok (.istore 5, 2) := by decide +kernel
theorem dX2_openHalf_21 : decode cX2_openHalf 21 = .ok (.iload 4, 2) := by decide +kernel
theorem dX2_openHalf_23 : decode cX2_openHalf 23 = .ok (.aload_n 0, 1) := by decide +kernel
theorem dX2_openHalf_24 : decode cX2_openHalf 24 = .ok (.iload 5, 2) := by decide +kernel
theorem dX2_openHalf_26 : decode cX2_openHalf 26 = .ok (.invokevirtual 31, 3) := by decide +kernel
theorem dX2_openHalf_29 : decode cX2_openHalf 29 = .ok (.invokestatic 37, 3) := by decide +kernel
theorem dX2_openHalf_32 : decode cX2_openHalf 32 = .ok (.istore 6, 2) := by decide +kernel
theorem dX2_openHalf_34 : decode cX2_openHalf 34 = .ok (.iload 4, 2) := by decide +kernel
theorem dX2_openHalf_36 : decode cX2_openHalf 36 = .ok (.aload_n 0, 1) := by decide +kernel
theorem dX2_openHalf_37 : decode cX2_openHalf 37 = .ok (.iload 5, 2) := by decide +kernel
theorem dX2_openHalf_39 : decode cX2_openHalf 39 = .ok (.iconst 2, 1) := by decide +kernel
theorem dX2_openHalf_40 : decode cX2_openHalf 40 = .ok (.iadd, 1) := by decide +kernel
theorem dX2_openHalf_41 : decode cX2_openHalf 41 = .ok (.invokevirtual 31, 3) := by decide +kernel
theorem dX2_openHalf_44 : decode cX2_openHalf 44 = .ok (.invokestatic 37, 3) := by decide +kernel
theorem dX2_openHalf_47 : decode cX2_openHalf 47 = .ok (.istore 7, 2) := by decide +kernel
theorem dX2_openHalf_49 : decode cX2_openHalf 49 = .ok (.iload 4, 2) := by decide +kernel
theorem dX2_openHalf_51 : decode cX2_openHalf 51 = .ok (.aload_n 0, 1) := by decide +kernel
theorem dX2_openHalf_52 : decode cX2_openHalf 52 = .ok (.iload 5, 2) := by decide +kernel
theorem dX2_openHalf_54 : decode cX2_openHalf 54 = .ok (.iconst 4, 1) := by decide +kernel
theorem dX2_openHalf_55 : decode cX2_openHalf 55 = .ok (.iadd, 1) := by decide +kernel
theorem dX2_openHalf_56 : decode cX2_openHalf 56 = .ok (.invokevirtual 31, 3) := by decide +kernel
theorem dX2_openHalf_59 : decode cX2_openHalf 59 = .ok (.invokestatic 37, 3) := by decide +kernel
theorem dX2_openHalf_62 : decode cX2_openHalf 62 = .ok (.istore 8, 2) := by decide +kernel
theorem dX2_openHalf_64 : decode cX2_openHalf 64 = .ok (.iload 6, 2) := by decide +kernel
theorem dX2_openHalf_66 : decode cX2_openHalf 66 = .ok (.iload 7, 2) := by decide +kernel
theorem dX2_openHalf_68 : decode cX2_openHalf 68 = .ok (.iload_n 2, 1) := by decide +kernel
theorem dX2_openHalf_69 : decode cX2_openHalf 69 = .ok (.invokestatic 25, 3) := by decide +kernel
theorem dX2_openHalf_72 : decode cX2_openHalf 72 = .ok (.iload 8, 2) := by decide +kernel
theorem dX2_openHalf_74 : decode cX2_openHalf 74 = .ok (.ixor, 1) := by decide +kernel
theorem dX2_openHalf_75 : decode cX2_openHalf 75 = .ok (.ireturn, 1) := by decide +kernel
theorem dX2_mask_0 : decode cX2_mask 0 = .ok (.iload_n 0, 1) := by decide +kernel
theorem dX2_mask_1 : decode cX2_mask 1 = .ok (.iload_n 2, 1) := by decide +kernel
theorem dX2_mask_2 : decode cX2_mask 2 = .ok (.iconst 1, 1) := by decide +kernel
theorem dX2_mask_3 : decode cX2_mask 3 = .ok (.iadd, 1) := by decide +kernel
theorem dX2_mask_4 : decode cX2_mask 4 = .ok (.invokestatic 11, 3) := by decide +kernel
theorem dX2_mask_7 : decode cX2_mask 7 = .ok (.iload_n 1, 1) := by decide +kernel
theorem dX2_mask_8 : decode cX2_mask 8 = .ok (.ixor, 1) := by decide +kernel
theorem dX2_mask_9 : decode cX2_mask 9 = .ok (.iload_n 2, 1) := by decide +kernel
theorem dX2_mask_10 : decode cX2_mask 10 = .ok (.iconst 1, 1) := by decide +kernel
theorem dX2_mask_11 : decode cX2_mask 11 = .ok (.iadd, 1) := by decide +kernel
theorem dX2_mask_12 : decode cX2_mask 12 = .ok (.invokestatic 11, 3) := by decide +kernel
theorem dX2_mask_15 : decode cX2_mask 15 = .ok (.ireturn, 1) := by decide +kernel
theorem dJ6_bitCount_0 : decode cJ6_bitCount 0 = .ok (.iload_n 0, 1) := by decide +kernel
theorem dJ6_bitCount_1 : decode cJ6_bitCount 1 = .ok (.iload_n 0, 1) := by decide +kernel
theorem dJ6_bitCount_2 : decode cJ6_bitCount 2 = .ok (.iconst 1, 1) := by decide +kernel
theorem dJ6_bitCount_3 : decode cJ6_bitCount 3 = .ok (.iushr, 1) := by decide +kernel
theorem dJ6_bitCount_4 : decode cJ6_bitCount 4 = .ok (.ldc_w 265, 3) := by decide +kernel
theorem dJ6_bitCount_7 : decode cJ6_bitCount 7 = .ok (.iand, 1) := by decide +kernel
theorem dJ6_bitCount_8 : decode cJ6_bitCount 8 = .ok (.isub, 1) := by decide +kernel
theorem dJ6_bitCount_9 : decode cJ6_bitCount 9 = .ok (.istore_n 0, 1) := by decide +kernel
theorem dJ6_bitCount_10 : decode cJ6_bitCount 10 = .ok (.iload_n 0, 1) := by decide +kernel
theorem dJ6_bitCount_11 : decode cJ6_bitCount 11 = .ok (.ldc_w 266, 3) := by decide +kernel
theorem dJ6_bitCount_14 : decode cJ6_bitCount 14 = .ok (.iand, 1) := by decide +kernel
theorem dJ6_bitCount_15 : decode cJ6_bitCount 15 = .ok (.iload_n 0, 1) := by decide +kernel
theorem dJ6_bitCount_16 : decode cJ6_bitCount 16 = .ok (.iconst 2, 1) := by decide +kernel
theorem dJ6_bitCount_17 : decode cJ6_bitCount 17 = .ok (.iushr, 1) := by decide +kernel
theorem dJ6_bitCount_18 : decode cJ6_bitCount 18 = .ok (.ldc_w 266, 3) := by decide +kernel
theorem dJ6_bitCount_21 : decode cJ6_bitCount 21 = .ok (.iand, 1) := by decide +kernel
theorem dJ6_bitCount_22 : decode cJ6_bitCount 22 = .ok (.iadd, 1) := by decide +kernel
theorem dJ6_bitCount_23 : decode cJ6_bitCount 23 = .ok (.istore_n 0, 1) := by decide +kernel
theorem dJ6_bitCount_24 : decode cJ6_bitCount 24 = .ok (.iload_n 0, 1) := by decide +kernel
theorem dJ6_bitCount_25 : decode cJ6_bitCount 25 = .ok (.iload_n 0, 1) := by decide +kernel
theorem dJ6_bitCount_26 : decode cJ6_bitCount 26 = .ok (.iconst 4, 1) := by decide +kernel
theorem dJ6_bitCount_27 : decode cJ6_bitCount 27 = .ok (.iushr, 1) := by decide +kernel
theorem dJ6_bitCount_28 : decode cJ6_bitCount 28 = .ok (.iadd, 1) := by decide +kernel
theorem dJ6_bitCount_29 : decode cJ6_bitCount 29 = .ok (.ldc_w 267, 3) := by decide +kernel
theorem dJ6_bitCount_32 : decode cJ6_bitCount 32 = .ok (.iand, 1) := by decide +kernel
theorem dJ6_bitCount_33 : decode cJ6_bitCount 33 = .ok (.istore_n 0, 1) := by decide +kernel
theorem dJ6_bitCount_34 : decode cJ6_bitCount 34 = .ok (.iload_n 0, 1) := by decide +kernel
theorem dJ6_bitCount_35 : decode cJ6_bitCount 35 = .ok (.iload_n 0, 1) := by decide +kernel
theorem dJ6_bitCount_36 : decode cJ6_bitCount 36 = .ok (.bipush 8, 2) := by decide +kernel
theorem dJ6_bitCount_38 : decode cJ6_bitCount 38 = .ok (.iushr, 1) := by decide +kernel
theorem dJ6_bitCount_39 : decode cJ6_bitCount 39 = .ok (.iadd, 1) := by decide +kernel
theorem dJ6_bitCount_40 : decode cJ6_bitCount 40 = .ok (.istore_n 0, 1) := by decide +kernel
theorem dJ6_bitCount_41 : decode cJ6_bitCount 41 = .ok (.iload_n 0, 1) := by decide +kernel
theorem dJ6_bitCount_42 : decode cJ6_bitCount 42 = .ok (.iload_n 0, 1) := by decide +kernel
theorem dJ6_bitCount_43 : decode cJ6_bitCount 43 = .ok (.bipush 16, 2) := by decide +kernel
theorem dJ6_bitCount_45 : decode cJ6_bitCount 45 = .ok (.iushr, 1) := by decide +kernel
theorem dJ6_bitCount_46 : decode cJ6_bitCount 46 = .ok (.iadd, 1) := by decide +kernel
theorem dJ6_bitCount_47 : decode cJ6_bitCount 47 = .ok (.istore_n 0, 1) := by decide +kernel
theorem dJ6_bitCount_48 : decode cJ6_bitCount 48 = .ok (.iload_n 0, 1) := by decide +kernel
theorem dJ6_bitCount_49 : decode cJ6_bitCount 49 = .ok (.bipush 63, 2) := by decide +kernel
theorem dJ6_bitCount_51 : decode cJ6_bitCount 51 = .ok (.iand, 1) := by decide +kernel
theorem dJ6_bitCount_52 : decode cJ6_bitCount 52 = .ok (.ireturn, 1) := by decide +kernel
theorem dJ7_fill_0 : decode cJ7_fill 0 = .ok (.iconst 0, 1) := by decide +kernel
theorem dJ7_fill_1 : decode cJ7_fill 1 = .ok (.istore_n 2, 1) := by decide +kernel
theorem dJ7_fill_2 : decode cJ7_fill 2 = .ok (.aload_n 0, 1) := by decide +kernel
theorem dJ7_fill_3 : decode cJ7_fill 3 = .ok (.arraylength, 1) := by decide +kernel
theorem dJ7_fill_4 : decode cJ7_fill 4 = .ok (.istore_n 3, 1) := by decide +kernel
theorem dJ7_fill_5 : decode cJ7_fill 5 = .ok (.iload_n 2, 1) := by decide +kernel
theorem dJ7_fill_6 : decode cJ7_fill 6 = .ok (.iload_n 3, 1) := by decide +kernel
theorem dJ7_fill_7 : decode cJ7_fill 7 = .ok (.if_icmp .ge 13, 3) := by decide +kernel
theorem dJ7_fill_10 : decode cJ7_fill 10 = .ok (.aload_n 0, 1) := by decide +kernel
theorem dJ7_fill_11 : decode cJ7_fill 11 = .ok (.iload_n 2, 1) := by decide +kernel
theorem dJ7_fill_12 : decode cJ7_fill 12 = .ok (.iload_n 1, 1) := by decide +kernel
theorem dJ7_fill_13 : decode cJ7_fill 13 = .ok (.iastore, 1) := by decide +kernel
theorem dJ7_fill_14 : decode cJ7_fill 14 = .ok (.iinc 2 1, 3) := by decide +kernel
theorem dJ7_fill_17 : decode cJ7_fill 17 = .ok (.goto (-12), 3) := by decide +kernel
theorem dJ7_fill_20 : decode cJ7_fill 20 = .ok (.return_, 1) := by decide +kernel
