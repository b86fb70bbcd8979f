abbrev kr_CI_mix : Room := { frames := 0, cells := 0, slots := 0, locals := 0 }
set_option maxRecDepth 100000 in
set_option maxHeartbeats 4000000 in
theorem kc_CI_mix (l : Launch) (D : va_G) (a : Int32) (b : Int32) : kv_I (fun _ => True) l yX0_mix wsX0_mix kr_CI_mix D [] [.int a, .int b] [] (kp_H a b) [] := by
  refine kv_openI (cc := cX0_mix) (maxL := 3) (rt := .int) (by decide) rfl (rfl) (Nat.le_of_ble_eq_true rfl) ?_
  intro p e s m args below meth c A H locs ls Q S hl hB K
  have hl : lv_has ls 3 [(0, .int a), (1, .int b)] := hl
  refine lv_iload_n S.1 S.2.1 dX0_mix_0 rfl (lv_at hl 0 rfl) ?_
  refine lv_ldc (v := 1517746329) S.1 S.2.1 S.2.2.2.1 (S.2.2.2.2 _ (List.mem_cons_of_mem _ kn_56)) dX0_mix_1 ?_
  refine lv_ixor S.1 S.2.1 dX0_mix_3 ?_
  refine lv_ldc (v := 916191069) S.1 S.2.1 S.2.2.2.1 (S.2.2.2.2 _ (List.mem_cons_of_mem _ kn_57)) dX0_mix_4 ?_
  refine lv_imul S.1 S.2.1 dX0_mix_6 ?_
  refine lv_iload_n S.1 S.2.1 dX0_mix_7 rfl (lv_at hl 1 rfl) ?_
  refine lv_iadd S.1 S.2.1 dX0_mix_8 ?_
  refine lv_topi (fun x_1 ex_1 => ?_)
  refine lv_istore_n S.1 S.2.1 dX0_mix_9 rfl hl (by decide) rfl (fun ls hl => ?_)
  have hl : lv_has ls 3 [(2, .int x_1), (0, .int a), (1, .int b)] := hl
  refine lv_iload_n S.1 S.2.1 dX0_mix_10 rfl (lv_at hl 0 rfl) ?_
  refine lv_iload_n S.1 S.2.1 dX0_mix_11 rfl (lv_at hl 0 rfl) ?_
  refine lv_bipush (v := 15) S.1 S.2.1 dX0_mix_12 (by decide) ?_
  refine lv_iushr (v := kv_us x_1 15) S.1 S.2.1 dX0_mix_14 rfl ?_
  refine lv_ixor S.1 S.2.1 dX0_mix_15 ?_
  refine lv_topi (fun x_2 ex_2 => ?_)
  refine lv_istore_n S.1 S.2.1 dX0_mix_16 rfl hl (by decide) rfl (fun ls hl => ?_)
  have hl : lv_has ls 3 [(2, .int x_2), (0, .int a), (1, .int b)] := hl
  refine lv_iload_n S.1 S.2.1 dX0_mix_17 rfl (lv_at hl 0 rfl) ?_
  refine lv_ldc (v := 1406938949) S.1 S.2.1 S.2.2.2.1 (S.2.2.2.2 _ (List.mem_cons_of_mem _ kn_58)) dX0_mix_18 ?_
  refine lv_imul S.1 S.2.1 dX0_mix_20 ?_
  refine lv_topi (fun x_3 ex_3 => ?_)
  refine lv_istore_n S.1 S.2.1 dX0_mix_21 rfl hl (by decide) rfl (fun ls hl => ?_)
  have hl : lv_has ls 3 [(2, .int x_3), (0, .int a), (1, .int b)] := hl
  refine lv_iload_n S.1 S.2.1 dX0_mix_22 rfl (lv_at hl 0 rfl) ?_
  refine lv_iload_n S.1 S.2.1 dX0_mix_23 rfl (lv_at hl 0 rfl) ?_
  refine lv_bipush (v := 13) S.1 S.2.1 dX0_mix_24 (by decide) ?_
  refine lv_iushr (v := kv_us x_3 13) S.1 S.2.1 dX0_mix_26 rfl ?_
  refine lv_ixor S.1 S.2.1 dX0_mix_27 ?_
  exact K _ _ _ _ _ _ hB (by subst_vars; rfl) (rfl) dX0_mix_28

abbrev kr_CI_roundMask : Room := { frames := 1, cells := 0, slots := 0, locals := 22 }
set_option maxRecDepth 100000 in
set_option maxHeartbeats 4000000 in
theorem kc_CI_roundMask (l : Launch) (D : va_G) (a : Int32) (j : Int32) (b : Int32) : kv_I (fun _ => True) l yX0_roundMask wsX0_roundMask kr_CI_roundMask D [] [.int a, .int j, .int b] [] (kp_R a j b) [] := by
  refine kv_openI (cc := cX0_roundMask) (maxL := 3) (rt := .int) (by decide) rfl (rfl) (Nat.le_of_ble_eq_true rfl) ?_
  intro p e s m args below meth c A H locs ls Q S hl hB K
  have hl : lv_has ls 3 [(0, .int a), (1, .int j), (2, .int b)] := hl
  refine lv_iload_n S.1 S.2.1 dX0_roundMask_0 rfl (lv_at hl 0 rfl) ?_
  refine lv_iload_n S.1 S.2.1 dX0_roundMask_1 rfl (lv_at hl 1 rfl) ?_
  refine kv_sP (As := [.int a, .int j]) (rest := []) S (kc_CI_mix l D a j  ) (kn_cS S kn_62 kn_54 kn_5 kn_55 kd_X0_mix rfl rfl ⟨Nat.le_of_ble_eq_true rfl, Nat.le_of_ble_eq_true rfl⟩) hB rfl hl.1 rfl (Nat.le_of_ble_eq_true rfl) dX0_roundMask_2 ⟨Nat.zero_le _, Nat.zero_le _⟩ (fun H locs hB => ?_)
  refine lv_iload_n S.1 S.2.1 dX0_roundMask_5 rfl (lv_at hl 2 rfl) ?_
  refine kv_sP (As := [.int (kp_H a j), .int b]) (rest := []) S (kc_CI_mix l D (kp_H a j) b  ) (kn_cS S kn_62 kn_54 kn_5 kn_55 kd_X0_mix rfl rfl ⟨Nat.le_of_ble_eq_true rfl, Nat.le_of_ble_eq_true rfl⟩) hB rfl hl.1 rfl (Nat.le_of_ble_eq_true rfl) dX0_roundMask_6 ⟨Nat.zero_le _, Nat.zero_le _⟩ (fun H locs hB => ?_)
  refine lv_ldc (v := 65535) S.1 S.2.1 S.2.2.2.1 (S.2.2.2.2 _ (List.mem_cons_of_mem _ kn_82)) dX0_roundMask_9 ?_
  refine lv_iand S.1 S.2.1 dX0_roundMask_11 ?_
  exact K _ _ _ _ _ _ hB (rfl) (rfl) dX0_roundMask_12

abbrev kr_CI_encipher : Room := { frames := 2, cells := 0, slots := 0, locals := 44 }
set_option maxRecDepth 100000 in
set_option maxHeartbeats 4000000 in
theorem kc_CI_encipher (l : Launch) (D : va_G) (a : Int32) (b : Int32) : kv_I (fun _ => True) l yX0_encipher wsX0_encipher kr_CI_encipher D [] [.int a, .int b] [] (kp_E a b) [] := by
  refine kv_openI (cc := cX0_encipher) (maxL := 6) (rt := .int) (by decide) rfl (rfl) (Nat.le_of_ble_eq_true rfl) ?_
  intro p e s m args below meth c A H locs ls Q S hl hB K
  have hl : lv_has ls 6 [(0, .int a), (1, .int b)] := hl
  refine lv_iload_n S.1 S.2.1 dX0_encipher_0 rfl (lv_at hl 1 rfl) ?_
  refine lv_bipush (v := 16) S.1 S.2.1 dX0_encipher_1 (by decide) ?_
  refine lv_iushr (v := kv_us b 16) S.1 S.2.1 dX0_encipher_3 rfl ?_
  refine lv_topi (fun x_1 ex_1 => ?_)
  refine lv_istore_n S.1 S.2.1 dX0_encipher_4 rfl hl (by decide) rfl (fun ls hl => ?_)
  have hl : lv_has ls 6 [(2, .int x_1), (0, .int a), (1, .int b)] := hl
  refine lv_iload_n S.1 S.2.1 dX0_encipher_5 rfl (lv_at hl 2 rfl) ?_
  refine lv_ldc (v := 65535) S.1 S.2.1 S.2.2.2.1 (S.2.2.2.2 _ (List.mem_cons_of_mem _ kn_82)) dX0_encipher_6 ?_
  refine lv_iand S.1 S.2.1 dX0_encipher_8 ?_
  refine lv_topi (fun x_2 ex_2 => ?_)
  refine lv_istore_n S.1 S.2.1 dX0_encipher_9 rfl hl (by decide) rfl (fun ls hl => ?_)
  have hl : lv_has ls 6 [(3, .int x_2), (2, .int x_1), (0, .int a), (1, .int b)] := hl
  refine lv_iconst (v := 0) S.1 S.2.1 dX0_encipher_10 (by decide) ?_
  refine lv_istore S.1 S.2.1 dX0_encipher_11 hl (by decide) rfl (fun ls hl => ?_)
  have hl : lv_has ls 6 [(4, .int 0), (3, .int x_2), (2, .int x_1), (0, .int a), (1, .int b)] := hl
  refine lv_iload S.1 S.2.1 dX0_encipher_13 (lv_at hl 0 rfl) ?_
  refine lv_iconst (v := 4) S.1 S.2.1 dX0_encipher_15 (by decide) ?_
  refine kv_bge (x := 0) (y := 4) (tgt := 41) S (by omega) (by omega) dX0_encipher_16 (by decide) (fun h => absurd h (by omega)) (fun h_16 => ?_)
  refine lv_iload_n S.1 S.2.1 dX0_encipher_19 rfl (lv_at hl 2 rfl) ?_
  refine lv_istore S.1 S.2.1 dX0_encipher_20 hl (by decide) rfl (fun ls hl => ?_)
  have hl : lv_has ls 6 [(5, .int x_1), (4, .int 0), (3, .int x_2), (2, .int x_1), (0, .int a), (1, .int b)] := hl
  refine lv_iload_n S.1 S.2.1 dX0_encipher_22 rfl (lv_at hl 2 rfl) ?_
  refine lv_istore_n S.1 S.2.1 dX0_encipher_23 rfl hl (by decide) rfl (fun ls hl => ?_)
  have hl : lv_has ls 6 [(2, .int x_2), (5, .int x_1), (4, .int 0), (3, .int x_2), (0, .int a), (1, .int b)] := hl
  refine lv_iload S.1 S.2.1 dX0_encipher_24 (lv_at hl 1 rfl) ?_
  refine lv_iload_n S.1 S.2.1 dX0_encipher_26 rfl (lv_at hl 4 rfl) ?_
  refine lv_iload S.1 S.2.1 dX0_encipher_27 (lv_at hl 2 rfl) ?_
  refine lv_iload_n S.1 S.2.1 dX0_encipher_29 rfl (lv_at hl 3 rfl) ?_
  refine kv_sP (As := [.int a, .int 0, .int x_2]) (rest := [.int x_1]) S (kc_CI_roundMask l D a 0 x_2  ) (kn_cS S kn_83 kn_84 kn_5 kn_85 kd_X0_roundMask rfl rfl ⟨Nat.le_of_ble_eq_true rfl, Nat.le_of_ble_eq_true rfl⟩) hB rfl hl.1 rfl (Nat.le_of_ble_eq_true rfl) dX0_encipher_30 ⟨Nat.zero_le _, Nat.zero_le _⟩ (fun H locs hB => ?_)
  refine lv_ixor S.1 S.2.1 dX0_encipher_33 ?_
  refine lv_topi (fun x_3 ex_3 => ?_)
  refine lv_istore_n S.1 S.2.1 dX0_encipher_34 rfl hl (by decide) rfl (fun ls hl => ?_)
  have hl : lv_has ls 6 [(3, .int x_3), (2, .int x_2), (5, .int x_1), (4, .int 0), (0, .int a), (1, .int b)] := hl
  refine lv_iinc (k := 3) (v := 1) S.1 S.2.1 dX0_encipher_35 hl rfl (by decide) (by decide) rfl (fun ls hl => ?_)
  have hl : lv_has ls 6 [(4, .int 1), (3, .int x_3), (2, .int x_2), (5, .int x_1), (0, .int a), (1, .int b)] := hl
  refine lv_goto (tgt := 13) S.1 S.2.1 dX0_encipher_38 (by decide) ?_
  refine lv_iload S.1 S.2.1 dX0_encipher_13 (lv_at hl 0 rfl) ?_
  refine lv_iconst (v := 4) S.1 S.2.1 dX0_encipher_15 (by decide) ?_
  refine kv_bge (x := 1) (y := 4) (tgt := 41) S (by omega) (by omega) dX0_encipher_16 (by decide) (fun h => absurd h (by omega)) (fun h_16 => ?_)
  refine lv_iload_n S.1 S.2.1 dX0_encipher_19 rfl (lv_at hl 2 rfl) ?_
  refine lv_istore S.1 S.2.1 dX0_encipher_20 hl (by decide) rfl (fun ls hl => ?_)
  have hl : lv_has ls 6 [(5, .int x_2), (4, .int 1), (3, .int x_3), (2, .int x_2), (0, .int a), (1, .int b)] := hl
  refine lv_iload_n S.1 S.2.1 dX0_encipher_22 rfl (lv_at hl 2 rfl) ?_
  refine lv_istore_n S.1 S.2.1 dX0_encipher_23 rfl hl (by decide) rfl (fun ls hl => ?_)
  have hl : lv_has ls 6 [(2, .int x_3), (5, .int x_2), (4, .int 1), (3, .int x_3), (0, .int a), (1, .int b)] := hl
  refine lv_iload S.1 S.2.1 dX0_encipher_24 (lv_at hl 1 rfl) ?_
  refine lv_iload_n S.1 S.2.1 dX0_encipher_26 rfl (lv_at hl 4 rfl) ?_
  refine lv_iload S.1 S.2.1 dX0_encipher_27 (lv_at hl 2 rfl) ?_
  refine lv_iload_n S.1 S.2.1 dX0_encipher_29 rfl (lv_at hl 3 rfl) ?_
  refine kv_sP (As := [.int a, .int 1, .int x_3]) (rest := [.int x_2]) S (kc_CI_roundMask l D a 1 x_3  ) (kn_cS S kn_83 kn_84 kn_5 kn_85 kd_X0_roundMask rfl rfl ⟨Nat.le_of_ble_eq_true rfl, Nat.le_of_ble_eq_true rfl⟩) hB rfl hl.1 rfl (Nat.le_of_ble_eq_true rfl) dX0_encipher_30 ⟨Nat.zero_le _, Nat.zero_le _⟩ (fun H locs hB => ?_)
  refine lv_ixor S.1 S.2.1 dX0_encipher_33 ?_
  refine lv_topi (fun x_4 ex_4 => ?_)
  refine lv_istore_n S.1 S.2.1 dX0_encipher_34 rfl hl (by decide) rfl (fun ls hl => ?_)
  have hl : lv_has ls 6 [(3, .int x_4), (2, .int x_3), (5, .int x_2), (4, .int 1), (0, .int a), (1, .int b)] := hl
  refine lv_iinc (k := 3) (v := 2) S.1 S.2.1 dX0_encipher_35 hl rfl (by decide) (by decide) rfl (fun ls hl => ?_)
  have hl : lv_has ls 6 [(4, .int 2), (3, .int x_4), (2, .int x_3), (5, .int x_2), (0, .int a), (1, .int b)] := hl
  refine lv_goto (tgt := 13) S.1 S.2.1 dX0_encipher_38 (by decide) ?_
  refine lv_iload S.1 S.2.1 dX0_encipher_13 (lv_at hl 0 rfl) ?_
  refine lv_iconst (v := 4) S.1 S.2.1 dX0_encipher_15 (by decide) ?_
  refine kv_bge (x := 2) (y := 4) (tgt := 41) S (by omega) (by omega) dX0_encipher_16 (by decide) (fun h => absurd h (by omega)) (fun h_16 => ?_)
  refine lv_iload_n S.1 S.2.1 dX0_encipher_19 rfl (lv_at hl 2 rfl) ?_
  refine lv_istore S.1 S.2.1 dX0_encipher_20 hl (by decide) rfl (fun ls hl => ?_)
  have hl : lv_has ls 6 [(5, .int x_3), (4, .int 2), (3, .int x_4), (2, .int x_3), (0, .int a), (1, .int b)] := hl
  refine lv_iload_n S.1 S.2.1 dX0_encipher_22 rfl (lv_at hl 2 rfl) ?_
  refine lv_istore_n S.1 S.2.1 dX0_encipher_23 rfl hl (by decide) rfl (fun ls hl => ?_)
  have hl : lv_has ls 6 [(2, .int x_4), (5, .int x_3), (4, .int 2), (3, .int x_4), (0, .int a), (1, .int b)] := hl
  refine lv_iload S.1 S.2.1 dX0_encipher_24 (lv_at hl 1 rfl) ?_
  refine lv_iload_n S.1 S.2.1 dX0_encipher_26 rfl (lv_at hl 4 rfl) ?_
  refine lv_iload S.1 S.2.1 dX0_encipher_27 (lv_at hl 2 rfl) ?_
  refine lv_iload_n S.1 S.2.1 dX0_encipher_29 rfl (lv_at hl 3 rfl) ?_
  refine kv_sP (As := [.int a, .int 2, .int x_4]) (rest := [.int x_3]) S (kc_CI_roundMask l D a 2 x_4  ) (kn_cS S kn_83 kn_84 kn_5 kn_85 kd_X0_roundMask rfl rfl ⟨Nat.le_of_ble_eq_true rfl, Nat.le_of_ble_eq_true rfl⟩) hB rfl hl.1 rfl (Nat.le_of_ble_eq_true rfl) dX0_encipher_30 ⟨Nat.zero_le _, Nat.zero_le _⟩ (fun H locs hB => ?_)
  refine lv_ixor S.1 S.2.1 dX0_encipher_33 ?_
  refine lv_topi (fun x_5 ex_5 => ?_)
  refine lv_istore_n S.1 S.2.1 dX0_encipher_34 rfl hl (by decide) rfl (fun ls hl => ?_)
  have hl : lv_has ls 6 [(3, .int x_5), (2, .int x_4), (5, .int x_3), (4, .int 2), (0, .int a), (1, .int b)] := hl
  refine lv_iinc (k := 3) (v := 3) S.1 S.2.1 dX0_encipher_35 hl rfl (by decide) (by decide) rfl (fun ls hl => ?_)
  have hl : lv_has ls 6 [(4, .int 3), (3, .int x_5), (2, .int x_4), (5, .int x_3), (0, .int a), (1, .int b)] := hl
  refine lv_goto (tgt := 13) S.1 S.2.1 dX0_encipher_38 (by decide) ?_
  refine lv_iload S.1 S.2.1 dX0_encipher_13 (lv_at hl 0 rfl) ?_
  refine lv_iconst (v := 4) S.1 S.2.1 dX0_encipher_15 (by decide) ?_
  refine kv_bge (x := 3) (y := 4) (tgt := 41) S (by omega) (by omega) dX0_encipher_16 (by decide) (fun h => absurd h (by omega)) (fun h_16 => ?_)
  refine lv_iload_n S.1 S.2.1 dX0_encipher_19 rfl (lv_at hl 2 rfl) ?_
  refine lv_istore S.1 S.2.1 dX0_encipher_20 hl (by decide) rfl (fun ls hl => ?_)
  have hl : lv_has ls 6 [(5, .int x_4), (4, .int 3), (3, .int x_5), (2, .int x_4), (0, .int a), (1, .int b)] := hl
  refine lv_iload_n S.1 S.2.1 dX0_encipher_22 rfl (lv_at hl 2 rfl) ?_
  refine lv_istore_n S.1 S.2.1 dX0_encipher_23 rfl hl (by decide) rfl (fun ls hl => ?_)
  have hl : lv_has ls 6 [(2, .int x_5), (5, .int x_4), (4, .int 3), (3, .int x_5), (0, .int a), (1, .int b)] := hl
  refine lv_iload S.1 S.2.1 dX0_encipher_24 (lv_at hl 1 rfl) ?_
  refine lv_iload_n S.1 S.2.1 dX0_encipher_26 rfl (lv_at hl 4 rfl) ?_
  refine lv_iload S.1 S.2.1 dX0_encipher_27 (lv_at hl 2 rfl) ?_
  refine lv_iload_n S.1 S.2.1 dX0_encipher_29 rfl (lv_at hl 3 rfl) ?_
  refine kv_sP (As := [.int a, .int 3, .int x_5]) (rest := [.int x_4]) S (kc_CI_roundMask l D a 3 x_5  ) (kn_cS S kn_83 kn_84 kn_5 kn_85 kd_X0_roundMask rfl rfl ⟨Nat.le_of_ble_eq_true rfl, Nat.le_of_ble_eq_true rfl⟩) hB rfl hl.1 rfl (Nat.le_of_ble_eq_true rfl) dX0_encipher_30 ⟨Nat.zero_le _, Nat.zero_le _⟩ (fun H locs hB => ?_)
  refine lv_ixor S.1 S.2.1 dX0_encipher_33 ?_
  refine lv_topi (fun x_6 ex_6 => ?_)
  refine lv_istore_n S.1 S.2.1 dX0_encipher_34 rfl hl (by decide) rfl (fun ls hl => ?_)
  have hl : lv_has ls 6 [(3, .int x_6), (2, .int x_5), (5, .int x_4), (4, .int 3), (0, .int a), (1, .int b)] := hl
  refine lv_iinc (k := 3) (v := 4) S.1 S.2.1 dX0_encipher_35 hl rfl (by decide) (by decide) rfl (fun ls hl => ?_)
  have hl : lv_has ls 6 [(4, .int 4), (3, .int x_6), (2, .int x_5), (5, .int x_4), (0, .int a), (1, .int b)] := hl
  refine lv_goto (tgt := 13) S.1 S.2.1 dX0_encipher_38 (by decide) ?_
  refine lv_iload S.1 S.2.1 dX0_encipher_13 (lv_at hl 0 rfl) ?_
  refine lv_iconst (v := 4) S.1 S.2.1 dX0_encipher_15 (by decide) ?_
  refine kv_bge (x := 4) (y := 4) (tgt := 41) S (by omega) (by omega) dX0_encipher_16 (by decide) (fun h_16 => ?_) (fun h => absurd h (by omega))
  refine lv_iload_n S.1 S.2.1 dX0_encipher_41 rfl (lv_at hl 2 rfl) ?_
  refine lv_bipush (v := 16) S.1 S.2.1 dX0_encipher_42 (by decide) ?_
  refine lv_ishl S.1 S.2.1 dX0_encipher_44 ?_
  refine lv_iload_n S.1 S.2.1 dX0_encipher_45 rfl (lv_at hl 1 rfl) ?_
  refine lv_ior S.1 S.2.1 dX0_encipher_46 ?_
  exact K _ _ _ _ _ _ hB (by subst_vars; rfl) (rfl) dX0_encipher_47

abbrev kr_CI_decipher : Room := { frames := 2, cells := 0, slots := 0, locals := 44 }
set_option maxRecDepth 100000 in
set_option maxHeartbeats 4000000 in
theorem kc_CI_decipher (l : Launch) (D : va_G) (a : Int32) (b : Int32) : kv_I (fun _ => True) l yX0_decipher wsX0_decipher kr_CI_decipher D [] [.int a, .int b] [] (kp_D a b) [] := by
  refine kv_openI (cc := cX0_decipher) (maxL := 6) (rt := .int) (by decide) rfl (rfl) (Nat.le_of_ble_eq_true rfl) ?_
  intro p e s m args below meth c A H locs ls Q S hl hB K
  have hl : lv_has ls 6 [(0, .int a), (1, .int b)] := hl
  refine lv_iload_n S.1 S.2.1 dX0_decipher_0 rfl (lv_at hl 1 rfl) ?_
  refine lv_bipush (v := 16) S.1 S.2.1 dX0_decipher_1 (by decide) ?_
  refine lv_iushr (v := kv_us b 16) S.1 S.2.1 dX0_decipher_3 rfl ?_
  refine lv_topi (fun x_1 ex_1 => ?_)
  refine lv_istore_n S.1 S.2.1 dX0_decipher_4 rfl hl (by decide) rfl (fun ls hl => ?_)
  have hl : lv_has ls 6 [(2, .int x_1), (0, .int a), (1, .int b)] := hl
  refine lv_iload_n S.1 S.2.1 dX0_decipher_5 rfl (lv_at hl 2 rfl) ?_
  refine lv_ldc (v := 65535) S.1 S.2.1 S.2.2.2.1 (S.2.2.2.2 _ (List.mem_cons_of_mem _ kn_82)) dX0_decipher_6 ?_
  refine lv_iand S.1 S.2.1 dX0_decipher_8 ?_
  refine lv_topi (fun x_2 ex_2 => ?_)
  refine lv_istore_n S.1 S.2.1 dX0_decipher_9 rfl hl (by decide) rfl (fun ls hl => ?_)
  have hl : lv_has ls 6 [(3, .int x_2), (2, .int x_1), (0, .int a), (1, .int b)] := hl
  refine lv_iconst (v := 3) S.1 S.2.1 dX0_decipher_10 (by decide) ?_
  refine lv_istore S.1 S.2.1 dX0_decipher_11 hl (by decide) rfl (fun ls hl => ?_)
  have hl : lv_has ls 6 [(4, .int 3), (3, .int x_2), (2, .int x_1), (0, .int a), (1, .int b)] := hl
  refine lv_iload S.1 S.2.1 dX0_decipher_13 (lv_at hl 0 rfl) ?_
  refine lv_if_lt (tgt := 40) S.1 S.2.1 dX0_decipher_15 (by decide) (fun h => absurd h (by decide)) (fun h_15 => ?_)
  refine lv_iload_n S.1 S.2.1 dX0_decipher_18 rfl (lv_at hl 1 rfl) ?_
  refine lv_istore S.1 S.2.1 dX0_decipher_19 hl (by decide) rfl (fun ls hl => ?_)
  have hl : lv_has ls 6 [(5, .int x_2), (4, .int 3), (3, .int x_2), (2, .int x_1), (0, .int a), (1, .int b)] := hl
  refine lv_iload_n S.1 S.2.1 dX0_decipher_21 rfl (lv_at hl 3 rfl) ?_
  refine lv_istore_n S.1 S.2.1 dX0_decipher_22 rfl hl (by decide) rfl (fun ls hl => ?_)
  have hl : lv_has ls 6 [(3, .int x_1), (5, .int x_2), (4, .int 3), (2, .int x_1), (0, .int a), (1, .int b)] := hl
  refine lv_iload S.1 S.2.1 dX0_decipher_23 (lv_at hl 1 rfl) ?_
  refine lv_iload_n S.1 S.2.1 dX0_decipher_25 rfl (lv_at hl 4 rfl) ?_
  refine lv_iload S.1 S.2.1 dX0_decipher_26 (lv_at hl 2 rfl) ?_
  refine lv_iload_n S.1 S.2.1 dX0_decipher_28 rfl (lv_at hl 3 rfl) ?_
  refine kv_sP (As := [.int a, .int 3, .int x_1]) (rest := [.int x_2]) S (kc_CI_roundMask l D a 3 x_1  ) (kn_cS S kn_83 kn_84 kn_5 kn_85 kd_X0_roundMask rfl rfl ⟨Nat.le_of_ble_eq_true rfl, Nat.le_of_ble_eq_true rfl⟩) hB rfl hl.1 rfl (Nat.le_of_ble_eq_true rfl) dX0_decipher_29 ⟨Nat.zero_le _, Nat.zero_le _⟩ (fun H locs hB => ?_)
  refine lv_ixor S.1 S.2.1 dX0_decipher_32 ?_
  refine lv_topi (fun x_3 ex_3 => ?_)
  refine lv_istore_n S.1 S.2.1 dX0_decipher_33 rfl hl (by decide) rfl (fun ls hl => ?_)
  have hl : lv_has ls 6 [(2, .int x_3), (3, .int x_1), (5, .int x_2), (4, .int 3), (0, .int a), (1, .int b)] := hl
  refine lv_iinc (k := 3) (v := 2) S.1 S.2.1 dX0_decipher_34 hl rfl (by decide) (by decide) rfl (fun ls hl => ?_)
  have hl : lv_has ls 6 [(4, .int 2), (2, .int x_3), (3, .int x_1), (5, .int x_2), (0, .int a), (1, .int b)] := hl
  refine lv_goto (tgt := 13) S.1 S.2.1 dX0_decipher_37 (by decide) ?_
  refine lv_iload S.1 S.2.1 dX0_decipher_13 (lv_at hl 0 rfl) ?_
  refine lv_if_lt (tgt := 40) S.1 S.2.1 dX0_decipher_15 (by decide) (fun h => absurd h (by decide)) (fun h_15 => ?_)
  refine lv_iload_n S.1 S.2.1 dX0_decipher_18 rfl (lv_at hl 2 rfl) ?_
  refine lv_istore S.1 S.2.1 dX0_decipher_19 hl (by decide) rfl (fun ls hl => ?_)
  have hl : lv_has ls 6 [(5, .int x_1), (4, .int 2), (2, .int x_3), (3, .int x_1), (0, .int a), (1, .int b)] := hl
  refine lv_iload_n S.1 S.2.1 dX0_decipher_21 rfl (lv_at hl 2 rfl) ?_
  refine lv_istore_n S.1 S.2.1 dX0_decipher_22 rfl hl (by decide) rfl (fun ls hl => ?_)
  have hl : lv_has ls 6 [(3, .int x_3), (5, .int x_1), (4, .int 2), (2, .int x_3), (0, .int a), (1, .int b)] := hl
  refine lv_iload S.1 S.2.1 dX0_decipher_23 (lv_at hl 1 rfl) ?_
  refine lv_iload_n S.1 S.2.1 dX0_decipher_25 rfl (lv_at hl 4 rfl) ?_
  refine lv_iload S.1 S.2.1 dX0_decipher_26 (lv_at hl 2 rfl) ?_
  refine lv_iload_n S.1 S.2.1 dX0_decipher_28 rfl (lv_at hl 3 rfl) ?_
  refine kv_sP (As := [.int a, .int 2, .int x_3]) (rest := [.int x_1]) S (kc_CI_roundMask l D a 2 x_3  ) (kn_cS S kn_83 kn_84 kn_5 kn_85 kd_X0_roundMask rfl rfl ⟨Nat.le_of_ble_eq_true rfl, Nat.le_of_ble_eq_true rfl⟩) hB rfl hl.1 rfl (Nat.le_of_ble_eq_true rfl) dX0_decipher_29 ⟨Nat.zero_le _, Nat.zero_le _⟩ (fun H locs hB => ?_)
  refine lv_ixor S.1 S.2.1 dX0_decipher_32 ?_
  refine lv_topi (fun x_4 ex_4 => ?_)
  refine lv_istore_n S.1 S.2.1 dX0_decipher_33 rfl hl (by decide) rfl (fun ls hl => ?_)
  have hl : lv_has ls 6 [(2, .int x_4), (3, .int x_3), (5, .int x_1), (4, .int 2), (0, .int a), (1, .int b)] := hl
  refine lv_iinc (k := 3) (v := 1) S.1 S.2.1 dX0_decipher_34 hl rfl (by decide) (by decide) rfl (fun ls hl => ?_)
  have hl : lv_has ls 6 [(4, .int 1), (2, .int x_4), (3, .int x_3), (5, .int x_1), (0, .int a), (1, .int b)] := hl
  refine lv_goto (tgt := 13) S.1 S.2.1 dX0_decipher_37 (by decide) ?_
  refine lv_iload S.1 S.2.1 dX0_decipher_13 (lv_at hl 0 rfl) ?_
  refine lv_if_lt (tgt := 40) S.1 S.2.1 dX0_decipher_15 (by decide) (fun h => absurd h (by decide)) (fun h_15 => ?_)
  refine lv_iload_n S.1 S.2.1 dX0_decipher_18 rfl (lv_at hl 2 rfl) ?_
  refine lv_istore S.1 S.2.1 dX0_decipher_19 hl (by decide) rfl (fun ls hl => ?_)
  have hl : lv_has ls 6 [(5, .int x_3), (4, .int 1), (2, .int x_4), (3, .int x_3), (0, .int a), (1, .int b)] := hl
  refine lv_iload_n S.1 S.2.1 dX0_decipher_21 rfl (lv_at hl 2 rfl) ?_
  refine lv_istore_n S.1 S.2.1 dX0_decipher_22 rfl hl (by decide) rfl (fun ls hl => ?_)
  have hl : lv_has ls 6 [(3, .int x_4), (5, .int x_3), (4, .int 1), (2, .int x_4), (0, .int a), (1, .int b)] := hl
  refine lv_iload S.1 S.2.1 dX0_decipher_23 (lv_at hl 1 rfl) ?_
  refine lv_iload_n S.1 S.2.1 dX0_decipher_25 rfl (lv_at hl 4 rfl) ?_
  refine lv_iload S.1 S.2.1 dX0_decipher_26 (lv_at hl 2 rfl) ?_
  refine lv_iload_n S.1 S.2.1 dX0_decipher_28 rfl (lv_at hl 3 rfl) ?_
  refine kv_sP (As := [.int a, .int 1, .int x_4]) (rest := [.int x_3]) S (kc_CI_roundMask l D a 1 x_4  ) (kn_cS S kn_83 kn_84 kn_5 kn_85 kd_X0_roundMask rfl rfl ⟨Nat.le_of_ble_eq_true rfl, Nat.le_of_ble_eq_true rfl⟩) hB rfl hl.1 rfl (Nat.le_of_ble_eq_true rfl) dX0_decipher_29 ⟨Nat.zero_le _, Nat.zero_le _⟩ (fun H locs hB => ?_)
  refine lv_ixor S.1 S.2.1 dX0_decipher_32 ?_
  refine lv_topi (fun x_5 ex_5 => ?_)
  refine lv_istore_n S.1 S.2.1 dX0_decipher_33 rfl hl (by decide) rfl (fun ls hl => ?_)
  have hl : lv_has ls 6 [(2, .int x_5), (3, .int x_4), (5, .int x_3), (4, .int 1), (0, .int a), (1, .int b)] := hl
  refine lv_iinc (k := 3) (v := 0) S.1 S.2.1 dX0_decipher_34 hl rfl (by decide) (by decide) rfl (fun ls hl => ?_)
  have hl : lv_has ls 6 [(4, .int 0), (2, .int x_5), (3, .int x_4), (5, .int x_3), (0, .int a), (1, .int b)] := hl
  refine lv_goto (tgt := 13) S.1 S.2.1 dX0_decipher_37 (by decide) ?_
  refine lv_iload S.1 S.2.1 dX0_decipher_13 (lv_at hl 0 rfl) ?_
  refine lv_if_lt (tgt := 40) S.1 S.2.1 dX0_decipher_15 (by decide) (fun h => absurd h (by decide)) (fun h_15 => ?_)
  refine lv_iload_n S.1 S.2.1 dX0_decipher_18 rfl (lv_at hl 2 rfl) ?_
  refine lv_istore S.1 S.2.1 dX0_decipher_19 hl (by decide) rfl (fun ls hl => ?_)
  have hl : lv_has ls 6 [(5, .int x_4), (4, .int 0), (2, .int x_5), (3, .int x_4), (0, .int a), (1, .int b)] := hl
  refine lv_iload_n S.1 S.2.1 dX0_decipher_21 rfl (lv_at hl 2 rfl) ?_
  refine lv_istore_n S.1 S.2.1 dX0_decipher_22 rfl hl (by decide) rfl (fun ls hl => ?_)
  have hl : lv_has ls 6 [(3, .int x_5), (5, .int x_4), (4, .int 0), (2, .int x_5), (0, .int a), (1, .int b)] := hl
  refine lv_iload S.1 S.2.1 dX0_decipher_23 (lv_at hl 1 rfl) ?_
  refine lv_iload_n S.1 S.2.1 dX0_decipher_25 rfl (lv_at hl 4 rfl) ?_
  refine lv_iload S.1 S.2.1 dX0_decipher_26 (lv_at hl 2 rfl) ?_
  refine lv_iload_n S.1 S.2.1 dX0_decipher_28 rfl (lv_at hl 3 rfl) ?_
  refine kv_sP (As := [.int a, .int 0, .int x_5]) (rest := [.int x_4]) S (kc_CI_roundMask l D a 0 x_5  ) (kn_cS S kn_83 kn_84 kn_5 kn_85 kd_X0_roundMask rfl rfl ⟨Nat.le_of_ble_eq_true rfl, Nat.le_of_ble_eq_true rfl⟩) hB rfl hl.1 rfl (Nat.le_of_ble_eq_true rfl) dX0_decipher_29 ⟨Nat.zero_le _, Nat.zero_le _⟩ (fun H locs hB => ?_)
  refine lv_ixor S.1 S.2.1 dX0_decipher_32 ?_
  refine lv_topi (fun x_6 ex_6 => ?_)
  refine lv_istore_n S.1 S.2.1 dX0_decipher_33 rfl hl (by decide) rfl (fun ls hl => ?_)
  have hl : lv_has ls 6 [(2, .int x_6), (3, .int x_5), (5, .int x_4), (4, .int 0), (0, .int a), (1, .int b)] := hl
  refine lv_iinc (k := 3) (v := (-1)) S.1 S.2.1 dX0_decipher_34 hl rfl (by decide) (by decide) rfl (fun ls hl => ?_)
  have hl : lv_has ls 6 [(4, .int (-1)), (2, .int x_6), (3, .int x_5), (5, .int x_4), (0, .int a), (1, .int b)] := hl
  refine lv_goto (tgt := 13) S.1 S.2.1 dX0_decipher_37 (by decide) ?_
  refine lv_iload S.1 S.2.1 dX0_decipher_13 (lv_at hl 0 rfl) ?_
  refine lv_if_lt (tgt := 40) S.1 S.2.1 dX0_decipher_15 (by decide) (fun h_15 => ?_) (fun h => absurd h (by decide))
  refine lv_iload_n S.1 S.2.1 dX0_decipher_40 rfl (lv_at hl 1 rfl) ?_
  refine lv_bipush (v := 16) S.1 S.2.1 dX0_decipher_41 (by decide) ?_
  refine lv_ishl S.1 S.2.1 dX0_decipher_43 ?_
  refine lv_iload_n S.1 S.2.1 dX0_decipher_44 rfl (lv_at hl 2 rfl) ?_
  refine lv_ior S.1 S.2.1 dX0_decipher_45 ?_
  exact K _ _ _ _ _ _ hB (by subst_vars; rfl) (rfl) dX0_decipher_46

abbrev kr_CI_slotKey : Room := { frames := 1, cells := 0, slots := 0, locals := 22 }
set_option maxRecDepth 100000 in
set_option maxHeartbeats 4000000 in
theorem kc_CI_slotKey (l : Launch) (D : va_G) (a : Int32) (b : Int32) (j : Int32) : kv_I (fun _ => True) l yX0_slotKey wsX0_slotKey kr_CI_slotKey D [] [.int a, .int b, .int j] [] (kp_K a b j) [] := by
  refine kv_openI (cc := cX0_slotKey) (maxL := 6) (rt := .int) (by decide) rfl (rfl) (Nat.le_of_ble_eq_true rfl) ?_
  intro p e s m args below meth c A H locs ls Q S hl hB K
  have hl : lv_has ls 6 [(0, .int a), (1, .int b), (2, .int j)] := hl
  refine lv_iload_n S.1 S.2.1 dX0_slotKey_0 rfl (lv_at hl 0 rfl) ?_
  refine lv_iload_n S.1 S.2.1 dX0_slotKey_1 rfl (lv_at hl 1 rfl) ?_
  refine kv_sP (As := [.int a, .int b]) (rest := []) S (kc_CI_mix l D a b  ) (kn_cS S kn_62 kn_54 kn_5 kn_55 kd_X0_mix rfl rfl ⟨Nat.le_of_ble_eq_true rfl, Nat.le_of_ble_eq_true rfl⟩) hB rfl hl.1 rfl (Nat.le_of_ble_eq_true rfl) dX0_slotKey_2 ⟨Nat.zero_le _, Nat.zero_le _⟩ (fun H locs hB => ?_)
  refine lv_iload_n S.1 S.2.1 dX0_slotKey_5 rfl (lv_at hl 2 rfl) ?_
  refine kv_sP (As := [.int (kp_H a b), .int j]) (rest := []) S (kc_CI_mix l D (kp_H a b) j  ) (kn_cS S kn_62 kn_54 kn_5 kn_55 kd_X0_mix rfl rfl ⟨Nat.le_of_ble_eq_true rfl, Nat.le_of_ble_eq_true rfl⟩) hB rfl hl.1 rfl (Nat.le_of_ble_eq_true rfl) dX0_slotKey_6 ⟨Nat.zero_le _, Nat.zero_le _⟩ (fun H locs hB => ?_)
  refine lv_topi (fun x_1 ex_1 => ?_)
  refine lv_istore_n S.1 S.2.1 dX0_slotKey_9 rfl hl (by decide) rfl (fun ls hl => ?_)
  have hl : lv_has ls 6 [(3, .int x_1), (0, .int a), (1, .int b), (2, .int j)] := hl
  refine lv_iload_n S.1 S.2.1 dX0_slotKey_10 rfl (lv_at hl 0 rfl) ?_
  refine lv_istore S.1 S.2.1 dX0_slotKey_11 hl (by decide) rfl (fun ls hl => ?_)
  have hl : lv_has ls 6 [(4, .int x_1), (3, .int x_1), (0, .int a), (1, .int b), (2, .int j)] := hl
  refine lv_iconst (v := 0) S.1 S.2.1 dX0_slotKey_13 (by decide) ?_
  refine lv_istore S.1 S.2.1 dX0_slotKey_14 hl (by decide) rfl (fun ls hl => ?_)
  have hl : lv_has ls 6 [(5, .int 0), (4, .int x_1), (3, .int x_1), (0, .int a), (1, .int b), (2, .int j)] := hl
  refine lv_iload S.1 S.2.1 dX0_slotKey_16 (lv_at hl 0 rfl) ?_
  refine lv_bipush (v := 7) S.1 S.2.1 dX0_slotKey_18 (by decide) ?_
  refine kv_bge (x := 0) (y := 7) (tgt := 41) S (by omega) (by omega) dX0_slotKey_20 (by decide) (fun h => absurd h (by omega)) (fun h_20 => ?_)
  refine lv_iload_n S.1 S.2.1 dX0_slotKey_23 rfl (lv_at hl 3 rfl) ?_
  refine lv_iload_n S.1 S.2.1 dX0_slotKey_24 rfl (lv_at hl 2 rfl) ?_
  refine kv_sP (As := [.int a, .int x_1]) (rest := []) S (kc_CI_mix l D a x_1  ) (kn_cS S kn_62 kn_54 kn_5 kn_55 kd_X0_mix rfl rfl ⟨Nat.le_of_ble_eq_true rfl, Nat.le_of_ble_eq_true rfl⟩) hB rfl hl.1 rfl (Nat.le_of_ble_eq_true rfl) dX0_slotKey_25 ⟨Nat.zero_le _, Nat.zero_le _⟩ (fun H locs hB => ?_)
  refine lv_topi (fun x_2 ex_2 => ?_)
  refine lv_istore_n S.1 S.2.1 dX0_slotKey_28 rfl hl (by decide) rfl (fun ls hl => ?_)
  have hl : lv_has ls 6 [(3, .int x_2), (5, .int 0), (4, .int x_1), (0, .int a), (1, .int b), (2, .int j)] := hl
  refine lv_iload S.1 S.2.1 dX0_slotKey_29 (lv_at hl 2 rfl) ?_
  refine lv_iload_n S.1 S.2.1 dX0_slotKey_31 rfl (lv_at hl 0 rfl) ?_
  refine lv_ixor S.1 S.2.1 dX0_slotKey_32 ?_
  refine lv_topi (fun x_3 ex_3 => ?_)
  refine lv_istore S.1 S.2.1 dX0_slotKey_33 hl (by decide) rfl (fun ls hl => ?_)
  have hl : lv_has ls 6 [(4, .int x_3), (3, .int x_2), (5, .int 0), (0, .int a), (1, .int b), (2, .int j)] := hl
  refine lv_iinc (k := 2) (v := 1) S.1 S.2.1 dX0_slotKey_35 hl rfl (by decide) (by decide) rfl (fun ls hl => ?_)
  have hl : lv_has ls 6 [(5, .int 1), (4, .int x_3), (3, .int x_2), (0, .int a), (1, .int b), (2, .int j)] := hl
  refine lv_goto (tgt := 16) S.1 S.2.1 dX0_slotKey_38 (by decide) ?_
  refine lv_iload S.1 S.2.1 dX0_slotKey_16 (lv_at hl 0 rfl) ?_
  refine lv_bipush (v := 7) S.1 S.2.1 dX0_slotKey_18 (by decide) ?_
  refine kv_bge (x := 1) (y := 7) (tgt := 41) S (by omega) (by omega) dX0_slotKey_20 (by decide) (fun h => absurd h (by omega)) (fun h_20 => ?_)
  refine lv_iload_n S.1 S.2.1 dX0_slotKey_23 rfl (lv_at hl 3 rfl) ?_
  refine lv_iload_n S.1 S.2.1 dX0_slotKey_24 rfl (lv_at hl 2 rfl) ?_
  refine kv_sP (As := [.int a, .int x_2]) (rest := []) S (kc_CI_mix l D a x_2  ) (kn_cS S kn_62 kn_54 kn_5 kn_55 kd_X0_mix rfl rfl ⟨Nat.le_of_ble_eq_true rfl, Nat.le_of_ble_eq_true rfl⟩) hB rfl hl.1 rfl (Nat.le_of_ble_eq_true rfl) dX0_slotKey_25 ⟨Nat.zero_le _, Nat.zero_le _⟩ (fun H locs hB => ?_)
  refine lv_topi (fun x_4 ex_4 => ?_)
  refine lv_istore_n S.1 S.2.1 dX0_slotKey_28 rfl hl (by decide) rfl (fun ls hl => ?_)
  have hl : lv_has ls 6 [(3, .int x_4), (5, .int 1), (4, .int x_3), (0, .int a), (1, .int b), (2, .int j)] := hl
  refine lv_iload S.1 S.2.1 dX0_slotKey_29 (lv_at hl 2 rfl) ?_
  refine lv_iload_n S.1 S.2.1 dX0_slotKey_31 rfl (lv_at hl 0 rfl) ?_
  refine lv_ixor S.1 S.2.1 dX0_slotKey_32 ?_
  refine lv_topi (fun x_5 ex_5 => ?_)
  refine lv_istore S.1 S.2.1 dX0_slotKey_33 hl (by decide) rfl (fun ls hl => ?_)
  have hl : lv_has ls 6 [(4, .int x_5), (3, .int x_4), (5, .int 1), (0, .int a), (1, .int b), (2, .int j)] := hl
  refine lv_iinc (k := 2) (v := 2) S.1 S.2.1 dX0_slotKey_35 hl rfl (by decide) (by decide) rfl (fun ls hl => ?_)
  have hl : lv_has ls 6 [(5, .int 2), (4, .int x_5), (3, .int x_4), (0, .int a), (1, .int b), (2, .int j)] := hl
  refine lv_goto (tgt := 16) S.1 S.2.1 dX0_slotKey_38 (by decide) ?_
  refine lv_iload S.1 S.2.1 dX0_slotKey_16 (lv_at hl 0 rfl) ?_
  refine lv_bipush (v := 7) S.1 S.2.1 dX0_slotKey_18 (by decide) ?_
  refine kv_bge (x := 2) (y := 7) (tgt := 41) S (by omega) (by omega) dX0_slotKey_20 (by decide) (fun h => absurd h (by omega)) (fun h_20 => ?_)
  refine lv_iload_n S.1 S.2.1 dX0_slotKey_23 rfl (lv_at hl 3 rfl) ?_
  refine lv_iload_n S.1 S.2.1 dX0_slotKey_24 rfl (lv_at hl 2 rfl) ?_
  refine kv_sP (As := [.int a, .int x_4]) (rest := []) S (kc_CI_mix l D a x_4  ) (kn_cS S kn_62 kn_54 kn_5 kn_55 kd_X0_mix rfl rfl ⟨Nat.le_of_ble_eq_true rfl, Nat.le_of_ble_eq_true rfl⟩) hB rfl hl.1 rfl (Nat.le_of_ble_eq_true rfl) dX0_slotKey_25 ⟨Nat.zero_le _, Nat.zero_le _⟩ (fun H locs hB => ?_)
  refine lv_topi (fun x_6 ex_6 => ?_)
  refine lv_istore_n S.1 S.2.1 dX0_slotKey_28 rfl hl (by decide) rfl (fun ls hl => ?_)
  have hl : lv_has ls 6 [(3, .int x_6), (5, .int 2), (4, .int x_5), (0, .int a), (1, .int b), (2, .int j)] := hl
  refine lv_iload S.1 S.2.1 dX0_slotKey_29 (lv_at hl 2 rfl) ?_
  refine lv_iload_n S.1 S.2.1 dX0_slotKey_31 rfl (lv_at hl 0 rfl) ?_
  refine lv_ixor S.1 S.2.1 dX0_slotKey_32 ?_
  refine lv_topi (fun x_7 ex_7 => ?_)
  refine lv_istore S.1 S.2.1 dX0_slotKey_33 hl (by decide) rfl (fun ls hl => ?_)
  have hl : lv_has ls 6 [(4, .int x_7), (3, .int x_6), (5, .int 2), (0, .int a), (1, .int b), (2, .int j)] := hl
  refine lv_iinc (k := 2) (v := 3) S.1 S.2.1 dX0_slotKey_35 hl rfl (by decide) (by decide) rfl (fun ls hl => ?_)
  have hl : lv_has ls 6 [(5, .int 3), (4, .int x_7), (3, .int x_6), (0, .int a), (1, .int b), (2, .int j)] := hl
  refine lv_goto (tgt := 16) S.1 S.2.1 dX0_slotKey_38 (by decide) ?_
  refine lv_iload S.1 S.2.1 dX0_slotKey_16 (lv_at hl 0 rfl) ?_
  refine lv_bipush (v := 7) S.1 S.2.1 dX0_slotKey_18 (by decide) ?_
  refine kv_bge (x := 3) (y := 7) (tgt := 41) S (by omega) (by omega) dX0_slotKey_20 (by decide) (fun h => absurd h (by omega)) (fun h_20 => ?_)
  refine lv_iload_n S.1 S.2.1 dX0_slotKey_23 rfl (lv_at hl 3 rfl) ?_
  refine lv_iload_n S.1 S.2.1 dX0_slotKey_24 rfl (lv_at hl 2 rfl) ?_
  refine kv_sP (As := [.int a, .int x_6]) (rest := []) S (kc_CI_mix l D a x_6  ) (kn_cS S kn_62 kn_54 kn_5 kn_55 kd_X0_mix rfl rfl ⟨Nat.le_of_ble_eq_true rfl, Nat.le_of_ble_eq_true rfl⟩) hB rfl hl.1 rfl (Nat.le_of_ble_eq_true rfl) dX0_slotKey_25 ⟨Nat.zero_le _, Nat.zero_le _⟩ (fun H locs hB => ?_)
  refine lv_topi (fun x_8 ex_8 => ?_)
  refine lv_istore_n S.1 S.2.1 dX0_slotKey_28 rfl hl (by decide) rfl (fun ls hl => ?_)
  have hl : lv_has ls 6 [(3, .int x_8), (5, .int 3), (4, .int x_7), (0, .int a), (1, .int b), (2, .int j)] := hl
  refine lv_iload S.1 S.2.1 dX0_slotKey_29 (lv_at hl 2 rfl) ?_
  refine lv_iload_n S.1 S.2.1 dX0_slotKey_31 rfl (lv_at hl 0 rfl) ?_
  refine lv_ixor S.1 S.2.1 dX0_slotKey_32 ?_
  refine lv_topi (fun x_9 ex_9 => ?_)
  refine lv_istore S.1 S.2.1 dX0_slotKey_33 hl (by decide) rfl (fun ls hl => ?_)
  have hl : lv_has ls 6 [(4, .int x_9), (3, .int x_8), (5, .int 3), (0, .int a), (1, .int b), (2, .int j)] := hl
  refine lv_iinc (k := 2) (v := 4) S.1 S.2.1 dX0_slotKey_35 hl rfl (by decide) (by decide) rfl (fun ls hl => ?_)
  have hl : lv_has ls 6 [(5, .int 4), (4, .int x_9), (3, .int x_8), (0, .int a), (1, .int b), (2, .int j)] := hl
  refine lv_goto (tgt := 16) S.1 S.2.1 dX0_slotKey_38 (by decide) ?_
  refine lv_iload S.1 S.2.1 dX0_slotKey_16 (lv_at hl 0 rfl) ?_
  refine lv_bipush (v := 7) S.1 S.2.1 dX0_slotKey_18 (by decide) ?_
  refine kv_bge (x := 4) (y := 7) (tgt := 41) S (by omega) (by omega) dX0_slotKey_20 (by decide) (fun h => absurd h (by omega)) (fun h_20 => ?_)
  refine lv_iload_n S.1 S.2.1 dX0_slotKey_23 rfl (lv_at hl 3 rfl) ?_
  refine lv_iload_n S.1 S.2.1 dX0_slotKey_24 rfl (lv_at hl 2 rfl) ?_
  refine kv_sP (As := [.int a, .int x_8]) (rest := []) S (kc_CI_mix l D a x_8  ) (kn_cS S kn_62 kn_54 kn_5 kn_55 kd_X0_mix rfl rfl ⟨Nat.le_of_ble_eq_true rfl, Nat.le_of_ble_eq_true rfl⟩) hB rfl hl.1 rfl (Nat.le_of_ble_eq_true rfl) dX0_slotKey_25 ⟨Nat.zero_le _, Nat.zero_le _⟩ (fun H locs hB => ?_)
  refine lv_topi (fun x_10 ex_10 => ?_)
  refine lv_istore_n S.1 S.2.1 dX0_slotKey_28 rfl hl (by decide) rfl (fun ls hl => ?_)
  have hl : lv_has ls 6 [(3, .int x_10), (5, .int 4), (4, .int x_9), (0, .int a), (1, .int b), (2, .int j)] := hl
  refine lv_iload S.1 S.2.1 dX0_slotKey_29 (lv_at hl 2 rfl) ?_
  refine lv_iload_n S.1 S.2.1 dX0_slotKey_31 rfl (lv_at hl 0 rfl) ?_
  refine lv_ixor S.1 S.2.1 dX0_slotKey_32 ?_
  refine lv_topi (fun x_11 ex_11 => ?_)
  refine lv_istore S.1 S.2.1 dX0_slotKey_33 hl (by decide) rfl (fun ls hl => ?_)
  have hl : lv_has ls 6 [(4, .int x_11), (3, .int x_10), (5, .int 4), (0, .int a), (1, .int b), (2, .int j)] := hl
  refine lv_iinc (k := 2) (v := 5) S.1 S.2.1 dX0_slotKey_35 hl rfl (by decide) (by decide) rfl (fun ls hl => ?_)
  have hl : lv_has ls 6 [(5, .int 5), (4, .int x_11), (3, .int x_10), (0, .int a), (1, .int b), (2, .int j)] := hl
  refine lv_goto (tgt := 16) S.1 S.2.1 dX0_slotKey_38 (by decide) ?_
  refine lv_iload S.1 S.2.1 dX0_slotKey_16 (lv_at hl 0 rfl) ?_
  refine lv_bipush (v := 7) S.1 S.2.1 dX0_slotKey_18 (by decide) ?_
  refine kv_bge (x := 5) (y := 7) (tgt := 41) S (by omega) (by omega) dX0_slotKey_20 (by decide) (fun h => absurd h (by omega)) (fun h_20 => ?_)
  refine lv_iload_n S.1 S.2.1 dX0_slotKey_23 rfl (lv_at hl 3 rfl) ?_
  refine lv_iload_n S.1 S.2.1 dX0_slotKey_24 rfl (lv_at hl 2 rfl) ?_
  refine kv_sP (As := [.int a, .int x_10]) (rest := []) S (kc_CI_mix l D a x_10  ) (kn_cS S kn_62 kn_54 kn_5 kn_55 kd_X0_mix rfl rfl ⟨Nat.le_of_ble_eq_true rfl, Nat.le_of_ble_eq_true rfl⟩) hB rfl hl.1 rfl (Nat.le_of_ble_eq_true rfl) dX0_slotKey_25 ⟨Nat.zero_le _, Nat.zero_le _⟩ (fun H locs hB => ?_)
  refine lv_topi (fun x_12 ex_12 => ?_)
  refine lv_istore_n S.1 S.2.1 dX0_slotKey_28 rfl hl (by decide) rfl (fun ls hl => ?_)
  have hl : lv_has ls 6 [(3, .int x_12), (5, .int 5), (4, .int x_11), (0, .int a), (1, .int b), (2, .int j)] := hl
  refine lv_iload S.1 S.2.1 dX0_slotKey_29 (lv_at hl 2 rfl) ?_
  refine lv_iload_n S.1 S.2.1 dX0_slotKey_31 rfl (lv_at hl 0 rfl) ?_
  refine lv_ixor S.1 S.2.1 dX0_slotKey_32 ?_
  refine lv_topi (fun x_13 ex_13 => ?_)
  refine lv_istore S.1 S.2.1 dX0_slotKey_33 hl (by decide) rfl (fun ls hl => ?_)
  have hl : lv_has ls 6 [(4, .int x_13), (3, .int x_12), (5, .int 5), (0, .int a), (1, .int b), (2, .int j)] := hl
  refine lv_iinc (k := 2) (v := 6) S.1 S.2.1 dX0_slotKey_35 hl rfl (by decide) (by decide) rfl (fun ls hl => ?_)
  have hl : lv_has ls 6 [(5, .int 6), (4, .int x_13), (3, .int x_12), (0, .int a), (1, .int b), (2, .int j)] := hl
  refine lv_goto (tgt := 16) S.1 S.2.1 dX0_slotKey_38 (by decide) ?_
  refine lv_iload S.1 S.2.1 dX0_slotKey_16 (lv_at hl 0 rfl) ?_
  refine lv_bipush (v := 7) S.1 S.2.1 dX0_slotKey_18 (by decide) ?_
  refine kv_bge (x := 6) (y := 7) (tgt := 41) S (by omega) (by omega) dX0_slotKey_20 (by decide) (fun h => absurd h (by omega)) (fun h_20 => ?_)
  refine lv_iload_n S.1 S.2.1 dX0_slotKey_23 rfl (lv_at hl 3 rfl) ?_
  refine lv_iload_n S.1 S.2.1 dX0_slotKey_24 rfl (lv_at hl 2 rfl) ?_
  refine kv_sP (As := [.int a, .int x_12]) (rest := []) S (kc_CI_mix l D a x_12  ) (kn_cS S kn_62 kn_54 kn_5 kn_55 kd_X0_mix rfl rfl ⟨Nat.le_of_ble_eq_true rfl, Nat.le_of_ble_eq_true rfl⟩) hB rfl hl.1 rfl (Nat.le_of_ble_eq_true rfl) dX0_slotKey_25 ⟨Nat.zero_le _, Nat.zero_le _⟩ (fun H locs hB => ?_)
  refine lv_topi (fun x_14 ex_14 => ?_)
  refine lv_istore_n S.1 S.2.1 dX0_slotKey_28 rfl hl (by decide) rfl (fun ls hl => ?_)
  have hl : lv_has ls 6 [(3, .int x_14), (5, .int 6), (4, .int x_13), (0, .int a), (1, .int b), (2, .int j)] := hl
  refine lv_iload S.1 S.2.1 dX0_slotKey_29 (lv_at hl 2 rfl) ?_
  refine lv_iload_n S.1 S.2.1 dX0_slotKey_31 rfl (lv_at hl 0 rfl) ?_
  refine lv_ixor S.1 S.2.1 dX0_slotKey_32 ?_
  refine lv_topi (fun x_15 ex_15 => ?_)
  refine lv_istore S.1 S.2.1 dX0_slotKey_33 hl (by decide) rfl (fun ls hl => ?_)
  have hl : lv_has ls 6 [(4, .int x_15), (3, .int x_14), (5, .int 6), (0, .int a), (1, .int b), (2, .int j)] := hl
  refine lv_iinc (k := 2) (v := 7) S.1 S.2.1 dX0_slotKey_35 hl rfl (by decide) (by decide) rfl (fun ls hl => ?_)
  have hl : lv_has ls 6 [(5, .int 7), (4, .int x_15), (3, .int x_14), (0, .int a), (1, .int b), (2, .int j)] := hl
  refine lv_goto (tgt := 16) S.1 S.2.1 dX0_slotKey_38 (by decide) ?_
  refine lv_iload S.1 S.2.1 dX0_slotKey_16 (lv_at hl 0 rfl) ?_
  refine lv_bipush (v := 7) S.1 S.2.1 dX0_slotKey_18 (by decide) ?_
  refine kv_bge (x := 7) (y := 7) (tgt := 41) S (by omega) (by omega) dX0_slotKey_20 (by decide) (fun h_20 => ?_) (fun h => absurd h (by omega))
  refine lv_iload S.1 S.2.1 dX0_slotKey_41 (lv_at hl 1 rfl) ?_
  exact K _ _ _ _ _ _ hB (by subst_vars; rfl) (rfl) dX0_slotKey_43

abbrev kr_CI_digest : Room := { frames := 1, cells := 0, slots := 0, locals := 22 }
set_option maxRecDepth 100000 in
set_option maxHeartbeats 4000000 in
theorem kc_CI_digest (l : Launch) (D : va_G) (a : Int32) (b : Int32) (z : Int32) : kv_I (fun _ => True) l yX0_digest wsX0_digest kr_CI_digest D [] [.int a, .int b, .int z] [] (kp_dg a b z) [] := by
  refine kv_openI (cc := cX0_digest) (maxL := 3) (rt := .int) (by decide) rfl (rfl) (Nat.le_of_ble_eq_true rfl) ?_
  intro p e s m args below meth c A H locs ls Q S hl hB K
  have hl : lv_has ls 3 [(0, .int a), (1, .int b), (2, .int z)] := hl
  refine lv_iload_n S.1 S.2.1 dX0_digest_0 rfl (lv_at hl 0 rfl) ?_
  refine lv_iload_n S.1 S.2.1 dX0_digest_1 rfl (lv_at hl 2 rfl) ?_
  refine kv_sP (As := [.int a, .int z]) (rest := []) S (kc_CI_mix l D a z  ) (kn_cS S kn_62 kn_54 kn_5 kn_55 kd_X0_mix rfl rfl ⟨Nat.le_of_ble_eq_true rfl, Nat.le_of_ble_eq_true rfl⟩) hB rfl hl.1 rfl (Nat.le_of_ble_eq_true rfl) dX0_digest_2 ⟨Nat.zero_le _, Nat.zero_le _⟩ (fun H locs hB => ?_)
  refine lv_iload_n S.1 S.2.1 dX0_digest_5 rfl (lv_at hl 1 rfl) ?_
  refine kv_sP (As := [.int (kp_H a z), .int b]) (rest := []) S (kc_CI_mix l D (kp_H a z) b  ) (kn_cS S kn_62 kn_54 kn_5 kn_55 kd_X0_mix rfl rfl ⟨Nat.le_of_ble_eq_true rfl, Nat.le_of_ble_eq_true rfl⟩) hB rfl hl.1 rfl (Nat.le_of_ble_eq_true rfl) dX0_digest_6 ⟨Nat.zero_le _, Nat.zero_le _⟩ (fun H locs hB => ?_)
  exact K _ _ _ _ _ _ hB (rfl) (rfl) dX0_digest_9

abbrev kr_CI_tweak : Room := { frames := 3, cells := 0, slots := 0, locals := 69 }
set_option maxRecDepth 100000 in
set_option maxHeartbeats 4000000 in
theorem kc_CI_tweak (l : Launch) (D : va_G) (b : Int32) (z : Int32) (n0 : Nat) (hn : n0 < 1000) : kv_I (fun _ => True) l yX0_tweak wsX0_tweak kr_CI_tweak D [] [.int b, .int z, .int (nI n0)] [] (kp_T b z n0) [] := by
  refine kv_openI (cc := cX0_tweak) (maxL := 5) (rt := .int) (by decide) rfl (rfl) (Nat.le_of_ble_eq_true rfl) ?_
  intro p e s m args below meth c A H locs ls Q S hl hB K
  have hl : lv_has ls 5 [(0, .int b), (1, .int z), (2, .int (nI n0))] := hl
  refine lv_iload_n S.1 S.2.1 dX0_tweak_0 rfl (lv_at hl 0 rfl) ?_
  refine lv_iload_n S.1 S.2.1 dX0_tweak_1 rfl (lv_at hl 1 rfl) ?_
  refine kv_sP (As := [.int b, .int z]) (rest := []) S (kc_CI_encipher l D b z  ) (kn_cS S kn_95 kn_80 kn_5 kn_81 kd_X0_encipher rfl rfl ⟨Nat.le_of_ble_eq_true rfl, Nat.le_of_ble_eq_true rfl⟩) hB rfl hl.1 rfl (Nat.le_of_ble_eq_true rfl) dX0_tweak_2 ⟨Nat.zero_le _, Nat.zero_le _⟩ (fun H locs hB => ?_)
  refine lv_topi (fun x_1 ex_1 => ?_)
  refine lv_istore_n S.1 S.2.1 dX0_tweak_5 rfl hl (by decide) rfl (fun ls hl => ?_)
  have hl : lv_has ls 5 [(3, .int x_1), (0, .int b), (1, .int z), (2, .int (nI n0))] := hl
  refine lv_iconst (v := 0) S.1 S.2.1 dX0_tweak_6 (by decide) ?_
  refine lv_istore S.1 S.2.1 dX0_tweak_7 hl (by decide) rfl (fun ls hl => ?_)
  have hl : lv_has ls 5 [(4, .int 0), (3, .int x_1), (0, .int b), (1, .int z), (2, .int (nI n0))] := hl
  have loop9 : ∀ (n : Nat) (j : Nat) (t : Int32) (H : Heap) (locs : List Loc) (ls : Array Slot), (j + n = n0) → (kp_ts n t = kp_T b z n0) → lv_has ls 5 [(4, .int (nI j)), (3, .int t), (2, .int (nI n0)), (0, .int b), (1, .int z)] → kv_B (fun _ => True) D [] A s [] H locs → W p l e kr_CI_tweak s m args below meth c H locs 0 0 Q (F0 m 9 ls []) := by
    intro n
    induction n with
    | zero =>
      intro j t H locs ls hj hT hl hB
      refine lv_iload S.1 S.2.1 dX0_tweak_9 (lv_at hl 0 rfl) ?_
      refine lv_iload_n S.1 S.2.1 dX0_tweak_11 rfl (lv_at hl 2 rfl) ?_
      refine kv_bge (x := j) (y := n0) (tgt := 37) S (by omega) (by omega) dX0_tweak_12 (by decide) (fun h_12 => ?_) (fun h => absurd h (by omega))
      refine lv_iload_n S.1 S.2.1 dX0_tweak_37 rfl (lv_at hl 1 rfl) ?_
      exact K _ _ _ _ _ _ hB (hT) (rfl) dX0_tweak_38
    | succ n ih9 =>
      intro j t H locs ls hj hT hl hB
      refine lv_iload S.1 S.2.1 dX0_tweak_9 (lv_at hl 0 rfl) ?_
      refine lv_iload_n S.1 S.2.1 dX0_tweak_11 rfl (lv_at hl 2 rfl) ?_
      refine kv_bge (x := j) (y := n0) (tgt := 37) S (by omega) (by omega) dX0_tweak_12 (by decide) (fun h => absurd h (by omega)) (fun h_12 => ?_)
      refine lv_iload_n S.1 S.2.1 dX0_tweak_15 rfl (lv_at hl 1 rfl) ?_
      refine lv_iconst (v := 1) S.1 S.2.1 dX0_tweak_16 (by decide) ?_
      refine lv_ishl S.1 S.2.1 dX0_tweak_17 ?_
      refine lv_iload_n S.1 S.2.1 dX0_tweak_18 rfl (lv_at hl 1 rfl) ?_
      refine lv_if_ge (tgt := 28) S.1 S.2.1 dX0_tweak_19 (by decide) (fun h_19 => ?_) (fun h_19 => ?_)
      · skip
        refine lv_iconst (v := 0) S.1 S.2.1 dX0_tweak_28 (by decide) ?_
        refine lv_ixor S.1 S.2.1 dX0_tweak_29 ?_
        refine lv_topi (fun x_2 ex_2 => ?_)
        refine lv_istore_n S.1 S.2.1 dX0_tweak_30 rfl hl (by decide) rfl (fun ls hl => ?_)
        have hl : lv_has ls 5 [(3, .int x_2), (4, .int (nI j)), (2, .int (nI n0)), (0, .int b), (1, .int z)] := hl
        refine lv_iinc (k := 1) (v := nI (j + 1)) S.1 S.2.1 dX0_tweak_31 hl rfl (nI_1 j) (by decide) rfl (fun ls hl => ?_)
        have hl : lv_has ls 5 [(4, .int (nI (j + 1))), (3, .int x_2), (2, .int (nI n0)), (0, .int b), (1, .int z)] := hl
        refine lv_goto (tgt := 9) S.1 S.2.1 dX0_tweak_34 (by decide) ?_
        exact ih9 (j + 1) x_2 _ _ _ (by omega) (by rw [← hT, ex_2]; show _ = kp_ts n (kp_t1 t); first | rw [kp_t1, if_neg (Int32.not_lt.mpr h_19)] | rw [kp_t1, if_pos (Int32.not_le.mp h_19)]) (lv_sub hl [0, 1, 2, 3, 4] rfl) hB
      · skip
        refine lv_sipush (v := 141) S.1 S.2.1 dX0_tweak_22 (by decide) ?_
        refine lv_goto (tgt := 29) S.1 S.2.1 dX0_tweak_25 (by decide) ?_
        refine lv_ixor S.1 S.2.1 dX0_tweak_29 ?_
        refine lv_topi (fun x_3 ex_3 => ?_)
        refine lv_istore_n S.1 S.2.1 dX0_tweak_30 rfl hl (by decide) rfl (fun ls hl => ?_)
        have hl : lv_has ls 5 [(3, .int x_3), (4, .int (nI j)), (2, .int (nI n0)), (0, .int b), (1, .int z)] := hl
        refine lv_iinc (k := 1) (v := nI (j + 1)) S.1 S.2.1 dX0_tweak_31 hl rfl (nI_1 j) (by decide) rfl (fun ls hl => ?_)
        have hl : lv_has ls 5 [(4, .int (nI (j + 1))), (3, .int x_3), (2, .int (nI n0)), (0, .int b), (1, .int z)] := hl
        refine lv_goto (tgt := 9) S.1 S.2.1 dX0_tweak_34 (by decide) ?_
        exact ih9 (j + 1) x_3 _ _ _ (by omega) (by rw [← hT, ex_3]; show _ = kp_ts n (kp_t1 t); first | rw [kp_t1, if_neg (Int32.not_lt.mpr h_19)] | rw [kp_t1, if_pos (Int32.not_le.mp h_19)]) (lv_sub hl [0, 1, 2, 3, 4] rfl) hB
  exact loop9 n0 0 x_1 _ _ _ (by omega) (by rw [ex_1]; rfl) (lv_sub hl [0, 1, 4, 2, 3] rfl) hB

abbrev kr_CI_encipherSectorWord : Room := { frames := 4, cells := 0, slots := 0, locals := 93 }
set_option maxRecDepth 100000 in
set_option maxHeartbeats 4000000 in
theorem kc_CI_encipherSectorWord (l : Launch) (D : va_G) (a : Int32) (b : Int32) (z : Int32) (n0 : Nat) (x : Int32) (hn : n0 < 1000) : kv_I (fun _ => True) l yX0_encipherSectorWord wsX0_encipherSectorWord kr_CI_encipherSectorWord D [] [.int a, .int b, .int z, .int (nI n0), .int x] [] (kp_hide a b z n0 x) [] := by
  refine kv_openI (cc := cX0_encipherSectorWord) (maxL := 6) (rt := .int) (by decide) rfl (rfl) (Nat.le_of_ble_eq_true rfl) ?_
  intro p e s m args below meth c A H locs ls Q S hl hB K
  have hl : lv_has ls 6 [(0, .int a), (1, .int b), (2, .int z), (3, .int (nI n0)), (4, .int x)] := hl
  refine lv_iload_n S.1 S.2.1 dX0_encipherSectorWord_0 rfl (lv_at hl 1 rfl) ?_
  refine lv_iload_n S.1 S.2.1 dX0_encipherSectorWord_1 rfl (lv_at hl 2 rfl) ?_
  refine lv_iload_n S.1 S.2.1 dX0_encipherSectorWord_2 rfl (lv_at hl 3 rfl) ?_
  refine kv_sP (As := [.int b, .int z, .int (nI n0)]) (rest := []) S (kc_CI_tweak l D b z n0  (by omega)) (kn_cS S kn_92 kn_93 kn_5 kn_94 kd_X0_tweak rfl rfl ⟨Nat.le_of_ble_eq_true rfl, Nat.le_of_ble_eq_true rfl⟩) hB rfl hl.1 rfl (Nat.le_of_ble_eq_true rfl) dX0_encipherSectorWord_3 ⟨Nat.zero_le _, Nat.zero_le _⟩ (fun H locs hB => ?_)
  refine lv_topi (fun x_1 ex_1 => ?_)
  refine lv_istore S.1 S.2.1 dX0_encipherSectorWord_6 hl (by decide) rfl (fun ls hl => ?_)
  have hl : lv_has ls 6 [(5, .int x_1), (0, .int a), (1, .int b), (2, .int z), (3, .int (nI n0)), (4, .int x)] := hl
  refine lv_iload_n S.1 S.2.1 dX0_encipherSectorWord_8 rfl (lv_at hl 1 rfl) ?_
  refine lv_iload S.1 S.2.1 dX0_encipherSectorWord_9 (lv_at hl 5 rfl) ?_
  refine lv_iload S.1 S.2.1 dX0_encipherSectorWord_11 (lv_at hl 0 rfl) ?_
  refine lv_ixor S.1 S.2.1 dX0_encipherSectorWord_13 ?_
  refine kv_sP (As := [.int a, .int (x ^^^ x_1)]) (rest := []) S (kc_CI_encipher l D a (x ^^^ x_1)  ) (kn_cS S kn_95 kn_80 kn_5 kn_81 kd_X0_encipher rfl rfl ⟨Nat.le_of_ble_eq_true rfl, Nat.le_of_ble_eq_true rfl⟩) hB rfl hl.1 rfl (Nat.le_of_ble_eq_true rfl) dX0_encipherSectorWord_14 ⟨Nat.zero_le _, Nat.zero_le _⟩ (fun H locs hB => ?_)
  refine lv_iload S.1 S.2.1 dX0_encipherSectorWord_17 (lv_at hl 0 rfl) ?_
  refine lv_ixor S.1 S.2.1 dX0_encipherSectorWord_19 ?_
  exact K _ _ _ _ _ _ hB (by subst_vars; rfl) (rfl) dX0_encipherSectorWord_20

abbrev kr_CI_decipherSectorWord : Room := { frames := 4, cells := 0, slots := 0, locals := 93 }
set_option maxRecDepth 100000 in
set_option maxHeartbeats 4000000 in
theorem kc_CI_decipherSectorWord (l : Launch) (D : va_G) (a : Int32) (b : Int32) (z : Int32) (n0 : Nat) (x : Int32) (hn : n0 < 1000) : kv_I (fun _ => True) l yX0_decipherSectorWord wsX0_decipherSectorWord kr_CI_decipherSectorWord D [] [.int a, .int b, .int z, .int (nI n0), .int x] [] (kp_show a b z n0 x) [] := by
  refine kv_openI (cc := cX0_decipherSectorWord) (maxL := 6) (rt := .int) (by decide) rfl (rfl) (Nat.le_of_ble_eq_true rfl) ?_
  intro p e s m args below meth c A H locs ls Q S hl hB K
  have hl : lv_has ls 6 [(0, .int a), (1, .int b), (2, .int z), (3, .int (nI n0)), (4, .int x)] := hl
  refine lv_iload_n S.1 S.2.1 dX0_decipherSectorWord_0 rfl (lv_at hl 1 rfl) ?_
  refine lv_iload_n S.1 S.2.1 dX0_decipherSectorWord_1 rfl (lv_at hl 2 rfl) ?_
  refine lv_iload_n S.1 S.2.1 dX0_decipherSectorWord_2 rfl (lv_at hl 3 rfl) ?_
  refine kv_sP (As := [.int b, .int z, .int (nI n0)]) (rest := []) S (kc_CI_tweak l D b z n0  (by omega)) (kn_cS S kn_92 kn_93 kn_5 kn_94 kd_X0_tweak rfl rfl ⟨Nat.le_of_ble_eq_true rfl, Nat.le_of_ble_eq_true rfl⟩) hB rfl hl.1 rfl (Nat.le_of_ble_eq_true rfl) dX0_decipherSectorWord_3 ⟨Nat.zero_le _, Nat.zero_le _⟩ (fun H locs hB => ?_)
  refine lv_topi (fun x_1 ex_1 => ?_)
  refine lv_istore S.1 S.2.1 dX0_decipherSectorWord_6 hl (by decide) rfl (fun ls hl => ?_)
  have hl : lv_has ls 6 [(5, .int x_1), (0, .int a), (1, .int b), (2, .int z), (3, .int (nI n0)), (4, .int x)] := hl
  refine lv_iload_n S.1 S.2.1 dX0_decipherSectorWord_8 rfl (lv_at hl 1 rfl) ?_
  refine lv_iload S.1 S.2.1 dX0_decipherSectorWord_9 (lv_at hl 5 rfl) ?_
  refine lv_iload S.1 S.2.1 dX0_decipherSectorWord_11 (lv_at hl 0 rfl) ?_
  refine lv_ixor S.1 S.2.1 dX0_decipherSectorWord_13 ?_
  refine kv_sP (As := [.int a, .int (x ^^^ x_1)]) (rest := []) S (kc_CI_decipher l D a (x ^^^ x_1)  ) (kn_cS S kn_208 kn_158 kn_5 kn_159 kd_X0_decipher rfl rfl ⟨Nat.le_of_ble_eq_true rfl, Nat.le_of_ble_eq_true rfl⟩) hB rfl hl.1 rfl (Nat.le_of_ble_eq_true rfl) dX0_decipherSectorWord_14 ⟨Nat.zero_le _, Nat.zero_le _⟩ (fun H locs hB => ?_)
  refine lv_iload S.1 S.2.1 dX0_decipherSectorWord_17 (lv_at hl 0 rfl) ?_
  refine lv_ixor S.1 S.2.1 dX0_decipherSectorWord_19 ?_
  exact K _ _ _ _ _ _ hB (by subst_vars; rfl) (rfl) dX0_decipherSectorWord_20
