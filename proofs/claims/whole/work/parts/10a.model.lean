abbrev kr_MO_h : Room := { frames := 0, cells := 0, slots := 0, locals := 0 }
set_option maxRecDepth 100000 in
set_option maxHeartbeats 4000000 in
theorem kc_MO_h (l : Launch) (D : va_G) (a : Int32) (b : Int32) : kv_I (fun _ => True) l yX4_h wsX4_h kr_MO_h D [] [.int a, .int b] [] (kp_H a b) [] := by
  refine kv_openI (cc := cX4_h) (maxL := 3) (rt := .int) (by decide) rfl (rfl) (Nat.le_of_ble_eq_true rfl) ?_
  intro p e s m args below meth c A H locs ls Q S hl hB K
  have hl : lv_has ls 3 [(0, .int a), (1, .int b)] := hl
  refine lv_iload_n S.1 S.2.1 dX4_h_0 rfl (lv_at hl 0 rfl) ?_
  refine lv_ldc (v := 1517746329) S.1 S.2.1 S.2.2.2.1 (S.2.2.2.2 _ (List.mem_cons_of_mem _ kn_275)) dX4_h_1 ?_
  refine lv_ixor S.1 S.2.1 dX4_h_3 ?_
  refine lv_ldc (v := 916191069) S.1 S.2.1 S.2.2.2.1 (S.2.2.2.2 _ (List.mem_cons_of_mem _ kn_276)) dX4_h_4 ?_
  refine lv_imul S.1 S.2.1 dX4_h_6 ?_
  refine lv_iload_n S.1 S.2.1 dX4_h_7 rfl (lv_at hl 1 rfl) ?_
  refine lv_iadd S.1 S.2.1 dX4_h_8 ?_
  refine lv_topi (fun x_1 ex_1 => ?_)
  refine lv_istore_n S.1 S.2.1 dX4_h_9 rfl hl (by decide) rfl (fun ls hl => ?_)
  have hl : lv_has ls 3 [(2, .int x_1), (0, .int a), (1, .int b)] := hl
  refine lv_iload_n S.1 S.2.1 dX4_h_10 rfl (lv_at hl 0 rfl) ?_
  refine lv_iload_n S.1 S.2.1 dX4_h_11 rfl (lv_at hl 0 rfl) ?_
  refine lv_bipush (v := 15) S.1 S.2.1 dX4_h_12 (by decide) ?_
  refine lv_iushr (v := kv_us x_1 15) S.1 S.2.1 dX4_h_14 rfl ?_
  refine lv_ixor S.1 S.2.1 dX4_h_15 ?_
  refine lv_topi (fun x_2 ex_2 => ?_)
  refine lv_istore_n S.1 S.2.1 dX4_h_16 rfl hl (by decide) rfl (fun ls hl => ?_)
  have hl : lv_has ls 3 [(2, .int x_2), (0, .int a), (1, .int b)] := hl
  refine lv_iload_n S.1 S.2.1 dX4_h_17 rfl (lv_at hl 0 rfl) ?_
  refine lv_ldc (v := 1406938949) S.1 S.2.1 S.2.2.2.1 (S.2.2.2.2 _ (List.mem_cons_of_mem _ kn_277)) dX4_h_18 ?_
  refine lv_imul S.1 S.2.1 dX4_h_20 ?_
  refine lv_topi (fun x_3 ex_3 => ?_)
  refine lv_istore_n S.1 S.2.1 dX4_h_21 rfl hl (by decide) rfl (fun ls hl => ?_)
  have hl : lv_has ls 3 [(2, .int x_3), (0, .int a), (1, .int b)] := hl
  refine lv_iload_n S.1 S.2.1 dX4_h_22 rfl (lv_at hl 0 rfl) ?_
  refine lv_iload_n S.1 S.2.1 dX4_h_23 rfl (lv_at hl 0 rfl) ?_
  refine lv_bipush (v := 13) S.1 S.2.1 dX4_h_24 (by decide) ?_
  refine lv_iushr (v := kv_us x_3 13) S.1 S.2.1 dX4_h_26 rfl ?_
  refine lv_ixor S.1 S.2.1 dX4_h_27 ?_
  exact K _ _ _ _ _ _ hB (by subst_vars; rfl) (rfl) dX4_h_28

abbrev kr_MO_round : Room := { frames := 1, cells := 0, slots := 0, locals := 22 }
set_option maxRecDepth 100000 in
set_option maxHeartbeats 4000000 in
theorem kc_MO_round (l : Launch) (D : va_G) (a : Int32) (j : Int32) (b : Int32) : kv_I (fun _ => True) l yX4_round wsX4_round kr_MO_round D [] [.int a, .int j, .int b] [] (kp_R a j b) [] := by
  refine kv_openI (cc := cX4_round) (maxL := 4) (rt := .int) (by decide) rfl (rfl) (Nat.le_of_ble_eq_true rfl) ?_
  intro p e s m args below meth c A H locs ls Q S hl hB K
  have hl : lv_has ls 4 [(0, .int a), (1, .int j), (2, .int b)] := hl
  refine lv_iload_n S.1 S.2.1 dX4_round_0 rfl (lv_at hl 0 rfl) ?_
  refine lv_iload_n S.1 S.2.1 dX4_round_1 rfl (lv_at hl 1 rfl) ?_
  refine kv_sP (As := [.int a, .int j]) (rest := []) S (kc_MO_h l D a j  ) (kn_cS S kn_272 kn_273 kn_3 kn_274 kd_X4_h rfl rfl ⟨Nat.le_of_ble_eq_true rfl, Nat.le_of_ble_eq_true rfl⟩) hB rfl hl.1 rfl (Nat.le_of_ble_eq_true rfl) dX4_round_2 ⟨Nat.zero_le _, Nat.zero_le _⟩ (fun H locs hB => ?_)
  refine lv_topi (fun x_1 ex_1 => ?_)
  refine lv_istore_n S.1 S.2.1 dX4_round_5 rfl hl (by decide) rfl (fun ls hl => ?_)
  have hl : lv_has ls 4 [(3, .int x_1), (0, .int a), (1, .int j), (2, .int b)] := hl
  refine lv_iload_n S.1 S.2.1 dX4_round_6 rfl (lv_at hl 0 rfl) ?_
  refine lv_iload_n S.1 S.2.1 dX4_round_7 rfl (lv_at hl 3 rfl) ?_
  refine kv_sP (As := [.int x_1, .int b]) (rest := []) S (kc_MO_h l D x_1 b  ) (kn_cS S kn_272 kn_273 kn_3 kn_274 kd_X4_h rfl rfl ⟨Nat.le_of_ble_eq_true rfl, Nat.le_of_ble_eq_true rfl⟩) hB rfl hl.1 rfl (Nat.le_of_ble_eq_true rfl) dX4_round_8 ⟨Nat.zero_le _, Nat.zero_le _⟩ (fun H locs hB => ?_)
  refine lv_ldc (v := 65535) S.1 S.2.1 S.2.2.2.1 (S.2.2.2.2 _ (List.mem_cons_of_mem _ kn_293)) dX4_round_11 ?_
  refine lv_iand S.1 S.2.1 dX4_round_13 ?_
  exact K _ _ _ _ _ _ hB (by subst_vars; rfl) (rfl) dX4_round_14

abbrev kr_MO_enc : Room := { frames := 2, cells := 0, slots := 0, locals := 45 }
set_option maxRecDepth 100000 in
set_option maxHeartbeats 4000000 in
theorem kc_MO_enc (l : Launch) (D : va_G) (a : Int32) (b : Int32) : kv_I (fun _ => True) l yX4_enc wsX4_enc kr_MO_enc D [] [.int a, .int b] [] (kp_E a b) [] := by
  refine kv_openI (cc := cX4_enc) (maxL := 6) (rt := .int) (by decide) rfl (rfl) (Nat.le_of_ble_eq_true rfl) ?_
  intro p e s m args below meth c A H locs ls Q S hl hB K
  have hl : lv_has ls 6 [(0, .int a), (1, .int b)] := hl
  refine lv_iload_n S.1 S.2.1 dX4_enc_0 rfl (lv_at hl 1 rfl) ?_
  refine lv_bipush (v := 16) S.1 S.2.1 dX4_enc_1 (by decide) ?_
  refine lv_iushr (v := kv_us b 16) S.1 S.2.1 dX4_enc_3 rfl ?_
  refine lv_topi (fun x_1 ex_1 => ?_)
  refine lv_istore_n S.1 S.2.1 dX4_enc_4 rfl hl (by decide) rfl (fun ls hl => ?_)
  have hl : lv_has ls 6 [(2, .int x_1), (0, .int a), (1, .int b)] := hl
  refine lv_iload_n S.1 S.2.1 dX4_enc_5 rfl (lv_at hl 2 rfl) ?_
  refine lv_ldc (v := 65535) S.1 S.2.1 S.2.2.2.1 (S.2.2.2.2 _ (List.mem_cons_of_mem _ kn_293)) dX4_enc_6 ?_
  refine lv_iand S.1 S.2.1 dX4_enc_8 ?_
  refine lv_topi (fun x_2 ex_2 => ?_)
  refine lv_istore_n S.1 S.2.1 dX4_enc_9 rfl hl (by decide) rfl (fun ls hl => ?_)
  have hl : lv_has ls 6 [(3, .int x_2), (2, .int x_1), (0, .int a), (1, .int b)] := hl
  refine lv_iconst (v := 0) S.1 S.2.1 dX4_enc_10 (by decide) ?_
  refine lv_istore S.1 S.2.1 dX4_enc_11 hl (by decide) rfl (fun ls hl => ?_)
  have hl : lv_has ls 6 [(4, .int 0), (3, .int x_2), (2, .int x_1), (0, .int a), (1, .int b)] := hl
  refine lv_iload S.1 S.2.1 dX4_enc_13 (lv_at hl 0 rfl) ?_
  refine lv_iconst (v := 4) S.1 S.2.1 dX4_enc_15 (by decide) ?_
  refine kv_bge (x := 0) (y := 4) (tgt := 41) S (by omega) (by omega) dX4_enc_16 (by decide) (fun h => absurd h (by omega)) (fun h_16 => ?_)
  refine lv_iload_n S.1 S.2.1 dX4_enc_19 rfl (lv_at hl 2 rfl) ?_
  refine lv_iload_n S.1 S.2.1 dX4_enc_20 rfl (lv_at hl 3 rfl) ?_
  refine lv_iload S.1 S.2.1 dX4_enc_21 (lv_at hl 0 rfl) ?_
  refine lv_iload_n S.1 S.2.1 dX4_enc_23 rfl (lv_at hl 1 rfl) ?_
  refine kv_sP (As := [.int a, .int 0, .int x_2]) (rest := [.int x_1]) S (kc_MO_round l D a 0 x_2  ) (kn_cS S kn_294 kn_295 kn_3 kn_296 kd_X4_round rfl rfl ⟨Nat.le_of_ble_eq_true rfl, Nat.le_of_ble_eq_true rfl⟩) hB rfl hl.1 rfl (Nat.le_of_ble_eq_true rfl) dX4_enc_24 ⟨Nat.zero_le _, Nat.zero_le _⟩ (fun H locs hB => ?_)
  refine lv_ixor S.1 S.2.1 dX4_enc_27 ?_
  refine lv_topi (fun x_3 ex_3 => ?_)
  refine lv_istore S.1 S.2.1 dX4_enc_28 hl (by decide) rfl (fun ls hl => ?_)
  have hl : lv_has ls 6 [(5, .int x_3), (4, .int 0), (3, .int x_2), (2, .int x_1), (0, .int a), (1, .int b)] := hl
  refine lv_iload_n S.1 S.2.1 dX4_enc_30 rfl (lv_at hl 2 rfl) ?_
  refine lv_istore_n S.1 S.2.1 dX4_enc_31 rfl hl (by decide) rfl (fun ls hl => ?_)
  have hl : lv_has ls 6 [(2, .int x_2), (5, .int x_3), (4, .int 0), (3, .int x_2), (0, .int a), (1, .int b)] := hl
  refine lv_iload S.1 S.2.1 dX4_enc_32 (lv_at hl 1 rfl) ?_
  refine lv_istore_n S.1 S.2.1 dX4_enc_34 rfl hl (by decide) rfl (fun ls hl => ?_)
  have hl : lv_has ls 6 [(3, .int x_3), (2, .int x_2), (5, .int x_3), (4, .int 0), (0, .int a), (1, .int b)] := hl
  refine lv_iinc (k := 3) (v := 1) S.1 S.2.1 dX4_enc_35 hl rfl (by decide) (by decide) rfl (fun ls hl => ?_)
  have hl : lv_has ls 6 [(4, .int 1), (3, .int x_3), (2, .int x_2), (5, .int x_3), (0, .int a), (1, .int b)] := hl
  refine lv_goto (tgt := 13) S.1 S.2.1 dX4_enc_38 (by decide) ?_
  refine lv_iload S.1 S.2.1 dX4_enc_13 (lv_at hl 0 rfl) ?_
  refine lv_iconst (v := 4) S.1 S.2.1 dX4_enc_15 (by decide) ?_
  refine kv_bge (x := 1) (y := 4) (tgt := 41) S (by omega) (by omega) dX4_enc_16 (by decide) (fun h => absurd h (by omega)) (fun h_16 => ?_)
  refine lv_iload_n S.1 S.2.1 dX4_enc_19 rfl (lv_at hl 2 rfl) ?_
  refine lv_iload_n S.1 S.2.1 dX4_enc_20 rfl (lv_at hl 4 rfl) ?_
  refine lv_iload S.1 S.2.1 dX4_enc_21 (lv_at hl 0 rfl) ?_
  refine lv_iload_n S.1 S.2.1 dX4_enc_23 rfl (lv_at hl 1 rfl) ?_
  refine kv_sP (As := [.int a, .int 1, .int x_3]) (rest := [.int x_2]) S (kc_MO_round l D a 1 x_3  ) (kn_cS S kn_294 kn_295 kn_3 kn_296 kd_X4_round rfl rfl ⟨Nat.le_of_ble_eq_true rfl, Nat.le_of_ble_eq_true rfl⟩) hB rfl hl.1 rfl (Nat.le_of_ble_eq_true rfl) dX4_enc_24 ⟨Nat.zero_le _, Nat.zero_le _⟩ (fun H locs hB => ?_)
  refine lv_ixor S.1 S.2.1 dX4_enc_27 ?_
  refine lv_topi (fun x_4 ex_4 => ?_)
  refine lv_istore S.1 S.2.1 dX4_enc_28 hl (by decide) rfl (fun ls hl => ?_)
  have hl : lv_has ls 6 [(5, .int x_4), (4, .int 1), (3, .int x_3), (2, .int x_2), (0, .int a), (1, .int b)] := hl
  refine lv_iload_n S.1 S.2.1 dX4_enc_30 rfl (lv_at hl 2 rfl) ?_
  refine lv_istore_n S.1 S.2.1 dX4_enc_31 rfl hl (by decide) rfl (fun ls hl => ?_)
  have hl : lv_has ls 6 [(2, .int x_3), (5, .int x_4), (4, .int 1), (3, .int x_3), (0, .int a), (1, .int b)] := hl
  refine lv_iload S.1 S.2.1 dX4_enc_32 (lv_at hl 1 rfl) ?_
  refine lv_istore_n S.1 S.2.1 dX4_enc_34 rfl hl (by decide) rfl (fun ls hl => ?_)
  have hl : lv_has ls 6 [(3, .int x_4), (2, .int x_3), (5, .int x_4), (4, .int 1), (0, .int a), (1, .int b)] := hl
  refine lv_iinc (k := 3) (v := 2) S.1 S.2.1 dX4_enc_35 hl rfl (by decide) (by decide) rfl (fun ls hl => ?_)
  have hl : lv_has ls 6 [(4, .int 2), (3, .int x_4), (2, .int x_3), (5, .int x_4), (0, .int a), (1, .int b)] := hl
  refine lv_goto (tgt := 13) S.1 S.2.1 dX4_enc_38 (by decide) ?_
  refine lv_iload S.1 S.2.1 dX4_enc_13 (lv_at hl 0 rfl) ?_
  refine lv_iconst (v := 4) S.1 S.2.1 dX4_enc_15 (by decide) ?_
  refine kv_bge (x := 2) (y := 4) (tgt := 41) S (by omega) (by omega) dX4_enc_16 (by decide) (fun h => absurd h (by omega)) (fun h_16 => ?_)
  refine lv_iload_n S.1 S.2.1 dX4_enc_19 rfl (lv_at hl 2 rfl) ?_
  refine lv_iload_n S.1 S.2.1 dX4_enc_20 rfl (lv_at hl 4 rfl) ?_
  refine lv_iload S.1 S.2.1 dX4_enc_21 (lv_at hl 0 rfl) ?_
  refine lv_iload_n S.1 S.2.1 dX4_enc_23 rfl (lv_at hl 1 rfl) ?_
  refine kv_sP (As := [.int a, .int 2, .int x_4]) (rest := [.int x_3]) S (kc_MO_round l D a 2 x_4  ) (kn_cS S kn_294 kn_295 kn_3 kn_296 kd_X4_round rfl rfl ⟨Nat.le_of_ble_eq_true rfl, Nat.le_of_ble_eq_true rfl⟩) hB rfl hl.1 rfl (Nat.le_of_ble_eq_true rfl) dX4_enc_24 ⟨Nat.zero_le _, Nat.zero_le _⟩ (fun H locs hB => ?_)
  refine lv_ixor S.1 S.2.1 dX4_enc_27 ?_
  refine lv_topi (fun x_5 ex_5 => ?_)
  refine lv_istore S.1 S.2.1 dX4_enc_28 hl (by decide) rfl (fun ls hl => ?_)
  have hl : lv_has ls 6 [(5, .int x_5), (4, .int 2), (3, .int x_4), (2, .int x_3), (0, .int a), (1, .int b)] := hl
  refine lv_iload_n S.1 S.2.1 dX4_enc_30 rfl (lv_at hl 2 rfl) ?_
  refine lv_istore_n S.1 S.2.1 dX4_enc_31 rfl hl (by decide) rfl (fun ls hl => ?_)
  have hl : lv_has ls 6 [(2, .int x_4), (5, .int x_5), (4, .int 2), (3, .int x_4), (0, .int a), (1, .int b)] := hl
  refine lv_iload S.1 S.2.1 dX4_enc_32 (lv_at hl 1 rfl) ?_
  refine lv_istore_n S.1 S.2.1 dX4_enc_34 rfl hl (by decide) rfl (fun ls hl => ?_)
  have hl : lv_has ls 6 [(3, .int x_5), (2, .int x_4), (5, .int x_5), (4, .int 2), (0, .int a), (1, .int b)] := hl
  refine lv_iinc (k := 3) (v := 3) S.1 S.2.1 dX4_enc_35 hl rfl (by decide) (by decide) rfl (fun ls hl => ?_)
  have hl : lv_has ls 6 [(4, .int 3), (3, .int x_5), (2, .int x_4), (5, .int x_5), (0, .int a), (1, .int b)] := hl
  refine lv_goto (tgt := 13) S.1 S.2.1 dX4_enc_38 (by decide) ?_
  refine lv_iload S.1 S.2.1 dX4_enc_13 (lv_at hl 0 rfl) ?_
  refine lv_iconst (v := 4) S.1 S.2.1 dX4_enc_15 (by decide) ?_
  refine kv_bge (x := 3) (y := 4) (tgt := 41) S (by omega) (by omega) dX4_enc_16 (by decide) (fun h => absurd h (by omega)) (fun h_16 => ?_)
  refine lv_iload_n S.1 S.2.1 dX4_enc_19 rfl (lv_at hl 2 rfl) ?_
  refine lv_iload_n S.1 S.2.1 dX4_enc_20 rfl (lv_at hl 4 rfl) ?_
  refine lv_iload S.1 S.2.1 dX4_enc_21 (lv_at hl 0 rfl) ?_
  refine lv_iload_n S.1 S.2.1 dX4_enc_23 rfl (lv_at hl 1 rfl) ?_
  refine kv_sP (As := [.int a, .int 3, .int x_5]) (rest := [.int x_4]) S (kc_MO_round l D a 3 x_5  ) (kn_cS S kn_294 kn_295 kn_3 kn_296 kd_X4_round rfl rfl ⟨Nat.le_of_ble_eq_true rfl, Nat.le_of_ble_eq_true rfl⟩) hB rfl hl.1 rfl (Nat.le_of_ble_eq_true rfl) dX4_enc_24 ⟨Nat.zero_le _, Nat.zero_le _⟩ (fun H locs hB => ?_)
  refine lv_ixor S.1 S.2.1 dX4_enc_27 ?_
  refine lv_topi (fun x_6 ex_6 => ?_)
  refine lv_istore S.1 S.2.1 dX4_enc_28 hl (by decide) rfl (fun ls hl => ?_)
  have hl : lv_has ls 6 [(5, .int x_6), (4, .int 3), (3, .int x_5), (2, .int x_4), (0, .int a), (1, .int b)] := hl
  refine lv_iload_n S.1 S.2.1 dX4_enc_30 rfl (lv_at hl 2 rfl) ?_
  refine lv_istore_n S.1 S.2.1 dX4_enc_31 rfl hl (by decide) rfl (fun ls hl => ?_)
  have hl : lv_has ls 6 [(2, .int x_5), (5, .int x_6), (4, .int 3), (3, .int x_5), (0, .int a), (1, .int b)] := hl
  refine lv_iload S.1 S.2.1 dX4_enc_32 (lv_at hl 1 rfl) ?_
  refine lv_istore_n S.1 S.2.1 dX4_enc_34 rfl hl (by decide) rfl (fun ls hl => ?_)
  have hl : lv_has ls 6 [(3, .int x_6), (2, .int x_5), (5, .int x_6), (4, .int 3), (0, .int a), (1, .int b)] := hl
  refine lv_iinc (k := 3) (v := 4) S.1 S.2.1 dX4_enc_35 hl rfl (by decide) (by decide) rfl (fun ls hl => ?_)
  have hl : lv_has ls 6 [(4, .int 4), (3, .int x_6), (2, .int x_5), (5, .int x_6), (0, .int a), (1, .int b)] := hl
  refine lv_goto (tgt := 13) S.1 S.2.1 dX4_enc_38 (by decide) ?_
  refine lv_iload S.1 S.2.1 dX4_enc_13 (lv_at hl 0 rfl) ?_
  refine lv_iconst (v := 4) S.1 S.2.1 dX4_enc_15 (by decide) ?_
  refine kv_bge (x := 4) (y := 4) (tgt := 41) S (by omega) (by omega) dX4_enc_16 (by decide) (fun h_16 => ?_) (fun h => absurd h (by omega))
  refine lv_iload_n S.1 S.2.1 dX4_enc_41 rfl (lv_at hl 2 rfl) ?_
  refine lv_bipush (v := 16) S.1 S.2.1 dX4_enc_42 (by decide) ?_
  refine lv_ishl S.1 S.2.1 dX4_enc_44 ?_
  refine lv_iload_n S.1 S.2.1 dX4_enc_45 rfl (lv_at hl 1 rfl) ?_
  refine lv_ior S.1 S.2.1 dX4_enc_46 ?_
  exact K _ _ _ _ _ _ hB (by subst_vars; rfl) (rfl) dX4_enc_47

abbrev kr_MO_dec : Room := { frames := 2, cells := 0, slots := 0, locals := 45 }
set_option maxRecDepth 100000 in
set_option maxHeartbeats 4000000 in
theorem kc_MO_dec (l : Launch) (D : va_G) (a : Int32) (b : Int32) : kv_I (fun _ => True) l yX4_dec wsX4_dec kr_MO_dec D [] [.int a, .int b] [] (kp_D a b) [] := by
  refine kv_openI (cc := cX4_dec) (maxL := 6) (rt := .int) (by decide) rfl (rfl) (Nat.le_of_ble_eq_true rfl) ?_
  intro p e s m args below meth c A H locs ls Q S hl hB K
  have hl : lv_has ls 6 [(0, .int a), (1, .int b)] := hl
  refine lv_iload_n S.1 S.2.1 dX4_dec_0 rfl (lv_at hl 1 rfl) ?_
  refine lv_bipush (v := 16) S.1 S.2.1 dX4_dec_1 (by decide) ?_
  refine lv_iushr (v := kv_us b 16) S.1 S.2.1 dX4_dec_3 rfl ?_
  refine lv_topi (fun x_1 ex_1 => ?_)
  refine lv_istore_n S.1 S.2.1 dX4_dec_4 rfl hl (by decide) rfl (fun ls hl => ?_)
  have hl : lv_has ls 6 [(2, .int x_1), (0, .int a), (1, .int b)] := hl
  refine lv_iload_n S.1 S.2.1 dX4_dec_5 rfl (lv_at hl 2 rfl) ?_
  refine lv_ldc (v := 65535) S.1 S.2.1 S.2.2.2.1 (S.2.2.2.2 _ (List.mem_cons_of_mem _ kn_293)) dX4_dec_6 ?_
  refine lv_iand S.1 S.2.1 dX4_dec_8 ?_
  refine lv_topi (fun x_2 ex_2 => ?_)
  refine lv_istore_n S.1 S.2.1 dX4_dec_9 rfl hl (by decide) rfl (fun ls hl => ?_)
  have hl : lv_has ls 6 [(3, .int x_2), (2, .int x_1), (0, .int a), (1, .int b)] := hl
  refine lv_iconst (v := 3) S.1 S.2.1 dX4_dec_10 (by decide) ?_
  refine lv_istore S.1 S.2.1 dX4_dec_11 hl (by decide) rfl (fun ls hl => ?_)
  have hl : lv_has ls 6 [(4, .int 3), (3, .int x_2), (2, .int x_1), (0, .int a), (1, .int b)] := hl
  refine lv_iload S.1 S.2.1 dX4_dec_13 (lv_at hl 0 rfl) ?_
  refine lv_if_lt (tgt := 40) S.1 S.2.1 dX4_dec_15 (by decide) (fun h => absurd h (by decide)) (fun h_15 => ?_)
  refine lv_iload_n S.1 S.2.1 dX4_dec_18 rfl (lv_at hl 1 rfl) ?_
  refine lv_iload_n S.1 S.2.1 dX4_dec_19 rfl (lv_at hl 3 rfl) ?_
  refine lv_iload S.1 S.2.1 dX4_dec_20 (lv_at hl 0 rfl) ?_
  refine lv_iload_n S.1 S.2.1 dX4_dec_22 rfl (lv_at hl 2 rfl) ?_
  refine kv_sP (As := [.int a, .int 3, .int x_1]) (rest := [.int x_2]) S (kc_MO_round l D a 3 x_1  ) (kn_cS S kn_294 kn_295 kn_3 kn_296 kd_X4_round rfl rfl ⟨Nat.le_of_ble_eq_true rfl, Nat.le_of_ble_eq_true rfl⟩) hB rfl hl.1 rfl (Nat.le_of_ble_eq_true rfl) dX4_dec_23 ⟨Nat.zero_le _, Nat.zero_le _⟩ (fun H locs hB => ?_)
  refine lv_ixor S.1 S.2.1 dX4_dec_26 ?_
  refine lv_topi (fun x_3 ex_3 => ?_)
  refine lv_istore S.1 S.2.1 dX4_dec_27 hl (by decide) rfl (fun ls hl => ?_)
  have hl : lv_has ls 6 [(5, .int x_3), (4, .int 3), (3, .int x_2), (2, .int x_1), (0, .int a), (1, .int b)] := hl
  refine lv_iload_n S.1 S.2.1 dX4_dec_29 rfl (lv_at hl 3 rfl) ?_
  refine lv_istore_n S.1 S.2.1 dX4_dec_30 rfl hl (by decide) rfl (fun ls hl => ?_)
  have hl : lv_has ls 6 [(3, .int x_1), (5, .int x_3), (4, .int 3), (2, .int x_1), (0, .int a), (1, .int b)] := hl
  refine lv_iload S.1 S.2.1 dX4_dec_31 (lv_at hl 1 rfl) ?_
  refine lv_istore_n S.1 S.2.1 dX4_dec_33 rfl hl (by decide) rfl (fun ls hl => ?_)
  have hl : lv_has ls 6 [(2, .int x_3), (3, .int x_1), (5, .int x_3), (4, .int 3), (0, .int a), (1, .int b)] := hl
  refine lv_iinc (k := 3) (v := 2) S.1 S.2.1 dX4_dec_34 hl rfl (by decide) (by decide) rfl (fun ls hl => ?_)
  have hl : lv_has ls 6 [(4, .int 2), (2, .int x_3), (3, .int x_1), (5, .int x_3), (0, .int a), (1, .int b)] := hl
  refine lv_goto (tgt := 13) S.1 S.2.1 dX4_dec_37 (by decide) ?_
  refine lv_iload S.1 S.2.1 dX4_dec_13 (lv_at hl 0 rfl) ?_
  refine lv_if_lt (tgt := 40) S.1 S.2.1 dX4_dec_15 (by decide) (fun h => absurd h (by decide)) (fun h_15 => ?_)
  refine lv_iload_n S.1 S.2.1 dX4_dec_18 rfl (lv_at hl 2 rfl) ?_
  refine lv_iload_n S.1 S.2.1 dX4_dec_19 rfl (lv_at hl 4 rfl) ?_
  refine lv_iload S.1 S.2.1 dX4_dec_20 (lv_at hl 0 rfl) ?_
  refine lv_iload_n S.1 S.2.1 dX4_dec_22 rfl (lv_at hl 1 rfl) ?_
  refine kv_sP (As := [.int a, .int 2, .int x_3]) (rest := [.int x_1]) S (kc_MO_round l D a 2 x_3  ) (kn_cS S kn_294 kn_295 kn_3 kn_296 kd_X4_round rfl rfl ⟨Nat.le_of_ble_eq_true rfl, Nat.le_of_ble_eq_true rfl⟩) hB rfl hl.1 rfl (Nat.le_of_ble_eq_true rfl) dX4_dec_23 ⟨Nat.zero_le _, Nat.zero_le _⟩ (fun H locs hB => ?_)
  refine lv_ixor S.1 S.2.1 dX4_dec_26 ?_
  refine lv_topi (fun x_4 ex_4 => ?_)
  refine lv_istore S.1 S.2.1 dX4_dec_27 hl (by decide) rfl (fun ls hl => ?_)
  have hl : lv_has ls 6 [(5, .int x_4), (4, .int 2), (2, .int x_3), (3, .int x_1), (0, .int a), (1, .int b)] := hl
  refine lv_iload_n S.1 S.2.1 dX4_dec_29 rfl (lv_at hl 2 rfl) ?_
  refine lv_istore_n S.1 S.2.1 dX4_dec_30 rfl hl (by decide) rfl (fun ls hl => ?_)
  have hl : lv_has ls 6 [(3, .int x_3), (5, .int x_4), (4, .int 2), (2, .int x_3), (0, .int a), (1, .int b)] := hl
  refine lv_iload S.1 S.2.1 dX4_dec_31 (lv_at hl 1 rfl) ?_
  refine lv_istore_n S.1 S.2.1 dX4_dec_33 rfl hl (by decide) rfl (fun ls hl => ?_)
  have hl : lv_has ls 6 [(2, .int x_4), (3, .int x_3), (5, .int x_4), (4, .int 2), (0, .int a), (1, .int b)] := hl
  refine lv_iinc (k := 3) (v := 1) S.1 S.2.1 dX4_dec_34 hl rfl (by decide) (by decide) rfl (fun ls hl => ?_)
  have hl : lv_has ls 6 [(4, .int 1), (2, .int x_4), (3, .int x_3), (5, .int x_4), (0, .int a), (1, .int b)] := hl
  refine lv_goto (tgt := 13) S.1 S.2.1 dX4_dec_37 (by decide) ?_
  refine lv_iload S.1 S.2.1 dX4_dec_13 (lv_at hl 0 rfl) ?_
  refine lv_if_lt (tgt := 40) S.1 S.2.1 dX4_dec_15 (by decide) (fun h => absurd h (by decide)) (fun h_15 => ?_)
  refine lv_iload_n S.1 S.2.1 dX4_dec_18 rfl (lv_at hl 2 rfl) ?_
  refine lv_iload_n S.1 S.2.1 dX4_dec_19 rfl (lv_at hl 4 rfl) ?_
  refine lv_iload S.1 S.2.1 dX4_dec_20 (lv_at hl 0 rfl) ?_
  refine lv_iload_n S.1 S.2.1 dX4_dec_22 rfl (lv_at hl 1 rfl) ?_
  refine kv_sP (As := [.int a, .int 1, .int x_4]) (rest := [.int x_3]) S (kc_MO_round l D a 1 x_4  ) (kn_cS S kn_294 kn_295 kn_3 kn_296 kd_X4_round rfl rfl ⟨Nat.le_of_ble_eq_true rfl, Nat.le_of_ble_eq_true rfl⟩) hB rfl hl.1 rfl (Nat.le_of_ble_eq_true rfl) dX4_dec_23 ⟨Nat.zero_le _, Nat.zero_le _⟩ (fun H locs hB => ?_)
  refine lv_ixor S.1 S.2.1 dX4_dec_26 ?_
  refine lv_topi (fun x_5 ex_5 => ?_)
  refine lv_istore S.1 S.2.1 dX4_dec_27 hl (by decide) rfl (fun ls hl => ?_)
  have hl : lv_has ls 6 [(5, .int x_5), (4, .int 1), (2, .int x_4), (3, .int x_3), (0, .int a), (1, .int b)] := hl
  refine lv_iload_n S.1 S.2.1 dX4_dec_29 rfl (lv_at hl 2 rfl) ?_
  refine lv_istore_n S.1 S.2.1 dX4_dec_30 rfl hl (by decide) rfl (fun ls hl => ?_)
  have hl : lv_has ls 6 [(3, .int x_4), (5, .int x_5), (4, .int 1), (2, .int x_4), (0, .int a), (1, .int b)] := hl
  refine lv_iload S.1 S.2.1 dX4_dec_31 (lv_at hl 1 rfl) ?_
  refine lv_istore_n S.1 S.2.1 dX4_dec_33 rfl hl (by decide) rfl (fun ls hl => ?_)
  have hl : lv_has ls 6 [(2, .int x_5), (3, .int x_4), (5, .int x_5), (4, .int 1), (0, .int a), (1, .int b)] := hl
  refine lv_iinc (k := 3) (v := 0) S.1 S.2.1 dX4_dec_34 hl rfl (by decide) (by decide) rfl (fun ls hl => ?_)
  have hl : lv_has ls 6 [(4, .int 0), (2, .int x_5), (3, .int x_4), (5, .int x_5), (0, .int a), (1, .int b)] := hl
  refine lv_goto (tgt := 13) S.1 S.2.1 dX4_dec_37 (by decide) ?_
  refine lv_iload S.1 S.2.1 dX4_dec_13 (lv_at hl 0 rfl) ?_
  refine lv_if_lt (tgt := 40) S.1 S.2.1 dX4_dec_15 (by decide) (fun h => absurd h (by decide)) (fun h_15 => ?_)
  refine lv_iload_n S.1 S.2.1 dX4_dec_18 rfl (lv_at hl 2 rfl) ?_
  refine lv_iload_n S.1 S.2.1 dX4_dec_19 rfl (lv_at hl 4 rfl) ?_
  refine lv_iload S.1 S.2.1 dX4_dec_20 (lv_at hl 0 rfl) ?_
  refine lv_iload_n S.1 S.2.1 dX4_dec_22 rfl (lv_at hl 1 rfl) ?_
  refine kv_sP (As := [.int a, .int 0, .int x_5]) (rest := [.int x_4]) S (kc_MO_round l D a 0 x_5  ) (kn_cS S kn_294 kn_295 kn_3 kn_296 kd_X4_round rfl rfl ⟨Nat.le_of_ble_eq_true rfl, Nat.le_of_ble_eq_true rfl⟩) hB rfl hl.1 rfl (Nat.le_of_ble_eq_true rfl) dX4_dec_23 ⟨Nat.zero_le _, Nat.zero_le _⟩ (fun H locs hB => ?_)
  refine lv_ixor S.1 S.2.1 dX4_dec_26 ?_
  refine lv_topi (fun x_6 ex_6 => ?_)
  refine lv_istore S.1 S.2.1 dX4_dec_27 hl (by decide) rfl (fun ls hl => ?_)
  have hl : lv_has ls 6 [(5, .int x_6), (4, .int 0), (2, .int x_5), (3, .int x_4), (0, .int a), (1, .int b)] := hl
  refine lv_iload_n S.1 S.2.1 dX4_dec_29 rfl (lv_at hl 2 rfl) ?_
  refine lv_istore_n S.1 S.2.1 dX4_dec_30 rfl hl (by decide) rfl (fun ls hl => ?_)
  have hl : lv_has ls 6 [(3, .int x_5), (5, .int x_6), (4, .int 0), (2, .int x_5), (0, .int a), (1, .int b)] := hl
  refine lv_iload S.1 S.2.1 dX4_dec_31 (lv_at hl 1 rfl) ?_
  refine lv_istore_n S.1 S.2.1 dX4_dec_33 rfl hl (by decide) rfl (fun ls hl => ?_)
  have hl : lv_has ls 6 [(2, .int x_6), (3, .int x_5), (5, .int x_6), (4, .int 0), (0, .int a), (1, .int b)] := hl
  refine lv_iinc (k := 3) (v := (-1)) S.1 S.2.1 dX4_dec_34 hl rfl (by decide) (by decide) rfl (fun ls hl => ?_)
  have hl : lv_has ls 6 [(4, .int (-1)), (2, .int x_6), (3, .int x_5), (5, .int x_6), (0, .int a), (1, .int b)] := hl
  refine lv_goto (tgt := 13) S.1 S.2.1 dX4_dec_37 (by decide) ?_
  refine lv_iload S.1 S.2.1 dX4_dec_13 (lv_at hl 0 rfl) ?_
  refine lv_if_lt (tgt := 40) S.1 S.2.1 dX4_dec_15 (by decide) (fun h_15 => ?_) (fun h => absurd h (by decide))
  refine lv_iload_n S.1 S.2.1 dX4_dec_40 rfl (lv_at hl 1 rfl) ?_
  refine lv_bipush (v := 16) S.1 S.2.1 dX4_dec_41 (by decide) ?_
  refine lv_ishl S.1 S.2.1 dX4_dec_43 ?_
  refine lv_iload_n S.1 S.2.1 dX4_dec_44 rfl (lv_at hl 2 rfl) ?_
  refine lv_ior S.1 S.2.1 dX4_dec_45 ?_
  exact K _ _ _ _ _ _ hB (by subst_vars; rfl) (rfl) dX4_dec_46

abbrev kr_MO_slotKey : Room := { frames := 1, cells := 0, slots := 0, locals := 22 }
set_option maxRecDepth 100000 in
set_option maxHeartbeats 4000000 in
theorem kc_MO_slotKey (l : Launch) (D : va_G) (a : Int32) (b : Int32) (j : Int32) : kv_I (fun _ => True) l yX4_slotKey wsX4_slotKey kr_MO_slotKey D [] [.int a, .int b, .int j] [] (kp_K a b j) [] := by
  refine kv_openI (cc := cX4_slotKey) (maxL := 6) (rt := .int) (by decide) rfl (rfl) (Nat.le_of_ble_eq_true rfl) ?_
  intro p e s m args below meth c A H locs ls Q S hl hB K
  have hl : lv_has ls 6 [(0, .int a), (1, .int b), (2, .int j)] := hl
  refine lv_iload_n S.1 S.2.1 dX4_slotKey_0 rfl (lv_at hl 0 rfl) ?_
  refine lv_iload_n S.1 S.2.1 dX4_slotKey_1 rfl (lv_at hl 1 rfl) ?_
  refine kv_sP (As := [.int a, .int b]) (rest := []) S (kc_MO_h l D a b  ) (kn_cS S kn_272 kn_273 kn_3 kn_274 kd_X4_h rfl rfl ⟨Nat.le_of_ble_eq_true rfl, Nat.le_of_ble_eq_true rfl⟩) hB rfl hl.1 rfl (Nat.le_of_ble_eq_true rfl) dX4_slotKey_2 ⟨Nat.zero_le _, Nat.zero_le _⟩ (fun H locs hB => ?_)
  refine lv_topi (fun x_1 ex_1 => ?_)
  refine lv_istore_n S.1 S.2.1 dX4_slotKey_5 rfl hl (by decide) rfl (fun ls hl => ?_)
  have hl : lv_has ls 6 [(3, .int x_1), (0, .int a), (1, .int b), (2, .int j)] := hl
  refine lv_iload_n S.1 S.2.1 dX4_slotKey_6 rfl (lv_at hl 0 rfl) ?_
  refine lv_iload_n S.1 S.2.1 dX4_slotKey_7 rfl (lv_at hl 3 rfl) ?_
  refine kv_sP (As := [.int x_1, .int j]) (rest := []) S (kc_MO_h l D x_1 j  ) (kn_cS S kn_272 kn_273 kn_3 kn_274 kd_X4_h rfl rfl ⟨Nat.le_of_ble_eq_true rfl, Nat.le_of_ble_eq_true rfl⟩) hB rfl hl.1 rfl (Nat.le_of_ble_eq_true rfl) dX4_slotKey_8 ⟨Nat.zero_le _, Nat.zero_le _⟩ (fun H locs hB => ?_)
  refine lv_topi (fun x_2 ex_2 => ?_)
  refine lv_istore_n S.1 S.2.1 dX4_slotKey_11 rfl hl (by decide) rfl (fun ls hl => ?_)
  have hl : lv_has ls 6 [(3, .int x_2), (0, .int a), (1, .int b), (2, .int j)] := hl
  refine lv_iload_n S.1 S.2.1 dX4_slotKey_12 rfl (lv_at hl 0 rfl) ?_
  refine lv_istore S.1 S.2.1 dX4_slotKey_13 hl (by decide) rfl (fun ls hl => ?_)
  have hl : lv_has ls 6 [(4, .int x_2), (3, .int x_2), (0, .int a), (1, .int b), (2, .int j)] := hl
  refine lv_iconst (v := 0) S.1 S.2.1 dX4_slotKey_15 (by decide) ?_
  refine lv_istore S.1 S.2.1 dX4_slotKey_16 hl (by decide) rfl (fun ls hl => ?_)
  have hl : lv_has ls 6 [(5, .int 0), (4, .int x_2), (3, .int x_2), (0, .int a), (1, .int b), (2, .int j)] := hl
  refine lv_iload S.1 S.2.1 dX4_slotKey_18 (lv_at hl 0 rfl) ?_
  refine lv_bipush (v := 7) S.1 S.2.1 dX4_slotKey_20 (by decide) ?_
  refine kv_bge (x := 0) (y := 7) (tgt := 43) S (by omega) (by omega) dX4_slotKey_22 (by decide) (fun h => absurd h (by omega)) (fun h_22 => ?_)
  refine lv_iload_n S.1 S.2.1 dX4_slotKey_25 rfl (lv_at hl 3 rfl) ?_
  refine lv_iload_n S.1 S.2.1 dX4_slotKey_26 rfl (lv_at hl 2 rfl) ?_
  refine kv_sP (As := [.int a, .int x_2]) (rest := []) S (kc_MO_h l D a x_2  ) (kn_cS S kn_272 kn_273 kn_3 kn_274 kd_X4_h rfl rfl ⟨Nat.le_of_ble_eq_true rfl, Nat.le_of_ble_eq_true rfl⟩) hB rfl hl.1 rfl (Nat.le_of_ble_eq_true rfl) dX4_slotKey_27 ⟨Nat.zero_le _, Nat.zero_le _⟩ (fun H locs hB => ?_)
  refine lv_topi (fun x_3 ex_3 => ?_)
  refine lv_istore_n S.1 S.2.1 dX4_slotKey_30 rfl hl (by decide) rfl (fun ls hl => ?_)
  have hl : lv_has ls 6 [(3, .int x_3), (5, .int 0), (4, .int x_2), (0, .int a), (1, .int b), (2, .int j)] := hl
  refine lv_iload S.1 S.2.1 dX4_slotKey_31 (lv_at hl 2 rfl) ?_
  refine lv_iload_n S.1 S.2.1 dX4_slotKey_33 rfl (lv_at hl 0 rfl) ?_
  refine lv_ixor S.1 S.2.1 dX4_slotKey_34 ?_
  refine lv_topi (fun x_4 ex_4 => ?_)
  refine lv_istore S.1 S.2.1 dX4_slotKey_35 hl (by decide) rfl (fun ls hl => ?_)
  have hl : lv_has ls 6 [(4, .int x_4), (3, .int x_3), (5, .int 0), (0, .int a), (1, .int b), (2, .int j)] := hl
  refine lv_iinc (k := 2) (v := 1) S.1 S.2.1 dX4_slotKey_37 hl rfl (by decide) (by decide) rfl (fun ls hl => ?_)
  have hl : lv_has ls 6 [(5, .int 1), (4, .int x_4), (3, .int x_3), (0, .int a), (1, .int b), (2, .int j)] := hl
  refine lv_goto (tgt := 18) S.1 S.2.1 dX4_slotKey_40 (by decide) ?_
  refine lv_iload S.1 S.2.1 dX4_slotKey_18 (lv_at hl 0 rfl) ?_
  refine lv_bipush (v := 7) S.1 S.2.1 dX4_slotKey_20 (by decide) ?_
  refine kv_bge (x := 1) (y := 7) (tgt := 43) S (by omega) (by omega) dX4_slotKey_22 (by decide) (fun h => absurd h (by omega)) (fun h_22 => ?_)
  refine lv_iload_n S.1 S.2.1 dX4_slotKey_25 rfl (lv_at hl 3 rfl) ?_
  refine lv_iload_n S.1 S.2.1 dX4_slotKey_26 rfl (lv_at hl 2 rfl) ?_
  refine kv_sP (As := [.int a, .int x_3]) (rest := []) S (kc_MO_h l D a x_3  ) (kn_cS S kn_272 kn_273 kn_3 kn_274 kd_X4_h rfl rfl ⟨Nat.le_of_ble_eq_true rfl, Nat.le_of_ble_eq_true rfl⟩) hB rfl hl.1 rfl (Nat.le_of_ble_eq_true rfl) dX4_slotKey_27 ⟨Nat.zero_le _, Nat.zero_le _⟩ (fun H locs hB => ?_)
  refine lv_topi (fun x_5 ex_5 => ?_)
  refine lv_istore_n S.1 S.2.1 dX4_slotKey_30 rfl hl (by decide) rfl (fun ls hl => ?_)
  have hl : lv_has ls 6 [(3, .int x_5), (5, .int 1), (4, .int x_4), (0, .int a), (1, .int b), (2, .int j)] := hl
  refine lv_iload S.1 S.2.1 dX4_slotKey_31 (lv_at hl 2 rfl) ?_
  refine lv_iload_n S.1 S.2.1 dX4_slotKey_33 rfl (lv_at hl 0 rfl) ?_
  refine lv_ixor S.1 S.2.1 dX4_slotKey_34 ?_
  refine lv_topi (fun x_6 ex_6 => ?_)
  refine lv_istore S.1 S.2.1 dX4_slotKey_35 hl (by decide) rfl (fun ls hl => ?_)
  have hl : lv_has ls 6 [(4, .int x_6), (3, .int x_5), (5, .int 1), (0, .int a), (1, .int b), (2, .int j)] := hl
  refine lv_iinc (k := 2) (v := 2) S.1 S.2.1 dX4_slotKey_37 hl rfl (by decide) (by decide) rfl (fun ls hl => ?_)
  have hl : lv_has ls 6 [(5, .int 2), (4, .int x_6), (3, .int x_5), (0, .int a), (1, .int b), (2, .int j)] := hl
  refine lv_goto (tgt := 18) S.1 S.2.1 dX4_slotKey_40 (by decide) ?_
  refine lv_iload S.1 S.2.1 dX4_slotKey_18 (lv_at hl 0 rfl) ?_
  refine lv_bipush (v := 7) S.1 S.2.1 dX4_slotKey_20 (by decide) ?_
  refine kv_bge (x := 2) (y := 7) (tgt := 43) S (by omega) (by omega) dX4_slotKey_22 (by decide) (fun h => absurd h (by omega)) (fun h_22 => ?_)
  refine lv_iload_n S.1 S.2.1 dX4_slotKey_25 rfl (lv_at hl 3 rfl) ?_
  refine lv_iload_n S.1 S.2.1 dX4_slotKey_26 rfl (lv_at hl 2 rfl) ?_
  refine kv_sP (As := [.int a, .int x_5]) (rest := []) S (kc_MO_h l D a x_5  ) (kn_cS S kn_272 kn_273 kn_3 kn_274 kd_X4_h rfl rfl ⟨Nat.le_of_ble_eq_true rfl, Nat.le_of_ble_eq_true rfl⟩) hB rfl hl.1 rfl (Nat.le_of_ble_eq_true rfl) dX4_slotKey_27 ⟨Nat.zero_le _, Nat.zero_le _⟩ (fun H locs hB => ?_)
  refine lv_topi (fun x_7 ex_7 => ?_)
  refine lv_istore_n S.1 S.2.1 dX4_slotKey_30 rfl hl (by decide) rfl (fun ls hl => ?_)
  have hl : lv_has ls 6 [(3, .int x_7), (5, .int 2), (4, .int x_6), (0, .int a), (1, .int b), (2, .int j)] := hl
  refine lv_iload S.1 S.2.1 dX4_slotKey_31 (lv_at hl 2 rfl) ?_
  refine lv_iload_n S.1 S.2.1 dX4_slotKey_33 rfl (lv_at hl 0 rfl) ?_
  refine lv_ixor S.1 S.2.1 dX4_slotKey_34 ?_
  refine lv_topi (fun x_8 ex_8 => ?_)
  refine lv_istore S.1 S.2.1 dX4_slotKey_35 hl (by decide) rfl (fun ls hl => ?_)
  have hl : lv_has ls 6 [(4, .int x_8), (3, .int x_7), (5, .int 2), (0, .int a), (1, .int b), (2, .int j)] := hl
  refine lv_iinc (k := 2) (v := 3) S.1 S.2.1 dX4_slotKey_37 hl rfl (by decide) (by decide) rfl (fun ls hl => ?_)
  have hl : lv_has ls 6 [(5, .int 3), (4, .int x_8), (3, .int x_7), (0, .int a), (1, .int b), (2, .int j)] := hl
  refine lv_goto (tgt := 18) S.1 S.2.1 dX4_slotKey_40 (by decide) ?_
  refine lv_iload S.1 S.2.1 dX4_slotKey_18 (lv_at hl 0 rfl) ?_
  refine lv_bipush (v := 7) S.1 S.2.1 dX4_slotKey_20 (by decide) ?_
  refine kv_bge (x := 3) (y := 7) (tgt := 43) S (by omega) (by omega) dX4_slotKey_22 (by decide) (fun h => absurd h (by omega)) (fun h_22 => ?_)
  refine lv_iload_n S.1 S.2.1 dX4_slotKey_25 rfl (lv_at hl 3 rfl) ?_
  refine lv_iload_n S.1 S.2.1 dX4_slotKey_26 rfl (lv_at hl 2 rfl) ?_
  refine kv_sP (As := [.int a, .int x_7]) (rest := []) S (kc_MO_h l D a x_7  ) (kn_cS S kn_272 kn_273 kn_3 kn_274 kd_X4_h rfl rfl ⟨Nat.le_of_ble_eq_true rfl, Nat.le_of_ble_eq_true rfl⟩) hB rfl hl.1 rfl (Nat.le_of_ble_eq_true rfl) dX4_slotKey_27 ⟨Nat.zero_le _, Nat.zero_le _⟩ (fun H locs hB => ?_)
  refine lv_topi (fun x_9 ex_9 => ?_)
  refine lv_istore_n S.1 S.2.1 dX4_slotKey_30 rfl hl (by decide) rfl (fun ls hl => ?_)
  have hl : lv_has ls 6 [(3, .int x_9), (5, .int 3), (4, .int x_8), (0, .int a), (1, .int b), (2, .int j)] := hl
  refine lv_iload S.1 S.2.1 dX4_slotKey_31 (lv_at hl 2 rfl) ?_
  refine lv_iload_n S.1 S.2.1 dX4_slotKey_33 rfl (lv_at hl 0 rfl) ?_
  refine lv_ixor S.1 S.2.1 dX4_slotKey_34 ?_
  refine lv_topi (fun x_10 ex_10 => ?_)
  refine lv_istore S.1 S.2.1 dX4_slotKey_35 hl (by decide) rfl (fun ls hl => ?_)
  have hl : lv_has ls 6 [(4, .int x_10), (3, .int x_9), (5, .int 3), (0, .int a), (1, .int b), (2, .int j)] := hl
  refine lv_iinc (k := 2) (v := 4) S.1 S.2.1 dX4_slotKey_37 hl rfl (by decide) (by decide) rfl (fun ls hl => ?_)
  have hl : lv_has ls 6 [(5, .int 4), (4, .int x_10), (3, .int x_9), (0, .int a), (1, .int b), (2, .int j)] := hl
  refine lv_goto (tgt := 18) S.1 S.2.1 dX4_slotKey_40 (by decide) ?_
  refine lv_iload S.1 S.2.1 dX4_slotKey_18 (lv_at hl 0 rfl) ?_
  refine lv_bipush (v := 7) S.1 S.2.1 dX4_slotKey_20 (by decide) ?_
  refine kv_bge (x := 4) (y := 7) (tgt := 43) S (by omega) (by omega) dX4_slotKey_22 (by decide) (fun h => absurd h (by omega)) (fun h_22 => ?_)
  refine lv_iload_n S.1 S.2.1 dX4_slotKey_25 rfl (lv_at hl 3 rfl) ?_
  refine lv_iload_n S.1 S.2.1 dX4_slotKey_26 rfl (lv_at hl 2 rfl) ?_
  refine kv_sP (As := [.int a, .int x_9]) (rest := []) S (kc_MO_h l D a x_9  ) (kn_cS S kn_272 kn_273 kn_3 kn_274 kd_X4_h rfl rfl ⟨Nat.le_of_ble_eq_true rfl, Nat.le_of_ble_eq_true rfl⟩) hB rfl hl.1 rfl (Nat.le_of_ble_eq_true rfl) dX4_slotKey_27 ⟨Nat.zero_le _, Nat.zero_le _⟩ (fun H locs hB => ?_)
  refine lv_topi (fun x_11 ex_11 => ?_)
  refine lv_istore_n S.1 S.2.1 dX4_slotKey_30 rfl hl (by decide) rfl (fun ls hl => ?_)
  have hl : lv_has ls 6 [(3, .int x_11), (5, .int 4), (4, .int x_10), (0, .int a), (1, .int b), (2, .int j)] := hl
  refine lv_iload S.1 S.2.1 dX4_slotKey_31 (lv_at hl 2 rfl) ?_
  refine lv_iload_n S.1 S.2.1 dX4_slotKey_33 rfl (lv_at hl 0 rfl) ?_
  refine lv_ixor S.1 S.2.1 dX4_slotKey_34 ?_
  refine lv_topi (fun x_12 ex_12 => ?_)
  refine lv_istore S.1 S.2.1 dX4_slotKey_35 hl (by decide) rfl (fun ls hl => ?_)
  have hl : lv_has ls 6 [(4, .int x_12), (3, .int x_11), (5, .int 4), (0, .int a), (1, .int b), (2, .int j)] := hl
  refine lv_iinc (k := 2) (v := 5) S.1 S.2.1 dX4_slotKey_37 hl rfl (by decide) (by decide) rfl (fun ls hl => ?_)
  have hl : lv_has ls 6 [(5, .int 5), (4, .int x_12), (3, .int x_11), (0, .int a), (1, .int b), (2, .int j)] := hl
  refine lv_goto (tgt := 18) S.1 S.2.1 dX4_slotKey_40 (by decide) ?_
  refine lv_iload S.1 S.2.1 dX4_slotKey_18 (lv_at hl 0 rfl) ?_
  refine lv_bipush (v := 7) S.1 S.2.1 dX4_slotKey_20 (by decide) ?_
  refine kv_bge (x := 5) (y := 7) (tgt := 43) S (by omega) (by omega) dX4_slotKey_22 (by decide) (fun h => absurd h (by omega)) (fun h_22 => ?_)
  refine lv_iload_n S.1 S.2.1 dX4_slotKey_25 rfl (lv_at hl 3 rfl) ?_
  refine lv_iload_n S.1 S.2.1 dX4_slotKey_26 rfl (lv_at hl 2 rfl) ?_
  refine kv_sP (As := [.int a, .int x_11]) (rest := []) S (kc_MO_h l D a x_11  ) (kn_cS S kn_272 kn_273 kn_3 kn_274 kd_X4_h rfl rfl ⟨Nat.le_of_ble_eq_true rfl, Nat.le_of_ble_eq_true rfl⟩) hB rfl hl.1 rfl (Nat.le_of_ble_eq_true rfl) dX4_slotKey_27 ⟨Nat.zero_le _, Nat.zero_le _⟩ (fun H locs hB => ?_)
  refine lv_topi (fun x_13 ex_13 => ?_)
  refine lv_istore_n S.1 S.2.1 dX4_slotKey_30 rfl hl (by decide) rfl (fun ls hl => ?_)
  have hl : lv_has ls 6 [(3, .int x_13), (5, .int 5), (4, .int x_12), (0, .int a), (1, .int b), (2, .int j)] := hl
  refine lv_iload S.1 S.2.1 dX4_slotKey_31 (lv_at hl 2 rfl) ?_
  refine lv_iload_n S.1 S.2.1 dX4_slotKey_33 rfl (lv_at hl 0 rfl) ?_
  refine lv_ixor S.1 S.2.1 dX4_slotKey_34 ?_
  refine lv_topi (fun x_14 ex_14 => ?_)
  refine lv_istore S.1 S.2.1 dX4_slotKey_35 hl (by decide) rfl (fun ls hl => ?_)
  have hl : lv_has ls 6 [(4, .int x_14), (3, .int x_13), (5, .int 5), (0, .int a), (1, .int b), (2, .int j)] := hl
  refine lv_iinc (k := 2) (v := 6) S.1 S.2.1 dX4_slotKey_37 hl rfl (by decide) (by decide) rfl (fun ls hl => ?_)
  have hl : lv_has ls 6 [(5, .int 6), (4, .int x_14), (3, .int x_13), (0, .int a), (1, .int b), (2, .int j)] := hl
  refine lv_goto (tgt := 18) S.1 S.2.1 dX4_slotKey_40 (by decide) ?_
  refine lv_iload S.1 S.2.1 dX4_slotKey_18 (lv_at hl 0 rfl) ?_
  refine lv_bipush (v := 7) S.1 S.2.1 dX4_slotKey_20 (by decide) ?_
  refine kv_bge (x := 6) (y := 7) (tgt := 43) S (by omega) (by omega) dX4_slotKey_22 (by decide) (fun h => absurd h (by omega)) (fun h_22 => ?_)
  refine lv_iload_n S.1 S.2.1 dX4_slotKey_25 rfl (lv_at hl 3 rfl) ?_
  refine lv_iload_n S.1 S.2.1 dX4_slotKey_26 rfl (lv_at hl 2 rfl) ?_
  refine kv_sP (As := [.int a, .int x_13]) (rest := []) S (kc_MO_h l D a x_13  ) (kn_cS S kn_272 kn_273 kn_3 kn_274 kd_X4_h rfl rfl ⟨Nat.le_of_ble_eq_true rfl, Nat.le_of_ble_eq_true rfl⟩) hB rfl hl.1 rfl (Nat.le_of_ble_eq_true rfl) dX4_slotKey_27 ⟨Nat.zero_le _, Nat.zero_le _⟩ (fun H locs hB => ?_)
  refine lv_topi (fun x_15 ex_15 => ?_)
  refine lv_istore_n S.1 S.2.1 dX4_slotKey_30 rfl hl (by decide) rfl (fun ls hl => ?_)
  have hl : lv_has ls 6 [(3, .int x_15), (5, .int 6), (4, .int x_14), (0, .int a), (1, .int b), (2, .int j)] := hl
  refine lv_iload S.1 S.2.1 dX4_slotKey_31 (lv_at hl 2 rfl) ?_
  refine lv_iload_n S.1 S.2.1 dX4_slotKey_33 rfl (lv_at hl 0 rfl) ?_
  refine lv_ixor S.1 S.2.1 dX4_slotKey_34 ?_
  refine lv_topi (fun x_16 ex_16 => ?_)
  refine lv_istore S.1 S.2.1 dX4_slotKey_35 hl (by decide) rfl (fun ls hl => ?_)
  have hl : lv_has ls 6 [(4, .int x_16), (3, .int x_15), (5, .int 6), (0, .int a), (1, .int b), (2, .int j)] := hl
  refine lv_iinc (k := 2) (v := 7) S.1 S.2.1 dX4_slotKey_37 hl rfl (by decide) (by decide) rfl (fun ls hl => ?_)
  have hl : lv_has ls 6 [(5, .int 7), (4, .int x_16), (3, .int x_15), (0, .int a), (1, .int b), (2, .int j)] := hl
  refine lv_goto (tgt := 18) S.1 S.2.1 dX4_slotKey_40 (by decide) ?_
  refine lv_iload S.1 S.2.1 dX4_slotKey_18 (lv_at hl 0 rfl) ?_
  refine lv_bipush (v := 7) S.1 S.2.1 dX4_slotKey_20 (by decide) ?_
  refine kv_bge (x := 7) (y := 7) (tgt := 43) S (by omega) (by omega) dX4_slotKey_22 (by decide) (fun h_22 => ?_) (fun h => absurd h (by omega))
  refine lv_iload S.1 S.2.1 dX4_slotKey_43 (lv_at hl 1 rfl) ?_
  exact K _ _ _ _ _ _ hB (by subst_vars; rfl) (rfl) dX4_slotKey_45

abbrev kr_MO_mask : Room := { frames := 3, cells := 0, slots := 0, locals := 70 }
set_option maxRecDepth 100000 in
set_option maxHeartbeats 4000000 in
theorem kc_MO_mask (l : Launch) (D : va_G) (b : Int32) (z : Int32) (n0 : Nat) (hn : n0 < 1000) : kv_I (fun _ => True) l yX4_mask wsX4_mask kr_MO_mask D [] [.int b, .int z, .int (nI n0)] [] (kp_T b z n0) [] := by
  refine kv_openI (cc := cX4_mask) (maxL := 5) (rt := .int) (by decide) rfl (rfl) (Nat.le_of_ble_eq_true rfl) ?_
  intro p e s m args below meth c A H locs ls Q S hl hB K
  have hl : lv_has ls 5 [(0, .int b), (1, .int z), (2, .int (nI n0))] := hl
  refine lv_iload_n S.1 S.2.1 dX4_mask_0 rfl (lv_at hl 0 rfl) ?_
  refine lv_iload_n S.1 S.2.1 dX4_mask_1 rfl (lv_at hl 1 rfl) ?_
  refine kv_sP (As := [.int b, .int z]) (rest := []) S (kc_MO_enc l D b z  ) (kn_cS S kn_290 kn_291 kn_3 kn_292 kd_X4_enc rfl rfl ⟨Nat.le_of_ble_eq_true rfl, Nat.le_of_ble_eq_true rfl⟩) hB rfl hl.1 rfl (Nat.le_of_ble_eq_true rfl) dX4_mask_2 ⟨Nat.zero_le _, Nat.zero_le _⟩ (fun H locs hB => ?_)
  refine lv_topi (fun x_1 ex_1 => ?_)
  refine lv_istore_n S.1 S.2.1 dX4_mask_5 rfl hl (by decide) rfl (fun ls hl => ?_)
  have hl : lv_has ls 5 [(3, .int x_1), (0, .int b), (1, .int z), (2, .int (nI n0))] := hl
  refine lv_iconst (v := 0) S.1 S.2.1 dX4_mask_6 (by decide) ?_
  refine lv_istore S.1 S.2.1 dX4_mask_7 hl (by decide) rfl (fun ls hl => ?_)
  have hl : lv_has ls 5 [(4, .int 0), (3, .int x_1), (0, .int b), (1, .int z), (2, .int (nI n0))] := hl
  have loop9 : ∀ (n : Nat) (j : Nat) (t : Int32) (H : Heap) (locs : List Loc) (ls : Array Slot), (j + n = n0) → (kp_ts n t = kp_T b z n0) → lv_has ls 5 [(4, .int (nI j)), (3, .int t), (2, .int (nI n0)), (0, .int b), (1, .int z)] → kv_B (fun _ => True) D [] A s [] H locs → W p l e kr_MO_mask s m args below meth c H locs 0 0 Q (F0 m 9 ls []) := by
    intro n
    induction n with
    | zero =>
      intro j t H locs ls hj hT hl hB
      refine lv_iload S.1 S.2.1 dX4_mask_9 (lv_at hl 0 rfl) ?_
      refine lv_iload_n S.1 S.2.1 dX4_mask_11 rfl (lv_at hl 2 rfl) ?_
      refine kv_bge (x := j) (y := n0) (tgt := 37) S (by omega) (by omega) dX4_mask_12 (by decide) (fun h_12 => ?_) (fun h => absurd h (by omega))
      refine lv_iload_n S.1 S.2.1 dX4_mask_37 rfl (lv_at hl 1 rfl) ?_
      exact K _ _ _ _ _ _ hB (hT) (rfl) dX4_mask_38
    | succ n ih9 =>
      intro j t H locs ls hj hT hl hB
      refine lv_iload S.1 S.2.1 dX4_mask_9 (lv_at hl 0 rfl) ?_
      refine lv_iload_n S.1 S.2.1 dX4_mask_11 rfl (lv_at hl 2 rfl) ?_
      refine kv_bge (x := j) (y := n0) (tgt := 37) S (by omega) (by omega) dX4_mask_12 (by decide) (fun h => absurd h (by omega)) (fun h_12 => ?_)
      refine lv_iload_n S.1 S.2.1 dX4_mask_15 rfl (lv_at hl 1 rfl) ?_
      refine lv_iconst (v := 1) S.1 S.2.1 dX4_mask_16 (by decide) ?_
      refine lv_ishl S.1 S.2.1 dX4_mask_17 ?_
      refine lv_iload_n S.1 S.2.1 dX4_mask_18 rfl (lv_at hl 1 rfl) ?_
      refine lv_if_ge (tgt := 28) S.1 S.2.1 dX4_mask_19 (by decide) (fun h_19 => ?_) (fun h_19 => ?_)
      · skip
        refine lv_iconst (v := 0) S.1 S.2.1 dX4_mask_28 (by decide) ?_
        refine lv_ixor S.1 S.2.1 dX4_mask_29 ?_
        refine lv_topi (fun x_2 ex_2 => ?_)
        refine lv_istore_n S.1 S.2.1 dX4_mask_30 rfl hl (by decide) rfl (fun ls hl => ?_)
        have hl : lv_has ls 5 [(3, .int x_2), (4, .int (nI j)), (2, .int (nI n0)), (0, .int b), (1, .int z)] := hl
        refine lv_iinc (k := 1) (v := nI (j + 1)) S.1 S.2.1 dX4_mask_31 hl rfl (nI_1 j) (by decide) rfl (fun ls hl => ?_)
        have hl : lv_has ls 5 [(4, .int (nI (j + 1))), (3, .int x_2), (2, .int (nI n0)), (0, .int b), (1, .int z)] := hl
        refine lv_goto (tgt := 9) S.1 S.2.1 dX4_mask_34 (by decide) ?_
        exact ih9 (j + 1) x_2 _ _ _ (by omega) (by rw [← hT, ex_2]; show _ = kp_ts n (kp_t1 t); first | rw [kp_t1, if_neg (Int32.not_lt.mpr h_19)] | rw [kp_t1, if_pos (Int32.not_le.mp h_19)]) (lv_sub hl [0, 1, 2, 3, 4] rfl) hB
      · skip
        refine lv_sipush (v := 141) S.1 S.2.1 dX4_mask_22 (by decide) ?_
        refine lv_goto (tgt := 29) S.1 S.2.1 dX4_mask_25 (by decide) ?_
        refine lv_ixor S.1 S.2.1 dX4_mask_29 ?_
        refine lv_topi (fun x_3 ex_3 => ?_)
        refine lv_istore_n S.1 S.2.1 dX4_mask_30 rfl hl (by decide) rfl (fun ls hl => ?_)
        have hl : lv_has ls 5 [(3, .int x_3), (4, .int (nI j)), (2, .int (nI n0)), (0, .int b), (1, .int z)] := hl
        refine lv_iinc (k := 1) (v := nI (j + 1)) S.1 S.2.1 dX4_mask_31 hl rfl (nI_1 j) (by decide) rfl (fun ls hl => ?_)
        have hl : lv_has ls 5 [(4, .int (nI (j + 1))), (3, .int x_3), (2, .int (nI n0)), (0, .int b), (1, .int z)] := hl
        refine lv_goto (tgt := 9) S.1 S.2.1 dX4_mask_34 (by decide) ?_
        exact ih9 (j + 1) x_3 _ _ _ (by omega) (by rw [← hT, ex_3]; show _ = kp_ts n (kp_t1 t); first | rw [kp_t1, if_neg (Int32.not_lt.mpr h_19)] | rw [kp_t1, if_pos (Int32.not_le.mp h_19)]) (lv_sub hl [0, 1, 2, 3, 4] rfl) hB
  exact loop9 n0 0 x_1 _ _ _ (by omega) (by rw [ex_1]; rfl) (lv_sub hl [0, 1, 4, 2, 3] rfl) hB

abbrev kr_MO_hide : Room := { frames := 4, cells := 0, slots := 0, locals := 94 }
set_option maxRecDepth 100000 in
set_option maxHeartbeats 4000000 in
theorem kc_MO_hide (l : Launch) (D : va_G) (a : Int32) (b : Int32) (z : Int32) (n0 : Nat) (x : Int32) (hn : n0 < 1000) : kv_I (fun _ => True) l yX4_hide wsX4_hide kr_MO_hide D [] [.int a, .int b, .int z, .int (nI n0), .int x] [] (kp_hide a b z n0 x) [] := by
  refine kv_openI (cc := cX4_hide) (maxL := 6) (rt := .int) (by decide) rfl (rfl) (Nat.le_of_ble_eq_true rfl) ?_
  intro p e s m args below meth c A H locs ls Q S hl hB K
  have hl : lv_has ls 6 [(0, .int a), (1, .int b), (2, .int z), (3, .int (nI n0)), (4, .int x)] := hl
  refine lv_iload_n S.1 S.2.1 dX4_hide_0 rfl (lv_at hl 1 rfl) ?_
  refine lv_iload_n S.1 S.2.1 dX4_hide_1 rfl (lv_at hl 2 rfl) ?_
  refine lv_iload_n S.1 S.2.1 dX4_hide_2 rfl (lv_at hl 3 rfl) ?_
  refine kv_sP (As := [.int b, .int z, .int (nI n0)]) (rest := []) S (kc_MO_mask l D b z n0  (by omega)) (kn_cS S kn_300 kn_301 kn_3 kn_302 kd_X4_mask rfl rfl ⟨Nat.le_of_ble_eq_true rfl, Nat.le_of_ble_eq_true rfl⟩) hB rfl hl.1 rfl (Nat.le_of_ble_eq_true rfl) dX4_hide_3 ⟨Nat.zero_le _, Nat.zero_le _⟩ (fun H locs hB => ?_)
  refine lv_topi (fun x_1 ex_1 => ?_)
  refine lv_istore S.1 S.2.1 dX4_hide_6 hl (by decide) rfl (fun ls hl => ?_)
  have hl : lv_has ls 6 [(5, .int x_1), (0, .int a), (1, .int b), (2, .int z), (3, .int (nI n0)), (4, .int x)] := hl
  refine lv_iload_n S.1 S.2.1 dX4_hide_8 rfl (lv_at hl 1 rfl) ?_
  refine lv_iload S.1 S.2.1 dX4_hide_9 (lv_at hl 5 rfl) ?_
  refine lv_iload S.1 S.2.1 dX4_hide_11 (lv_at hl 0 rfl) ?_
  refine lv_ixor S.1 S.2.1 dX4_hide_13 ?_
  refine kv_sP (As := [.int a, .int (x ^^^ x_1)]) (rest := []) S (kc_MO_enc l D a (x ^^^ x_1)  ) (kn_cS S kn_290 kn_291 kn_3 kn_292 kd_X4_enc rfl rfl ⟨Nat.le_of_ble_eq_true rfl, Nat.le_of_ble_eq_true rfl⟩) hB rfl hl.1 rfl (Nat.le_of_ble_eq_true rfl) dX4_hide_14 ⟨Nat.zero_le _, Nat.zero_le _⟩ (fun H locs hB => ?_)
  refine lv_iload S.1 S.2.1 dX4_hide_17 (lv_at hl 0 rfl) ?_
  refine lv_ixor S.1 S.2.1 dX4_hide_19 ?_
  exact K _ _ _ _ _ _ hB (by subst_vars; rfl) (rfl) dX4_hide_20

abbrev kr_MO_show : Room := { frames := 4, cells := 0, slots := 0, locals := 94 }
set_option maxRecDepth 100000 in
set_option maxHeartbeats 4000000 in
theorem kc_MO_show (l : Launch) (D : va_G) (a : Int32) (b : Int32) (z : Int32) (n0 : Nat) (x : Int32) (hn : n0 < 1000) : kv_I (fun _ => True) l yX4_show wsX4_show kr_MO_show D [] [.int a, .int b, .int z, .int (nI n0), .int x] [] (kp_show a b z n0 x) [] := by
  refine kv_openI (cc := cX4_show) (maxL := 6) (rt := .int) (by decide) rfl (rfl) (Nat.le_of_ble_eq_true rfl) ?_
  intro p e s m args below meth c A H locs ls Q S hl hB K
  have hl : lv_has ls 6 [(0, .int a), (1, .int b), (2, .int z), (3, .int (nI n0)), (4, .int x)] := hl
  refine lv_iload_n S.1 S.2.1 dX4_show_0 rfl (lv_at hl 1 rfl) ?_
  refine lv_iload_n S.1 S.2.1 dX4_show_1 rfl (lv_at hl 2 rfl) ?_
  refine lv_iload_n S.1 S.2.1 dX4_show_2 rfl (lv_at hl 3 rfl) ?_
  refine kv_sP (As := [.int b, .int z, .int (nI n0)]) (rest := []) S (kc_MO_mask l D b z n0  (by omega)) (kn_cS S kn_300 kn_301 kn_3 kn_302 kd_X4_mask rfl rfl ⟨Nat.le_of_ble_eq_true rfl, Nat.le_of_ble_eq_true rfl⟩) hB rfl hl.1 rfl (Nat.le_of_ble_eq_true rfl) dX4_show_3 ⟨Nat.zero_le _, Nat.zero_le _⟩ (fun H locs hB => ?_)
  refine lv_topi (fun x_1 ex_1 => ?_)
  refine lv_istore S.1 S.2.1 dX4_show_6 hl (by decide) rfl (fun ls hl => ?_)
  have hl : lv_has ls 6 [(5, .int x_1), (0, .int a), (1, .int b), (2, .int z), (3, .int (nI n0)), (4, .int x)] := hl
  refine lv_iload_n S.1 S.2.1 dX4_show_8 rfl (lv_at hl 1 rfl) ?_
  refine lv_iload S.1 S.2.1 dX4_show_9 (lv_at hl 5 rfl) ?_
  refine lv_iload S.1 S.2.1 dX4_show_11 (lv_at hl 0 rfl) ?_
  refine lv_ixor S.1 S.2.1 dX4_show_13 ?_
  refine kv_sP (As := [.int a, .int (x ^^^ x_1)]) (rest := []) S (kc_MO_dec l D a (x ^^^ x_1)  ) (kn_cS S kn_333 kn_334 kn_3 kn_335 kd_X4_dec rfl rfl ⟨Nat.le_of_ble_eq_true rfl, Nat.le_of_ble_eq_true rfl⟩) hB rfl hl.1 rfl (Nat.le_of_ble_eq_true rfl) dX4_show_14 ⟨Nat.zero_le _, Nat.zero_le _⟩ (fun H locs hB => ?_)
  refine lv_iload S.1 S.2.1 dX4_show_17 (lv_at hl 0 rfl) ?_
  refine lv_ixor S.1 S.2.1 dX4_show_19 ?_
  exact K _ _ _ _ _ _ hB (by subst_vars; rfl) (rfl) dX4_show_20

abbrev kr_MO_digest : Room := { frames := 1, cells := 0, slots := 0, locals := 22 }
set_option maxRecDepth 100000 in
set_option maxHeartbeats 4000000 in
theorem kc_MO_digest (l : Launch) (D : va_G) (a : Int32) (b : Int32) (z : Int32) : kv_I (fun _ => True) l yX4_digest wsX4_digest kr_MO_digest D [] [.int a, .int b, .int z] [] (kp_dg a b z) [] := by
  refine kv_openI (cc := cX4_digest) (maxL := 4) (rt := .int) (by decide) rfl (rfl) (Nat.le_of_ble_eq_true rfl) ?_
  intro p e s m args below meth c A H locs ls Q S hl hB K
  have hl : lv_has ls 4 [(0, .int a), (1, .int b), (2, .int z)] := hl
  refine lv_iload_n S.1 S.2.1 dX4_digest_0 rfl (lv_at hl 0 rfl) ?_
  refine lv_iload_n S.1 S.2.1 dX4_digest_1 rfl (lv_at hl 2 rfl) ?_
  refine kv_sP (As := [.int a, .int z]) (rest := []) S (kc_MO_h l D a z  ) (kn_cS S kn_272 kn_273 kn_3 kn_274 kd_X4_h rfl rfl ⟨Nat.le_of_ble_eq_true rfl, Nat.le_of_ble_eq_true rfl⟩) hB rfl hl.1 rfl (Nat.le_of_ble_eq_true rfl) dX4_digest_2 ⟨Nat.zero_le _, Nat.zero_le _⟩ (fun H locs hB => ?_)
  refine lv_topi (fun x_1 ex_1 => ?_)
  refine lv_istore_n S.1 S.2.1 dX4_digest_5 rfl hl (by decide) rfl (fun ls hl => ?_)
  have hl : lv_has ls 4 [(3, .int x_1), (0, .int a), (1, .int b), (2, .int z)] := hl
  refine lv_iload_n S.1 S.2.1 dX4_digest_6 rfl (lv_at hl 0 rfl) ?_
  refine lv_iload_n S.1 S.2.1 dX4_digest_7 rfl (lv_at hl 2 rfl) ?_
  refine kv_sP (As := [.int x_1, .int b]) (rest := []) S (kc_MO_h l D x_1 b  ) (kn_cS S kn_272 kn_273 kn_3 kn_274 kd_X4_h rfl rfl ⟨Nat.le_of_ble_eq_true rfl, Nat.le_of_ble_eq_true rfl⟩) hB rfl hl.1 rfl (Nat.le_of_ble_eq_true rfl) dX4_digest_8 ⟨Nat.zero_le _, Nat.zero_le _⟩ (fun H locs hB => ?_)
  exact K _ _ _ _ _ _ hB (by subst_vars; rfl) (rfl) dX4_digest_11
