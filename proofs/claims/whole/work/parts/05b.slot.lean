abbrev kr_SL_mask : Room := { frames := 1, cells := 0, slots := 0, locals := 22 }
set_option maxRecDepth 100000 in
set_option maxHeartbeats 4000000 in
theorem kc_SL_mask (l : Launch) (D : va_G) (a : Int32) (b : Int32) (z : Int32) : kv_I (fun _ => True) l yX2_mask wsX2_mask kr_SL_mask D [] [.int a, .int b, .int z] [] (kp_M a b z) [] := by
  refine kv_openI (cc := cX2_mask) (maxL := 3) (rt := .int) (by decide) rfl (rfl) (Nat.le_of_ble_eq_true rfl) ?_
  intro p e s m args below meth c A H locs ls Q S hl hB K
  have hl : lv_has ls 3 [(0, .int a), (1, .int b), (2, .int z)] := hl
  refine lv_iload_n S.1 S.2.1 dX2_mask_0 rfl (lv_at hl 0 rfl) ?_
  refine lv_iload_n S.1 S.2.1 dX2_mask_1 rfl (lv_at hl 2 rfl) ?_
  refine lv_iconst (v := 1) S.1 S.2.1 dX2_mask_2 (by decide) ?_
  refine lv_iadd S.1 S.2.1 dX2_mask_3 ?_
  refine kv_sP (As := [.int a, .int (z + 1)]) (rest := []) S (kc_CI_mix l D a (z + 1)  ) (kn_cS S kn_69 kn_54 kn_5 kn_55 kd_X0_mix rfl rfl ⟨Nat.le_of_ble_eq_true rfl, Nat.le_of_ble_eq_true rfl⟩) hB rfl hl.1 rfl (Nat.le_of_ble_eq_true rfl) dX2_mask_4 ⟨Nat.zero_le _, Nat.zero_le _⟩ (fun H locs hB => ?_)
  refine lv_iload_n S.1 S.2.1 dX2_mask_7 rfl (lv_at hl 1 rfl) ?_
  refine lv_ixor S.1 S.2.1 dX2_mask_8 ?_
  refine lv_iload_n S.1 S.2.1 dX2_mask_9 rfl (lv_at hl 2 rfl) ?_
  refine lv_iconst (v := 1) S.1 S.2.1 dX2_mask_10 (by decide) ?_
  refine lv_iadd S.1 S.2.1 dX2_mask_11 ?_
  refine kv_sP (As := [.int ((kp_H a (z + 1)) ^^^ b), .int (z + 1)]) (rest := []) S (kc_CI_mix l D ((kp_H a (z + 1)) ^^^ b) (z + 1)  ) (kn_cS S kn_69 kn_54 kn_5 kn_55 kd_X0_mix rfl rfl ⟨Nat.le_of_ble_eq_true rfl, Nat.le_of_ble_eq_true rfl⟩) hB rfl hl.1 rfl (Nat.le_of_ble_eq_true rfl) dX2_mask_12 ⟨Nat.zero_le _, Nat.zero_le _⟩ (fun H locs hB => ?_)
  exact K _ _ _ _ _ _ hB (rfl) (rfl) dX2_mask_15

abbrev kr_SL_workOutHalf : Room := { frames := 3, cells := 0, slots := 0, locals := 69 }
set_option maxRecDepth 100000 in
set_option maxHeartbeats 4000000 in
theorem kc_SL_workOutHalf (l : Launch) (N : State → Prop) (hN : kv_Mv N) (D : va_G) (cA : ClassId) (h d w r : Nat) (σ : kp_S) (g : Nat → Int32) (dv dk pk : Int32) (q : Nat) (hf : Nat) (x : Int32) (pw : Int32) (sd : Int32) (hq : q + 8 ≤ 80) (hh : hf < 2) : kv_V N l yX2_workOutHalf wsX2_workOutHalf kr_SL_workOutHalf D [(cA, .int)] [.ref r, .int (nI q), .int (nI hf), .int x, .int pw, .int sd] (vo_W h d w r cA σ g dv dk pk)  (vo_W h d w r cA σ (kp_wh g q hf x pw sd) dv dk pk) := by
  refine kv_openV (cc := cX2_workOutHalf) (maxL := 11) (by decide) rfl (Nat.le_of_ble_eq_true rfl) ?_
  intro p e s m args below meth c A H locs ls Q S hl hB K
  have hl : lv_has ls 11 [(0, .ref r), (1, .int (nI q)), (2, .int (nI hf)), (3, .int x), (4, .int pw), (5, .int sd)] := hl
  refine lv_iload S.1 S.2.1 dX2_workOutHalf_0 (lv_at hl 4 rfl) ?_
  refine lv_aload_n S.1 S.2.1 dX2_workOutHalf_2 rfl (lv_at hl 0 rfl) ?_
  refine lv_iload_n S.1 S.2.1 dX2_workOutHalf_3 rfl (lv_at hl 1 rfl) ?_
  refine lv_iconst (v := 1) S.1 S.2.1 dX2_workOutHalf_4 (by decide) ?_
  refine lv_iadd S.1 S.2.1 dX2_workOutHalf_5 ?_
  refine kv_top (y := nI (q + 1)) (nI_add q 1) ?_
  refine kv_iald S hB 3 0 rfl rfl (q + 1) rfl (by omega) (by decide) dX2_workOutHalf_6 ?_
  refine lv_iload_n S.1 S.2.1 dX2_workOutHalf_7 rfl (lv_at hl 2 rfl) ?_
  refine kv_sP (As := [.int pw, .int (g (q + 1)), .int (nI hf)]) (rest := []) S (kc_CI_slotKey l D pw (g (q + 1)) (nI hf)  ) (kn_cS S kn_73 kn_74 kn_5 kn_75 kd_X0_slotKey rfl rfl ⟨Nat.le_of_ble_eq_true rfl, Nat.le_of_ble_eq_true rfl⟩) hB rfl hl.1 rfl (Nat.le_of_ble_eq_true rfl) dX2_workOutHalf_8 ⟨Nat.zero_le _, Nat.zero_le _⟩ (fun H locs hB => ?_)
  refine lv_topi (fun x_1 ex_1 => ?_)
  refine lv_istore S.1 S.2.1 dX2_workOutHalf_11 hl (by decide) rfl (fun ls hl => ?_)
  have hl : lv_has ls 11 [(6, .int x_1), (0, .ref r), (1, .int (nI q)), (2, .int (nI hf)), (3, .int x), (4, .int pw), (5, .int sd)] := hl
  refine lv_iload S.1 S.2.1 dX2_workOutHalf_13 (lv_at hl 6 rfl) ?_
  refine lv_iload_n S.1 S.2.1 dX2_workOutHalf_15 rfl (lv_at hl 3 rfl) ?_
  refine lv_iconst (v := 1) S.1 S.2.1 dX2_workOutHalf_16 (by decide) ?_
  refine lv_iadd S.1 S.2.1 dX2_workOutHalf_17 ?_
  refine kv_top (y := nI (hf + 1)) (nI_add hf 1) ?_
  refine kv_sP (As := [.int sd, .int (nI (hf + 1))]) (rest := []) S (kc_CI_mix l D sd (nI (hf + 1))  ) (kn_cS S kn_69 kn_54 kn_5 kn_55 kd_X0_mix rfl rfl ⟨Nat.le_of_ble_eq_true rfl, Nat.le_of_ble_eq_true rfl⟩) hB rfl hl.1 rfl (Nat.le_of_ble_eq_true rfl) dX2_workOutHalf_18 ⟨Nat.zero_le _, Nat.zero_le _⟩ (fun H locs hB => ?_)
  refine lv_topi (fun x_2 ex_2 => ?_)
  refine lv_istore S.1 S.2.1 dX2_workOutHalf_21 hl (by decide) rfl (fun ls hl => ?_)
  have hl : lv_has ls 11 [(7, .int x_2), (6, .int x_1), (0, .ref r), (1, .int (nI q)), (2, .int (nI hf)), (3, .int x), (4, .int pw), (5, .int sd)] := hl
  refine lv_iload S.1 S.2.1 dX2_workOutHalf_23 (lv_at hl 7 rfl) ?_
  refine lv_iload_n S.1 S.2.1 dX2_workOutHalf_25 rfl (lv_at hl 4 rfl) ?_
  refine lv_iconst (v := 3) S.1 S.2.1 dX2_workOutHalf_26 (by decide) ?_
  refine lv_iadd S.1 S.2.1 dX2_workOutHalf_27 ?_
  refine kv_top (y := nI (hf + 3)) (nI_add hf 3) ?_
  refine kv_sP (As := [.int sd, .int (nI (hf + 3))]) (rest := []) S (kc_CI_mix l D sd (nI (hf + 3))  ) (kn_cS S kn_69 kn_54 kn_5 kn_55 kd_X0_mix rfl rfl ⟨Nat.le_of_ble_eq_true rfl, Nat.le_of_ble_eq_true rfl⟩) hB rfl hl.1 rfl (Nat.le_of_ble_eq_true rfl) dX2_workOutHalf_28 ⟨Nat.zero_le _, Nat.zero_le _⟩ (fun H locs hB => ?_)
  refine lv_topi (fun x_3 ex_3 => ?_)
  refine lv_istore S.1 S.2.1 dX2_workOutHalf_31 hl (by decide) rfl (fun ls hl => ?_)
  have hl : lv_has ls 11 [(8, .int x_3), (7, .int x_2), (6, .int x_1), (0, .ref r), (1, .int (nI q)), (2, .int (nI hf)), (3, .int x), (4, .int pw), (5, .int sd)] := hl
  refine lv_iload S.1 S.2.1 dX2_workOutHalf_33 (lv_at hl 1 rfl) ?_
  refine lv_iload S.1 S.2.1 dX2_workOutHalf_35 (lv_at hl 0 rfl) ?_
  refine lv_iload_n S.1 S.2.1 dX2_workOutHalf_37 rfl (lv_at hl 5 rfl) ?_
  refine kv_sP (As := [.int x_2, .int x_3, .int (nI hf)]) (rest := []) S (kc_SL_mask l D x_2 x_3 (nI hf)  ) (kn_cS S kn_76 kn_77 kn_6 kn_78 kd_X2_mask rfl rfl ⟨Nat.le_of_ble_eq_true rfl, Nat.le_of_ble_eq_true rfl⟩) hB rfl hl.1 rfl (Nat.le_of_ble_eq_true rfl) dX2_workOutHalf_38 ⟨Nat.zero_le _, Nat.zero_le _⟩ (fun H locs hB => ?_)
  refine lv_iload_n S.1 S.2.1 dX2_workOutHalf_41 rfl (lv_at hl 6 rfl) ?_
  refine lv_ixor S.1 S.2.1 dX2_workOutHalf_42 ?_
  refine lv_topi (fun x_4 ex_4 => ?_)
  refine lv_istore S.1 S.2.1 dX2_workOutHalf_43 hl (by decide) rfl (fun ls hl => ?_)
  have hl : lv_has ls 11 [(9, .int x_4), (8, .int x_3), (7, .int x_2), (6, .int x_1), (0, .ref r), (1, .int (nI q)), (2, .int (nI hf)), (3, .int x), (4, .int pw), (5, .int sd)] := hl
  refine lv_iload_n S.1 S.2.1 dX2_workOutHalf_45 rfl (lv_at hl 5 rfl) ?_
  refine lv_iconst (v := 2) S.1 S.2.1 dX2_workOutHalf_46 (by decide) ?_
  refine lv_iadd S.1 S.2.1 dX2_workOutHalf_47 ?_
  refine kv_top (y := nI (q + 2)) (nI_add q 2) ?_
  refine lv_iload_n S.1 S.2.1 dX2_workOutHalf_48 rfl (lv_at hl 6 rfl) ?_
  refine lv_iadd S.1 S.2.1 dX2_workOutHalf_49 ?_
  refine kv_top (y := nI ((q + 2) + hf)) (nI_add (q + 2) hf) ?_
  refine lv_istore S.1 S.2.1 dX2_workOutHalf_50 hl (by decide) rfl (fun ls hl => ?_)
  have hl : lv_has ls 11 [(10, .int (nI ((q + 2) + hf))), (9, .int x_4), (8, .int x_3), (7, .int x_2), (6, .int x_1), (0, .ref r), (1, .int (nI q)), (2, .int (nI hf)), (3, .int x), (4, .int pw), (5, .int sd)] := hl
  refine lv_aload_n S.1 S.2.1 dX2_workOutHalf_52 rfl (lv_at hl 5 rfl) ?_
  refine lv_iload S.1 S.2.1 dX2_workOutHalf_53 (lv_at hl 0 rfl) ?_
  refine lv_iload S.1 S.2.1 dX2_workOutHalf_55 (lv_at hl 4 rfl) ?_
  refine lv_iload S.1 S.2.1 dX2_workOutHalf_57 (lv_at hl 3 rfl) ?_
  refine kv_sP (As := [.int x_1, .int x_2]) (rest := [.int (nI ((q + 2) + hf)), .ref r]) S (kc_CI_encipher l D x_1 x_2  ) (kn_cS S kn_79 kn_80 kn_5 kn_81 kd_X0_encipher rfl rfl ⟨Nat.le_of_ble_eq_true rfl, Nat.le_of_ble_eq_true rfl⟩) hB rfl hl.1 rfl (Nat.le_of_ble_eq_true rfl) dX2_workOutHalf_59 ⟨Nat.zero_le _, Nat.zero_le _⟩ (fun H locs hB => ?_)
  refine kv_iast S hB 3 0 rfl rfl ((q + 2) + hf) rfl (by omega) (by decide) dX2_workOutHalf_62 (fun H locs hB => ?_)
  have hB : kv_B N D [(cA, .int)] A s (vo_W h d w r cA σ (upd g ((q + 2) + hf) (kp_E x_1 x_2)) dv dk pk) H locs := hB
  refine lv_aload_n S.1 S.2.1 dX2_workOutHalf_63 rfl (lv_at hl 5 rfl) ?_
  refine lv_iload S.1 S.2.1 dX2_workOutHalf_64 (lv_at hl 0 rfl) ?_
  refine lv_iconst (v := 2) S.1 S.2.1 dX2_workOutHalf_66 (by decide) ?_
  refine lv_iadd S.1 S.2.1 dX2_workOutHalf_67 ?_
  refine kv_top (y := nI (((q + 2) + hf) + 2)) (nI_add ((q + 2) + hf) 2) ?_
  refine lv_iload S.1 S.2.1 dX2_workOutHalf_68 (lv_at hl 4 rfl) ?_
  refine lv_iload S.1 S.2.1 dX2_workOutHalf_70 (lv_at hl 2 rfl) ?_
  refine kv_sP (As := [.int x_1, .int x_3]) (rest := [.int (nI (((q + 2) + hf) + 2)), .ref r]) S (kc_CI_encipher l D x_1 x_3  ) (kn_cS S kn_79 kn_80 kn_5 kn_81 kd_X0_encipher rfl rfl ⟨Nat.le_of_ble_eq_true rfl, Nat.le_of_ble_eq_true rfl⟩) hB rfl hl.1 rfl (Nat.le_of_ble_eq_true rfl) dX2_workOutHalf_72 ⟨Nat.zero_le _, Nat.zero_le _⟩ (fun H locs hB => ?_)
  refine kv_iast S hB 3 0 rfl rfl (((q + 2) + hf) + 2) rfl (by omega) (by decide) dX2_workOutHalf_75 (fun H locs hB => ?_)
  have hB : kv_B N D [(cA, .int)] A s (vo_W h d w r cA σ (upd (upd g ((q + 2) + hf) (kp_E x_1 x_2)) (((q + 2) + hf) + 2) (kp_E x_1 x_3)) dv dk pk) H locs := hB
  refine lv_aload_n S.1 S.2.1 dX2_workOutHalf_76 rfl (lv_at hl 5 rfl) ?_
  refine lv_iload S.1 S.2.1 dX2_workOutHalf_77 (lv_at hl 0 rfl) ?_
  refine lv_iconst (v := 4) S.1 S.2.1 dX2_workOutHalf_79 (by decide) ?_
  refine lv_iadd S.1 S.2.1 dX2_workOutHalf_80 ?_
  refine kv_top (y := nI (((q + 2) + hf) + 4)) (nI_add ((q + 2) + hf) 4) ?_
  refine lv_iload S.1 S.2.1 dX2_workOutHalf_81 (lv_at hl 4 rfl) ?_
  refine lv_iload S.1 S.2.1 dX2_workOutHalf_83 (lv_at hl 1 rfl) ?_
  refine kv_sP (As := [.int x_1, .int x_4]) (rest := [.int (nI (((q + 2) + hf) + 4)), .ref r]) S (kc_CI_encipher l D x_1 x_4  ) (kn_cS S kn_79 kn_80 kn_5 kn_81 kd_X0_encipher rfl rfl ⟨Nat.le_of_ble_eq_true rfl, Nat.le_of_ble_eq_true rfl⟩) hB rfl hl.1 rfl (Nat.le_of_ble_eq_true rfl) dX2_workOutHalf_85 ⟨Nat.zero_le _, Nat.zero_le _⟩ (fun H locs hB => ?_)
  refine kv_iast S hB 3 0 rfl rfl (((q + 2) + hf) + 4) rfl (by omega) (by decide) dX2_workOutHalf_88 (fun H locs hB => ?_)
  have hB : kv_B N D [(cA, .int)] A s (vo_W h d w r cA σ (upd (upd (upd g ((q + 2) + hf) (kp_E x_1 x_2)) (((q + 2) + hf) + 2) (kp_E x_1 x_3)) (((q + 2) + hf) + 4) (kp_E x_1 x_4)) dv dk pk) H locs := hB
  exact K _ _ _ _ _ hB (by subst_vars; rfl) dX2_workOutHalf_89

abbrev kr_SL_workOut : Room := { frames := 4, cells := 0, slots := 0, locals := 99 }
set_option maxRecDepth 100000 in
set_option maxHeartbeats 4000000 in
theorem kc_SL_workOut (l : Launch) (N : State → Prop) (hN : kv_Mv N) (D : va_G) (cA : ClassId) (h d w r : Nat) (σ : kp_S) (g : Nat → Int32) (dv dk pk : Int32) (q : Nat) (a : Int32) (b : Int32) (pw : Int32) (sd : Int32) (hq : q + 8 ≤ 80) : kv_V N l yX2_workOut wsX2_workOut kr_SL_workOut D [(cA, .int)] [.ref r, .int (nI q), .int a, .int b, .int pw, .int sd] (vo_W h d w r cA σ g dv dk pk)  (vo_W h d w r cA σ (kp_wo g q a b pw sd) dv dk pk) := by
  refine kv_openV (cc := cX2_workOut) (maxL := 6) (by decide) rfl (Nat.le_of_ble_eq_true rfl) ?_
  intro p e s m args below meth c A H locs ls Q S hl hB K
  have hl : lv_has ls 6 [(0, .ref r), (1, .int (nI q)), (2, .int a), (3, .int b), (4, .int pw), (5, .int sd)] := hl
  refine lv_iload_n S.1 S.2.1 dX2_workOut_0 rfl (lv_at hl 1 rfl) ?_
  refine kv_blt0 (x := q) (tgt := 13) S (by omega) dX2_workOut_1 (by decide) ?_
  refine lv_iload_n S.1 S.2.1 dX2_workOut_4 rfl (lv_at hl 1 rfl) ?_
  refine lv_aload_n S.1 S.2.1 dX2_workOut_5 rfl (lv_at hl 0 rfl) ?_
  refine kv_alen S hB 3 0 rfl rfl dX2_workOut_6 ?_
  refine lv_bipush (v := 8) S.1 S.2.1 dX2_workOut_7 (by decide) ?_
  refine lv_isub S.1 S.2.1 dX2_workOut_9 ?_
  refine kv_top (y := 72) (by decide) ?_
  refine kv_ble (x := q) (y := 72) (tgt := 14) S (by omega) (by omega) dX2_workOut_10 (by decide) (fun h_10 => ?_) (fun h => absurd h (by omega))
  refine lv_aload_n S.1 S.2.1 dX2_workOut_14 rfl (lv_at hl 0 rfl) ?_
  refine lv_iload_n S.1 S.2.1 dX2_workOut_15 rfl (lv_at hl 1 rfl) ?_
  refine lv_iconst (v := 1) S.1 S.2.1 dX2_workOut_16 (by decide) ?_
  refine kv_iast S hB 3 0 rfl rfl q rfl (by omega) (by decide) dX2_workOut_17 (fun H locs hB => ?_)
  have hB : kv_B N D [(cA, .int)] A s (vo_W h d w r cA σ (upd g q 1) dv dk pk) H locs := hB
  refine lv_aload_n S.1 S.2.1 dX2_workOut_18 rfl (lv_at hl 0 rfl) ?_
  refine lv_iload_n S.1 S.2.1 dX2_workOut_19 rfl (lv_at hl 1 rfl) ?_
  refine lv_iconst (v := 1) S.1 S.2.1 dX2_workOut_20 (by decide) ?_
  refine lv_iadd S.1 S.2.1 dX2_workOut_21 ?_
  refine kv_top (y := nI (q + 1)) (nI_add q 1) ?_
  refine lv_iload S.1 S.2.1 dX2_workOut_22 (lv_at hl 5 rfl) ?_
  refine lv_iconst (v := 0) S.1 S.2.1 dX2_workOut_24 (by decide) ?_
  refine kv_sP (As := [.int sd, .int 0]) (rest := [.int (nI (q + 1)), .ref r]) S (kc_CI_mix l D sd 0  ) (kn_cS S kn_69 kn_54 kn_5 kn_55 kd_X0_mix rfl rfl ⟨Nat.le_of_ble_eq_true rfl, Nat.le_of_ble_eq_true rfl⟩) hB rfl hl.1 rfl (Nat.le_of_ble_eq_true rfl) dX2_workOut_25 ⟨Nat.zero_le _, Nat.zero_le _⟩ (fun H locs hB => ?_)
  refine kv_iast S hB 3 0 rfl rfl (q + 1) rfl (by omega) (by decide) dX2_workOut_28 (fun H locs hB => ?_)
  have hB : kv_B N D [(cA, .int)] A s (vo_W h d w r cA σ (upd (upd g q 1) (q + 1) (kp_H sd 0)) dv dk pk) H locs := hB
  refine lv_aload_n S.1 S.2.1 dX2_workOut_29 rfl (lv_at hl 0 rfl) ?_
  refine lv_iload_n S.1 S.2.1 dX2_workOut_30 rfl (lv_at hl 1 rfl) ?_
  refine lv_iconst (v := 0) S.1 S.2.1 dX2_workOut_31 (by decide) ?_
  refine lv_iload_n S.1 S.2.1 dX2_workOut_32 rfl (lv_at hl 2 rfl) ?_
  refine lv_iload S.1 S.2.1 dX2_workOut_33 (lv_at hl 4 rfl) ?_
  refine lv_iload S.1 S.2.1 dX2_workOut_35 (lv_at hl 5 rfl) ?_
  refine kv_sV (As := [.ref r, .int (nI q), .int 0, .int a, .int pw, .int sd]) (rest := []) hN S (kc_SL_workOutHalf l N hN D cA h d w r σ (upd (upd g q 1) (q + 1) (kp_H sd 0)) dv dk pk q 0 a pw sd  (by omega) (by omega)) (kn_cS S kn_70 kn_71 kn_6 kn_72 kd_X2_workOutHalf rfl rfl ⟨Nat.le_of_ble_eq_true rfl, Nat.le_of_ble_eq_true rfl⟩) hB rfl hl.1 rfl (Nat.le_of_ble_eq_true rfl) dX2_workOut_37 ⟨Nat.zero_le _, Nat.zero_le _⟩ (fun H locs hB => ?_)
  have hB : kv_B N D [(cA, .int)] A s (vo_W h d w r cA σ (kp_wh (upd (upd g q 1) (q + 1) (kp_H sd 0)) q 0 a pw sd) dv dk pk) H locs := hB
  refine lv_aload_n S.1 S.2.1 dX2_workOut_40 rfl (lv_at hl 0 rfl) ?_
  refine lv_iload_n S.1 S.2.1 dX2_workOut_41 rfl (lv_at hl 1 rfl) ?_
  refine lv_iconst (v := 1) S.1 S.2.1 dX2_workOut_42 (by decide) ?_
  refine lv_iload_n S.1 S.2.1 dX2_workOut_43 rfl (lv_at hl 3 rfl) ?_
  refine lv_iload S.1 S.2.1 dX2_workOut_44 (lv_at hl 4 rfl) ?_
  refine lv_iload S.1 S.2.1 dX2_workOut_46 (lv_at hl 5 rfl) ?_
  refine kv_sV (As := [.ref r, .int (nI q), .int 1, .int b, .int pw, .int sd]) (rest := []) hN S (kc_SL_workOutHalf l N hN D cA h d w r σ (kp_wh (upd (upd g q 1) (q + 1) (kp_H sd 0)) q 0 a pw sd) dv dk pk q 1 b pw sd  (by omega) (by omega)) (kn_cS S kn_70 kn_71 kn_6 kn_72 kd_X2_workOutHalf rfl rfl ⟨Nat.le_of_ble_eq_true rfl, Nat.le_of_ble_eq_true rfl⟩) hB rfl hl.1 rfl (Nat.le_of_ble_eq_true rfl) dX2_workOut_48 ⟨Nat.zero_le _, Nat.zero_le _⟩ (fun H locs hB => ?_)
  have hB : kv_B N D [(cA, .int)] A s (vo_W h d w r cA σ (kp_wh (kp_wh (upd (upd g q 1) (q + 1) (kp_H sd 0)) q 0 a pw sd) q 1 b pw sd) dv dk pk) H locs := hB
  exact K _ _ _ _ _ hB (by subst_vars; rfl) dX2_workOut_51

abbrev kr_SL_openHalf : Room := { frames := 3, cells := 0, slots := 0, locals := 69 }
set_option maxRecDepth 100000 in
set_option maxHeartbeats 4000000 in
theorem kc_SL_openHalf (l : Launch) (N : State → Prop) (hN : kv_Mv N) (D : va_G) (cA : ClassId) (h d w r : Nat) (σ : kp_S) (g : Nat → Int32) (dv dk pk : Int32) (q : Nat) (hf : Nat) (pw : Int32) (hq : q + 8 ≤ 80) (hh : hf < 2) : kv_I N l yX2_openHalf wsX2_openHalf kr_SL_openHalf D [(cA, .int)] [.ref d, .int (nI q), .int (nI hf), .int pw] (vo_W h d w r cA σ g dv dk pk) (kp_oh σ.1 q pw hf) (vo_W h d w r cA σ g dv dk pk) := by
  refine kv_openI (cc := cX2_openHalf) (maxL := 9) (rt := .int) (by decide) rfl (rfl) (Nat.le_of_ble_eq_true rfl) ?_
  intro p e s m args below meth c A H locs ls Q S hl hB K
  have hl : lv_has ls 9 [(0, .ref d), (1, .int (nI q)), (2, .int (nI hf)), (3, .int pw)] := hl
  refine lv_iload_n S.1 S.2.1 dX2_openHalf_0 rfl (lv_at hl 3 rfl) ?_
  refine lv_aload_n S.1 S.2.1 dX2_openHalf_1 rfl (lv_at hl 0 rfl) ?_
  refine lv_iload_n S.1 S.2.1 dX2_openHalf_2 rfl (lv_at hl 1 rfl) ?_
  refine lv_iconst (v := 1) S.1 S.2.1 dX2_openHalf_3 (by decide) ?_
  refine lv_iadd S.1 S.2.1 dX2_openHalf_4 ?_
  refine kv_top (y := nI (q + 1)) (nI_add q 1) ?_
  refine kv_vI (As := [.int (nI (q + 1))]) (rest := [.int pw]) hN S (kc_DI_wordAtN l N hN D cA h d w r σ g dv dk pk (q + 1)  (by omega)) (kn_cV (C := RX1) S kn_156 kn_115 kn_116 kn_2 kn_117 rfl kd_X1_wordAt rfl rfl ⟨Nat.le_of_ble_eq_true rfl, Nat.le_of_ble_eq_true rfl⟩) hB 1 rfl rfl rfl hl.1 rfl (Nat.le_of_ble_eq_true rfl) dX2_openHalf_5 ⟨Nat.zero_le _, Nat.zero_le _⟩ (fun H locs hB => ?_)
  refine lv_iload_n S.1 S.2.1 dX2_openHalf_8 rfl (lv_at hl 2 rfl) ?_
  refine kv_sP (As := [.int pw, .int (σ.1 (q + 1)), .int (nI hf)]) (rest := []) S (kc_CI_slotKey l D pw (σ.1 (q + 1)) (nI hf)  ) (kn_cS S kn_73 kn_74 kn_5 kn_75 kd_X0_slotKey rfl rfl ⟨Nat.le_of_ble_eq_true rfl, Nat.le_of_ble_eq_true rfl⟩) hB rfl hl.1 rfl (Nat.le_of_ble_eq_true rfl) dX2_openHalf_9 ⟨Nat.zero_le _, Nat.zero_le _⟩ (fun H locs hB => ?_)
  refine lv_topi (fun x_1 ex_1 => ?_)
  refine lv_istore S.1 S.2.1 dX2_openHalf_12 hl (by decide) rfl (fun ls hl => ?_)
  have hl : lv_has ls 9 [(4, .int x_1), (0, .ref d), (1, .int (nI q)), (2, .int (nI hf)), (3, .int pw)] := hl
  refine lv_iload_n S.1 S.2.1 dX2_openHalf_14 rfl (lv_at hl 2 rfl) ?_
  refine lv_iconst (v := 2) S.1 S.2.1 dX2_openHalf_15 (by decide) ?_
  refine lv_iadd S.1 S.2.1 dX2_openHalf_16 ?_
  refine kv_top (y := nI (q + 2)) (nI_add q 2) ?_
  refine lv_iload_n S.1 S.2.1 dX2_openHalf_17 rfl (lv_at hl 3 rfl) ?_
  refine lv_iadd S.1 S.2.1 dX2_openHalf_18 ?_
  refine kv_top (y := nI ((q + 2) + hf)) (nI_add (q + 2) hf) ?_
  refine lv_istore S.1 S.2.1 dX2_openHalf_19 hl (by decide) rfl (fun ls hl => ?_)
  have hl : lv_has ls 9 [(5, .int (nI ((q + 2) + hf))), (4, .int x_1), (0, .ref d), (1, .int (nI q)), (2, .int (nI hf)), (3, .int pw)] := hl
  refine lv_iload S.1 S.2.1 dX2_openHalf_21 (lv_at hl 1 rfl) ?_
  refine lv_aload_n S.1 S.2.1 dX2_openHalf_23 rfl (lv_at hl 2 rfl) ?_
  refine lv_iload S.1 S.2.1 dX2_openHalf_24 (lv_at hl 0 rfl) ?_
  refine kv_vI (As := [.int (nI ((q + 2) + hf))]) (rest := [.int x_1]) hN S (kc_DI_wordAtN l N hN D cA h d w r σ g dv dk pk ((q + 2) + hf)  (by omega)) (kn_cV (C := RX1) S kn_156 kn_115 kn_116 kn_2 kn_117 rfl kd_X1_wordAt rfl rfl ⟨Nat.le_of_ble_eq_true rfl, Nat.le_of_ble_eq_true rfl⟩) hB 1 rfl rfl rfl hl.1 rfl (Nat.le_of_ble_eq_true rfl) dX2_openHalf_26 ⟨Nat.zero_le _, Nat.zero_le _⟩ (fun H locs hB => ?_)
  refine kv_sP (As := [.int x_1, .int (σ.1 ((q + 2) + hf))]) (rest := []) S (kc_CI_decipher l D x_1 (σ.1 ((q + 2) + hf))  ) (kn_cS S kn_157 kn_158 kn_5 kn_159 kd_X0_decipher rfl rfl ⟨Nat.le_of_ble_eq_true rfl, Nat.le_of_ble_eq_true rfl⟩) hB rfl hl.1 rfl (Nat.le_of_ble_eq_true rfl) dX2_openHalf_29 ⟨Nat.zero_le _, Nat.zero_le _⟩ (fun H locs hB => ?_)
  refine lv_topi (fun x_2 ex_2 => ?_)
  refine lv_istore S.1 S.2.1 dX2_openHalf_32 hl (by decide) rfl (fun ls hl => ?_)
  have hl : lv_has ls 9 [(6, .int x_2), (5, .int (nI ((q + 2) + hf))), (4, .int x_1), (0, .ref d), (1, .int (nI q)), (2, .int (nI hf)), (3, .int pw)] := hl
  refine lv_iload S.1 S.2.1 dX2_openHalf_34 (lv_at hl 2 rfl) ?_
  refine lv_aload_n S.1 S.2.1 dX2_openHalf_36 rfl (lv_at hl 3 rfl) ?_
  refine lv_iload S.1 S.2.1 dX2_openHalf_37 (lv_at hl 1 rfl) ?_
  refine lv_iconst (v := 2) S.1 S.2.1 dX2_openHalf_39 (by decide) ?_
  refine lv_iadd S.1 S.2.1 dX2_openHalf_40 ?_
  refine kv_top (y := nI (((q + 2) + hf) + 2)) (nI_add ((q + 2) + hf) 2) ?_
  refine kv_vI (As := [.int (nI (((q + 2) + hf) + 2))]) (rest := [.int x_1]) hN S (kc_DI_wordAtN l N hN D cA h d w r σ g dv dk pk (((q + 2) + hf) + 2)  (by omega)) (kn_cV (C := RX1) S kn_156 kn_115 kn_116 kn_2 kn_117 rfl kd_X1_wordAt rfl rfl ⟨Nat.le_of_ble_eq_true rfl, Nat.le_of_ble_eq_true rfl⟩) hB 1 rfl rfl rfl hl.1 rfl (Nat.le_of_ble_eq_true rfl) dX2_openHalf_41 ⟨Nat.zero_le _, Nat.zero_le _⟩ (fun H locs hB => ?_)
  refine kv_sP (As := [.int x_1, .int (σ.1 (((q + 2) + hf) + 2))]) (rest := []) S (kc_CI_decipher l D x_1 (σ.1 (((q + 2) + hf) + 2))  ) (kn_cS S kn_157 kn_158 kn_5 kn_159 kd_X0_decipher rfl rfl ⟨Nat.le_of_ble_eq_true rfl, Nat.le_of_ble_eq_true rfl⟩) hB rfl hl.1 rfl (Nat.le_of_ble_eq_true rfl) dX2_openHalf_44 ⟨Nat.zero_le _, Nat.zero_le _⟩ (fun H locs hB => ?_)
  refine lv_topi (fun x_3 ex_3 => ?_)
  refine lv_istore S.1 S.2.1 dX2_openHalf_47 hl (by decide) rfl (fun ls hl => ?_)
  have hl : lv_has ls 9 [(7, .int x_3), (6, .int x_2), (5, .int (nI ((q + 2) + hf))), (4, .int x_1), (0, .ref d), (1, .int (nI q)), (2, .int (nI hf)), (3, .int pw)] := hl
  refine lv_iload S.1 S.2.1 dX2_openHalf_49 (lv_at hl 3 rfl) ?_
  refine lv_aload_n S.1 S.2.1 dX2_openHalf_51 rfl (lv_at hl 4 rfl) ?_
  refine lv_iload S.1 S.2.1 dX2_openHalf_52 (lv_at hl 2 rfl) ?_
  refine lv_iconst (v := 4) S.1 S.2.1 dX2_openHalf_54 (by decide) ?_
  refine lv_iadd S.1 S.2.1 dX2_openHalf_55 ?_
  refine kv_top (y := nI (((q + 2) + hf) + 4)) (nI_add ((q + 2) + hf) 4) ?_
  refine kv_vI (As := [.int (nI (((q + 2) + hf) + 4))]) (rest := [.int x_1]) hN S (kc_DI_wordAtN l N hN D cA h d w r σ g dv dk pk (((q + 2) + hf) + 4)  (by omega)) (kn_cV (C := RX1) S kn_156 kn_115 kn_116 kn_2 kn_117 rfl kd_X1_wordAt rfl rfl ⟨Nat.le_of_ble_eq_true rfl, Nat.le_of_ble_eq_true rfl⟩) hB 1 rfl rfl rfl hl.1 rfl (Nat.le_of_ble_eq_true rfl) dX2_openHalf_56 ⟨Nat.zero_le _, Nat.zero_le _⟩ (fun H locs hB => ?_)
  refine kv_sP (As := [.int x_1, .int (σ.1 (((q + 2) + hf) + 4))]) (rest := []) S (kc_CI_decipher l D x_1 (σ.1 (((q + 2) + hf) + 4))  ) (kn_cS S kn_157 kn_158 kn_5 kn_159 kd_X0_decipher rfl rfl ⟨Nat.le_of_ble_eq_true rfl, Nat.le_of_ble_eq_true rfl⟩) hB rfl hl.1 rfl (Nat.le_of_ble_eq_true rfl) dX2_openHalf_59 ⟨Nat.zero_le _, Nat.zero_le _⟩ (fun H locs hB => ?_)
  refine lv_topi (fun x_4 ex_4 => ?_)
  refine lv_istore S.1 S.2.1 dX2_openHalf_62 hl (by decide) rfl (fun ls hl => ?_)
  have hl : lv_has ls 9 [(8, .int x_4), (7, .int x_3), (6, .int x_2), (5, .int (nI ((q + 2) + hf))), (4, .int x_1), (0, .ref d), (1, .int (nI q)), (2, .int (nI hf)), (3, .int pw)] := hl
  refine lv_iload S.1 S.2.1 dX2_openHalf_64 (lv_at hl 2 rfl) ?_
  refine lv_iload S.1 S.2.1 dX2_openHalf_66 (lv_at hl 1 rfl) ?_
  refine lv_iload_n S.1 S.2.1 dX2_openHalf_68 rfl (lv_at hl 7 rfl) ?_
  refine kv_sP (As := [.int x_2, .int x_3, .int (nI hf)]) (rest := []) S (kc_SL_mask l D x_2 x_3 (nI hf)  ) (kn_cS S kn_76 kn_77 kn_6 kn_78 kd_X2_mask rfl rfl ⟨Nat.le_of_ble_eq_true rfl, Nat.le_of_ble_eq_true rfl⟩) hB rfl hl.1 rfl (Nat.le_of_ble_eq_true rfl) dX2_openHalf_69 ⟨Nat.zero_le _, Nat.zero_le _⟩ (fun H locs hB => ?_)
  refine lv_iload S.1 S.2.1 dX2_openHalf_72 (lv_at hl 0 rfl) ?_
  refine lv_ixor S.1 S.2.1 dX2_openHalf_74 ?_
  exact K _ _ _ _ _ _ hB (by subst_vars; rfl) (rfl) dX2_openHalf_75
