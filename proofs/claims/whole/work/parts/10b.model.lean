abbrev kr_MO_cover : Room := { frames := 1, cells := 0, slots := 0, locals := 22 }
set_option maxRecDepth 100000 in
set_option maxHeartbeats 4000000 in
theorem kc_MO_cover (l : Launch) (N : State → Prop) (hN : kv_Mv N) (D : va_G) (cA : ClassId) (o a1 a2 a3 a4 a5 a6 : Nat) (σ : kp_S) (dv ka kb : Int32) (μ : kp_P) (fr st : Nat → Int32) (oa ob : Int32) (hf : Nat) (hh : hf < 2) : kv_I N l yX4_cover wsX4_cover kr_MO_cover D [(cA, .int)] [.ref o, .int (nI hf)] (mo_W o a1 a2 a3 a4 a5 a6 cA σ dv ka kb μ fr st oa ob) (kp_M (st hf) (st (hf + 2)) (nI hf)) (mo_W o a1 a2 a3 a4 a5 a6 cA σ dv ka kb μ fr st oa ob) := by
  refine kv_openI (cc := cX4_cover) (maxL := 3) (rt := .int) (by decide) rfl (rfl) (Nat.le_of_ble_eq_true rfl) ?_
  intro p e s m args below meth c A H locs ls Q S hl hB K
  have hl : lv_has ls 3 [(0, .ref o), (1, .int (nI hf))] := hl
  refine lv_aload_n S.1 S.2.1 dX4_cover_0 rfl (lv_at hl 0 rfl) ?_
  refine kv_get (C := RX4) (T := TX4) (M := 14) (ci := 2) S hB (kn_c kn_iX4) 0 rfl rfl 11 (by decide) (List.mem_cons_of_mem _ kn_244) rfl rfl dX4_cover_1 ?_
  refine lv_iload_n S.1 S.2.1 dX4_cover_4 rfl (lv_at hl 1 rfl) ?_
  refine kv_iald S hB 6 0 rfl rfl hf rfl (by omega) (by decide) dX4_cover_5 ?_
  refine lv_iload_n S.1 S.2.1 dX4_cover_6 rfl (lv_at hl 1 rfl) ?_
  refine lv_iconst (v := 1) S.1 S.2.1 dX4_cover_7 (by decide) ?_
  refine lv_iadd S.1 S.2.1 dX4_cover_8 ?_
  refine kv_top (y := nI (hf + 1)) (nI_add hf 1) ?_
  refine kv_sP (As := [.int (st hf), .int (nI (hf + 1))]) (rest := []) S (kc_MO_h l D (st hf) (nI (hf + 1))  ) (kn_cS S kn_272 kn_273 kn_3 kn_274 kd_X4_h rfl rfl ⟨Nat.le_of_ble_eq_true rfl, Nat.le_of_ble_eq_true rfl⟩) hB rfl hl.1 rfl (Nat.le_of_ble_eq_true rfl) dX4_cover_9 ⟨Nat.zero_le _, Nat.zero_le _⟩ (fun H locs hB => ?_)
  refine lv_topi (fun x_1 ex_1 => ?_)
  refine lv_istore_n S.1 S.2.1 dX4_cover_12 rfl hl (by decide) rfl (fun ls hl => ?_)
  have hl : lv_has ls 3 [(2, .int x_1), (0, .ref o), (1, .int (nI hf))] := hl
  refine lv_iload_n S.1 S.2.1 dX4_cover_13 rfl (lv_at hl 0 rfl) ?_
  refine lv_aload_n S.1 S.2.1 dX4_cover_14 rfl (lv_at hl 1 rfl) ?_
  refine kv_get (C := RX4) (T := TX4) (M := 14) (ci := 2) S hB (kn_c kn_iX4) 0 rfl rfl 11 (by decide) (List.mem_cons_of_mem _ kn_244) rfl rfl dX4_cover_15 ?_
  refine lv_iload_n S.1 S.2.1 dX4_cover_18 rfl (lv_at hl 2 rfl) ?_
  refine lv_iconst (v := 2) S.1 S.2.1 dX4_cover_19 (by decide) ?_
  refine lv_iadd S.1 S.2.1 dX4_cover_20 ?_
  refine kv_top (y := nI (hf + 2)) (nI_add hf 2) ?_
  refine kv_iald S hB 6 0 rfl rfl (hf + 2) rfl (by omega) (by decide) dX4_cover_21 ?_
  refine lv_ixor S.1 S.2.1 dX4_cover_22 ?_
  refine lv_iload_n S.1 S.2.1 dX4_cover_23 rfl (lv_at hl 2 rfl) ?_
  refine lv_iconst (v := 1) S.1 S.2.1 dX4_cover_24 (by decide) ?_
  refine lv_iadd S.1 S.2.1 dX4_cover_25 ?_
  refine kv_top (y := nI (hf + 1)) (nI_add hf 1) ?_
  refine kv_sP (As := [.int (x_1 ^^^ (st (hf + 2))), .int (nI (hf + 1))]) (rest := []) S (kc_MO_h l D (x_1 ^^^ (st (hf + 2))) (nI (hf + 1))  ) (kn_cS S kn_272 kn_273 kn_3 kn_274 kd_X4_h rfl rfl ⟨Nat.le_of_ble_eq_true rfl, Nat.le_of_ble_eq_true rfl⟩) hB rfl hl.1 rfl (Nat.le_of_ble_eq_true rfl) dX4_cover_26 ⟨Nat.zero_le _, Nat.zero_le _⟩ (fun H locs hB => ?_)
  exact K _ _ _ _ _ _ hB (by subst_vars; rw [kp_M, nI_1]) (rfl) dX4_cover_29

abbrev kr_MO_makeSlot : Room := { frames := 3, cells := 0, slots := 0, locals := 70 }
set_option maxRecDepth 100000 in
set_option maxHeartbeats 4000000 in
theorem kc_MO_makeSlot (l : Launch) (N : State → Prop) (hN : kv_Mv N) (D : va_G) (cA : ClassId) (o a1 a2 a3 a4 a5 a6 : Nat) (σ : kp_S) (dv ka kb : Int32) (μ : kp_P) (fr st : Nat → Int32) (oa ob : Int32) (pw : Int32) (sd : Int32) (a : Int32) (b : Int32) : kv_V N l yX4_makeSlot wsX4_makeSlot kr_MO_makeSlot D [(cA, .int)] [.ref o, .int pw, .int sd, .int a, .int b] (mo_W o a1 a2 a3 a4 a5 a6 cA σ dv ka kb μ fr st oa ob)  (mo_W o a1 a2 a3 a4 a5 a6 cA σ dv ka kb μ (kp_sl pw sd a b) (kp_ms sd a b) oa ob) := by
  refine kv_openV (cc := cX4_makeSlot) (maxL := 8) (by decide) rfl (Nat.le_of_ble_eq_true rfl) ?_
  intro p e s m args below meth c A H locs ls Q S hl hB K
  have hl : lv_has ls 8 [(0, .ref o), (1, .int pw), (2, .int sd), (3, .int a), (4, .int b)] := hl
  refine lv_iconst (v := 0) S.1 S.2.1 dX4_makeSlot_0 (by decide) ?_
  refine lv_istore S.1 S.2.1 dX4_makeSlot_1 hl (by decide) rfl (fun ls hl => ?_)
  have hl : lv_has ls 8 [(5, .int 0), (0, .ref o), (1, .int pw), (2, .int sd), (3, .int a), (4, .int b)] := hl
  refine lv_iload S.1 S.2.1 dX4_makeSlot_3 (lv_at hl 0 rfl) ?_
  refine lv_iconst (v := 4) S.1 S.2.1 dX4_makeSlot_5 (by decide) ?_
  refine kv_bge (x := 0) (y := 4) (tgt := 30) S (by omega) (by omega) dX4_makeSlot_6 (by decide) (fun h => absurd h (by omega)) (fun h_6 => ?_)
  refine lv_aload_n S.1 S.2.1 dX4_makeSlot_9 rfl (lv_at hl 1 rfl) ?_
  refine kv_get (C := RX4) (T := TX4) (M := 14) (ci := 2) S hB (kn_c kn_iX4) 0 rfl rfl 11 (by decide) (List.mem_cons_of_mem _ kn_244) rfl rfl dX4_makeSlot_10 ?_
  refine lv_iload S.1 S.2.1 dX4_makeSlot_13 (lv_at hl 0 rfl) ?_
  refine lv_iload_n S.1 S.2.1 dX4_makeSlot_15 rfl (lv_at hl 3 rfl) ?_
  refine lv_iload S.1 S.2.1 dX4_makeSlot_16 (lv_at hl 0 rfl) ?_
  refine lv_iconst (v := 1) S.1 S.2.1 dX4_makeSlot_18 (by decide) ?_
  refine lv_iadd S.1 S.2.1 dX4_makeSlot_19 ?_
  refine kv_top (y := nI (0 + 1)) (nI_add 0 1) ?_
  refine kv_sP (As := [.int sd, .int (nI (0 + 1))]) (rest := [.int 0, .ref a6]) S (kc_MO_h l D sd (nI (0 + 1))  ) (kn_cS S kn_272 kn_273 kn_3 kn_274 kd_X4_h rfl rfl ⟨Nat.le_of_ble_eq_true rfl, Nat.le_of_ble_eq_true rfl⟩) hB rfl hl.1 rfl (Nat.le_of_ble_eq_true rfl) dX4_makeSlot_20 ⟨Nat.zero_le _, Nat.zero_le _⟩ (fun H locs hB => ?_)
  refine kv_iast S hB 6 0 rfl rfl 0 rfl (by omega) (by decide) dX4_makeSlot_23 (fun H locs hB => ?_)
  have hB : kv_B N D [(cA, .int)] A s (mo_W o a1 a2 a3 a4 a5 a6 cA σ dv ka kb μ fr (upd st 0 (kp_H sd (nI (0 + 1)))) oa ob) H locs := hB
  refine lv_iinc (k := 0) (v := 1) S.1 S.2.1 dX4_makeSlot_24 hl rfl (by decide) (by decide) rfl (fun ls hl => ?_)
  have hl : lv_has ls 8 [(5, .int 1), (0, .ref o), (1, .int pw), (2, .int sd), (3, .int a), (4, .int b)] := hl
  refine lv_goto (tgt := 3) S.1 S.2.1 dX4_makeSlot_27 (by decide) ?_
  refine lv_iload S.1 S.2.1 dX4_makeSlot_3 (lv_at hl 0 rfl) ?_
  refine lv_iconst (v := 4) S.1 S.2.1 dX4_makeSlot_5 (by decide) ?_
  refine kv_bge (x := 1) (y := 4) (tgt := 30) S (by omega) (by omega) dX4_makeSlot_6 (by decide) (fun h => absurd h (by omega)) (fun h_6 => ?_)
  refine lv_aload_n S.1 S.2.1 dX4_makeSlot_9 rfl (lv_at hl 1 rfl) ?_
  refine kv_get (C := RX4) (T := TX4) (M := 14) (ci := 2) S hB (kn_c kn_iX4) 0 rfl rfl 11 (by decide) (List.mem_cons_of_mem _ kn_244) rfl rfl dX4_makeSlot_10 ?_
  refine lv_iload S.1 S.2.1 dX4_makeSlot_13 (lv_at hl 0 rfl) ?_
  refine lv_iload_n S.1 S.2.1 dX4_makeSlot_15 rfl (lv_at hl 3 rfl) ?_
  refine lv_iload S.1 S.2.1 dX4_makeSlot_16 (lv_at hl 0 rfl) ?_
  refine lv_iconst (v := 1) S.1 S.2.1 dX4_makeSlot_18 (by decide) ?_
  refine lv_iadd S.1 S.2.1 dX4_makeSlot_19 ?_
  refine kv_top (y := nI (1 + 1)) (nI_add 1 1) ?_
  refine kv_sP (As := [.int sd, .int (nI (1 + 1))]) (rest := [.int 1, .ref a6]) S (kc_MO_h l D sd (nI (1 + 1))  ) (kn_cS S kn_272 kn_273 kn_3 kn_274 kd_X4_h rfl rfl ⟨Nat.le_of_ble_eq_true rfl, Nat.le_of_ble_eq_true rfl⟩) hB rfl hl.1 rfl (Nat.le_of_ble_eq_true rfl) dX4_makeSlot_20 ⟨Nat.zero_le _, Nat.zero_le _⟩ (fun H locs hB => ?_)
  refine kv_iast S hB 6 0 rfl rfl 1 rfl (by omega) (by decide) dX4_makeSlot_23 (fun H locs hB => ?_)
  have hB : kv_B N D [(cA, .int)] A s (mo_W o a1 a2 a3 a4 a5 a6 cA σ dv ka kb μ fr (upd (upd st 0 (kp_H sd (nI (0 + 1)))) 1 (kp_H sd (nI (1 + 1)))) oa ob) H locs := hB
  refine lv_iinc (k := 0) (v := 2) S.1 S.2.1 dX4_makeSlot_24 hl rfl (by decide) (by decide) rfl (fun ls hl => ?_)
  have hl : lv_has ls 8 [(5, .int 2), (0, .ref o), (1, .int pw), (2, .int sd), (3, .int a), (4, .int b)] := hl
  refine lv_goto (tgt := 3) S.1 S.2.1 dX4_makeSlot_27 (by decide) ?_
  refine lv_iload S.1 S.2.1 dX4_makeSlot_3 (lv_at hl 0 rfl) ?_
  refine lv_iconst (v := 4) S.1 S.2.1 dX4_makeSlot_5 (by decide) ?_
  refine kv_bge (x := 2) (y := 4) (tgt := 30) S (by omega) (by omega) dX4_makeSlot_6 (by decide) (fun h => absurd h (by omega)) (fun h_6 => ?_)
  refine lv_aload_n S.1 S.2.1 dX4_makeSlot_9 rfl (lv_at hl 1 rfl) ?_
  refine kv_get (C := RX4) (T := TX4) (M := 14) (ci := 2) S hB (kn_c kn_iX4) 0 rfl rfl 11 (by decide) (List.mem_cons_of_mem _ kn_244) rfl rfl dX4_makeSlot_10 ?_
  refine lv_iload S.1 S.2.1 dX4_makeSlot_13 (lv_at hl 0 rfl) ?_
  refine lv_iload_n S.1 S.2.1 dX4_makeSlot_15 rfl (lv_at hl 3 rfl) ?_
  refine lv_iload S.1 S.2.1 dX4_makeSlot_16 (lv_at hl 0 rfl) ?_
  refine lv_iconst (v := 1) S.1 S.2.1 dX4_makeSlot_18 (by decide) ?_
  refine lv_iadd S.1 S.2.1 dX4_makeSlot_19 ?_
  refine kv_top (y := nI (2 + 1)) (nI_add 2 1) ?_
  refine kv_sP (As := [.int sd, .int (nI (2 + 1))]) (rest := [.int 2, .ref a6]) S (kc_MO_h l D sd (nI (2 + 1))  ) (kn_cS S kn_272 kn_273 kn_3 kn_274 kd_X4_h rfl rfl ⟨Nat.le_of_ble_eq_true rfl, Nat.le_of_ble_eq_true rfl⟩) hB rfl hl.1 rfl (Nat.le_of_ble_eq_true rfl) dX4_makeSlot_20 ⟨Nat.zero_le _, Nat.zero_le _⟩ (fun H locs hB => ?_)
  refine kv_iast S hB 6 0 rfl rfl 2 rfl (by omega) (by decide) dX4_makeSlot_23 (fun H locs hB => ?_)
  have hB : kv_B N D [(cA, .int)] A s (mo_W o a1 a2 a3 a4 a5 a6 cA σ dv ka kb μ fr (upd (upd (upd st 0 (kp_H sd (nI (0 + 1)))) 1 (kp_H sd (nI (1 + 1)))) 2 (kp_H sd (nI (2 + 1)))) oa ob) H locs := hB
  refine lv_iinc (k := 0) (v := 3) S.1 S.2.1 dX4_makeSlot_24 hl rfl (by decide) (by decide) rfl (fun ls hl => ?_)
  have hl : lv_has ls 8 [(5, .int 3), (0, .ref o), (1, .int pw), (2, .int sd), (3, .int a), (4, .int b)] := hl
  refine lv_goto (tgt := 3) S.1 S.2.1 dX4_makeSlot_27 (by decide) ?_
  refine lv_iload S.1 S.2.1 dX4_makeSlot_3 (lv_at hl 0 rfl) ?_
  refine lv_iconst (v := 4) S.1 S.2.1 dX4_makeSlot_5 (by decide) ?_
  refine kv_bge (x := 3) (y := 4) (tgt := 30) S (by omega) (by omega) dX4_makeSlot_6 (by decide) (fun h => absurd h (by omega)) (fun h_6 => ?_)
  refine lv_aload_n S.1 S.2.1 dX4_makeSlot_9 rfl (lv_at hl 1 rfl) ?_
  refine kv_get (C := RX4) (T := TX4) (M := 14) (ci := 2) S hB (kn_c kn_iX4) 0 rfl rfl 11 (by decide) (List.mem_cons_of_mem _ kn_244) rfl rfl dX4_makeSlot_10 ?_
  refine lv_iload S.1 S.2.1 dX4_makeSlot_13 (lv_at hl 0 rfl) ?_
  refine lv_iload_n S.1 S.2.1 dX4_makeSlot_15 rfl (lv_at hl 3 rfl) ?_
  refine lv_iload S.1 S.2.1 dX4_makeSlot_16 (lv_at hl 0 rfl) ?_
  refine lv_iconst (v := 1) S.1 S.2.1 dX4_makeSlot_18 (by decide) ?_
  refine lv_iadd S.1 S.2.1 dX4_makeSlot_19 ?_
  refine kv_top (y := nI (3 + 1)) (nI_add 3 1) ?_
  refine kv_sP (As := [.int sd, .int (nI (3 + 1))]) (rest := [.int 3, .ref a6]) S (kc_MO_h l D sd (nI (3 + 1))  ) (kn_cS S kn_272 kn_273 kn_3 kn_274 kd_X4_h rfl rfl ⟨Nat.le_of_ble_eq_true rfl, Nat.le_of_ble_eq_true rfl⟩) hB rfl hl.1 rfl (Nat.le_of_ble_eq_true rfl) dX4_makeSlot_20 ⟨Nat.zero_le _, Nat.zero_le _⟩ (fun H locs hB => ?_)
  refine kv_iast S hB 6 0 rfl rfl 3 rfl (by omega) (by decide) dX4_makeSlot_23 (fun H locs hB => ?_)
  have hB : kv_B N D [(cA, .int)] A s (mo_W o a1 a2 a3 a4 a5 a6 cA σ dv ka kb μ fr (upd (upd (upd (upd st 0 (kp_H sd (nI (0 + 1)))) 1 (kp_H sd (nI (1 + 1)))) 2 (kp_H sd (nI (2 + 1)))) 3 (kp_H sd (nI (3 + 1)))) oa ob) H locs := hB
  refine lv_iinc (k := 0) (v := 4) S.1 S.2.1 dX4_makeSlot_24 hl rfl (by decide) (by decide) rfl (fun ls hl => ?_)
  have hl : lv_has ls 8 [(5, .int 4), (0, .ref o), (1, .int pw), (2, .int sd), (3, .int a), (4, .int b)] := hl
  refine lv_goto (tgt := 3) S.1 S.2.1 dX4_makeSlot_27 (by decide) ?_
  refine lv_iload S.1 S.2.1 dX4_makeSlot_3 (lv_at hl 0 rfl) ?_
  refine lv_iconst (v := 4) S.1 S.2.1 dX4_makeSlot_5 (by decide) ?_
  refine kv_bge (x := 4) (y := 4) (tgt := 30) S (by omega) (by omega) dX4_makeSlot_6 (by decide) (fun h_6 => ?_) (fun h => absurd h (by omega))
  refine lv_aload_n S.1 S.2.1 dX4_makeSlot_30 rfl (lv_at hl 1 rfl) ?_
  refine kv_get (C := RX4) (T := TX4) (M := 14) (ci := 2) S hB (kn_c kn_iX4) 0 rfl rfl 11 (by decide) (List.mem_cons_of_mem _ kn_244) rfl rfl dX4_makeSlot_31 ?_
  refine lv_iconst (v := 4) S.1 S.2.1 dX4_makeSlot_34 (by decide) ?_
  refine lv_aload_n S.1 S.2.1 dX4_makeSlot_35 rfl (lv_at hl 1 rfl) ?_
  refine lv_iconst (v := 0) S.1 S.2.1 dX4_makeSlot_36 (by decide) ?_
  refine kv_vI (As := [.int 0]) (rest := [.int 4, .ref a6]) hN S (kc_MO_cover l N hN D cA o a1 a2 a3 a4 a5 a6 σ dv ka kb μ fr (upd (upd (upd (upd st 0 (kp_H sd (nI (0 + 1)))) 1 (kp_H sd (nI (1 + 1)))) 2 (kp_H sd (nI (2 + 1)))) 3 (kp_H sd (nI (3 + 1)))) oa ob 0  (by omega)) (kn_cV (C := RX4) S kn_284 kn_285 kn_410 kn_3 kn_286 rfl kd_X4_cover rfl rfl ⟨Nat.le_of_ble_eq_true rfl, Nat.le_of_ble_eq_true rfl⟩) hB 0 rfl rfl rfl hl.1 rfl (Nat.le_of_ble_eq_true rfl) dX4_makeSlot_37 ⟨Nat.zero_le _, Nat.zero_le _⟩ (fun H locs hB => ?_)
  refine lv_iload_n S.1 S.2.1 dX4_makeSlot_40 rfl (lv_at hl 4 rfl) ?_
  refine lv_ixor S.1 S.2.1 dX4_makeSlot_41 ?_
  refine kv_iast S hB 6 0 rfl rfl 4 rfl (by omega) (by decide) dX4_makeSlot_42 (fun H locs hB => ?_)
  have hB : kv_B N D [(cA, .int)] A s (mo_W o a1 a2 a3 a4 a5 a6 cA σ dv ka kb μ fr (upd (upd (upd (upd (upd st 0 (kp_H sd (nI (0 + 1)))) 1 (kp_H sd (nI (1 + 1)))) 2 (kp_H sd (nI (2 + 1)))) 3 (kp_H sd (nI (3 + 1)))) 4 ((kp_M ((upd (upd (upd (upd st 0 (kp_H sd (nI (0 + 1)))) 1 (kp_H sd (nI (1 + 1)))) 2 (kp_H sd (nI (2 + 1)))) 3 (kp_H sd (nI (3 + 1)))) 0) ((upd (upd (upd (upd st 0 (kp_H sd (nI (0 + 1)))) 1 (kp_H sd (nI (1 + 1)))) 2 (kp_H sd (nI (2 + 1)))) 3 (kp_H sd (nI (3 + 1)))) (0 + 2)) (nI 0)) ^^^ a)) oa ob) H locs := hB
  refine lv_aload_n S.1 S.2.1 dX4_makeSlot_43 rfl (lv_at hl 1 rfl) ?_
  refine kv_get (C := RX4) (T := TX4) (M := 14) (ci := 2) S hB (kn_c kn_iX4) 0 rfl rfl 11 (by decide) (List.mem_cons_of_mem _ kn_244) rfl rfl dX4_makeSlot_44 ?_
  refine lv_iconst (v := 5) S.1 S.2.1 dX4_makeSlot_47 (by decide) ?_
  refine lv_aload_n S.1 S.2.1 dX4_makeSlot_48 rfl (lv_at hl 1 rfl) ?_
  refine lv_iconst (v := 1) S.1 S.2.1 dX4_makeSlot_49 (by decide) ?_
  refine kv_vI (As := [.int 1]) (rest := [.int 5, .ref a6]) hN S (kc_MO_cover l N hN D cA o a1 a2 a3 a4 a5 a6 σ dv ka kb μ fr (upd (upd (upd (upd (upd st 0 (kp_H sd (nI (0 + 1)))) 1 (kp_H sd (nI (1 + 1)))) 2 (kp_H sd (nI (2 + 1)))) 3 (kp_H sd (nI (3 + 1)))) 4 ((kp_M ((upd (upd (upd (upd st 0 (kp_H sd (nI (0 + 1)))) 1 (kp_H sd (nI (1 + 1)))) 2 (kp_H sd (nI (2 + 1)))) 3 (kp_H sd (nI (3 + 1)))) 0) ((upd (upd (upd (upd st 0 (kp_H sd (nI (0 + 1)))) 1 (kp_H sd (nI (1 + 1)))) 2 (kp_H sd (nI (2 + 1)))) 3 (kp_H sd (nI (3 + 1)))) (0 + 2)) (nI 0)) ^^^ a)) oa ob 1  (by omega)) (kn_cV (C := RX4) S kn_284 kn_285 kn_410 kn_3 kn_286 rfl kd_X4_cover rfl rfl ⟨Nat.le_of_ble_eq_true rfl, Nat.le_of_ble_eq_true rfl⟩) hB 0 rfl rfl rfl hl.1 rfl (Nat.le_of_ble_eq_true rfl) dX4_makeSlot_50 ⟨Nat.zero_le _, Nat.zero_le _⟩ (fun H locs hB => ?_)
  refine lv_iload S.1 S.2.1 dX4_makeSlot_53 (lv_at hl 5 rfl) ?_
  refine lv_ixor S.1 S.2.1 dX4_makeSlot_55 ?_
  refine kv_iast S hB 6 0 rfl rfl 5 rfl (by omega) (by decide) dX4_makeSlot_56 (fun H locs hB => ?_)
  have hB : kv_B N D [(cA, .int)] A s (mo_W o a1 a2 a3 a4 a5 a6 cA σ dv ka kb μ fr (upd (upd (upd (upd (upd (upd st 0 (kp_H sd (nI (0 + 1)))) 1 (kp_H sd (nI (1 + 1)))) 2 (kp_H sd (nI (2 + 1)))) 3 (kp_H sd (nI (3 + 1)))) 4 ((kp_M ((upd (upd (upd (upd st 0 (kp_H sd (nI (0 + 1)))) 1 (kp_H sd (nI (1 + 1)))) 2 (kp_H sd (nI (2 + 1)))) 3 (kp_H sd (nI (3 + 1)))) 0) ((upd (upd (upd (upd st 0 (kp_H sd (nI (0 + 1)))) 1 (kp_H sd (nI (1 + 1)))) 2 (kp_H sd (nI (2 + 1)))) 3 (kp_H sd (nI (3 + 1)))) (0 + 2)) (nI 0)) ^^^ a)) 5 ((kp_M ((upd (upd (upd (upd (upd st 0 (kp_H sd (nI (0 + 1)))) 1 (kp_H sd (nI (1 + 1)))) 2 (kp_H sd (nI (2 + 1)))) 3 (kp_H sd (nI (3 + 1)))) 4 ((kp_M ((upd (upd (upd (upd st 0 (kp_H sd (nI (0 + 1)))) 1 (kp_H sd (nI (1 + 1)))) 2 (kp_H sd (nI (2 + 1)))) 3 (kp_H sd (nI (3 + 1)))) 0) ((upd (upd (upd (upd st 0 (kp_H sd (nI (0 + 1)))) 1 (kp_H sd (nI (1 + 1)))) 2 (kp_H sd (nI (2 + 1)))) 3 (kp_H sd (nI (3 + 1)))) (0 + 2)) (nI 0)) ^^^ a)) 1) ((upd (upd (upd (upd (upd st 0 (kp_H sd (nI (0 + 1)))) 1 (kp_H sd (nI (1 + 1)))) 2 (kp_H sd (nI (2 + 1)))) 3 (kp_H sd (nI (3 + 1)))) 4 ((kp_M ((upd (upd (upd (upd st 0 (kp_H sd (nI (0 + 1)))) 1 (kp_H sd (nI (1 + 1)))) 2 (kp_H sd (nI (2 + 1)))) 3 (kp_H sd (nI (3 + 1)))) 0) ((upd (upd (upd (upd st 0 (kp_H sd (nI (0 + 1)))) 1 (kp_H sd (nI (1 + 1)))) 2 (kp_H sd (nI (2 + 1)))) 3 (kp_H sd (nI (3 + 1)))) (0 + 2)) (nI 0)) ^^^ a)) (1 + 2)) (nI 1)) ^^^ b)) oa ob) H locs := hB
  have hB := kv_arr 6 rfl (kp_ms sd a b) (by exact kp_c6 rfl rfl rfl rfl rfl rfl) hB
  have hB : kv_B N D [(cA, .int)] A s (mo_W o a1 a2 a3 a4 a5 a6 cA σ dv ka kb μ fr (kp_ms sd a b) oa ob) H locs := hB
  refine lv_iload_n S.1 S.2.1 dX4_makeSlot_57 rfl (lv_at hl 3 rfl) ?_
  refine lv_iconst (v := 0) S.1 S.2.1 dX4_makeSlot_58 (by decide) ?_
  refine kv_sP (As := [.int sd, .int 0]) (rest := []) S (kc_MO_h l D sd 0  ) (kn_cS S kn_272 kn_273 kn_3 kn_274 kd_X4_h rfl rfl ⟨Nat.le_of_ble_eq_true rfl, Nat.le_of_ble_eq_true rfl⟩) hB rfl hl.1 rfl (Nat.le_of_ble_eq_true rfl) dX4_makeSlot_59 ⟨Nat.zero_le _, Nat.zero_le _⟩ (fun H locs hB => ?_)
  refine lv_topi (fun x_1 ex_1 => ?_)
  refine lv_istore S.1 S.2.1 dX4_makeSlot_62 hl (by decide) rfl (fun ls hl => ?_)
  have hl : lv_has ls 8 [(5, .int x_1), (0, .ref o), (1, .int pw), (2, .int sd), (3, .int a), (4, .int b)] := hl
  refine lv_aload_n S.1 S.2.1 dX4_makeSlot_64 rfl (lv_at hl 1 rfl) ?_
  refine kv_get (C := RX4) (T := TX4) (M := 14) (ci := 2) S hB (kn_c kn_iX4) 0 rfl rfl 10 (by decide) (List.mem_cons_of_mem _ kn_243) rfl rfl dX4_makeSlot_65 ?_
  refine lv_iconst (v := 0) S.1 S.2.1 dX4_makeSlot_68 (by decide) ?_
  refine lv_iconst (v := 1) S.1 S.2.1 dX4_makeSlot_69 (by decide) ?_
  refine kv_iast S hB 5 0 rfl rfl 0 rfl (by omega) (by decide) dX4_makeSlot_70 (fun H locs hB => ?_)
  have hB : kv_B N D [(cA, .int)] A s (mo_W o a1 a2 a3 a4 a5 a6 cA σ dv ka kb μ (upd fr 0 1) (kp_ms sd a b) oa ob) H locs := hB
  refine lv_aload_n S.1 S.2.1 dX4_makeSlot_71 rfl (lv_at hl 1 rfl) ?_
  refine kv_get (C := RX4) (T := TX4) (M := 14) (ci := 2) S hB (kn_c kn_iX4) 0 rfl rfl 10 (by decide) (List.mem_cons_of_mem _ kn_243) rfl rfl dX4_makeSlot_72 ?_
  refine lv_iconst (v := 1) S.1 S.2.1 dX4_makeSlot_75 (by decide) ?_
  refine lv_iload S.1 S.2.1 dX4_makeSlot_76 (lv_at hl 0 rfl) ?_
  refine kv_iast S hB 5 0 rfl rfl 1 rfl (by omega) (by decide) dX4_makeSlot_78 (fun H locs hB => ?_)
  have hB : kv_B N D [(cA, .int)] A s (mo_W o a1 a2 a3 a4 a5 a6 cA σ dv ka kb μ (upd (upd fr 0 1) 1 x_1) (kp_ms sd a b) oa ob) H locs := hB
  refine lv_iconst (v := 0) S.1 S.2.1 dX4_makeSlot_79 (by decide) ?_
  refine lv_istore S.1 S.2.1 dX4_makeSlot_80 hl (by decide) rfl (fun ls hl => ?_)
  have hl : lv_has ls 8 [(6, .int 0), (5, .int x_1), (0, .ref o), (1, .int pw), (2, .int sd), (3, .int a), (4, .int b)] := hl
  refine lv_iload S.1 S.2.1 dX4_makeSlot_82 (lv_at hl 0 rfl) ?_
  refine lv_bipush (v := 6) S.1 S.2.1 dX4_makeSlot_84 (by decide) ?_
  refine kv_bge (x := 0) (y := 6) (tgt := 128) S (by omega) (by omega) dX4_makeSlot_86 (by decide) (fun h => absurd h (by omega)) (fun h_86 => ?_)
  refine lv_iload_n S.1 S.2.1 dX4_makeSlot_89 rfl (lv_at hl 3 rfl) ?_
  refine lv_iload S.1 S.2.1 dX4_makeSlot_90 (lv_at hl 1 rfl) ?_
  refine lv_iload S.1 S.2.1 dX4_makeSlot_92 (lv_at hl 0 rfl) ?_
  refine lv_iconst (v := 2) S.1 S.2.1 dX4_makeSlot_94 (by decide) ?_
  refine lv_irem S.1 S.2.1 dX4_makeSlot_95 (by decide) ?_
  refine kv_top (y := nI (0 % 2)) (pk_rem (a := 0) (d := 2) (by omega) (by omega) (by omega)) ?_
  refine kv_sP (As := [.int pw, .int x_1, .int (nI (0 % 2))]) (rest := []) S (kc_MO_slotKey l D pw x_1 (nI (0 % 2))  ) (kn_cS S kn_287 kn_288 kn_3 kn_289 kd_X4_slotKey rfl rfl ⟨Nat.le_of_ble_eq_true rfl, Nat.le_of_ble_eq_true rfl⟩) hB rfl hl.1 rfl (Nat.le_of_ble_eq_true rfl) dX4_makeSlot_96 ⟨Nat.zero_le _, Nat.zero_le _⟩ (fun H locs hB => ?_)
  refine lv_topi (fun x_2 ex_2 => ?_)
  refine lv_istore S.1 S.2.1 dX4_makeSlot_99 hl (by decide) rfl (fun ls hl => ?_)
  have hl : lv_has ls 8 [(7, .int x_2), (6, .int 0), (5, .int x_1), (0, .ref o), (1, .int pw), (2, .int sd), (3, .int a), (4, .int b)] := hl
  refine lv_aload_n S.1 S.2.1 dX4_makeSlot_101 rfl (lv_at hl 3 rfl) ?_
  refine kv_get (C := RX4) (T := TX4) (M := 14) (ci := 2) S hB (kn_c kn_iX4) 0 rfl rfl 10 (by decide) (List.mem_cons_of_mem _ kn_243) rfl rfl dX4_makeSlot_102 ?_
  refine lv_iconst (v := 2) S.1 S.2.1 dX4_makeSlot_105 (by decide) ?_
  refine lv_iload S.1 S.2.1 dX4_makeSlot_106 (lv_at hl 1 rfl) ?_
  refine lv_iadd S.1 S.2.1 dX4_makeSlot_108 ?_
  refine kv_top (y := nI (2 + 0)) (nI_add 2 0) ?_
  refine lv_iload S.1 S.2.1 dX4_makeSlot_109 (lv_at hl 0 rfl) ?_
  refine lv_aload_n S.1 S.2.1 dX4_makeSlot_111 rfl (lv_at hl 3 rfl) ?_
  refine kv_get (C := RX4) (T := TX4) (M := 14) (ci := 2) S hB (kn_c kn_iX4) 0 rfl rfl 11 (by decide) (List.mem_cons_of_mem _ kn_244) rfl rfl dX4_makeSlot_112 ?_
  refine lv_iload S.1 S.2.1 dX4_makeSlot_115 (lv_at hl 1 rfl) ?_
  refine kv_iald S hB 6 0 rfl rfl 0 rfl (by omega) (by decide) dX4_makeSlot_117 ?_
  refine kv_sP (As := [.int x_2, .int ((kp_ms sd a b) 0)]) (rest := [.int (nI (2 + 0)), .ref a5]) S (kc_MO_enc l D x_2 ((kp_ms sd a b) 0)  ) (kn_cS S kn_290 kn_291 kn_3 kn_292 kd_X4_enc rfl rfl ⟨Nat.le_of_ble_eq_true rfl, Nat.le_of_ble_eq_true rfl⟩) hB rfl hl.1 rfl (Nat.le_of_ble_eq_true rfl) dX4_makeSlot_118 ⟨Nat.zero_le _, Nat.zero_le _⟩ (fun H locs hB => ?_)
  refine kv_iast S hB 5 0 rfl rfl (2 + 0) rfl (by omega) (by decide) dX4_makeSlot_121 (fun H locs hB => ?_)
  have hB : kv_B N D [(cA, .int)] A s (mo_W o a1 a2 a3 a4 a5 a6 cA σ dv ka kb μ (upd (upd (upd fr 0 1) 1 x_1) (2 + 0) (kp_E x_2 ((kp_ms sd a b) 0))) (kp_ms sd a b) oa ob) H locs := hB
  refine lv_iinc (k := 1) (v := 1) S.1 S.2.1 dX4_makeSlot_122 hl rfl (by decide) (by decide) rfl (fun ls hl => ?_)
  have hl : lv_has ls 8 [(6, .int 1), (7, .int x_2), (5, .int x_1), (0, .ref o), (1, .int pw), (2, .int sd), (3, .int a), (4, .int b)] := hl
  refine lv_goto (tgt := 82) S.1 S.2.1 dX4_makeSlot_125 (by decide) ?_
  refine lv_iload S.1 S.2.1 dX4_makeSlot_82 (lv_at hl 0 rfl) ?_
  refine lv_bipush (v := 6) S.1 S.2.1 dX4_makeSlot_84 (by decide) ?_
  refine kv_bge (x := 1) (y := 6) (tgt := 128) S (by omega) (by omega) dX4_makeSlot_86 (by decide) (fun h => absurd h (by omega)) (fun h_86 => ?_)
  refine lv_iload_n S.1 S.2.1 dX4_makeSlot_89 rfl (lv_at hl 4 rfl) ?_
  refine lv_iload S.1 S.2.1 dX4_makeSlot_90 (lv_at hl 2 rfl) ?_
  refine lv_iload S.1 S.2.1 dX4_makeSlot_92 (lv_at hl 0 rfl) ?_
  refine lv_iconst (v := 2) S.1 S.2.1 dX4_makeSlot_94 (by decide) ?_
  refine lv_irem S.1 S.2.1 dX4_makeSlot_95 (by decide) ?_
  refine kv_top (y := nI (1 % 2)) (pk_rem (a := 1) (d := 2) (by omega) (by omega) (by omega)) ?_
  refine kv_sP (As := [.int pw, .int x_1, .int (nI (1 % 2))]) (rest := []) S (kc_MO_slotKey l D pw x_1 (nI (1 % 2))  ) (kn_cS S kn_287 kn_288 kn_3 kn_289 kd_X4_slotKey rfl rfl ⟨Nat.le_of_ble_eq_true rfl, Nat.le_of_ble_eq_true rfl⟩) hB rfl hl.1 rfl (Nat.le_of_ble_eq_true rfl) dX4_makeSlot_96 ⟨Nat.zero_le _, Nat.zero_le _⟩ (fun H locs hB => ?_)
  refine lv_topi (fun x_3 ex_3 => ?_)
  refine lv_istore S.1 S.2.1 dX4_makeSlot_99 hl (by decide) rfl (fun ls hl => ?_)
  have hl : lv_has ls 8 [(7, .int x_3), (6, .int 1), (5, .int x_1), (0, .ref o), (1, .int pw), (2, .int sd), (3, .int a), (4, .int b)] := hl
  refine lv_aload_n S.1 S.2.1 dX4_makeSlot_101 rfl (lv_at hl 3 rfl) ?_
  refine kv_get (C := RX4) (T := TX4) (M := 14) (ci := 2) S hB (kn_c kn_iX4) 0 rfl rfl 10 (by decide) (List.mem_cons_of_mem _ kn_243) rfl rfl dX4_makeSlot_102 ?_
  refine lv_iconst (v := 2) S.1 S.2.1 dX4_makeSlot_105 (by decide) ?_
  refine lv_iload S.1 S.2.1 dX4_makeSlot_106 (lv_at hl 1 rfl) ?_
  refine lv_iadd S.1 S.2.1 dX4_makeSlot_108 ?_
  refine kv_top (y := nI (2 + 1)) (nI_add 2 1) ?_
  refine lv_iload S.1 S.2.1 dX4_makeSlot_109 (lv_at hl 0 rfl) ?_
  refine lv_aload_n S.1 S.2.1 dX4_makeSlot_111 rfl (lv_at hl 3 rfl) ?_
  refine kv_get (C := RX4) (T := TX4) (M := 14) (ci := 2) S hB (kn_c kn_iX4) 0 rfl rfl 11 (by decide) (List.mem_cons_of_mem _ kn_244) rfl rfl dX4_makeSlot_112 ?_
  refine lv_iload S.1 S.2.1 dX4_makeSlot_115 (lv_at hl 1 rfl) ?_
  refine kv_iald S hB 6 0 rfl rfl 1 rfl (by omega) (by decide) dX4_makeSlot_117 ?_
  refine kv_sP (As := [.int x_3, .int ((kp_ms sd a b) 1)]) (rest := [.int (nI (2 + 1)), .ref a5]) S (kc_MO_enc l D x_3 ((kp_ms sd a b) 1)  ) (kn_cS S kn_290 kn_291 kn_3 kn_292 kd_X4_enc rfl rfl ⟨Nat.le_of_ble_eq_true rfl, Nat.le_of_ble_eq_true rfl⟩) hB rfl hl.1 rfl (Nat.le_of_ble_eq_true rfl) dX4_makeSlot_118 ⟨Nat.zero_le _, Nat.zero_le _⟩ (fun H locs hB => ?_)
  refine kv_iast S hB 5 0 rfl rfl (2 + 1) rfl (by omega) (by decide) dX4_makeSlot_121 (fun H locs hB => ?_)
  have hB : kv_B N D [(cA, .int)] A s (mo_W o a1 a2 a3 a4 a5 a6 cA σ dv ka kb μ (upd (upd (upd (upd fr 0 1) 1 x_1) (2 + 0) (kp_E x_2 ((kp_ms sd a b) 0))) (2 + 1) (kp_E x_3 ((kp_ms sd a b) 1))) (kp_ms sd a b) oa ob) H locs := hB
  refine lv_iinc (k := 1) (v := 2) S.1 S.2.1 dX4_makeSlot_122 hl rfl (by decide) (by decide) rfl (fun ls hl => ?_)
  have hl : lv_has ls 8 [(6, .int 2), (7, .int x_3), (5, .int x_1), (0, .ref o), (1, .int pw), (2, .int sd), (3, .int a), (4, .int b)] := hl
  refine lv_goto (tgt := 82) S.1 S.2.1 dX4_makeSlot_125 (by decide) ?_
  refine lv_iload S.1 S.2.1 dX4_makeSlot_82 (lv_at hl 0 rfl) ?_
  refine lv_bipush (v := 6) S.1 S.2.1 dX4_makeSlot_84 (by decide) ?_
  refine kv_bge (x := 2) (y := 6) (tgt := 128) S (by omega) (by omega) dX4_makeSlot_86 (by decide) (fun h => absurd h (by omega)) (fun h_86 => ?_)
  refine lv_iload_n S.1 S.2.1 dX4_makeSlot_89 rfl (lv_at hl 4 rfl) ?_
  refine lv_iload S.1 S.2.1 dX4_makeSlot_90 (lv_at hl 2 rfl) ?_
  refine lv_iload S.1 S.2.1 dX4_makeSlot_92 (lv_at hl 0 rfl) ?_
  refine lv_iconst (v := 2) S.1 S.2.1 dX4_makeSlot_94 (by decide) ?_
  refine lv_irem S.1 S.2.1 dX4_makeSlot_95 (by decide) ?_
  refine kv_top (y := nI (2 % 2)) (pk_rem (a := 2) (d := 2) (by omega) (by omega) (by omega)) ?_
  refine kv_sP (As := [.int pw, .int x_1, .int (nI (2 % 2))]) (rest := []) S (kc_MO_slotKey l D pw x_1 (nI (2 % 2))  ) (kn_cS S kn_287 kn_288 kn_3 kn_289 kd_X4_slotKey rfl rfl ⟨Nat.le_of_ble_eq_true rfl, Nat.le_of_ble_eq_true rfl⟩) hB rfl hl.1 rfl (Nat.le_of_ble_eq_true rfl) dX4_makeSlot_96 ⟨Nat.zero_le _, Nat.zero_le _⟩ (fun H locs hB => ?_)
  refine lv_topi (fun x_4 ex_4 => ?_)
  refine lv_istore S.1 S.2.1 dX4_makeSlot_99 hl (by decide) rfl (fun ls hl => ?_)
  have hl : lv_has ls 8 [(7, .int x_4), (6, .int 2), (5, .int x_1), (0, .ref o), (1, .int pw), (2, .int sd), (3, .int a), (4, .int b)] := hl
  refine lv_aload_n S.1 S.2.1 dX4_makeSlot_101 rfl (lv_at hl 3 rfl) ?_
  refine kv_get (C := RX4) (T := TX4) (M := 14) (ci := 2) S hB (kn_c kn_iX4) 0 rfl rfl 10 (by decide) (List.mem_cons_of_mem _ kn_243) rfl rfl dX4_makeSlot_102 ?_
  refine lv_iconst (v := 2) S.1 S.2.1 dX4_makeSlot_105 (by decide) ?_
  refine lv_iload S.1 S.2.1 dX4_makeSlot_106 (lv_at hl 1 rfl) ?_
  refine lv_iadd S.1 S.2.1 dX4_makeSlot_108 ?_
  refine kv_top (y := nI (2 + 2)) (nI_add 2 2) ?_
  refine lv_iload S.1 S.2.1 dX4_makeSlot_109 (lv_at hl 0 rfl) ?_
  refine lv_aload_n S.1 S.2.1 dX4_makeSlot_111 rfl (lv_at hl 3 rfl) ?_
  refine kv_get (C := RX4) (T := TX4) (M := 14) (ci := 2) S hB (kn_c kn_iX4) 0 rfl rfl 11 (by decide) (List.mem_cons_of_mem _ kn_244) rfl rfl dX4_makeSlot_112 ?_
  refine lv_iload S.1 S.2.1 dX4_makeSlot_115 (lv_at hl 1 rfl) ?_
  refine kv_iald S hB 6 0 rfl rfl 2 rfl (by omega) (by decide) dX4_makeSlot_117 ?_
  refine kv_sP (As := [.int x_4, .int ((kp_ms sd a b) 2)]) (rest := [.int (nI (2 + 2)), .ref a5]) S (kc_MO_enc l D x_4 ((kp_ms sd a b) 2)  ) (kn_cS S kn_290 kn_291 kn_3 kn_292 kd_X4_enc rfl rfl ⟨Nat.le_of_ble_eq_true rfl, Nat.le_of_ble_eq_true rfl⟩) hB rfl hl.1 rfl (Nat.le_of_ble_eq_true rfl) dX4_makeSlot_118 ⟨Nat.zero_le _, Nat.zero_le _⟩ (fun H locs hB => ?_)
  refine kv_iast S hB 5 0 rfl rfl (2 + 2) rfl (by omega) (by decide) dX4_makeSlot_121 (fun H locs hB => ?_)
  have hB : kv_B N D [(cA, .int)] A s (mo_W o a1 a2 a3 a4 a5 a6 cA σ dv ka kb μ (upd (upd (upd (upd (upd fr 0 1) 1 x_1) (2 + 0) (kp_E x_2 ((kp_ms sd a b) 0))) (2 + 1) (kp_E x_3 ((kp_ms sd a b) 1))) (2 + 2) (kp_E x_4 ((kp_ms sd a b) 2))) (kp_ms sd a b) oa ob) H locs := hB
  refine lv_iinc (k := 1) (v := 3) S.1 S.2.1 dX4_makeSlot_122 hl rfl (by decide) (by decide) rfl (fun ls hl => ?_)
  have hl : lv_has ls 8 [(6, .int 3), (7, .int x_4), (5, .int x_1), (0, .ref o), (1, .int pw), (2, .int sd), (3, .int a), (4, .int b)] := hl
  refine lv_goto (tgt := 82) S.1 S.2.1 dX4_makeSlot_125 (by decide) ?_
  refine lv_iload S.1 S.2.1 dX4_makeSlot_82 (lv_at hl 0 rfl) ?_
  refine lv_bipush (v := 6) S.1 S.2.1 dX4_makeSlot_84 (by decide) ?_
  refine kv_bge (x := 3) (y := 6) (tgt := 128) S (by omega) (by omega) dX4_makeSlot_86 (by decide) (fun h => absurd h (by omega)) (fun h_86 => ?_)
  refine lv_iload_n S.1 S.2.1 dX4_makeSlot_89 rfl (lv_at hl 4 rfl) ?_
  refine lv_iload S.1 S.2.1 dX4_makeSlot_90 (lv_at hl 2 rfl) ?_
  refine lv_iload S.1 S.2.1 dX4_makeSlot_92 (lv_at hl 0 rfl) ?_
  refine lv_iconst (v := 2) S.1 S.2.1 dX4_makeSlot_94 (by decide) ?_
  refine lv_irem S.1 S.2.1 dX4_makeSlot_95 (by decide) ?_
  refine kv_top (y := nI (3 % 2)) (pk_rem (a := 3) (d := 2) (by omega) (by omega) (by omega)) ?_
  refine kv_sP (As := [.int pw, .int x_1, .int (nI (3 % 2))]) (rest := []) S (kc_MO_slotKey l D pw x_1 (nI (3 % 2))  ) (kn_cS S kn_287 kn_288 kn_3 kn_289 kd_X4_slotKey rfl rfl ⟨Nat.le_of_ble_eq_true rfl, Nat.le_of_ble_eq_true rfl⟩) hB rfl hl.1 rfl (Nat.le_of_ble_eq_true rfl) dX4_makeSlot_96 ⟨Nat.zero_le _, Nat.zero_le _⟩ (fun H locs hB => ?_)
  refine lv_topi (fun x_5 ex_5 => ?_)
  refine lv_istore S.1 S.2.1 dX4_makeSlot_99 hl (by decide) rfl (fun ls hl => ?_)
  have hl : lv_has ls 8 [(7, .int x_5), (6, .int 3), (5, .int x_1), (0, .ref o), (1, .int pw), (2, .int sd), (3, .int a), (4, .int b)] := hl
  refine lv_aload_n S.1 S.2.1 dX4_makeSlot_101 rfl (lv_at hl 3 rfl) ?_
  refine kv_get (C := RX4) (T := TX4) (M := 14) (ci := 2) S hB (kn_c kn_iX4) 0 rfl rfl 10 (by decide) (List.mem_cons_of_mem _ kn_243) rfl rfl dX4_makeSlot_102 ?_
  refine lv_iconst (v := 2) S.1 S.2.1 dX4_makeSlot_105 (by decide) ?_
  refine lv_iload S.1 S.2.1 dX4_makeSlot_106 (lv_at hl 1 rfl) ?_
  refine lv_iadd S.1 S.2.1 dX4_makeSlot_108 ?_
  refine kv_top (y := nI (2 + 3)) (nI_add 2 3) ?_
  refine lv_iload S.1 S.2.1 dX4_makeSlot_109 (lv_at hl 0 rfl) ?_
  refine lv_aload_n S.1 S.2.1 dX4_makeSlot_111 rfl (lv_at hl 3 rfl) ?_
  refine kv_get (C := RX4) (T := TX4) (M := 14) (ci := 2) S hB (kn_c kn_iX4) 0 rfl rfl 11 (by decide) (List.mem_cons_of_mem _ kn_244) rfl rfl dX4_makeSlot_112 ?_
  refine lv_iload S.1 S.2.1 dX4_makeSlot_115 (lv_at hl 1 rfl) ?_
  refine kv_iald S hB 6 0 rfl rfl 3 rfl (by omega) (by decide) dX4_makeSlot_117 ?_
  refine kv_sP (As := [.int x_5, .int ((kp_ms sd a b) 3)]) (rest := [.int (nI (2 + 3)), .ref a5]) S (kc_MO_enc l D x_5 ((kp_ms sd a b) 3)  ) (kn_cS S kn_290 kn_291 kn_3 kn_292 kd_X4_enc rfl rfl ⟨Nat.le_of_ble_eq_true rfl, Nat.le_of_ble_eq_true rfl⟩) hB rfl hl.1 rfl (Nat.le_of_ble_eq_true rfl) dX4_makeSlot_118 ⟨Nat.zero_le _, Nat.zero_le _⟩ (fun H locs hB => ?_)
  refine kv_iast S hB 5 0 rfl rfl (2 + 3) rfl (by omega) (by decide) dX4_makeSlot_121 (fun H locs hB => ?_)
  have hB : kv_B N D [(cA, .int)] A s (mo_W o a1 a2 a3 a4 a5 a6 cA σ dv ka kb μ (upd (upd (upd (upd (upd (upd fr 0 1) 1 x_1) (2 + 0) (kp_E x_2 ((kp_ms sd a b) 0))) (2 + 1) (kp_E x_3 ((kp_ms sd a b) 1))) (2 + 2) (kp_E x_4 ((kp_ms sd a b) 2))) (2 + 3) (kp_E x_5 ((kp_ms sd a b) 3))) (kp_ms sd a b) oa ob) H locs := hB
  refine lv_iinc (k := 1) (v := 4) S.1 S.2.1 dX4_makeSlot_122 hl rfl (by decide) (by decide) rfl (fun ls hl => ?_)
  have hl : lv_has ls 8 [(6, .int 4), (7, .int x_5), (5, .int x_1), (0, .ref o), (1, .int pw), (2, .int sd), (3, .int a), (4, .int b)] := hl
  refine lv_goto (tgt := 82) S.1 S.2.1 dX4_makeSlot_125 (by decide) ?_
  refine lv_iload S.1 S.2.1 dX4_makeSlot_82 (lv_at hl 0 rfl) ?_
  refine lv_bipush (v := 6) S.1 S.2.1 dX4_makeSlot_84 (by decide) ?_
  refine kv_bge (x := 4) (y := 6) (tgt := 128) S (by omega) (by omega) dX4_makeSlot_86 (by decide) (fun h => absurd h (by omega)) (fun h_86 => ?_)
  refine lv_iload_n S.1 S.2.1 dX4_makeSlot_89 rfl (lv_at hl 4 rfl) ?_
  refine lv_iload S.1 S.2.1 dX4_makeSlot_90 (lv_at hl 2 rfl) ?_
  refine lv_iload S.1 S.2.1 dX4_makeSlot_92 (lv_at hl 0 rfl) ?_
  refine lv_iconst (v := 2) S.1 S.2.1 dX4_makeSlot_94 (by decide) ?_
  refine lv_irem S.1 S.2.1 dX4_makeSlot_95 (by decide) ?_
  refine kv_top (y := nI (4 % 2)) (pk_rem (a := 4) (d := 2) (by omega) (by omega) (by omega)) ?_
  refine kv_sP (As := [.int pw, .int x_1, .int (nI (4 % 2))]) (rest := []) S (kc_MO_slotKey l D pw x_1 (nI (4 % 2))  ) (kn_cS S kn_287 kn_288 kn_3 kn_289 kd_X4_slotKey rfl rfl ⟨Nat.le_of_ble_eq_true rfl, Nat.le_of_ble_eq_true rfl⟩) hB rfl hl.1 rfl (Nat.le_of_ble_eq_true rfl) dX4_makeSlot_96 ⟨Nat.zero_le _, Nat.zero_le _⟩ (fun H locs hB => ?_)
  refine lv_topi (fun x_6 ex_6 => ?_)
  refine lv_istore S.1 S.2.1 dX4_makeSlot_99 hl (by decide) rfl (fun ls hl => ?_)
  have hl : lv_has ls 8 [(7, .int x_6), (6, .int 4), (5, .int x_1), (0, .ref o), (1, .int pw), (2, .int sd), (3, .int a), (4, .int b)] := hl
  refine lv_aload_n S.1 S.2.1 dX4_makeSlot_101 rfl (lv_at hl 3 rfl) ?_
  refine kv_get (C := RX4) (T := TX4) (M := 14) (ci := 2) S hB (kn_c kn_iX4) 0 rfl rfl 10 (by decide) (List.mem_cons_of_mem _ kn_243) rfl rfl dX4_makeSlot_102 ?_
  refine lv_iconst (v := 2) S.1 S.2.1 dX4_makeSlot_105 (by decide) ?_
  refine lv_iload S.1 S.2.1 dX4_makeSlot_106 (lv_at hl 1 rfl) ?_
  refine lv_iadd S.1 S.2.1 dX4_makeSlot_108 ?_
  refine kv_top (y := nI (2 + 4)) (nI_add 2 4) ?_
  refine lv_iload S.1 S.2.1 dX4_makeSlot_109 (lv_at hl 0 rfl) ?_
  refine lv_aload_n S.1 S.2.1 dX4_makeSlot_111 rfl (lv_at hl 3 rfl) ?_
  refine kv_get (C := RX4) (T := TX4) (M := 14) (ci := 2) S hB (kn_c kn_iX4) 0 rfl rfl 11 (by decide) (List.mem_cons_of_mem _ kn_244) rfl rfl dX4_makeSlot_112 ?_
  refine lv_iload S.1 S.2.1 dX4_makeSlot_115 (lv_at hl 1 rfl) ?_
  refine kv_iald S hB 6 0 rfl rfl 4 rfl (by omega) (by decide) dX4_makeSlot_117 ?_
  refine kv_sP (As := [.int x_6, .int ((kp_ms sd a b) 4)]) (rest := [.int (nI (2 + 4)), .ref a5]) S (kc_MO_enc l D x_6 ((kp_ms sd a b) 4)  ) (kn_cS S kn_290 kn_291 kn_3 kn_292 kd_X4_enc rfl rfl ⟨Nat.le_of_ble_eq_true rfl, Nat.le_of_ble_eq_true rfl⟩) hB rfl hl.1 rfl (Nat.le_of_ble_eq_true rfl) dX4_makeSlot_118 ⟨Nat.zero_le _, Nat.zero_le _⟩ (fun H locs hB => ?_)
  refine kv_iast S hB 5 0 rfl rfl (2 + 4) rfl (by omega) (by decide) dX4_makeSlot_121 (fun H locs hB => ?_)
  have hB : kv_B N D [(cA, .int)] A s (mo_W o a1 a2 a3 a4 a5 a6 cA σ dv ka kb μ (upd (upd (upd (upd (upd (upd (upd fr 0 1) 1 x_1) (2 + 0) (kp_E x_2 ((kp_ms sd a b) 0))) (2 + 1) (kp_E x_3 ((kp_ms sd a b) 1))) (2 + 2) (kp_E x_4 ((kp_ms sd a b) 2))) (2 + 3) (kp_E x_5 ((kp_ms sd a b) 3))) (2 + 4) (kp_E x_6 ((kp_ms sd a b) 4))) (kp_ms sd a b) oa ob) H locs := hB
  refine lv_iinc (k := 1) (v := 5) S.1 S.2.1 dX4_makeSlot_122 hl rfl (by decide) (by decide) rfl (fun ls hl => ?_)
  have hl : lv_has ls 8 [(6, .int 5), (7, .int x_6), (5, .int x_1), (0, .ref o), (1, .int pw), (2, .int sd), (3, .int a), (4, .int b)] := hl
  refine lv_goto (tgt := 82) S.1 S.2.1 dX4_makeSlot_125 (by decide) ?_
  refine lv_iload S.1 S.2.1 dX4_makeSlot_82 (lv_at hl 0 rfl) ?_
  refine lv_bipush (v := 6) S.1 S.2.1 dX4_makeSlot_84 (by decide) ?_
  refine kv_bge (x := 5) (y := 6) (tgt := 128) S (by omega) (by omega) dX4_makeSlot_86 (by decide) (fun h => absurd h (by omega)) (fun h_86 => ?_)
  refine lv_iload_n S.1 S.2.1 dX4_makeSlot_89 rfl (lv_at hl 4 rfl) ?_
  refine lv_iload S.1 S.2.1 dX4_makeSlot_90 (lv_at hl 2 rfl) ?_
  refine lv_iload S.1 S.2.1 dX4_makeSlot_92 (lv_at hl 0 rfl) ?_
  refine lv_iconst (v := 2) S.1 S.2.1 dX4_makeSlot_94 (by decide) ?_
  refine lv_irem S.1 S.2.1 dX4_makeSlot_95 (by decide) ?_
  refine kv_top (y := nI (5 % 2)) (pk_rem (a := 5) (d := 2) (by omega) (by omega) (by omega)) ?_
  refine kv_sP (As := [.int pw, .int x_1, .int (nI (5 % 2))]) (rest := []) S (kc_MO_slotKey l D pw x_1 (nI (5 % 2))  ) (kn_cS S kn_287 kn_288 kn_3 kn_289 kd_X4_slotKey rfl rfl ⟨Nat.le_of_ble_eq_true rfl, Nat.le_of_ble_eq_true rfl⟩) hB rfl hl.1 rfl (Nat.le_of_ble_eq_true rfl) dX4_makeSlot_96 ⟨Nat.zero_le _, Nat.zero_le _⟩ (fun H locs hB => ?_)
  refine lv_topi (fun x_7 ex_7 => ?_)
  refine lv_istore S.1 S.2.1 dX4_makeSlot_99 hl (by decide) rfl (fun ls hl => ?_)
  have hl : lv_has ls 8 [(7, .int x_7), (6, .int 5), (5, .int x_1), (0, .ref o), (1, .int pw), (2, .int sd), (3, .int a), (4, .int b)] := hl
  refine lv_aload_n S.1 S.2.1 dX4_makeSlot_101 rfl (lv_at hl 3 rfl) ?_
  refine kv_get (C := RX4) (T := TX4) (M := 14) (ci := 2) S hB (kn_c kn_iX4) 0 rfl rfl 10 (by decide) (List.mem_cons_of_mem _ kn_243) rfl rfl dX4_makeSlot_102 ?_
  refine lv_iconst (v := 2) S.1 S.2.1 dX4_makeSlot_105 (by decide) ?_
  refine lv_iload S.1 S.2.1 dX4_makeSlot_106 (lv_at hl 1 rfl) ?_
  refine lv_iadd S.1 S.2.1 dX4_makeSlot_108 ?_
  refine kv_top (y := nI (2 + 5)) (nI_add 2 5) ?_
  refine lv_iload S.1 S.2.1 dX4_makeSlot_109 (lv_at hl 0 rfl) ?_
  refine lv_aload_n S.1 S.2.1 dX4_makeSlot_111 rfl (lv_at hl 3 rfl) ?_
  refine kv_get (C := RX4) (T := TX4) (M := 14) (ci := 2) S hB (kn_c kn_iX4) 0 rfl rfl 11 (by decide) (List.mem_cons_of_mem _ kn_244) rfl rfl dX4_makeSlot_112 ?_
  refine lv_iload S.1 S.2.1 dX4_makeSlot_115 (lv_at hl 1 rfl) ?_
  refine kv_iald S hB 6 0 rfl rfl 5 rfl (by omega) (by decide) dX4_makeSlot_117 ?_
  refine kv_sP (As := [.int x_7, .int ((kp_ms sd a b) 5)]) (rest := [.int (nI (2 + 5)), .ref a5]) S (kc_MO_enc l D x_7 ((kp_ms sd a b) 5)  ) (kn_cS S kn_290 kn_291 kn_3 kn_292 kd_X4_enc rfl rfl ⟨Nat.le_of_ble_eq_true rfl, Nat.le_of_ble_eq_true rfl⟩) hB rfl hl.1 rfl (Nat.le_of_ble_eq_true rfl) dX4_makeSlot_118 ⟨Nat.zero_le _, Nat.zero_le _⟩ (fun H locs hB => ?_)
  refine kv_iast S hB 5 0 rfl rfl (2 + 5) rfl (by omega) (by decide) dX4_makeSlot_121 (fun H locs hB => ?_)
  have hB : kv_B N D [(cA, .int)] A s (mo_W o a1 a2 a3 a4 a5 a6 cA σ dv ka kb μ (upd (upd (upd (upd (upd (upd (upd (upd fr 0 1) 1 x_1) (2 + 0) (kp_E x_2 ((kp_ms sd a b) 0))) (2 + 1) (kp_E x_3 ((kp_ms sd a b) 1))) (2 + 2) (kp_E x_4 ((kp_ms sd a b) 2))) (2 + 3) (kp_E x_5 ((kp_ms sd a b) 3))) (2 + 4) (kp_E x_6 ((kp_ms sd a b) 4))) (2 + 5) (kp_E x_7 ((kp_ms sd a b) 5))) (kp_ms sd a b) oa ob) H locs := hB
  refine lv_iinc (k := 1) (v := 6) S.1 S.2.1 dX4_makeSlot_122 hl rfl (by decide) (by decide) rfl (fun ls hl => ?_)
  have hl : lv_has ls 8 [(6, .int 6), (7, .int x_7), (5, .int x_1), (0, .ref o), (1, .int pw), (2, .int sd), (3, .int a), (4, .int b)] := hl
  refine lv_goto (tgt := 82) S.1 S.2.1 dX4_makeSlot_125 (by decide) ?_
  refine lv_iload S.1 S.2.1 dX4_makeSlot_82 (lv_at hl 0 rfl) ?_
  refine lv_bipush (v := 6) S.1 S.2.1 dX4_makeSlot_84 (by decide) ?_
  refine kv_bge (x := 6) (y := 6) (tgt := 128) S (by omega) (by omega) dX4_makeSlot_86 (by decide) (fun h_86 => ?_) (fun h => absurd h (by omega))
  have hB := kv_arr 5 rfl (kp_sl pw sd a b) (by subst_vars; exact kp_c8 rfl rfl rfl rfl rfl rfl rfl rfl) hB
  have hB : kv_B N D [(cA, .int)] A s (mo_W o a1 a2 a3 a4 a5 a6 cA σ dv ka kb μ (kp_sl pw sd a b) (kp_ms sd a b) oa ob) H locs := hB
  exact K _ _ _ _ _ hB (rfl) dX4_makeSlot_128

abbrev kr_MO_active : Room := { frames := 0, cells := 0, slots := 0, locals := 0 }
set_option maxRecDepth 100000 in
set_option maxHeartbeats 4000000 in
theorem kc_MO_active (l : Launch) (N : State → Prop) (hN : kv_Mv N) (D : va_G) (cA : ClassId) (o a1 a2 a3 a4 a5 a6 : Nat) (σ : kp_S) (dv ka kb : Int32) (μ : kp_P) (fr st : Nat → Int32) (oa ob : Int32) (k : Nat) (hk : k < 4) : kv_I N l yX4_active wsX4_active kr_MO_active D [(cA, .int)] [.ref o, .int (nI k)] (mo_W o a1 a2 a3 a4 a5 a6 cA σ dv ka kb μ fr st oa ob) (kp_ac σ.1 k) (mo_W o a1 a2 a3 a4 a5 a6 cA σ dv ka kb μ fr st oa ob) := by
  refine kv_openI (cc := cX4_active) (maxL := 2) (rt := .boolean) (by decide) rfl (kp_ac_z _ _) (Nat.le_of_ble_eq_true rfl) ?_
  intro p e s m args below meth c A H locs ls Q S hl hB K
  have hl : lv_has ls 2 [(0, .ref o), (1, .int (nI k))] := hl
  refine lv_aload_n S.1 S.2.1 dX4_active_0 rfl (lv_at hl 0 rfl) ?_
  refine kv_get (C := RX4) (T := TX4) (M := 14) (ci := 2) S hB (kn_c kn_iX4) 0 rfl rfl 0 (by decide) (List.mem_cons_of_mem _ kn_233) rfl rfl dX4_active_1 ?_
  refine lv_iconst (v := 4) S.1 S.2.1 dX4_active_4 (by decide) ?_
  refine lv_bipush (v := 8) S.1 S.2.1 dX4_active_5 (by decide) ?_
  refine lv_iload_n S.1 S.2.1 dX4_active_7 rfl (lv_at hl 1 rfl) ?_
  refine lv_imul S.1 S.2.1 dX4_active_8 ?_
  refine kv_top (y := nI (8 * k)) (pk_mul 8 k) ?_
  refine lv_iadd S.1 S.2.1 dX4_active_9 ?_
  refine kv_top (y := nI (4 + (8 * k))) (nI_add 4 (8 * k)) ?_
  refine kv_iald S hB 1 0 rfl rfl (4 + (8 * k)) rfl (by omega) (by decide) dX4_active_10 ?_
  refine lv_iconst (v := 1) S.1 S.2.1 dX4_active_11 (by decide) ?_
  refine lv_icmp_ne (tgt := 19) S.1 S.2.1 dX4_active_12 (by decide) (fun h_12 => ?_) (fun h_12 => ?_)
  · skip
    refine lv_iconst (v := 0) S.1 S.2.1 dX4_active_19 (by decide) ?_
    exact K _ _ _ _ _ _ hB (by first | rw [kp_ac, if_pos h_12] | rw [kp_ac, if_neg h_12]) (rfl) dX4_active_20
  · skip
    refine lv_iconst (v := 1) S.1 S.2.1 dX4_active_15 (by decide) ?_
    refine lv_goto (tgt := 20) S.1 S.2.1 dX4_active_16 (by decide) ?_
    exact K _ _ _ _ _ _ hB (by first | rw [kp_ac, if_pos h_12] | rw [kp_ac, if_neg h_12]) (rfl) dX4_active_20

abbrev kr_MO_opens : Room := { frames := 3, cells := 0, slots := 0, locals := 70 }
set_option maxRecDepth 100000 in
set_option maxHeartbeats 4000000 in
theorem kc_MO_opens (l : Launch) (N : State → Prop) (hN : kv_Mv N) (D : va_G) (cA : ClassId) (o a1 a2 a3 a4 a5 a6 : Nat) (σ : kp_S) (dv ka kb : Int32) (μ : kp_P) (fr st : Nat → Int32) (oa ob : Int32) (k : Nat) (pw : Int32) (hk : k < 4) : kv_I N l yX4_opens wsX4_opens kr_MO_opens D [(cA, .int)] [.ref o, .int (nI k), .int pw] (mo_W o a1 a2 a3 a4 a5 a6 cA σ dv ka kb μ fr st oa ob) (kp_op σ.1 k pw) (mo_W o a1 a2 a3 a4 a5 a6 cA σ dv ka kb μ fr (kp_so σ.1 (4 + 8 * k) pw) (kp_oh σ.1 (4 + 8 * k) pw 0) (kp_oh σ.1 (4 + 8 * k) pw 1)) := by
  refine kv_openI (cc := cX4_opens) (maxL := 6) (rt := .boolean) (by decide) rfl (kp_op_z _ _ _) (Nat.le_of_ble_eq_true rfl) ?_
  intro p e s m args below meth c A H locs ls Q S hl hB K
  have hl : lv_has ls 6 [(0, .ref o), (1, .int (nI k)), (2, .int pw)] := hl
  refine lv_iconst (v := 4) S.1 S.2.1 dX4_opens_0 (by decide) ?_
  refine lv_bipush (v := 8) S.1 S.2.1 dX4_opens_1 (by decide) ?_
  refine lv_iload_n S.1 S.2.1 dX4_opens_3 rfl (lv_at hl 1 rfl) ?_
  refine lv_imul S.1 S.2.1 dX4_opens_4 ?_
  refine kv_top (y := nI (8 * k)) (pk_mul 8 k) ?_
  refine lv_iadd S.1 S.2.1 dX4_opens_5 ?_
  refine kv_top (y := nI (4 + (8 * k))) (nI_add 4 (8 * k)) ?_
  refine lv_istore_n S.1 S.2.1 dX4_opens_6 rfl hl (by decide) rfl (fun ls hl => ?_)
  have hl : lv_has ls 6 [(3, .int (nI (4 + (8 * k)))), (0, .ref o), (1, .int (nI k)), (2, .int pw)] := hl
  refine lv_iconst (v := 0) S.1 S.2.1 dX4_opens_7 (by decide) ?_
  refine lv_istore S.1 S.2.1 dX4_opens_8 hl (by decide) rfl (fun ls hl => ?_)
  have hl : lv_has ls 6 [(4, .int 0), (3, .int (nI (4 + (8 * k)))), (0, .ref o), (1, .int (nI k)), (2, .int pw)] := hl
  refine lv_iload S.1 S.2.1 dX4_opens_10 (lv_at hl 0 rfl) ?_
  refine lv_bipush (v := 6) S.1 S.2.1 dX4_opens_12 (by decide) ?_
  refine kv_bge (x := 0) (y := 6) (tgt := 64) S (by omega) (by omega) dX4_opens_14 (by decide) (fun h => absurd h (by omega)) (fun h_14 => ?_)
  refine lv_iload_n S.1 S.2.1 dX4_opens_17 rfl (lv_at hl 4 rfl) ?_
  refine lv_aload_n S.1 S.2.1 dX4_opens_18 rfl (lv_at hl 2 rfl) ?_
  refine kv_get (C := RX4) (T := TX4) (M := 14) (ci := 2) S hB (kn_c kn_iX4) 0 rfl rfl 0 (by decide) (List.mem_cons_of_mem _ kn_233) rfl rfl dX4_opens_19 ?_
  refine lv_iload_n S.1 S.2.1 dX4_opens_22 rfl (lv_at hl 1 rfl) ?_
  refine lv_iconst (v := 1) S.1 S.2.1 dX4_opens_23 (by decide) ?_
  refine lv_iadd S.1 S.2.1 dX4_opens_24 ?_
  refine kv_top (y := nI ((4 + (8 * k)) + 1)) (nI_add (4 + (8 * k)) 1) ?_
  refine kv_iald S hB 1 0 rfl rfl ((4 + (8 * k)) + 1) rfl (by omega) (by decide) dX4_opens_25 ?_
  refine lv_iload S.1 S.2.1 dX4_opens_26 (lv_at hl 0 rfl) ?_
  refine lv_iconst (v := 2) S.1 S.2.1 dX4_opens_28 (by decide) ?_
  refine lv_irem S.1 S.2.1 dX4_opens_29 (by decide) ?_
  refine kv_top (y := nI (0 % 2)) (pk_rem (a := 0) (d := 2) (by omega) (by omega) (by omega)) ?_
  refine kv_sP (As := [.int pw, .int (σ.1 ((4 + (8 * k)) + 1)), .int (nI (0 % 2))]) (rest := []) S (kc_MO_slotKey l D pw (σ.1 ((4 + (8 * k)) + 1)) (nI (0 % 2))  ) (kn_cS S kn_287 kn_288 kn_3 kn_289 kd_X4_slotKey rfl rfl ⟨Nat.le_of_ble_eq_true rfl, Nat.le_of_ble_eq_true rfl⟩) hB rfl hl.1 rfl (Nat.le_of_ble_eq_true rfl) dX4_opens_30 ⟨Nat.zero_le _, Nat.zero_le _⟩ (fun H locs hB => ?_)
  refine lv_topi (fun x_1 ex_1 => ?_)
  refine lv_istore S.1 S.2.1 dX4_opens_33 hl (by decide) rfl (fun ls hl => ?_)
  have hl : lv_has ls 6 [(5, .int x_1), (4, .int 0), (3, .int (nI (4 + (8 * k)))), (0, .ref o), (1, .int (nI k)), (2, .int pw)] := hl
  refine lv_aload_n S.1 S.2.1 dX4_opens_35 rfl (lv_at hl 3 rfl) ?_
  refine kv_get (C := RX4) (T := TX4) (M := 14) (ci := 2) S hB (kn_c kn_iX4) 0 rfl rfl 11 (by decide) (List.mem_cons_of_mem _ kn_244) rfl rfl dX4_opens_36 ?_
  refine lv_iload S.1 S.2.1 dX4_opens_39 (lv_at hl 1 rfl) ?_
  refine lv_iload S.1 S.2.1 dX4_opens_41 (lv_at hl 0 rfl) ?_
  refine lv_aload_n S.1 S.2.1 dX4_opens_43 rfl (lv_at hl 3 rfl) ?_
  refine kv_get (C := RX4) (T := TX4) (M := 14) (ci := 2) S hB (kn_c kn_iX4) 0 rfl rfl 0 (by decide) (List.mem_cons_of_mem _ kn_233) rfl rfl dX4_opens_44 ?_
  refine lv_iload_n S.1 S.2.1 dX4_opens_47 rfl (lv_at hl 2 rfl) ?_
  refine lv_iconst (v := 2) S.1 S.2.1 dX4_opens_48 (by decide) ?_
  refine lv_iadd S.1 S.2.1 dX4_opens_49 ?_
  refine kv_top (y := nI ((4 + (8 * k)) + 2)) (nI_add (4 + (8 * k)) 2) ?_
  refine lv_iload S.1 S.2.1 dX4_opens_50 (lv_at hl 1 rfl) ?_
  refine lv_iadd S.1 S.2.1 dX4_opens_52 ?_
  refine kv_top (y := nI (((4 + (8 * k)) + 2) + 0)) (nI_add ((4 + (8 * k)) + 2) 0) ?_
  refine kv_iald S hB 1 0 rfl rfl (((4 + (8 * k)) + 2) + 0) rfl (by omega) (by decide) dX4_opens_53 ?_
  refine kv_sP (As := [.int x_1, .int (σ.1 (((4 + (8 * k)) + 2) + 0))]) (rest := [.int 0, .ref a6]) S (kc_MO_dec l D x_1 (σ.1 (((4 + (8 * k)) + 2) + 0))  ) (kn_cS S kn_333 kn_334 kn_3 kn_335 kd_X4_dec rfl rfl ⟨Nat.le_of_ble_eq_true rfl, Nat.le_of_ble_eq_true rfl⟩) hB rfl hl.1 rfl (Nat.le_of_ble_eq_true rfl) dX4_opens_54 ⟨Nat.zero_le _, Nat.zero_le _⟩ (fun H locs hB => ?_)
  refine kv_iast S hB 6 0 rfl rfl 0 rfl (by omega) (by decide) dX4_opens_57 (fun H locs hB => ?_)
  have hB : kv_B N D [(cA, .int)] A s (mo_W o a1 a2 a3 a4 a5 a6 cA σ dv ka kb μ fr (upd st 0 (kp_D x_1 (σ.1 (((4 + (8 * k)) + 2) + 0)))) oa ob) H locs := hB
  refine lv_iinc (k := 1) (v := 1) S.1 S.2.1 dX4_opens_58 hl rfl (by decide) (by decide) rfl (fun ls hl => ?_)
  have hl : lv_has ls 6 [(4, .int 1), (5, .int x_1), (3, .int (nI (4 + (8 * k)))), (0, .ref o), (1, .int (nI k)), (2, .int pw)] := hl
  refine lv_goto (tgt := 10) S.1 S.2.1 dX4_opens_61 (by decide) ?_
  refine lv_iload S.1 S.2.1 dX4_opens_10 (lv_at hl 0 rfl) ?_
  refine lv_bipush (v := 6) S.1 S.2.1 dX4_opens_12 (by decide) ?_
  refine kv_bge (x := 1) (y := 6) (tgt := 64) S (by omega) (by omega) dX4_opens_14 (by decide) (fun h => absurd h (by omega)) (fun h_14 => ?_)
  refine lv_iload_n S.1 S.2.1 dX4_opens_17 rfl (lv_at hl 5 rfl) ?_
  refine lv_aload_n S.1 S.2.1 dX4_opens_18 rfl (lv_at hl 3 rfl) ?_
  refine kv_get (C := RX4) (T := TX4) (M := 14) (ci := 2) S hB (kn_c kn_iX4) 0 rfl rfl 0 (by decide) (List.mem_cons_of_mem _ kn_233) rfl rfl dX4_opens_19 ?_
  refine lv_iload_n S.1 S.2.1 dX4_opens_22 rfl (lv_at hl 2 rfl) ?_
  refine lv_iconst (v := 1) S.1 S.2.1 dX4_opens_23 (by decide) ?_
  refine lv_iadd S.1 S.2.1 dX4_opens_24 ?_
  refine kv_top (y := nI ((4 + (8 * k)) + 1)) (nI_add (4 + (8 * k)) 1) ?_
  refine kv_iald S hB 1 0 rfl rfl ((4 + (8 * k)) + 1) rfl (by omega) (by decide) dX4_opens_25 ?_
  refine lv_iload S.1 S.2.1 dX4_opens_26 (lv_at hl 0 rfl) ?_
  refine lv_iconst (v := 2) S.1 S.2.1 dX4_opens_28 (by decide) ?_
  refine lv_irem S.1 S.2.1 dX4_opens_29 (by decide) ?_
  refine kv_top (y := nI (1 % 2)) (pk_rem (a := 1) (d := 2) (by omega) (by omega) (by omega)) ?_
  refine kv_sP (As := [.int pw, .int (σ.1 ((4 + (8 * k)) + 1)), .int (nI (1 % 2))]) (rest := []) S (kc_MO_slotKey l D pw (σ.1 ((4 + (8 * k)) + 1)) (nI (1 % 2))  ) (kn_cS S kn_287 kn_288 kn_3 kn_289 kd_X4_slotKey rfl rfl ⟨Nat.le_of_ble_eq_true rfl, Nat.le_of_ble_eq_true rfl⟩) hB rfl hl.1 rfl (Nat.le_of_ble_eq_true rfl) dX4_opens_30 ⟨Nat.zero_le _, Nat.zero_le _⟩ (fun H locs hB => ?_)
  refine lv_topi (fun x_2 ex_2 => ?_)
  refine lv_istore S.1 S.2.1 dX4_opens_33 hl (by decide) rfl (fun ls hl => ?_)
  have hl : lv_has ls 6 [(5, .int x_2), (4, .int 1), (3, .int (nI (4 + (8 * k)))), (0, .ref o), (1, .int (nI k)), (2, .int pw)] := hl
  refine lv_aload_n S.1 S.2.1 dX4_opens_35 rfl (lv_at hl 3 rfl) ?_
  refine kv_get (C := RX4) (T := TX4) (M := 14) (ci := 2) S hB (kn_c kn_iX4) 0 rfl rfl 11 (by decide) (List.mem_cons_of_mem _ kn_244) rfl rfl dX4_opens_36 ?_
  refine lv_iload S.1 S.2.1 dX4_opens_39 (lv_at hl 1 rfl) ?_
  refine lv_iload S.1 S.2.1 dX4_opens_41 (lv_at hl 0 rfl) ?_
  refine lv_aload_n S.1 S.2.1 dX4_opens_43 rfl (lv_at hl 3 rfl) ?_
  refine kv_get (C := RX4) (T := TX4) (M := 14) (ci := 2) S hB (kn_c kn_iX4) 0 rfl rfl 0 (by decide) (List.mem_cons_of_mem _ kn_233) rfl rfl dX4_opens_44 ?_
  refine lv_iload_n S.1 S.2.1 dX4_opens_47 rfl (lv_at hl 2 rfl) ?_
  refine lv_iconst (v := 2) S.1 S.2.1 dX4_opens_48 (by decide) ?_
  refine lv_iadd S.1 S.2.1 dX4_opens_49 ?_
  refine kv_top (y := nI ((4 + (8 * k)) + 2)) (nI_add (4 + (8 * k)) 2) ?_
  refine lv_iload S.1 S.2.1 dX4_opens_50 (lv_at hl 1 rfl) ?_
  refine lv_iadd S.1 S.2.1 dX4_opens_52 ?_
  refine kv_top (y := nI (((4 + (8 * k)) + 2) + 1)) (nI_add ((4 + (8 * k)) + 2) 1) ?_
  refine kv_iald S hB 1 0 rfl rfl (((4 + (8 * k)) + 2) + 1) rfl (by omega) (by decide) dX4_opens_53 ?_
  refine kv_sP (As := [.int x_2, .int (σ.1 (((4 + (8 * k)) + 2) + 1))]) (rest := [.int 1, .ref a6]) S (kc_MO_dec l D x_2 (σ.1 (((4 + (8 * k)) + 2) + 1))  ) (kn_cS S kn_333 kn_334 kn_3 kn_335 kd_X4_dec rfl rfl ⟨Nat.le_of_ble_eq_true rfl, Nat.le_of_ble_eq_true rfl⟩) hB rfl hl.1 rfl (Nat.le_of_ble_eq_true rfl) dX4_opens_54 ⟨Nat.zero_le _, Nat.zero_le _⟩ (fun H locs hB => ?_)
  refine kv_iast S hB 6 0 rfl rfl 1 rfl (by omega) (by decide) dX4_opens_57 (fun H locs hB => ?_)
  have hB : kv_B N D [(cA, .int)] A s (mo_W o a1 a2 a3 a4 a5 a6 cA σ dv ka kb μ fr (upd (upd st 0 (kp_D x_1 (σ.1 (((4 + (8 * k)) + 2) + 0)))) 1 (kp_D x_2 (σ.1 (((4 + (8 * k)) + 2) + 1)))) oa ob) H locs := hB
  refine lv_iinc (k := 1) (v := 2) S.1 S.2.1 dX4_opens_58 hl rfl (by decide) (by decide) rfl (fun ls hl => ?_)
  have hl : lv_has ls 6 [(4, .int 2), (5, .int x_2), (3, .int (nI (4 + (8 * k)))), (0, .ref o), (1, .int (nI k)), (2, .int pw)] := hl
  refine lv_goto (tgt := 10) S.1 S.2.1 dX4_opens_61 (by decide) ?_
  refine lv_iload S.1 S.2.1 dX4_opens_10 (lv_at hl 0 rfl) ?_
  refine lv_bipush (v := 6) S.1 S.2.1 dX4_opens_12 (by decide) ?_
  refine kv_bge (x := 2) (y := 6) (tgt := 64) S (by omega) (by omega) dX4_opens_14 (by decide) (fun h => absurd h (by omega)) (fun h_14 => ?_)
  refine lv_iload_n S.1 S.2.1 dX4_opens_17 rfl (lv_at hl 5 rfl) ?_
  refine lv_aload_n S.1 S.2.1 dX4_opens_18 rfl (lv_at hl 3 rfl) ?_
  refine kv_get (C := RX4) (T := TX4) (M := 14) (ci := 2) S hB (kn_c kn_iX4) 0 rfl rfl 0 (by decide) (List.mem_cons_of_mem _ kn_233) rfl rfl dX4_opens_19 ?_
  refine lv_iload_n S.1 S.2.1 dX4_opens_22 rfl (lv_at hl 2 rfl) ?_
  refine lv_iconst (v := 1) S.1 S.2.1 dX4_opens_23 (by decide) ?_
  refine lv_iadd S.1 S.2.1 dX4_opens_24 ?_
  refine kv_top (y := nI ((4 + (8 * k)) + 1)) (nI_add (4 + (8 * k)) 1) ?_
  refine kv_iald S hB 1 0 rfl rfl ((4 + (8 * k)) + 1) rfl (by omega) (by decide) dX4_opens_25 ?_
  refine lv_iload S.1 S.2.1 dX4_opens_26 (lv_at hl 0 rfl) ?_
  refine lv_iconst (v := 2) S.1 S.2.1 dX4_opens_28 (by decide) ?_
  refine lv_irem S.1 S.2.1 dX4_opens_29 (by decide) ?_
  refine kv_top (y := nI (2 % 2)) (pk_rem (a := 2) (d := 2) (by omega) (by omega) (by omega)) ?_
  refine kv_sP (As := [.int pw, .int (σ.1 ((4 + (8 * k)) + 1)), .int (nI (2 % 2))]) (rest := []) S (kc_MO_slotKey l D pw (σ.1 ((4 + (8 * k)) + 1)) (nI (2 % 2))  ) (kn_cS S kn_287 kn_288 kn_3 kn_289 kd_X4_slotKey rfl rfl ⟨Nat.le_of_ble_eq_true rfl, Nat.le_of_ble_eq_true rfl⟩) hB rfl hl.1 rfl (Nat.le_of_ble_eq_true rfl) dX4_opens_30 ⟨Nat.zero_le _, Nat.zero_le _⟩ (fun H locs hB => ?_)
  refine lv_topi (fun x_3 ex_3 => ?_)
  refine lv_istore S.1 S.2.1 dX4_opens_33 hl (by decide) rfl (fun ls hl => ?_)
  have hl : lv_has ls 6 [(5, .int x_3), (4, .int 2), (3, .int (nI (4 + (8 * k)))), (0, .ref o), (1, .int (nI k)), (2, .int pw)] := hl
  refine lv_aload_n S.1 S.2.1 dX4_opens_35 rfl (lv_at hl 3 rfl) ?_
  refine kv_get (C := RX4) (T := TX4) (M := 14) (ci := 2) S hB (kn_c kn_iX4) 0 rfl rfl 11 (by decide) (List.mem_cons_of_mem _ kn_244) rfl rfl dX4_opens_36 ?_
  refine lv_iload S.1 S.2.1 dX4_opens_39 (lv_at hl 1 rfl) ?_
  refine lv_iload S.1 S.2.1 dX4_opens_41 (lv_at hl 0 rfl) ?_
  refine lv_aload_n S.1 S.2.1 dX4_opens_43 rfl (lv_at hl 3 rfl) ?_
  refine kv_get (C := RX4) (T := TX4) (M := 14) (ci := 2) S hB (kn_c kn_iX4) 0 rfl rfl 0 (by decide) (List.mem_cons_of_mem _ kn_233) rfl rfl dX4_opens_44 ?_
  refine lv_iload_n S.1 S.2.1 dX4_opens_47 rfl (lv_at hl 2 rfl) ?_
  refine lv_iconst (v := 2) S.1 S.2.1 dX4_opens_48 (by decide) ?_
  refine lv_iadd S.1 S.2.1 dX4_opens_49 ?_
  refine kv_top (y := nI ((4 + (8 * k)) + 2)) (nI_add (4 + (8 * k)) 2) ?_
  refine lv_iload S.1 S.2.1 dX4_opens_50 (lv_at hl 1 rfl) ?_
  refine lv_iadd S.1 S.2.1 dX4_opens_52 ?_
  refine kv_top (y := nI (((4 + (8 * k)) + 2) + 2)) (nI_add ((4 + (8 * k)) + 2) 2) ?_
  refine kv_iald S hB 1 0 rfl rfl (((4 + (8 * k)) + 2) + 2) rfl (by omega) (by decide) dX4_opens_53 ?_
  refine kv_sP (As := [.int x_3, .int (σ.1 (((4 + (8 * k)) + 2) + 2))]) (rest := [.int 2, .ref a6]) S (kc_MO_dec l D x_3 (σ.1 (((4 + (8 * k)) + 2) + 2))  ) (kn_cS S kn_333 kn_334 kn_3 kn_335 kd_X4_dec rfl rfl ⟨Nat.le_of_ble_eq_true rfl, Nat.le_of_ble_eq_true rfl⟩) hB rfl hl.1 rfl (Nat.le_of_ble_eq_true rfl) dX4_opens_54 ⟨Nat.zero_le _, Nat.zero_le _⟩ (fun H locs hB => ?_)
  refine kv_iast S hB 6 0 rfl rfl 2 rfl (by omega) (by decide) dX4_opens_57 (fun H locs hB => ?_)
  have hB : kv_B N D [(cA, .int)] A s (mo_W o a1 a2 a3 a4 a5 a6 cA σ dv ka kb μ fr (upd (upd (upd st 0 (kp_D x_1 (σ.1 (((4 + (8 * k)) + 2) + 0)))) 1 (kp_D x_2 (σ.1 (((4 + (8 * k)) + 2) + 1)))) 2 (kp_D x_3 (σ.1 (((4 + (8 * k)) + 2) + 2)))) oa ob) H locs := hB
  refine lv_iinc (k := 1) (v := 3) S.1 S.2.1 dX4_opens_58 hl rfl (by decide) (by decide) rfl (fun ls hl => ?_)
  have hl : lv_has ls 6 [(4, .int 3), (5, .int x_3), (3, .int (nI (4 + (8 * k)))), (0, .ref o), (1, .int (nI k)), (2, .int pw)] := hl
  refine lv_goto (tgt := 10) S.1 S.2.1 dX4_opens_61 (by decide) ?_
  refine lv_iload S.1 S.2.1 dX4_opens_10 (lv_at hl 0 rfl) ?_
  refine lv_bipush (v := 6) S.1 S.2.1 dX4_opens_12 (by decide) ?_
  refine kv_bge (x := 3) (y := 6) (tgt := 64) S (by omega) (by omega) dX4_opens_14 (by decide) (fun h => absurd h (by omega)) (fun h_14 => ?_)
  refine lv_iload_n S.1 S.2.1 dX4_opens_17 rfl (lv_at hl 5 rfl) ?_
  refine lv_aload_n S.1 S.2.1 dX4_opens_18 rfl (lv_at hl 3 rfl) ?_
  refine kv_get (C := RX4) (T := TX4) (M := 14) (ci := 2) S hB (kn_c kn_iX4) 0 rfl rfl 0 (by decide) (List.mem_cons_of_mem _ kn_233) rfl rfl dX4_opens_19 ?_
  refine lv_iload_n S.1 S.2.1 dX4_opens_22 rfl (lv_at hl 2 rfl) ?_
  refine lv_iconst (v := 1) S.1 S.2.1 dX4_opens_23 (by decide) ?_
  refine lv_iadd S.1 S.2.1 dX4_opens_24 ?_
  refine kv_top (y := nI ((4 + (8 * k)) + 1)) (nI_add (4 + (8 * k)) 1) ?_
  refine kv_iald S hB 1 0 rfl rfl ((4 + (8 * k)) + 1) rfl (by omega) (by decide) dX4_opens_25 ?_
  refine lv_iload S.1 S.2.1 dX4_opens_26 (lv_at hl 0 rfl) ?_
  refine lv_iconst (v := 2) S.1 S.2.1 dX4_opens_28 (by decide) ?_
  refine lv_irem S.1 S.2.1 dX4_opens_29 (by decide) ?_
  refine kv_top (y := nI (3 % 2)) (pk_rem (a := 3) (d := 2) (by omega) (by omega) (by omega)) ?_
  refine kv_sP (As := [.int pw, .int (σ.1 ((4 + (8 * k)) + 1)), .int (nI (3 % 2))]) (rest := []) S (kc_MO_slotKey l D pw (σ.1 ((4 + (8 * k)) + 1)) (nI (3 % 2))  ) (kn_cS S kn_287 kn_288 kn_3 kn_289 kd_X4_slotKey rfl rfl ⟨Nat.le_of_ble_eq_true rfl, Nat.le_of_ble_eq_true rfl⟩) hB rfl hl.1 rfl (Nat.le_of_ble_eq_true rfl) dX4_opens_30 ⟨Nat.zero_le _, Nat.zero_le _⟩ (fun H locs hB => ?_)
  refine lv_topi (fun x_4 ex_4 => ?_)
  refine lv_istore S.1 S.2.1 dX4_opens_33 hl (by decide) rfl (fun ls hl => ?_)
  have hl : lv_has ls 6 [(5, .int x_4), (4, .int 3), (3, .int (nI (4 + (8 * k)))), (0, .ref o), (1, .int (nI k)), (2, .int pw)] := hl
  refine lv_aload_n S.1 S.2.1 dX4_opens_35 rfl (lv_at hl 3 rfl) ?_
  refine kv_get (C := RX4) (T := TX4) (M := 14) (ci := 2) S hB (kn_c kn_iX4) 0 rfl rfl 11 (by decide) (List.mem_cons_of_mem _ kn_244) rfl rfl dX4_opens_36 ?_
  refine lv_iload S.1 S.2.1 dX4_opens_39 (lv_at hl 1 rfl) ?_
  refine lv_iload S.1 S.2.1 dX4_opens_41 (lv_at hl 0 rfl) ?_
  refine lv_aload_n S.1 S.2.1 dX4_opens_43 rfl (lv_at hl 3 rfl) ?_
  refine kv_get (C := RX4) (T := TX4) (M := 14) (ci := 2) S hB (kn_c kn_iX4) 0 rfl rfl 0 (by decide) (List.mem_cons_of_mem _ kn_233) rfl rfl dX4_opens_44 ?_
  refine lv_iload_n S.1 S.2.1 dX4_opens_47 rfl (lv_at hl 2 rfl) ?_
  refine lv_iconst (v := 2) S.1 S.2.1 dX4_opens_48 (by decide) ?_
  refine lv_iadd S.1 S.2.1 dX4_opens_49 ?_
  refine kv_top (y := nI ((4 + (8 * k)) + 2)) (nI_add (4 + (8 * k)) 2) ?_
  refine lv_iload S.1 S.2.1 dX4_opens_50 (lv_at hl 1 rfl) ?_
  refine lv_iadd S.1 S.2.1 dX4_opens_52 ?_
  refine kv_top (y := nI (((4 + (8 * k)) + 2) + 3)) (nI_add ((4 + (8 * k)) + 2) 3) ?_
  refine kv_iald S hB 1 0 rfl rfl (((4 + (8 * k)) + 2) + 3) rfl (by omega) (by decide) dX4_opens_53 ?_
  refine kv_sP (As := [.int x_4, .int (σ.1 (((4 + (8 * k)) + 2) + 3))]) (rest := [.int 3, .ref a6]) S (kc_MO_dec l D x_4 (σ.1 (((4 + (8 * k)) + 2) + 3))  ) (kn_cS S kn_333 kn_334 kn_3 kn_335 kd_X4_dec rfl rfl ⟨Nat.le_of_ble_eq_true rfl, Nat.le_of_ble_eq_true rfl⟩) hB rfl hl.1 rfl (Nat.le_of_ble_eq_true rfl) dX4_opens_54 ⟨Nat.zero_le _, Nat.zero_le _⟩ (fun H locs hB => ?_)
  refine kv_iast S hB 6 0 rfl rfl 3 rfl (by omega) (by decide) dX4_opens_57 (fun H locs hB => ?_)
  have hB : kv_B N D [(cA, .int)] A s (mo_W o a1 a2 a3 a4 a5 a6 cA σ dv ka kb μ fr (upd (upd (upd (upd st 0 (kp_D x_1 (σ.1 (((4 + (8 * k)) + 2) + 0)))) 1 (kp_D x_2 (σ.1 (((4 + (8 * k)) + 2) + 1)))) 2 (kp_D x_3 (σ.1 (((4 + (8 * k)) + 2) + 2)))) 3 (kp_D x_4 (σ.1 (((4 + (8 * k)) + 2) + 3)))) oa ob) H locs := hB
  refine lv_iinc (k := 1) (v := 4) S.1 S.2.1 dX4_opens_58 hl rfl (by decide) (by decide) rfl (fun ls hl => ?_)
  have hl : lv_has ls 6 [(4, .int 4), (5, .int x_4), (3, .int (nI (4 + (8 * k)))), (0, .ref o), (1, .int (nI k)), (2, .int pw)] := hl
  refine lv_goto (tgt := 10) S.1 S.2.1 dX4_opens_61 (by decide) ?_
  refine lv_iload S.1 S.2.1 dX4_opens_10 (lv_at hl 0 rfl) ?_
  refine lv_bipush (v := 6) S.1 S.2.1 dX4_opens_12 (by decide) ?_
  refine kv_bge (x := 4) (y := 6) (tgt := 64) S (by omega) (by omega) dX4_opens_14 (by decide) (fun h => absurd h (by omega)) (fun h_14 => ?_)
  refine lv_iload_n S.1 S.2.1 dX4_opens_17 rfl (lv_at hl 5 rfl) ?_
  refine lv_aload_n S.1 S.2.1 dX4_opens_18 rfl (lv_at hl 3 rfl) ?_
  refine kv_get (C := RX4) (T := TX4) (M := 14) (ci := 2) S hB (kn_c kn_iX4) 0 rfl rfl 0 (by decide) (List.mem_cons_of_mem _ kn_233) rfl rfl dX4_opens_19 ?_
  refine lv_iload_n S.1 S.2.1 dX4_opens_22 rfl (lv_at hl 2 rfl) ?_
  refine lv_iconst (v := 1) S.1 S.2.1 dX4_opens_23 (by decide) ?_
  refine lv_iadd S.1 S.2.1 dX4_opens_24 ?_
  refine kv_top (y := nI ((4 + (8 * k)) + 1)) (nI_add (4 + (8 * k)) 1) ?_
  refine kv_iald S hB 1 0 rfl rfl ((4 + (8 * k)) + 1) rfl (by omega) (by decide) dX4_opens_25 ?_
  refine lv_iload S.1 S.2.1 dX4_opens_26 (lv_at hl 0 rfl) ?_
  refine lv_iconst (v := 2) S.1 S.2.1 dX4_opens_28 (by decide) ?_
  refine lv_irem S.1 S.2.1 dX4_opens_29 (by decide) ?_
  refine kv_top (y := nI (4 % 2)) (pk_rem (a := 4) (d := 2) (by omega) (by omega) (by omega)) ?_
  refine kv_sP (As := [.int pw, .int (σ.1 ((4 + (8 * k)) + 1)), .int (nI (4 % 2))]) (rest := []) S (kc_MO_slotKey l D pw (σ.1 ((4 + (8 * k)) + 1)) (nI (4 % 2))  ) (kn_cS S kn_287 kn_288 kn_3 kn_289 kd_X4_slotKey rfl rfl ⟨Nat.le_of_ble_eq_true rfl, Nat.le_of_ble_eq_true rfl⟩) hB rfl hl.1 rfl (Nat.le_of_ble_eq_true rfl) dX4_opens_30 ⟨Nat.zero_le _, Nat.zero_le _⟩ (fun H locs hB => ?_)
  refine lv_topi (fun x_5 ex_5 => ?_)
  refine lv_istore S.1 S.2.1 dX4_opens_33 hl (by decide) rfl (fun ls hl => ?_)
  have hl : lv_has ls 6 [(5, .int x_5), (4, .int 4), (3, .int (nI (4 + (8 * k)))), (0, .ref o), (1, .int (nI k)), (2, .int pw)] := hl
  refine lv_aload_n S.1 S.2.1 dX4_opens_35 rfl (lv_at hl 3 rfl) ?_
  refine kv_get (C := RX4) (T := TX4) (M := 14) (ci := 2) S hB (kn_c kn_iX4) 0 rfl rfl 11 (by decide) (List.mem_cons_of_mem _ kn_244) rfl rfl dX4_opens_36 ?_
  refine lv_iload S.1 S.2.1 dX4_opens_39 (lv_at hl 1 rfl) ?_
  refine lv_iload S.1 S.2.1 dX4_opens_41 (lv_at hl 0 rfl) ?_
  refine lv_aload_n S.1 S.2.1 dX4_opens_43 rfl (lv_at hl 3 rfl) ?_
  refine kv_get (C := RX4) (T := TX4) (M := 14) (ci := 2) S hB (kn_c kn_iX4) 0 rfl rfl 0 (by decide) (List.mem_cons_of_mem _ kn_233) rfl rfl dX4_opens_44 ?_
  refine lv_iload_n S.1 S.2.1 dX4_opens_47 rfl (lv_at hl 2 rfl) ?_
  refine lv_iconst (v := 2) S.1 S.2.1 dX4_opens_48 (by decide) ?_
  refine lv_iadd S.1 S.2.1 dX4_opens_49 ?_
  refine kv_top (y := nI ((4 + (8 * k)) + 2)) (nI_add (4 + (8 * k)) 2) ?_
  refine lv_iload S.1 S.2.1 dX4_opens_50 (lv_at hl 1 rfl) ?_
  refine lv_iadd S.1 S.2.1 dX4_opens_52 ?_
  refine kv_top (y := nI (((4 + (8 * k)) + 2) + 4)) (nI_add ((4 + (8 * k)) + 2) 4) ?_
  refine kv_iald S hB 1 0 rfl rfl (((4 + (8 * k)) + 2) + 4) rfl (by omega) (by decide) dX4_opens_53 ?_
  refine kv_sP (As := [.int x_5, .int (σ.1 (((4 + (8 * k)) + 2) + 4))]) (rest := [.int 4, .ref a6]) S (kc_MO_dec l D x_5 (σ.1 (((4 + (8 * k)) + 2) + 4))  ) (kn_cS S kn_333 kn_334 kn_3 kn_335 kd_X4_dec rfl rfl ⟨Nat.le_of_ble_eq_true rfl, Nat.le_of_ble_eq_true rfl⟩) hB rfl hl.1 rfl (Nat.le_of_ble_eq_true rfl) dX4_opens_54 ⟨Nat.zero_le _, Nat.zero_le _⟩ (fun H locs hB => ?_)
  refine kv_iast S hB 6 0 rfl rfl 4 rfl (by omega) (by decide) dX4_opens_57 (fun H locs hB => ?_)
  have hB : kv_B N D [(cA, .int)] A s (mo_W o a1 a2 a3 a4 a5 a6 cA σ dv ka kb μ fr (upd (upd (upd (upd (upd st 0 (kp_D x_1 (σ.1 (((4 + (8 * k)) + 2) + 0)))) 1 (kp_D x_2 (σ.1 (((4 + (8 * k)) + 2) + 1)))) 2 (kp_D x_3 (σ.1 (((4 + (8 * k)) + 2) + 2)))) 3 (kp_D x_4 (σ.1 (((4 + (8 * k)) + 2) + 3)))) 4 (kp_D x_5 (σ.1 (((4 + (8 * k)) + 2) + 4)))) oa ob) H locs := hB
  refine lv_iinc (k := 1) (v := 5) S.1 S.2.1 dX4_opens_58 hl rfl (by decide) (by decide) rfl (fun ls hl => ?_)
  have hl : lv_has ls 6 [(4, .int 5), (5, .int x_5), (3, .int (nI (4 + (8 * k)))), (0, .ref o), (1, .int (nI k)), (2, .int pw)] := hl
  refine lv_goto (tgt := 10) S.1 S.2.1 dX4_opens_61 (by decide) ?_
  refine lv_iload S.1 S.2.1 dX4_opens_10 (lv_at hl 0 rfl) ?_
  refine lv_bipush (v := 6) S.1 S.2.1 dX4_opens_12 (by decide) ?_
  refine kv_bge (x := 5) (y := 6) (tgt := 64) S (by omega) (by omega) dX4_opens_14 (by decide) (fun h => absurd h (by omega)) (fun h_14 => ?_)
  refine lv_iload_n S.1 S.2.1 dX4_opens_17 rfl (lv_at hl 5 rfl) ?_
  refine lv_aload_n S.1 S.2.1 dX4_opens_18 rfl (lv_at hl 3 rfl) ?_
  refine kv_get (C := RX4) (T := TX4) (M := 14) (ci := 2) S hB (kn_c kn_iX4) 0 rfl rfl 0 (by decide) (List.mem_cons_of_mem _ kn_233) rfl rfl dX4_opens_19 ?_
  refine lv_iload_n S.1 S.2.1 dX4_opens_22 rfl (lv_at hl 2 rfl) ?_
  refine lv_iconst (v := 1) S.1 S.2.1 dX4_opens_23 (by decide) ?_
  refine lv_iadd S.1 S.2.1 dX4_opens_24 ?_
  refine kv_top (y := nI ((4 + (8 * k)) + 1)) (nI_add (4 + (8 * k)) 1) ?_
  refine kv_iald S hB 1 0 rfl rfl ((4 + (8 * k)) + 1) rfl (by omega) (by decide) dX4_opens_25 ?_
  refine lv_iload S.1 S.2.1 dX4_opens_26 (lv_at hl 0 rfl) ?_
  refine lv_iconst (v := 2) S.1 S.2.1 dX4_opens_28 (by decide) ?_
  refine lv_irem S.1 S.2.1 dX4_opens_29 (by decide) ?_
  refine kv_top (y := nI (5 % 2)) (pk_rem (a := 5) (d := 2) (by omega) (by omega) (by omega)) ?_
  refine kv_sP (As := [.int pw, .int (σ.1 ((4 + (8 * k)) + 1)), .int (nI (5 % 2))]) (rest := []) S (kc_MO_slotKey l D pw (σ.1 ((4 + (8 * k)) + 1)) (nI (5 % 2))  ) (kn_cS S kn_287 kn_288 kn_3 kn_289 kd_X4_slotKey rfl rfl ⟨Nat.le_of_ble_eq_true rfl, Nat.le_of_ble_eq_true rfl⟩) hB rfl hl.1 rfl (Nat.le_of_ble_eq_true rfl) dX4_opens_30 ⟨Nat.zero_le _, Nat.zero_le _⟩ (fun H locs hB => ?_)
  refine lv_topi (fun x_6 ex_6 => ?_)
  refine lv_istore S.1 S.2.1 dX4_opens_33 hl (by decide) rfl (fun ls hl => ?_)
  have hl : lv_has ls 6 [(5, .int x_6), (4, .int 5), (3, .int (nI (4 + (8 * k)))), (0, .ref o), (1, .int (nI k)), (2, .int pw)] := hl
  refine lv_aload_n S.1 S.2.1 dX4_opens_35 rfl (lv_at hl 3 rfl) ?_
  refine kv_get (C := RX4) (T := TX4) (M := 14) (ci := 2) S hB (kn_c kn_iX4) 0 rfl rfl 11 (by decide) (List.mem_cons_of_mem _ kn_244) rfl rfl dX4_opens_36 ?_
  refine lv_iload S.1 S.2.1 dX4_opens_39 (lv_at hl 1 rfl) ?_
  refine lv_iload S.1 S.2.1 dX4_opens_41 (lv_at hl 0 rfl) ?_
  refine lv_aload_n S.1 S.2.1 dX4_opens_43 rfl (lv_at hl 3 rfl) ?_
  refine kv_get (C := RX4) (T := TX4) (M := 14) (ci := 2) S hB (kn_c kn_iX4) 0 rfl rfl 0 (by decide) (List.mem_cons_of_mem _ kn_233) rfl rfl dX4_opens_44 ?_
  refine lv_iload_n S.1 S.2.1 dX4_opens_47 rfl (lv_at hl 2 rfl) ?_
  refine lv_iconst (v := 2) S.1 S.2.1 dX4_opens_48 (by decide) ?_
  refine lv_iadd S.1 S.2.1 dX4_opens_49 ?_
  refine kv_top (y := nI ((4 + (8 * k)) + 2)) (nI_add (4 + (8 * k)) 2) ?_
  refine lv_iload S.1 S.2.1 dX4_opens_50 (lv_at hl 1 rfl) ?_
  refine lv_iadd S.1 S.2.1 dX4_opens_52 ?_
  refine kv_top (y := nI (((4 + (8 * k)) + 2) + 5)) (nI_add ((4 + (8 * k)) + 2) 5) ?_
  refine kv_iald S hB 1 0 rfl rfl (((4 + (8 * k)) + 2) + 5) rfl (by omega) (by decide) dX4_opens_53 ?_
  refine kv_sP (As := [.int x_6, .int (σ.1 (((4 + (8 * k)) + 2) + 5))]) (rest := [.int 5, .ref a6]) S (kc_MO_dec l D x_6 (σ.1 (((4 + (8 * k)) + 2) + 5))  ) (kn_cS S kn_333 kn_334 kn_3 kn_335 kd_X4_dec rfl rfl ⟨Nat.le_of_ble_eq_true rfl, Nat.le_of_ble_eq_true rfl⟩) hB rfl hl.1 rfl (Nat.le_of_ble_eq_true rfl) dX4_opens_54 ⟨Nat.zero_le _, Nat.zero_le _⟩ (fun H locs hB => ?_)
  refine kv_iast S hB 6 0 rfl rfl 5 rfl (by omega) (by decide) dX4_opens_57 (fun H locs hB => ?_)
  have hB : kv_B N D [(cA, .int)] A s (mo_W o a1 a2 a3 a4 a5 a6 cA σ dv ka kb μ fr (upd (upd (upd (upd (upd (upd st 0 (kp_D x_1 (σ.1 (((4 + (8 * k)) + 2) + 0)))) 1 (kp_D x_2 (σ.1 (((4 + (8 * k)) + 2) + 1)))) 2 (kp_D x_3 (σ.1 (((4 + (8 * k)) + 2) + 2)))) 3 (kp_D x_4 (σ.1 (((4 + (8 * k)) + 2) + 3)))) 4 (kp_D x_5 (σ.1 (((4 + (8 * k)) + 2) + 4)))) 5 (kp_D x_6 (σ.1 (((4 + (8 * k)) + 2) + 5)))) oa ob) H locs := hB
  refine lv_iinc (k := 1) (v := 6) S.1 S.2.1 dX4_opens_58 hl rfl (by decide) (by decide) rfl (fun ls hl => ?_)
  have hl : lv_has ls 6 [(4, .int 6), (5, .int x_6), (3, .int (nI (4 + (8 * k)))), (0, .ref o), (1, .int (nI k)), (2, .int pw)] := hl
  refine lv_goto (tgt := 10) S.1 S.2.1 dX4_opens_61 (by decide) ?_
  refine lv_iload S.1 S.2.1 dX4_opens_10 (lv_at hl 0 rfl) ?_
  refine lv_bipush (v := 6) S.1 S.2.1 dX4_opens_12 (by decide) ?_
  refine kv_bge (x := 6) (y := 6) (tgt := 64) S (by omega) (by omega) dX4_opens_14 (by decide) (fun h_14 => ?_) (fun h => absurd h (by omega))
  have hB := kv_arr 6 rfl (kp_so σ.1 (4 + 8 * k) pw) (by subst_vars; exact kp_c6 rfl rfl rfl rfl rfl rfl) hB
  have hB : kv_B N D [(cA, .int)] A s (mo_W o a1 a2 a3 a4 a5 a6 cA σ dv ka kb μ fr (kp_so σ.1 (4 + 8 * k) pw) oa ob) H locs := hB
  refine lv_aload_n S.1 S.2.1 dX4_opens_64 rfl (lv_at hl 3 rfl) ?_
  refine lv_aload_n S.1 S.2.1 dX4_opens_65 rfl (lv_at hl 3 rfl) ?_
  refine lv_iconst (v := 0) S.1 S.2.1 dX4_opens_66 (by decide) ?_
  refine kv_vI (As := [.int 0]) (rest := [.ref o]) hN S (kc_MO_cover l N hN D cA o a1 a2 a3 a4 a5 a6 σ dv ka kb μ fr (kp_so σ.1 (4 + 8 * k) pw) oa ob 0  (by omega)) (kn_cV (C := RX4) S kn_284 kn_285 kn_410 kn_3 kn_286 rfl kd_X4_cover rfl rfl ⟨Nat.le_of_ble_eq_true rfl, Nat.le_of_ble_eq_true rfl⟩) hB 0 rfl rfl rfl hl.1 rfl (Nat.le_of_ble_eq_true rfl) dX4_opens_67 ⟨Nat.zero_le _, Nat.zero_le _⟩ (fun H locs hB => ?_)
  refine lv_aload_n S.1 S.2.1 dX4_opens_70 rfl (lv_at hl 3 rfl) ?_
  refine kv_get (C := RX4) (T := TX4) (M := 14) (ci := 2) S hB (kn_c kn_iX4) 0 rfl rfl 11 (by decide) (List.mem_cons_of_mem _ kn_244) rfl rfl dX4_opens_71 ?_
  refine lv_iconst (v := 4) S.1 S.2.1 dX4_opens_74 (by decide) ?_
  refine kv_iald S hB 6 0 rfl rfl 4 rfl (by omega) (by decide) dX4_opens_75 ?_
  refine lv_ixor S.1 S.2.1 dX4_opens_76 ?_
  refine kv_top (y := kp_oh σ.1 (4 + 8 * k) pw 0) (by rfl) ?_
  refine kv_put (C := RX4) (T := TX4) (M := 14) (ci := 2) (v := kp_oh σ.1 (4 + 8 * k) pw 0) S hB (kn_c kn_iX4) tyX4 tyX4_ok nmX4 0 rfl rfl 12 (by decide) (List.mem_cons_of_mem _ kn_245) rfl rfl rfl (Nat.le_of_ble_eq_true rfl) dX4_opens_77 (fun H locs hB => ?_)
  have hB : kv_B N D [(cA, .int)] A s (mo_W o a1 a2 a3 a4 a5 a6 cA σ dv ka kb μ fr (kp_so σ.1 (4 + 8 * k) pw) (kp_oh σ.1 (4 + 8 * k) pw 0) ob) H locs := hB
  refine lv_aload_n S.1 S.2.1 dX4_opens_80 rfl (lv_at hl 3 rfl) ?_
  refine lv_aload_n S.1 S.2.1 dX4_opens_81 rfl (lv_at hl 3 rfl) ?_
  refine lv_iconst (v := 1) S.1 S.2.1 dX4_opens_82 (by decide) ?_
  refine kv_vI (As := [.int 1]) (rest := [.ref o]) hN S (kc_MO_cover l N hN D cA o a1 a2 a3 a4 a5 a6 σ dv ka kb μ fr (kp_so σ.1 (4 + 8 * k) pw) (kp_oh σ.1 (4 + 8 * k) pw 0) ob 1  (by omega)) (kn_cV (C := RX4) S kn_284 kn_285 kn_410 kn_3 kn_286 rfl kd_X4_cover rfl rfl ⟨Nat.le_of_ble_eq_true rfl, Nat.le_of_ble_eq_true rfl⟩) hB 0 rfl rfl rfl hl.1 rfl (Nat.le_of_ble_eq_true rfl) dX4_opens_83 ⟨Nat.zero_le _, Nat.zero_le _⟩ (fun H locs hB => ?_)
  refine lv_aload_n S.1 S.2.1 dX4_opens_86 rfl (lv_at hl 3 rfl) ?_
  refine kv_get (C := RX4) (T := TX4) (M := 14) (ci := 2) S hB (kn_c kn_iX4) 0 rfl rfl 11 (by decide) (List.mem_cons_of_mem _ kn_244) rfl rfl dX4_opens_87 ?_
  refine lv_iconst (v := 5) S.1 S.2.1 dX4_opens_90 (by decide) ?_
  refine kv_iald S hB 6 0 rfl rfl 5 rfl (by omega) (by decide) dX4_opens_91 ?_
  refine lv_ixor S.1 S.2.1 dX4_opens_92 ?_
  refine kv_top (y := kp_oh σ.1 (4 + 8 * k) pw 1) (by rfl) ?_
  refine kv_put (C := RX4) (T := TX4) (M := 14) (ci := 2) (v := kp_oh σ.1 (4 + 8 * k) pw 1) S hB (kn_c kn_iX4) tyX4 tyX4_ok nmX4 0 rfl rfl 13 (by decide) (List.mem_cons_of_mem _ kn_246) rfl rfl rfl (Nat.le_of_ble_eq_true rfl) dX4_opens_93 (fun H locs hB => ?_)
  have hB : kv_B N D [(cA, .int)] A s (mo_W o a1 a2 a3 a4 a5 a6 cA σ dv ka kb μ fr (kp_so σ.1 (4 + 8 * k) pw) (kp_oh σ.1 (4 + 8 * k) pw 0) (kp_oh σ.1 (4 + 8 * k) pw 1)) H locs := hB
  refine lv_aload_n S.1 S.2.1 dX4_opens_96 rfl (lv_at hl 3 rfl) ?_
  refine lv_iload_n S.1 S.2.1 dX4_opens_97 rfl (lv_at hl 4 rfl) ?_
  refine kv_vI (As := [.int (nI k)]) (rest := []) hN S (kc_MO_active l N hN D cA o a1 a2 a3 a4 a5 a6 σ dv ka kb μ fr (kp_so σ.1 (4 + 8 * k) pw) (kp_oh σ.1 (4 + 8 * k) pw 0) (kp_oh σ.1 (4 + 8 * k) pw 1) k  (by omega)) (kn_cV (C := RX4) S kn_323 kn_324 kn_416 kn_3 kn_325 rfl kd_X4_active rfl rfl ⟨Nat.le_of_ble_eq_true rfl, Nat.le_of_ble_eq_true rfl⟩) hB 0 rfl rfl rfl hl.1 rfl (Nat.le_of_ble_eq_true rfl) dX4_opens_98 ⟨Nat.zero_le _, Nat.zero_le _⟩ (fun H locs hB => ?_)
  refine lv_if_eq (tgt := 134) S.1 S.2.1 dX4_opens_101 (by decide) (fun h_101 => ?_) (fun h_101 => ?_)
  · skip
    refine lv_iconst (v := 0) S.1 S.2.1 dX4_opens_134 (by decide) ?_
    exact K _ _ _ _ _ _ hB (by first | rw [kp_op, if_pos h_101] | rw [kp_op, if_neg h_101, kp_om, if_pos h_127] | rw [kp_op, if_neg h_101, kp_om, if_neg h_127]) (rfl) dX4_opens_135
  · skip
    refine lv_aload_n S.1 S.2.1 dX4_opens_104 rfl (lv_at hl 3 rfl) ?_
    refine kv_get (C := RX4) (T := TX4) (M := 14) (ci := 2) S hB (kn_c kn_iX4) 0 rfl rfl 12 (by decide) (List.mem_cons_of_mem _ kn_245) rfl rfl dX4_opens_105 ?_
    refine lv_aload_n S.1 S.2.1 dX4_opens_108 rfl (lv_at hl 3 rfl) ?_
    refine kv_get (C := RX4) (T := TX4) (M := 14) (ci := 2) S hB (kn_c kn_iX4) 0 rfl rfl 13 (by decide) (List.mem_cons_of_mem _ kn_246) rfl rfl dX4_opens_109 ?_
    refine lv_aload_n S.1 S.2.1 dX4_opens_112 rfl (lv_at hl 3 rfl) ?_
    refine kv_get (C := RX4) (T := TX4) (M := 14) (ci := 2) S hB (kn_c kn_iX4) 0 rfl rfl 0 (by decide) (List.mem_cons_of_mem _ kn_233) rfl rfl dX4_opens_113 ?_
    refine lv_iconst (v := 2) S.1 S.2.1 dX4_opens_116 (by decide) ?_
    refine kv_iald S hB 1 0 rfl rfl 2 rfl (by omega) (by decide) dX4_opens_117 ?_
    refine kv_sP (As := [.int (kp_oh σ.1 (4 + 8 * k) pw 0), .int (kp_oh σ.1 (4 + 8 * k) pw 1), .int (σ.1 2)]) (rest := []) S (kc_MO_digest l D (kp_oh σ.1 (4 + 8 * k) pw 0) (kp_oh σ.1 (4 + 8 * k) pw 1) (σ.1 2)  ) (kn_cS S kn_278 kn_279 kn_3 kn_280 kd_X4_digest rfl rfl ⟨Nat.le_of_ble_eq_true rfl, Nat.le_of_ble_eq_true rfl⟩) hB rfl hl.1 rfl (Nat.le_of_ble_eq_true rfl) dX4_opens_118 ⟨Nat.zero_le _, Nat.zero_le _⟩ (fun H locs hB => ?_)
    refine lv_aload_n S.1 S.2.1 dX4_opens_121 rfl (lv_at hl 3 rfl) ?_
    refine kv_get (C := RX4) (T := TX4) (M := 14) (ci := 2) S hB (kn_c kn_iX4) 0 rfl rfl 0 (by decide) (List.mem_cons_of_mem _ kn_233) rfl rfl dX4_opens_122 ?_
    refine lv_iconst (v := 1) S.1 S.2.1 dX4_opens_125 (by decide) ?_
    refine kv_iald S hB 1 0 rfl rfl 1 rfl (by omega) (by decide) dX4_opens_126 ?_
    refine lv_icmp_ne (tgt := 134) S.1 S.2.1 dX4_opens_127 (by decide) (fun h_127 => ?_) (fun h_127 => ?_)
    · skip
      refine lv_iconst (v := 0) S.1 S.2.1 dX4_opens_134 (by decide) ?_
      exact K _ _ _ _ _ _ hB (by first | rw [kp_op, if_pos h_101] | rw [kp_op, if_neg h_101, kp_om, if_pos h_127] | rw [kp_op, if_neg h_101, kp_om, if_neg h_127]) (rfl) dX4_opens_135
    · skip
      refine lv_iconst (v := 1) S.1 S.2.1 dX4_opens_130 (by decide) ?_
      refine lv_goto (tgt := 135) S.1 S.2.1 dX4_opens_131 (by decide) ?_
      exact K _ _ _ _ _ _ hB (by first | rw [kp_op, if_pos h_101] | rw [kp_op, if_neg h_101, kp_om, if_pos h_127] | rw [kp_op, if_neg h_101, kp_om, if_neg h_127]) (rfl) dX4_opens_135

abbrev kr_MO_count : Room := { frames := 1, cells := 0, slots := 0, locals := 21 }
set_option maxRecDepth 100000 in
set_option maxHeartbeats 4000000 in
theorem kc_MO_count (l : Launch) (N : State → Prop) (hN : kv_Mv N) (D : va_G) (cA : ClassId) (o a1 a2 a3 a4 a5 a6 : Nat) (σ : kp_S) (dv ka kb : Int32) (μ : kp_P) (fr st : Nat → Int32) (oa ob : Int32) : kv_I N l yX4_count wsX4_count kr_MO_count D [(cA, .int)] [.ref o] (mo_W o a1 a2 a3 a4 a5 a6 cA σ dv ka kb μ fr st oa ob) (kp_cn σ.1 4 0 0) (mo_W o a1 a2 a3 a4 a5 a6 cA σ dv ka kb μ fr st oa ob) := by
  refine kv_openI (cc := cX4_count) (maxL := 3) (rt := .int) (by decide) rfl (rfl) (Nat.le_of_ble_eq_true rfl) ?_
  intro p e s m args below meth c A H locs ls Q S hl hB K
  have hl : lv_has ls 3 [(0, .ref o)] := hl
  refine lv_iconst (v := 0) S.1 S.2.1 dX4_count_0 (by decide) ?_
  refine lv_istore_n S.1 S.2.1 dX4_count_1 rfl hl (by decide) rfl (fun ls hl => ?_)
  have hl : lv_has ls 3 [(1, .int 0), (0, .ref o)] := hl
  refine lv_iconst (v := 0) S.1 S.2.1 dX4_count_2 (by decide) ?_
  refine lv_istore_n S.1 S.2.1 dX4_count_3 rfl hl (by decide) rfl (fun ls hl => ?_)
  have hl : lv_has ls 3 [(2, .int 0), (1, .int 0), (0, .ref o)] := hl
  have loop4 : ∀ (n : Nat) (k : Nat) (t : Int32) (H : Heap) (locs : List Loc) (ls : Array Slot), (k + n = 4) → (kp_cn σ.1 n k t = kp_cn σ.1 4 0 0) → lv_has ls 3 [(2, .int (nI k)), (1, .int t), (0, .ref o)] → kv_B N D [(cA, .int)] A s (mo_W o a1 a2 a3 a4 a5 a6 cA σ dv ka kb μ fr st oa ob) H locs → W p l e kr_MO_count s m args below meth c H locs 0 0 Q (F0 m 4 ls []) := by
    intro n
    induction n with
    | zero =>
      intro k t H locs ls hk hT hl hB
      refine lv_iload_n S.1 S.2.1 dX4_count_4 rfl (lv_at hl 0 rfl) ?_
      refine lv_iconst (v := 4) S.1 S.2.1 dX4_count_5 (by decide) ?_
      refine kv_bge (x := k) (y := 4) (tgt := 31) S (by omega) (by omega) dX4_count_6 (by decide) (fun h_6 => ?_) (fun h => absurd h (by omega))
      refine lv_iload_n S.1 S.2.1 dX4_count_31 rfl (lv_at hl 1 rfl) ?_
      exact K _ _ _ _ _ _ hB (hT) (rfl) dX4_count_32
    | succ n ih4 =>
      intro k t H locs ls hk hT hl hB
      refine lv_iload_n S.1 S.2.1 dX4_count_4 rfl (lv_at hl 0 rfl) ?_
      refine lv_iconst (v := 4) S.1 S.2.1 dX4_count_5 (by decide) ?_
      refine kv_bge (x := k) (y := 4) (tgt := 31) S (by omega) (by omega) dX4_count_6 (by decide) (fun h => absurd h (by omega)) (fun h_6 => ?_)
      refine lv_iload_n S.1 S.2.1 dX4_count_9 rfl (lv_at hl 1 rfl) ?_
      refine lv_aload_n S.1 S.2.1 dX4_count_10 rfl (lv_at hl 2 rfl) ?_
      refine lv_iload_n S.1 S.2.1 dX4_count_11 rfl (lv_at hl 0 rfl) ?_
      refine kv_vI (As := [.int (nI k)]) (rest := [.int t]) hN S (kc_MO_active l N hN D cA o a1 a2 a3 a4 a5 a6 σ dv ka kb μ fr st oa ob k  (by omega)) (kn_cV (C := RX4) S kn_323 kn_324 kn_416 kn_3 kn_325 rfl kd_X4_active rfl rfl ⟨Nat.le_of_ble_eq_true rfl, Nat.le_of_ble_eq_true rfl⟩) hB 0 rfl rfl rfl hl.1 rfl (Nat.le_of_ble_eq_true rfl) dX4_count_12 ⟨Nat.zero_le _, Nat.zero_le _⟩ (fun H locs hB => ?_)
      refine lv_if_eq (tgt := 22) S.1 S.2.1 dX4_count_15 (by decide) (fun h_15 => ?_) (fun h_15 => ?_)
      · skip
        refine lv_iconst (v := 0) S.1 S.2.1 dX4_count_22 (by decide) ?_
        refine lv_iadd S.1 S.2.1 dX4_count_23 ?_
        refine lv_topi (fun x_1 ex_1 => ?_)
        refine lv_istore_n S.1 S.2.1 dX4_count_24 rfl hl (by decide) rfl (fun ls hl => ?_)
        have hl : lv_has ls 3 [(1, .int x_1), (2, .int (nI k)), (0, .ref o)] := hl
        refine lv_iinc (k := 1) (v := nI (k + 1)) S.1 S.2.1 dX4_count_25 hl rfl (nI_1 k) (by decide) rfl (fun ls hl => ?_)
        have hl : lv_has ls 3 [(2, .int (nI (k + 1))), (1, .int x_1), (0, .ref o)] := hl
        refine lv_goto (tgt := 4) S.1 S.2.1 dX4_count_28 (by decide) ?_
        exact ih4 (k + 1) x_1 _ _ _ (by omega) (by rw [← hT, ex_1, kp_cn]; first | rw [if_neg h_15] | rw [if_pos h_15]) (lv_sub hl [0, 1, 2] rfl) hB
      · skip
        refine lv_iconst (v := 1) S.1 S.2.1 dX4_count_18 (by decide) ?_
        refine lv_goto (tgt := 23) S.1 S.2.1 dX4_count_19 (by decide) ?_
        refine lv_iadd S.1 S.2.1 dX4_count_23 ?_
        refine lv_topi (fun x_2 ex_2 => ?_)
        refine lv_istore_n S.1 S.2.1 dX4_count_24 rfl hl (by decide) rfl (fun ls hl => ?_)
        have hl : lv_has ls 3 [(1, .int x_2), (2, .int (nI k)), (0, .ref o)] := hl
        refine lv_iinc (k := 1) (v := nI (k + 1)) S.1 S.2.1 dX4_count_25 hl rfl (nI_1 k) (by decide) rfl (fun ls hl => ?_)
        have hl : lv_has ls 3 [(2, .int (nI (k + 1))), (1, .int x_2), (0, .ref o)] := hl
        refine lv_goto (tgt := 4) S.1 S.2.1 dX4_count_28 (by decide) ?_
        exact ih4 (k + 1) x_2 _ _ _ (by omega) (by rw [← hT, ex_2, kp_cn]; first | rw [if_neg h_15] | rw [if_pos h_15]) (lv_sub hl [0, 1, 2] rfl) hB
  exact loop4 4 0 0 _ _ _ (rfl) (rfl) (lv_sub hl [0, 1, 2] rfl) hB

abbrev kr_MO_slots : Room := { frames := 1, cells := 0, slots := 0, locals := 21 }
set_option maxRecDepth 100000 in
set_option maxHeartbeats 4000000 in
theorem kc_MO_slots (l : Launch) (N : State → Prop) (hN : kv_Mv N) (D : va_G) (cA : ClassId) (o a1 a2 a3 a4 a5 a6 : Nat) (σ : kp_S) (dv ka kb : Int32) (μ : kp_P) (fr st : Nat → Int32) (oa ob : Int32) : kv_I N l yX4_slots wsX4_slots kr_MO_slots D [(cA, .int)] [.ref o] (mo_W o a1 a2 a3 a4 a5 a6 cA σ dv ka kb μ fr st oa ob) (kp_sm σ.1 4 0 0) (mo_W o a1 a2 a3 a4 a5 a6 cA σ dv ka kb μ fr st oa ob) := by
  refine kv_openI (cc := cX4_slots) (maxL := 3) (rt := .int) (by decide) rfl (rfl) (Nat.le_of_ble_eq_true rfl) ?_
  intro p e s m args below meth c A H locs ls Q S hl hB K
  have hl : lv_has ls 3 [(0, .ref o)] := hl
  refine lv_iconst (v := 0) S.1 S.2.1 dX4_slots_0 (by decide) ?_
  refine lv_istore_n S.1 S.2.1 dX4_slots_1 rfl hl (by decide) rfl (fun ls hl => ?_)
  have hl : lv_has ls 3 [(1, .int 0), (0, .ref o)] := hl
  refine lv_iconst (v := 0) S.1 S.2.1 dX4_slots_2 (by decide) ?_
  refine lv_istore_n S.1 S.2.1 dX4_slots_3 rfl hl (by decide) rfl (fun ls hl => ?_)
  have hl : lv_has ls 3 [(2, .int 0), (1, .int 0), (0, .ref o)] := hl
  have loop4 : ∀ (n : Nat) (k : Nat) (t : Int32) (H : Heap) (locs : List Loc) (ls : Array Slot), (k + n = 4) → (kp_sm σ.1 n k t = kp_sm σ.1 4 0 0) → lv_has ls 3 [(2, .int (nI k)), (1, .int t), (0, .ref o)] → kv_B N D [(cA, .int)] A s (mo_W o a1 a2 a3 a4 a5 a6 cA σ dv ka kb μ fr st oa ob) H locs → W p l e kr_MO_slots s m args below meth c H locs 0 0 Q (F0 m 4 ls []) := by
    intro n
    induction n with
    | zero =>
      intro k t H locs ls hk hT hl hB
      refine lv_iload_n S.1 S.2.1 dX4_slots_4 rfl (lv_at hl 0 rfl) ?_
      refine lv_iconst (v := 4) S.1 S.2.1 dX4_slots_5 (by decide) ?_
      refine kv_bge (x := k) (y := 4) (tgt := 33) S (by omega) (by omega) dX4_slots_6 (by decide) (fun h_6 => ?_) (fun h => absurd h (by omega))
      refine lv_iload_n S.1 S.2.1 dX4_slots_33 rfl (lv_at hl 1 rfl) ?_
      exact K _ _ _ _ _ _ hB (hT) (rfl) dX4_slots_34
    | succ n ih4 =>
      intro k t H locs ls hk hT hl hB
      refine lv_iload_n S.1 S.2.1 dX4_slots_4 rfl (lv_at hl 0 rfl) ?_
      refine lv_iconst (v := 4) S.1 S.2.1 dX4_slots_5 (by decide) ?_
      refine kv_bge (x := k) (y := 4) (tgt := 33) S (by omega) (by omega) dX4_slots_6 (by decide) (fun h => absurd h (by omega)) (fun h_6 => ?_)
      refine lv_iload_n S.1 S.2.1 dX4_slots_9 rfl (lv_at hl 1 rfl) ?_
      refine lv_aload_n S.1 S.2.1 dX4_slots_10 rfl (lv_at hl 2 rfl) ?_
      refine lv_iload_n S.1 S.2.1 dX4_slots_11 rfl (lv_at hl 0 rfl) ?_
      refine kv_vI (As := [.int (nI k)]) (rest := [.int t]) hN S (kc_MO_active l N hN D cA o a1 a2 a3 a4 a5 a6 σ dv ka kb μ fr st oa ob k  (by omega)) (kn_cV (C := RX4) S kn_323 kn_324 kn_416 kn_3 kn_325 rfl kd_X4_active rfl rfl ⟨Nat.le_of_ble_eq_true rfl, Nat.le_of_ble_eq_true rfl⟩) hB 0 rfl rfl rfl hl.1 rfl (Nat.le_of_ble_eq_true rfl) dX4_slots_12 ⟨Nat.zero_le _, Nat.zero_le _⟩ (fun H locs hB => ?_)
      refine lv_if_eq (tgt := 24) S.1 S.2.1 dX4_slots_15 (by decide) (fun h_15 => ?_) (fun h_15 => ?_)
      · skip
        refine lv_iconst (v := 0) S.1 S.2.1 dX4_slots_24 (by decide) ?_
        refine lv_iadd S.1 S.2.1 dX4_slots_25 ?_
        refine lv_topi (fun x_1 ex_1 => ?_)
        refine lv_istore_n S.1 S.2.1 dX4_slots_26 rfl hl (by decide) rfl (fun ls hl => ?_)
        have hl : lv_has ls 3 [(1, .int x_1), (2, .int (nI k)), (0, .ref o)] := hl
        refine lv_iinc (k := 1) (v := nI (k + 1)) S.1 S.2.1 dX4_slots_27 hl rfl (nI_1 k) (by decide) rfl (fun ls hl => ?_)
        have hl : lv_has ls 3 [(2, .int (nI (k + 1))), (1, .int x_1), (0, .ref o)] := hl
        refine lv_goto (tgt := 4) S.1 S.2.1 dX4_slots_30 (by decide) ?_
        exact ih4 (k + 1) x_1 _ _ _ (by omega) (by rw [← hT, ex_1, kp_sm]; first | rw [if_neg h_15] | rw [if_pos h_15]) (lv_sub hl [0, 1, 2] rfl) hB
      · skip
        refine lv_iconst (v := 1) S.1 S.2.1 dX4_slots_18 (by decide) ?_
        refine lv_iload_n S.1 S.2.1 dX4_slots_19 rfl (lv_at hl 0 rfl) ?_
        refine lv_ishl S.1 S.2.1 dX4_slots_20 ?_
        refine lv_goto (tgt := 25) S.1 S.2.1 dX4_slots_21 (by decide) ?_
        refine lv_iadd S.1 S.2.1 dX4_slots_25 ?_
        refine lv_topi (fun x_2 ex_2 => ?_)
        refine lv_istore_n S.1 S.2.1 dX4_slots_26 rfl hl (by decide) rfl (fun ls hl => ?_)
        have hl : lv_has ls 3 [(1, .int x_2), (2, .int (nI k)), (0, .ref o)] := hl
        refine lv_iinc (k := 1) (v := nI (k + 1)) S.1 S.2.1 dX4_slots_27 hl rfl (nI_1 k) (by decide) rfl (fun ls hl => ?_)
        have hl : lv_has ls 3 [(2, .int (nI (k + 1))), (1, .int x_2), (0, .ref o)] := hl
        refine lv_goto (tgt := 4) S.1 S.2.1 dX4_slots_30 (by decide) ?_
        exact ih4 (k + 1) x_2 _ _ _ (by omega) (by rw [← hT, ex_2, kp_sm]; first | rw [if_neg h_15] | rw [if_pos h_15]) (lv_sub hl [0, 1, 2] rfl) hB
  exact loop4 4 0 0 _ _ _ (rfl) (rfl) (lv_sub hl [0, 1, 2] rfl) hB

abbrev kr_MO_begin : Room := { frames := 0, cells := 0, slots := 0, locals := 0 }
set_option maxRecDepth 100000 in
set_option maxHeartbeats 4000000 in
theorem kc_MO_begin (l : Launch) (N : State → Prop) (hN : kv_Mv N) (D : va_G) (cA : ClassId) (o a1 a2 a3 a4 a5 a6 : Nat) (σ : kp_S) (dv ka kb : Int32) (μ : kp_P) (fr st : Nat → Int32) (oa ob : Int32) : kv_V N l yX4_begin wsX4_begin kr_MO_begin D [(cA, .int)] [.ref o] (mo_W o a1 a2 a3 a4 a5 a6 cA σ dv ka kb μ fr st oa ob)  (mo_W o a1 a2 a3 a4 a5 a6 cA σ dv ka kb (μ.1, μ.2.1, 0, σ.1) fr st oa ob) := by
  refine kv_openV (cc := cX4_begin) (maxL := 2) (by decide) rfl (Nat.le_of_ble_eq_true rfl) ?_
  intro p e s m args below meth c A H locs ls Q S hl hB K
  have hl : lv_has ls 2 [(0, .ref o)] := hl
  refine lv_aload_n S.1 S.2.1 dX4_begin_0 rfl (lv_at hl 0 rfl) ?_
  refine lv_iconst (v := 0) S.1 S.2.1 dX4_begin_1 (by decide) ?_
  refine kv_put (C := RX4) (T := TX4) (M := 14) (ci := 2) (v := 0) S hB (kn_c kn_iX4) tyX4 tyX4_ok nmX4 0 rfl rfl 6 (by decide) (List.mem_cons_of_mem _ kn_239) rfl rfl rfl (Nat.le_of_ble_eq_true rfl) dX4_begin_2 (fun H locs hB => ?_)
  have hB : kv_B N D [(cA, .int)] A s (mo_W o a1 a2 a3 a4 a5 a6 cA σ dv ka kb (μ.1, μ.2.1, 0, μ.2.2.2) fr st oa ob) H locs := hB
  refine lv_iconst (v := 0) S.1 S.2.1 dX4_begin_5 (by decide) ?_
  refine lv_istore_n S.1 S.2.1 dX4_begin_6 rfl hl (by decide) rfl (fun ls hl => ?_)
  have hl : lv_has ls 2 [(1, .int 0), (0, .ref o)] := hl
  have loop7 : ∀ (n : Nat) (j : Nat) (gg : Nat → Int32) (H : Heap) (locs : List Loc) (ls : Array Slot), (j + n = 80) → (∀ i, i < j → gg i = σ.1 i) → lv_has ls 2 [(1, .int (nI j)), (0, .ref o)] → kv_B N D [(cA, .int)] A s (mo_W o a1 a2 a3 a4 a5 a6 cA σ dv ka kb (μ.1, μ.2.1, 0, gg) fr st oa ob) H locs → W p l e kr_MO_begin s m args below meth c H locs 0 0 Q (F0 m 7 ls []) := by
    intro n
    induction n with
    | zero =>
      intro j gg H locs ls hj hG hl hB
      refine lv_iload_n S.1 S.2.1 dX4_begin_7 rfl (lv_at hl 0 rfl) ?_
      refine lv_bipush (v := 80) S.1 S.2.1 dX4_begin_8 (by decide) ?_
      refine kv_bge (x := j) (y := 80) (tgt := 31) S (by omega) (by omega) dX4_begin_10 (by decide) (fun h_10 => ?_) (fun h => absurd h (by omega))
      have hB := kv_arr 4 rfl σ.1 (fun i hi => hG i (by omega)) hB
      have hB : kv_B N D [(cA, .int)] A s (mo_W o a1 a2 a3 a4 a5 a6 cA σ dv ka kb (μ.1, μ.2.1, 0, σ.1) fr st oa ob) H locs := hB
      exact K _ _ _ _ _ hB (rfl) dX4_begin_31
    | succ n ih7 =>
      intro j gg H locs ls hj hG hl hB
      refine lv_iload_n S.1 S.2.1 dX4_begin_7 rfl (lv_at hl 0 rfl) ?_
      refine lv_bipush (v := 80) S.1 S.2.1 dX4_begin_8 (by decide) ?_
      refine kv_bge (x := j) (y := 80) (tgt := 31) S (by omega) (by omega) dX4_begin_10 (by decide) (fun h => absurd h (by omega)) (fun h_10 => ?_)
      refine lv_aload_n S.1 S.2.1 dX4_begin_13 rfl (lv_at hl 1 rfl) ?_
      refine kv_get (C := RX4) (T := TX4) (M := 14) (ci := 2) S hB (kn_c kn_iX4) 0 rfl rfl 9 (by decide) (List.mem_cons_of_mem _ kn_242) rfl rfl dX4_begin_14 ?_
      refine lv_iload_n S.1 S.2.1 dX4_begin_17 rfl (lv_at hl 0 rfl) ?_
      refine lv_aload_n S.1 S.2.1 dX4_begin_18 rfl (lv_at hl 1 rfl) ?_
      refine kv_get (C := RX4) (T := TX4) (M := 14) (ci := 2) S hB (kn_c kn_iX4) 0 rfl rfl 0 (by decide) (List.mem_cons_of_mem _ kn_233) rfl rfl dX4_begin_19 ?_
      refine lv_iload_n S.1 S.2.1 dX4_begin_22 rfl (lv_at hl 0 rfl) ?_
      refine kv_iald S hB 1 0 rfl rfl j rfl (by omega) (by decide) dX4_begin_23 ?_
      refine kv_iast S hB 4 0 rfl rfl j rfl (by omega) (by decide) dX4_begin_24 (fun H locs hB => ?_)
      have hB : kv_B N D [(cA, .int)] A s (mo_W o a1 a2 a3 a4 a5 a6 cA σ dv ka kb (μ.1, μ.2.1, 0, upd gg j (σ.1 j)) fr st oa ob) H locs := hB
      refine lv_iinc (k := 0) (v := nI (j + 1)) S.1 S.2.1 dX4_begin_25 hl rfl (nI_1 j) (by decide) rfl (fun ls hl => ?_)
      have hl : lv_has ls 2 [(1, .int (nI (j + 1))), (0, .ref o)] := hl
      refine lv_goto (tgt := 7) S.1 S.2.1 dX4_begin_28 (by decide) ?_
      exact ih7 (j + 1) (upd gg j (σ.1 j)) _ _ _ (by omega) (fun i hi => by by_cases q : i = j <;> first | (subst q; exact pk_us) | (rw [pk_un q]; exact hG i (by omega))) (lv_sub hl [0, 1] rfl) hB
  exact loop7 80 0 μ.2.2.2 _ _ _ (rfl) (fun i hi => absurd hi (Nat.not_lt_zero i)) (lv_sub hl [0, 1] rfl) hB

abbrev kr_MO_plan : Room := { frames := 0, cells := 0, slots := 0, locals := 0 }
set_option maxRecDepth 100000 in
set_option maxHeartbeats 4000000 in
theorem kc_MO_plan (l : Launch) (N : State → Prop) (hN : kv_Mv N) (D : va_G) (cA : ClassId) (o a1 a2 a3 a4 a5 a6 : Nat) (σ : kp_S) (dv ka kb : Int32) (μ : kp_P) (fr st : Nat → Int32) (oa ob : Int32) (j : Nat) (x : Int32) (hj : j < 80) (hm : μ.2.2.1 < 100) : kv_V N l yX4_plan wsX4_plan kr_MO_plan D [(cA, .int)] [.ref o, .int (nI j), .int x] (mo_W o a1 a2 a3 a4 a5 a6 cA σ dv ka kb μ fr st oa ob)  (mo_W o a1 a2 a3 a4 a5 a6 cA σ dv ka kb (kp_p1 μ j x) fr st oa ob) := by
  refine kv_openV (cc := cX4_plan) (maxL := 3) (by decide) rfl (Nat.le_of_ble_eq_true rfl) ?_
  intro p e s m args below meth c A H locs ls Q S hl hB K
  have hl : lv_has ls 3 [(0, .ref o), (1, .int (nI j)), (2, .int x)] := hl
  refine lv_aload_n S.1 S.2.1 dX4_plan_0 rfl (lv_at hl 0 rfl) ?_
  refine kv_get (C := RX4) (T := TX4) (M := 14) (ci := 2) S hB (kn_c kn_iX4) 0 rfl rfl 7 (by decide) (List.mem_cons_of_mem _ kn_240) rfl rfl dX4_plan_1 ?_
  refine lv_aload_n S.1 S.2.1 dX4_plan_4 rfl (lv_at hl 0 rfl) ?_
  refine kv_get (C := RX4) (T := TX4) (M := 14) (ci := 2) S hB (kn_c kn_iX4) 0 rfl rfl 6 (by decide) (List.mem_cons_of_mem _ kn_239) rfl rfl dX4_plan_5 ?_
  refine lv_iload_n S.1 S.2.1 dX4_plan_8 rfl (lv_at hl 1 rfl) ?_
  refine kv_iast S hB 2 0 rfl rfl μ.2.2.1 rfl (by omega) (by decide) dX4_plan_9 (fun H locs hB => ?_)
  have hB : kv_B N D [(cA, .int)] A s (mo_W o a1 a2 a3 a4 a5 a6 cA σ dv ka kb (upd μ.1 μ.2.2.1 (nI j), μ.2.1, μ.2.2.1, μ.2.2.2) fr st oa ob) H locs := hB
  refine lv_aload_n S.1 S.2.1 dX4_plan_10 rfl (lv_at hl 0 rfl) ?_
  refine kv_get (C := RX4) (T := TX4) (M := 14) (ci := 2) S hB (kn_c kn_iX4) 0 rfl rfl 8 (by decide) (List.mem_cons_of_mem _ kn_241) rfl rfl dX4_plan_11 ?_
  refine lv_aload_n S.1 S.2.1 dX4_plan_14 rfl (lv_at hl 0 rfl) ?_
  refine kv_get (C := RX4) (T := TX4) (M := 14) (ci := 2) S hB (kn_c kn_iX4) 0 rfl rfl 6 (by decide) (List.mem_cons_of_mem _ kn_239) rfl rfl dX4_plan_15 ?_
  refine lv_iload_n S.1 S.2.1 dX4_plan_18 rfl (lv_at hl 2 rfl) ?_
  refine kv_iast S hB 3 0 rfl rfl μ.2.2.1 rfl (by omega) (by decide) dX4_plan_19 (fun H locs hB => ?_)
  have hB : kv_B N D [(cA, .int)] A s (mo_W o a1 a2 a3 a4 a5 a6 cA σ dv ka kb (upd μ.1 μ.2.2.1 (nI j), upd μ.2.1 μ.2.2.1 x, μ.2.2.1, μ.2.2.2) fr st oa ob) H locs := hB
  refine lv_aload_n S.1 S.2.1 dX4_plan_20 rfl (lv_at hl 0 rfl) ?_
  refine lv_dup S.1 S.2.1 dX4_plan_21 rfl ?_
  refine kv_get (C := RX4) (T := TX4) (M := 14) (ci := 2) S hB (kn_c kn_iX4) 0 rfl rfl 6 (by decide) (List.mem_cons_of_mem _ kn_239) rfl rfl dX4_plan_22 ?_
  refine lv_iconst (v := 1) S.1 S.2.1 dX4_plan_25 (by decide) ?_
  refine lv_iadd S.1 S.2.1 dX4_plan_26 ?_
  refine kv_top (y := nI (μ.2.2.1 + 1)) (nI_add μ.2.2.1 1) ?_
  refine kv_put (C := RX4) (T := TX4) (M := 14) (ci := 2) (v := nI (μ.2.2.1 + 1)) S hB (kn_c kn_iX4) tyX4 tyX4_ok nmX4 0 rfl rfl 6 (by decide) (List.mem_cons_of_mem _ kn_239) rfl rfl rfl (Nat.le_of_ble_eq_true rfl) dX4_plan_27 (fun H locs hB => ?_)
  have hB : kv_B N D [(cA, .int)] A s (mo_W o a1 a2 a3 a4 a5 a6 cA σ dv ka kb (upd μ.1 μ.2.2.1 (nI j), upd μ.2.1 μ.2.2.1 x, μ.2.2.1 + 1, μ.2.2.2) fr st oa ob) H locs := hB
  refine lv_aload_n S.1 S.2.1 dX4_plan_30 rfl (lv_at hl 0 rfl) ?_
  refine kv_get (C := RX4) (T := TX4) (M := 14) (ci := 2) S hB (kn_c kn_iX4) 0 rfl rfl 9 (by decide) (List.mem_cons_of_mem _ kn_242) rfl rfl dX4_plan_31 ?_
  refine lv_iload_n S.1 S.2.1 dX4_plan_34 rfl (lv_at hl 1 rfl) ?_
  refine lv_iload_n S.1 S.2.1 dX4_plan_35 rfl (lv_at hl 2 rfl) ?_
  refine kv_iast S hB 4 0 rfl rfl j rfl (by omega) (by decide) dX4_plan_36 (fun H locs hB => ?_)
  have hB : kv_B N D [(cA, .int)] A s (mo_W o a1 a2 a3 a4 a5 a6 cA σ dv ka kb (upd μ.1 μ.2.2.1 (nI j), upd μ.2.1 μ.2.2.1 x, μ.2.2.1 + 1, upd μ.2.2.2 j x) fr st oa ob) H locs := hB
  exact K _ _ _ _ _ hB (rfl) dX4_plan_37

abbrev kr_MO_planClean : Room := { frames := 1, cells := 0, slots := 0, locals := 22 }
set_option maxRecDepth 100000 in
set_option maxHeartbeats 4000000 in
theorem kc_MO_planClean (l : Launch) (N : State → Prop) (hN : kv_Mv N) (D : va_G) (cA : ClassId) (o a1 a2 a3 a4 a5 a6 : Nat) (σ : kp_S) (dv ka kb : Int32) (μ : kp_P) (fr st : Nat → Int32) (oa ob : Int32) (hm : μ.2.2.1 + 9 ≤ 100) : kv_V N l yX4_planClean wsX4_planClean kr_MO_planClean D [(cA, .int)] [.ref o] (mo_W o a1 a2 a3 a4 a5 a6 cA σ dv ka kb μ fr st oa ob)  (mo_W o a1 a2 a3 a4 a5 a6 cA σ dv ka kb (kp_ps (kp_cl 9 37 μ.2.2.2) μ) fr st oa ob) := by
  refine kv_openV (cc := cX4_planClean) (maxL := 2) (by decide) rfl (Nat.le_of_ble_eq_true rfl) ?_
  intro p e s m args below meth c A H locs ls Q S hl hB K
  have hl : lv_has ls 2 [(0, .ref o)] := hl
  refine lv_bipush (v := 37) S.1 S.2.1 dX4_planClean_0 (by decide) ?_
  refine lv_istore_n S.1 S.2.1 dX4_planClean_2 rfl hl (by decide) rfl (fun ls hl => ?_)
  have hl : lv_has ls 2 [(1, .int 37), (0, .ref o)] := hl
  have loop3 : ∀ (n : Nat) (j : Nat) (ν : kp_P) (H : Heap) (locs : List Loc) (ls : Array Slot), (j + n = 46) → (ν.2.2.1 + n ≤ 100) → (kp_ps (kp_cl n j ν.2.2.2) ν = kp_ps (kp_cl 9 37 μ.2.2.2) μ) → lv_has ls 2 [(1, .int (nI j)), (0, .ref o)] → kv_B N D [(cA, .int)] A s (mo_W o a1 a2 a3 a4 a5 a6 cA σ dv ka kb ν fr st oa ob) H locs → W p l e kr_MO_planClean s m args below meth c H locs 0 0 Q (F0 m 3 ls []) := by
    intro n
    induction n with
    | zero =>
      intro j ν H locs ls hj hn hT hl hB
      refine lv_iload_n S.1 S.2.1 dX4_planClean_3 rfl (lv_at hl 0 rfl) ?_
      refine lv_bipush (v := 46) S.1 S.2.1 dX4_planClean_4 (by decide) ?_
      refine kv_bge (x := j) (y := 46) (tgt := 30) S (by omega) (by omega) dX4_planClean_6 (by decide) (fun h_6 => ?_) (fun h => absurd h (by omega))
      exact K _ _ _ _ _ hB (by rw [← hT]; rfl) dX4_planClean_30
    | succ n ih3 =>
      intro j ν H locs ls hj hn hT hl hB
      refine lv_iload_n S.1 S.2.1 dX4_planClean_3 rfl (lv_at hl 0 rfl) ?_
      refine lv_bipush (v := 46) S.1 S.2.1 dX4_planClean_4 (by decide) ?_
      refine kv_bge (x := j) (y := 46) (tgt := 30) S (by omega) (by omega) dX4_planClean_6 (by decide) (fun h => absurd h (by omega)) (fun h_6 => ?_)
      refine lv_aload_n S.1 S.2.1 dX4_planClean_9 rfl (lv_at hl 1 rfl) ?_
      refine kv_get (C := RX4) (T := TX4) (M := 14) (ci := 2) S hB (kn_c kn_iX4) 0 rfl rfl 9 (by decide) (List.mem_cons_of_mem _ kn_242) rfl rfl dX4_planClean_10 ?_
      refine lv_iload_n S.1 S.2.1 dX4_planClean_13 rfl (lv_at hl 0 rfl) ?_
      refine kv_iald S hB 4 0 rfl rfl j rfl (by omega) (by decide) dX4_planClean_14 ?_
      refine lv_if_eq (tgt := 24) S.1 S.2.1 dX4_planClean_15 (by decide) (fun h_15 => ?_) (fun h_15 => ?_)
      · skip
        refine lv_iinc (k := 0) (v := nI (j + 1)) S.1 S.2.1 dX4_planClean_24 hl rfl (nI_1 j) (by decide) rfl (fun ls hl => ?_)
        have hl : lv_has ls 2 [(1, .int (nI (j + 1))), (0, .ref o)] := hl
        refine lv_goto (tgt := 3) S.1 S.2.1 dX4_planClean_27 (by decide) ?_
        exact ih3 (j + 1) ν _ _ _ (by omega) (by omega) (by rw [← hT, kp_cl, if_pos h_15]) (lv_sub hl [0, 1] rfl) hB
      · skip
        refine lv_aload_n S.1 S.2.1 dX4_planClean_18 rfl (lv_at hl 1 rfl) ?_
        refine lv_iload_n S.1 S.2.1 dX4_planClean_19 rfl (lv_at hl 0 rfl) ?_
        refine lv_iconst (v := 0) S.1 S.2.1 dX4_planClean_20 (by decide) ?_
        refine kv_vV (As := [.int (nI j), .int 0]) (rest := []) hN S (kc_MO_plan l N hN D cA o a1 a2 a3 a4 a5 a6 σ dv ka kb ν fr st oa ob j 0  (by omega) (by omega)) (kn_cV (C := RX4) S kn_303 kn_304 kn_411 kn_3 kn_305 rfl kd_X4_plan rfl rfl ⟨Nat.le_of_ble_eq_true rfl, Nat.le_of_ble_eq_true rfl⟩) hB 0 rfl rfl rfl hl.1 rfl (Nat.le_of_ble_eq_true rfl) dX4_planClean_21 ⟨Nat.zero_le _, Nat.zero_le _⟩ (fun H locs hB => ?_)
        have hB : kv_B N D [(cA, .int)] A s (mo_W o a1 a2 a3 a4 a5 a6 cA σ dv ka kb (kp_p1 ν j 0) fr st oa ob) H locs := hB
        refine lv_iinc (k := 0) (v := nI (j + 1)) S.1 S.2.1 dX4_planClean_24 hl rfl (nI_1 j) (by decide) rfl (fun ls hl => ?_)
        have hl : lv_has ls 2 [(1, .int (nI (j + 1))), (0, .ref o)] := hl
        refine lv_goto (tgt := 3) S.1 S.2.1 dX4_planClean_27 (by decide) ?_
        exact ih3 (j + 1) (kp_p1 ν j 0) _ _ _ (by omega) (by show ν.2.2.1 + 1 + n ≤ 100; omega) (by rw [← hT, kp_cl, if_neg h_15]; rfl) (lv_sub hl [0, 1] rfl) hB
  exact loop3 9 37 μ _ _ _ (rfl) (hm) (rfl) (lv_sub hl [0, 1] rfl) hB

abbrev kr_MO_planFinish : Room := { frames := 2, cells := 0, slots := 0, locals := 43 }
set_option maxRecDepth 100000 in
set_option maxHeartbeats 4000000 in
theorem kc_MO_planFinish (l : Launch) (N : State → Prop) (hN : kv_Mv N) (D : va_G) (cA : ClassId) (o a1 a2 a3 a4 a5 a6 : Nat) (σ : kp_S) (dv ka kb : Int32) (μ : kp_P) (fr st : Nat → Int32) (oa ob : Int32) (q : Nat) (n0 : Nat) (hJ : kp_J μ.2.2.2 q n0) (hm : μ.2.2.1 + n0 + 10 ≤ 100) : kv_V N l yX4_planFinish wsX4_planFinish kr_MO_planFinish D [(cA, .int)] [.ref o] (mo_W o a1 a2 a3 a4 a5 a6 cA σ dv ka kb μ fr st oa ob)  (mo_W o a1 a2 a3 a4 a5 a6 cA σ dv ka kb (kp_ps (kp_fi n0 0 q μ.2.2.2) μ) fr st oa ob) := by
  refine kv_openV (cc := cX4_planFinish) (maxL := 4) (by decide) rfl (Nat.le_of_ble_eq_true rfl) ?_
  intro p e s m args below meth c A H locs ls Q S hl hB K
  have hl : lv_has ls 4 [(0, .ref o)] := hl
  have hJ0 := hJ.1
  have hJ1 := hJ.2.1
  have hJ2 := hJ.2.2
  refine lv_aload_n S.1 S.2.1 dX4_planFinish_0 rfl (lv_at hl 0 rfl) ?_
  refine kv_get (C := RX4) (T := TX4) (M := 14) (ci := 2) S hB (kn_c kn_iX4) 0 rfl rfl 9 (by decide) (List.mem_cons_of_mem _ kn_242) rfl rfl dX4_planFinish_1 ?_
  refine lv_bipush (v := 37) S.1 S.2.1 dX4_planFinish_4 (by decide) ?_
  refine kv_iald S hB 4 0 rfl rfl 37 rfl (by omega) (by decide) dX4_planFinish_6 ?_
  refine lv_sipush (v := 255) S.1 S.2.1 dX4_planFinish_7 (by decide) ?_
  refine lv_iand S.1 S.2.1 dX4_planFinish_10 ?_
  refine kv_top (y := nI q) (by rw [hJ0]; exact kp_J_and hJ1 hJ2) ?_
  refine lv_istore_n S.1 S.2.1 dX4_planFinish_11 rfl hl (by decide) rfl (fun ls hl => ?_)
  have hl : lv_has ls 4 [(1, .int (nI q)), (0, .ref o)] := hl
  refine lv_aload_n S.1 S.2.1 dX4_planFinish_12 rfl (lv_at hl 1 rfl) ?_
  refine kv_get (C := RX4) (T := TX4) (M := 14) (ci := 2) S hB (kn_c kn_iX4) 0 rfl rfl 9 (by decide) (List.mem_cons_of_mem _ kn_242) rfl rfl dX4_planFinish_13 ?_
  refine lv_bipush (v := 37) S.1 S.2.1 dX4_planFinish_16 (by decide) ?_
  refine kv_iald S hB 4 0 rfl rfl 37 rfl (by omega) (by decide) dX4_planFinish_18 ?_
  refine lv_bipush (v := 8) S.1 S.2.1 dX4_planFinish_19 (by decide) ?_
  refine lv_iushr (v := kv_us (μ.2.2.2 37) 8) S.1 S.2.1 dX4_planFinish_21 rfl ?_
  refine kv_top (y := nI n0) (by rw [hJ0]; exact kp_J_shr hJ1 hJ2) ?_
  refine lv_istore_n S.1 S.2.1 dX4_planFinish_22 rfl hl (by decide) rfl (fun ls hl => ?_)
  have hl : lv_has ls 4 [(2, .int (nI n0)), (1, .int (nI q)), (0, .ref o)] := hl
  refine lv_iconst (v := 0) S.1 S.2.1 dX4_planFinish_23 (by decide) ?_
  refine lv_istore_n S.1 S.2.1 dX4_planFinish_24 rfl hl (by decide) rfl (fun ls hl => ?_)
  have hl : lv_has ls 4 [(3, .int 0), (2, .int (nI n0)), (1, .int (nI q)), (0, .ref o)] := hl
  have loop25 : ∀ (n : Nat) (i : Nat) (ν : kp_P) (H : Heap) (locs : List Loc) (ls : Array Slot), (i + n = n0) → (ν.2.2.1 + n + 10 ≤ 100) → (kp_ps (kp_fi n i q ν.2.2.2) ν = kp_ps (kp_fi n0 0 q μ.2.2.2) μ) → lv_has ls 4 [(3, .int (nI i)), (2, .int (nI n0)), (1, .int (nI q)), (0, .ref o)] → kv_B N D [(cA, .int)] A s (mo_W o a1 a2 a3 a4 a5 a6 cA σ dv ka kb ν fr st oa ob) H locs → W p l e kr_MO_planFinish s m args below meth c H locs 0 0 Q (F0 m 25 ls []) := by
    intro n
    induction n with
    | zero =>
      intro i ν H locs ls hi hn hT hl hB
      refine lv_iload_n S.1 S.2.1 dX4_planFinish_25 rfl (lv_at hl 0 rfl) ?_
      refine lv_iload_n S.1 S.2.1 dX4_planFinish_26 rfl (lv_at hl 1 rfl) ?_
      refine kv_bge (x := i) (y := n0) (tgt := 52) S (by omega) (by omega) dX4_planFinish_27 (by decide) (fun h_27 => ?_) (fun h => absurd h (by omega))
      refine lv_aload_n S.1 S.2.1 dX4_planFinish_52 rfl (lv_at hl 3 rfl) ?_
      refine lv_bipush (v := 36) S.1 S.2.1 dX4_planFinish_53 (by decide) ?_
      refine lv_iconst (v := 0) S.1 S.2.1 dX4_planFinish_55 (by decide) ?_
      refine kv_vV (As := [.int 36, .int 0]) (rest := []) hN S (kc_MO_plan l N hN D cA o a1 a2 a3 a4 a5 a6 σ dv ka kb ν fr st oa ob 36 0  (by omega) (by omega)) (kn_cV (C := RX4) S kn_303 kn_304 kn_411 kn_3 kn_305 rfl kd_X4_plan rfl rfl ⟨Nat.le_of_ble_eq_true rfl, Nat.le_of_ble_eq_true rfl⟩) hB 0 rfl rfl rfl hl.1 rfl (Nat.le_of_ble_eq_true rfl) dX4_planFinish_56 ⟨Nat.zero_le _, Nat.zero_le _⟩ (fun H locs hB => ?_)
      have hB : kv_B N D [(cA, .int)] A s (mo_W o a1 a2 a3 a4 a5 a6 cA σ dv ka kb (kp_p1 ν 36 0) fr st oa ob) H locs := hB
      refine lv_aload_n S.1 S.2.1 dX4_planFinish_59 rfl (lv_at hl 3 rfl) ?_
      refine kv_vV (As := []) (rest := []) hN S (kc_MO_planClean l N hN D cA o a1 a2 a3 a4 a5 a6 σ dv ka kb (kp_p1 ν 36 0) fr st oa ob   (by show ν.2.2.1 + 1 + 9 ≤ 100; omega)) (kn_cV (C := RX4) S kn_317 kn_318 kn_414 kn_3 kn_319 rfl kd_X4_planClean rfl rfl ⟨Nat.le_of_ble_eq_true rfl, Nat.le_of_ble_eq_true rfl⟩) hB 0 rfl rfl rfl hl.1 rfl (Nat.le_of_ble_eq_true rfl) dX4_planFinish_60 ⟨Nat.zero_le _, Nat.zero_le _⟩ (fun H locs hB => ?_)
      have hB : kv_B N D [(cA, .int)] A s (mo_W o a1 a2 a3 a4 a5 a6 cA σ dv ka kb (kp_ps (kp_cl 9 37 (kp_p1 ν 36 0).2.2.2) (kp_p1 ν 36 0)) fr st oa ob) H locs := hB
      exact K _ _ _ _ _ hB (by rw [← hT]; rfl) dX4_planFinish_63
    | succ n ih25 =>
      intro i ν H locs ls hi hn hT hl hB
      refine lv_iload_n S.1 S.2.1 dX4_planFinish_25 rfl (lv_at hl 0 rfl) ?_
      refine lv_iload_n S.1 S.2.1 dX4_planFinish_26 rfl (lv_at hl 1 rfl) ?_
      refine kv_bge (x := i) (y := n0) (tgt := 52) S (by omega) (by omega) dX4_planFinish_27 (by decide) (fun h => absurd h (by omega)) (fun h_27 => ?_)
      refine lv_aload_n S.1 S.2.1 dX4_planFinish_30 rfl (lv_at hl 3 rfl) ?_
      refine lv_iload_n S.1 S.2.1 dX4_planFinish_31 rfl (lv_at hl 2 rfl) ?_
      refine lv_iload_n S.1 S.2.1 dX4_planFinish_32 rfl (lv_at hl 0 rfl) ?_
      refine lv_iadd S.1 S.2.1 dX4_planFinish_33 ?_
      refine kv_top (y := nI (q + i)) (nI_add q i) ?_
      refine lv_aload_n S.1 S.2.1 dX4_planFinish_34 rfl (lv_at hl 3 rfl) ?_
      refine kv_get (C := RX4) (T := TX4) (M := 14) (ci := 2) S hB (kn_c kn_iX4) 0 rfl rfl 9 (by decide) (List.mem_cons_of_mem _ kn_242) rfl rfl dX4_planFinish_35 ?_
      refine lv_bipush (v := 38) S.1 S.2.1 dX4_planFinish_38 (by decide) ?_
      refine lv_iload_n S.1 S.2.1 dX4_planFinish_40 rfl (lv_at hl 0 rfl) ?_
      refine lv_iadd S.1 S.2.1 dX4_planFinish_41 ?_
      refine kv_top (y := nI (38 + i)) (nI_add 38 i) ?_
      refine kv_iald S hB 4 0 rfl rfl (38 + i) rfl (by omega) (by decide) dX4_planFinish_42 ?_
      refine kv_vV (As := [.int (nI (q + i)), .int (ν.2.2.2 (38 + i))]) (rest := []) hN S (kc_MO_plan l N hN D cA o a1 a2 a3 a4 a5 a6 σ dv ka kb ν fr st oa ob (q + i) (ν.2.2.2 (38 + i))  (by omega) (by omega)) (kn_cV (C := RX4) S kn_303 kn_304 kn_411 kn_3 kn_305 rfl kd_X4_plan rfl rfl ⟨Nat.le_of_ble_eq_true rfl, Nat.le_of_ble_eq_true rfl⟩) hB 0 rfl rfl rfl hl.1 rfl (Nat.le_of_ble_eq_true rfl) dX4_planFinish_43 ⟨Nat.zero_le _, Nat.zero_le _⟩ (fun H locs hB => ?_)
      have hB : kv_B N D [(cA, .int)] A s (mo_W o a1 a2 a3 a4 a5 a6 cA σ dv ka kb (kp_p1 ν (q + i) (ν.2.2.2 (38 + i))) fr st oa ob) H locs := hB
      refine lv_iinc (k := 0) (v := nI (i + 1)) S.1 S.2.1 dX4_planFinish_46 hl rfl (nI_1 i) (by decide) rfl (fun ls hl => ?_)
      have hl : lv_has ls 4 [(3, .int (nI (i + 1))), (2, .int (nI n0)), (1, .int (nI q)), (0, .ref o)] := hl
      refine lv_goto (tgt := 25) S.1 S.2.1 dX4_planFinish_49 (by decide) ?_
      exact ih25 (i + 1) (kp_p1 ν (q + i) (ν.2.2.2 (38 + i))) _ _ _ (by omega) (by show ν.2.2.1 + 1 + n + 10 ≤ 100; omega) (hT) (lv_sub hl [0, 1, 2, 3] rfl) hB
  exact loop25 n0 0 μ _ _ _ (by omega) (hm) (rfl) (lv_sub hl [0, 1, 2, 3] rfl) hB

abbrev kr_MO_planChange : Room := { frames := 3, cells := 0, slots := 0, locals := 66 }
set_option maxRecDepth 100000 in
set_option maxHeartbeats 4000000 in
theorem kc_MO_planChange (l : Launch) (N : State → Prop) (hN : kv_Mv N) (D : va_G) (cA : ClassId) (o a1 a2 a3 a4 a5 a6 : Nat) (σ : kp_S) (dv ka kb : Int32) (μ : kp_P) (fr st : Nat → Int32) (oa ob : Int32) (q : Nat) (n0 : Nat) (hq : q + n0 ≤ 80) (hn : n0 ≤ 8) : kv_V N l yX4_planChange wsX4_planChange kr_MO_planChange D [(cA, .int)] [.ref o, .int (nI q), .int (nI n0)] (mo_W o a1 a2 a3 a4 a5 a6 cA σ dv ka kb μ fr st oa ob)  (mo_W o a1 a2 a3 a4 a5 a6 cA σ dv ka kb (kp_ps (kp_ch n0 0 n0 q fr σ.1) (μ.1, μ.2.1, 0, σ.1)) fr st oa ob) := by
  refine kv_openV (cc := cX4_planChange) (maxL := 4) (by decide) rfl (Nat.le_of_ble_eq_true rfl) ?_
  intro p e s m args below meth c A H locs ls Q S hl hB K
  have hl : lv_has ls 4 [(0, .ref o), (1, .int (nI q)), (2, .int (nI n0))] := hl
  refine lv_aload_n S.1 S.2.1 dX4_planChange_0 rfl (lv_at hl 0 rfl) ?_
  refine kv_vV (As := []) (rest := []) hN S (kc_MO_begin l N hN D cA o a1 a2 a3 a4 a5 a6 σ dv ka kb μ fr st oa ob   ) (kn_cV (C := RX4) S kn_269 kn_270 kn_408 kn_3 kn_271 rfl kd_X4_begin rfl rfl ⟨Nat.le_of_ble_eq_true rfl, Nat.le_of_ble_eq_true rfl⟩) hB 0 rfl rfl rfl hl.1 rfl (Nat.le_of_ble_eq_true rfl) dX4_planChange_1 ⟨Nat.zero_le _, Nat.zero_le _⟩ (fun H locs hB => ?_)
  have hB : kv_B N D [(cA, .int)] A s (mo_W o a1 a2 a3 a4 a5 a6 cA σ dv ka kb (μ.1, μ.2.1, 0, σ.1) fr st oa ob) H locs := hB
  refine lv_iconst (v := 0) S.1 S.2.1 dX4_planChange_4 (by decide) ?_
  refine lv_istore_n S.1 S.2.1 dX4_planChange_5 rfl hl (by decide) rfl (fun ls hl => ?_)
  have hl : lv_has ls 4 [(3, .int 0), (0, .ref o), (1, .int (nI q)), (2, .int (nI n0))] := hl
  have loop6 : ∀ (n : Nat) (i : Nat) (ν : kp_P) (H : Heap) (locs : List Loc) (ls : Array Slot), (i + n = n0) → (ν.2.2.1 + n + n0 + 12 ≤ 100) → (kp_ps (kp_ch n i n0 q fr ν.2.2.2) ν = kp_ps (kp_ch n0 0 n0 q fr σ.1) (μ.1, μ.2.1, 0, σ.1)) → lv_has ls 4 [(3, .int (nI i)), (0, .ref o), (1, .int (nI q)), (2, .int (nI n0))] → kv_B N D [(cA, .int)] A s (mo_W o a1 a2 a3 a4 a5 a6 cA σ dv ka kb ν fr st oa ob) H locs → W p l e kr_MO_planChange s m args below meth c H locs 0 0 Q (F0 m 6 ls []) := by
    intro n
    induction n with
    | zero =>
      intro i ν H locs ls hi hm hT hl hB
      refine lv_iload_n S.1 S.2.1 dX4_planChange_6 rfl (lv_at hl 0 rfl) ?_
      refine lv_iload_n S.1 S.2.1 dX4_planChange_7 rfl (lv_at hl 3 rfl) ?_
      refine kv_bge (x := i) (y := n0) (tgt := 31) S (by omega) (by omega) dX4_planChange_8 (by decide) (fun h_8 => ?_) (fun h => absurd h (by omega))
      refine lv_aload_n S.1 S.2.1 dX4_planChange_31 rfl (lv_at hl 1 rfl) ?_
      refine lv_bipush (v := 37) S.1 S.2.1 dX4_planChange_32 (by decide) ?_
      refine lv_iload_n S.1 S.2.1 dX4_planChange_34 rfl (lv_at hl 2 rfl) ?_
      refine lv_sipush (v := 256) S.1 S.2.1 dX4_planChange_35 (by decide) ?_
      refine lv_iload_n S.1 S.2.1 dX4_planChange_38 rfl (lv_at hl 3 rfl) ?_
      refine lv_imul S.1 S.2.1 dX4_planChange_39 ?_
      refine kv_top (y := nI (256 * n0)) (pk_mul 256 n0) ?_
      refine lv_iadd S.1 S.2.1 dX4_planChange_40 ?_
      refine kv_top (y := nI (q + (256 * n0))) (nI_add q (256 * n0)) ?_
      refine kv_vV (As := [.int 37, .int (nI (q + (256 * n0)))]) (rest := []) hN S (kc_MO_plan l N hN D cA o a1 a2 a3 a4 a5 a6 σ dv ka kb ν fr st oa ob 37 (nI (q + (256 * n0)))  (by omega) (by omega)) (kn_cV (C := RX4) S kn_303 kn_304 kn_411 kn_3 kn_305 rfl kd_X4_plan rfl rfl ⟨Nat.le_of_ble_eq_true rfl, Nat.le_of_ble_eq_true rfl⟩) hB 0 rfl rfl rfl hl.1 rfl (Nat.le_of_ble_eq_true rfl) dX4_planChange_41 ⟨Nat.zero_le _, Nat.zero_le _⟩ (fun H locs hB => ?_)
      have hB : kv_B N D [(cA, .int)] A s (mo_W o a1 a2 a3 a4 a5 a6 cA σ dv ka kb (kp_p1 ν 37 (nI (q + (256 * n0)))) fr st oa ob) H locs := hB
      refine lv_aload_n S.1 S.2.1 dX4_planChange_44 rfl (lv_at hl 1 rfl) ?_
      refine lv_bipush (v := 36) S.1 S.2.1 dX4_planChange_45 (by decide) ?_
      refine lv_iconst (v := 1) S.1 S.2.1 dX4_planChange_47 (by decide) ?_
      refine kv_vV (As := [.int 36, .int 1]) (rest := []) hN S (kc_MO_plan l N hN D cA o a1 a2 a3 a4 a5 a6 σ dv ka kb (kp_p1 ν 37 (nI (q + (256 * n0)))) fr st oa ob 36 1  (by omega) (by show ν.2.2.1 + 1 < 100; omega)) (kn_cV (C := RX4) S kn_303 kn_304 kn_411 kn_3 kn_305 rfl kd_X4_plan rfl rfl ⟨Nat.le_of_ble_eq_true rfl, Nat.le_of_ble_eq_true rfl⟩) hB 0 rfl rfl rfl hl.1 rfl (Nat.le_of_ble_eq_true rfl) dX4_planChange_48 ⟨Nat.zero_le _, Nat.zero_le _⟩ (fun H locs hB => ?_)
      have hB : kv_B N D [(cA, .int)] A s (mo_W o a1 a2 a3 a4 a5 a6 cA σ dv ka kb (kp_p1 (kp_p1 ν 37 (nI (q + (256 * n0)))) 36 1) fr st oa ob) H locs := hB
      refine lv_aload_n S.1 S.2.1 dX4_planChange_51 rfl (lv_at hl 1 rfl) ?_
      refine kv_vV (As := []) (rest := []) hN S (kc_MO_planFinish l N hN D cA o a1 a2 a3 a4 a5 a6 σ dv ka kb (kp_p1 (kp_p1 ν 37 (nI (q + (256 * n0)))) 36 1) fr st oa ob  q n0 (⟨rfl, hq, hn⟩) (by show ν.2.2.1 + 1 + 1 + n0 + 10 ≤ 100; omega)) (kn_cV (C := RX4) S kn_314 kn_315 kn_413 kn_3 kn_316 rfl kd_X4_planFinish rfl rfl ⟨Nat.le_of_ble_eq_true rfl, Nat.le_of_ble_eq_true rfl⟩) hB 0 rfl rfl rfl hl.1 rfl (Nat.le_of_ble_eq_true rfl) dX4_planChange_52 ⟨Nat.zero_le _, Nat.zero_le _⟩ (fun H locs hB => ?_)
      have hB : kv_B N D [(cA, .int)] A s (mo_W o a1 a2 a3 a4 a5 a6 cA σ dv ka kb (kp_ps (kp_fi n0 0 q (kp_p1 (kp_p1 ν 37 (nI (q + (256 * n0)))) 36 1).2.2.2) (kp_p1 (kp_p1 ν 37 (nI (q + (256 * n0)))) 36 1)) fr st oa ob) H locs := hB
      exact K _ _ _ _ _ hB (by rw [← hT]; rfl) dX4_planChange_55
    | succ n ih6 =>
      intro i ν H locs ls hi hm hT hl hB
      refine lv_iload_n S.1 S.2.1 dX4_planChange_6 rfl (lv_at hl 0 rfl) ?_
      refine lv_iload_n S.1 S.2.1 dX4_planChange_7 rfl (lv_at hl 3 rfl) ?_
      refine kv_bge (x := i) (y := n0) (tgt := 31) S (by omega) (by omega) dX4_planChange_8 (by decide) (fun h => absurd h (by omega)) (fun h_8 => ?_)
      refine lv_aload_n S.1 S.2.1 dX4_planChange_11 rfl (lv_at hl 1 rfl) ?_
      refine lv_bipush (v := 38) S.1 S.2.1 dX4_planChange_12 (by decide) ?_
      refine lv_iload_n S.1 S.2.1 dX4_planChange_14 rfl (lv_at hl 0 rfl) ?_
      refine lv_iadd S.1 S.2.1 dX4_planChange_15 ?_
      refine kv_top (y := nI (38 + i)) (nI_add 38 i) ?_
      refine lv_aload_n S.1 S.2.1 dX4_planChange_16 rfl (lv_at hl 1 rfl) ?_
      refine kv_get (C := RX4) (T := TX4) (M := 14) (ci := 2) S hB (kn_c kn_iX4) 0 rfl rfl 10 (by decide) (List.mem_cons_of_mem _ kn_243) rfl rfl dX4_planChange_17 ?_
      refine lv_iload_n S.1 S.2.1 dX4_planChange_20 rfl (lv_at hl 0 rfl) ?_
      refine kv_iald S hB 5 0 rfl rfl i rfl (by omega) (by decide) dX4_planChange_21 ?_
      refine kv_vV (As := [.int (nI (38 + i)), .int (fr i)]) (rest := []) hN S (kc_MO_plan l N hN D cA o a1 a2 a3 a4 a5 a6 σ dv ka kb ν fr st oa ob (38 + i) (fr i)  (by omega) (by omega)) (kn_cV (C := RX4) S kn_303 kn_304 kn_411 kn_3 kn_305 rfl kd_X4_plan rfl rfl ⟨Nat.le_of_ble_eq_true rfl, Nat.le_of_ble_eq_true rfl⟩) hB 0 rfl rfl rfl hl.1 rfl (Nat.le_of_ble_eq_true rfl) dX4_planChange_22 ⟨Nat.zero_le _, Nat.zero_le _⟩ (fun H locs hB => ?_)
      have hB : kv_B N D [(cA, .int)] A s (mo_W o a1 a2 a3 a4 a5 a6 cA σ dv ka kb (kp_p1 ν (38 + i) (fr i)) fr st oa ob) H locs := hB
      refine lv_iinc (k := 0) (v := nI (i + 1)) S.1 S.2.1 dX4_planChange_25 hl rfl (nI_1 i) (by decide) rfl (fun ls hl => ?_)
      have hl : lv_has ls 4 [(3, .int (nI (i + 1))), (0, .ref o), (1, .int (nI q)), (2, .int (nI n0))] := hl
      refine lv_goto (tgt := 6) S.1 S.2.1 dX4_planChange_28 (by decide) ?_
      exact ih6 (i + 1) (kp_p1 ν (38 + i) (fr i)) _ _ _ (by omega) (by show ν.2.2.1 + 1 + n + n0 + 12 ≤ 100; omega) (hT) (lv_sub hl [0, 1, 2, 3] rfl) hB
  exact loop6 n0 0 (μ.1, μ.2.1, 0, σ.1) _ _ _ (by omega) (by show 0 + n0 + n0 + 12 ≤ 100; omega) (rfl) (lv_sub hl [0, 1, 2, 3] rfl) hB

abbrev kr_MO_perform : Room := { frames := 0, cells := 0, slots := 0, locals := 0 }
set_option maxRecDepth 100000 in
set_option maxHeartbeats 4000000 in
theorem kc_MO_perform (l : Launch) (N : State → Prop) (hN : kv_Mv N) (D : va_G) (cA : ClassId) (o a1 a2 a3 a4 a5 a6 : Nat) (σ : kp_S) (dv ka kb : Int32) (μ : kp_P) (fr st : Nat → Int32) (oa ob : Int32) (xs : List (Nat × Int32)) (hx : kp_sd xs μ) : kv_I N l yX4_perform wsX4_perform kr_MO_perform D [(cA, .int)] [.ref o] (mo_W o a1 a2 a3 a4 a5 a6 cA σ dv ka kb μ fr st oa ob) ((kp_run xs σ).1) (mo_W o a1 a2 a3 a4 a5 a6 cA ((kp_run xs σ).2) (if (kp_run xs σ).1 = 0 then 0 else dv) ka kb μ fr st oa ob) := by
  refine kv_openI (cc := cX4_perform) (maxL := 2) (rt := .boolean) (by decide) rfl (kp_run_z _ _) (Nat.le_of_ble_eq_true rfl) ?_
  intro p e s m args below meth c A H locs ls Q S hl hB K
  have hl : lv_has ls 2 [(0, .ref o)] := hl
  have hx0 := hx.1
  have hx1 := hx.2.1
  refine lv_iconst (v := 0) S.1 S.2.1 dX4_perform_0 (by decide) ?_
  refine lv_istore_n S.1 S.2.1 dX4_perform_1 rfl hl (by decide) rfl (fun ls hl => ?_)
  have hl : lv_has ls 2 [(1, .int 0), (0, .ref o)] := hl
  have loop2 : ∀ (n : Nat) (i : Nat) (τ : kp_S) (H : Heap) (locs : List Loc) (ls : Array Slot), (i + n = xs.length) → (kp_run (xs.drop i) τ = kp_run xs σ) → lv_has ls 2 [(1, .int (nI i)), (0, .ref o)] → kv_B N D [(cA, .int)] A s (mo_W o a1 a2 a3 a4 a5 a6 cA τ dv ka kb μ fr st oa ob) H locs → W p l e kr_MO_perform s m args below meth c H locs 0 0 Q (F0 m 2 ls []) := by
    intro n
    induction n with
    | zero =>
      intro i τ H locs ls hi hT hl hB
      have hT0 : (1, τ) = kp_run xs σ := by rw [← hT, List.drop_eq_nil_of_le (by omega)]; rfl
      refine lv_iload_n S.1 S.2.1 dX4_perform_2 rfl (lv_at hl 0 rfl) ?_
      refine lv_aload_n S.1 S.2.1 dX4_perform_3 rfl (lv_at hl 1 rfl) ?_
      refine kv_get (C := RX4) (T := TX4) (M := 14) (ci := 2) S hB (kn_c kn_iX4) 0 rfl rfl 6 (by decide) (List.mem_cons_of_mem _ kn_239) rfl rfl dX4_perform_4 ?_
      refine kv_bge (x := i) (y := μ.2.2.1) (tgt := 86) S (by omega) (by omega) dX4_perform_7 (by decide) (fun h_7 => ?_) (fun h => absurd h (by omega))
      refine lv_iconst (v := 1) S.1 S.2.1 dX4_perform_86 (by decide) ?_
      exact K _ _ _ _ _ _ hB (by rw [← hT0]) (by rw [← hT0]; rfl) dX4_perform_87
    | succ n ih2 =>
      intro i τ H locs ls hi hT hl hB
      have hil : i < xs.length := by omega
      obtain ⟨⟨pl, x⟩, hq⟩ : ∃ q, xs[i]? = some q := ⟨xs[i], List.getElem?_eq_getElem hil⟩
      obtain ⟨hp1, hp2, hp3⟩ := hx.2.2 i _ hq
      have hp1 : μ.1 i = nI pl := hp1
      have hp2 : μ.2.1 i = x := hp2
      have hp3 : pl < 80 := hp3
      have hT0 : kp_run ((pl, x) :: xs.drop (i + 1)) τ = kp_run xs σ := by rw [← hT, List.drop_eq_getElem_cons hil, (List.getElem?_eq_some_iff.mp hq).2]
      refine lv_iload_n S.1 S.2.1 dX4_perform_2 rfl (lv_at hl 0 rfl) ?_
      refine lv_aload_n S.1 S.2.1 dX4_perform_3 rfl (lv_at hl 1 rfl) ?_
      refine kv_get (C := RX4) (T := TX4) (M := 14) (ci := 2) S hB (kn_c kn_iX4) 0 rfl rfl 6 (by decide) (List.mem_cons_of_mem _ kn_239) rfl rfl dX4_perform_4 ?_
      refine kv_bge (x := i) (y := μ.2.2.1) (tgt := 86) S (by omega) (by omega) dX4_perform_7 (by decide) (fun h => absurd h (by omega)) (fun h_7 => ?_)
      refine lv_aload_n S.1 S.2.1 dX4_perform_10 rfl (lv_at hl 1 rfl) ?_
      refine kv_get (C := RX4) (T := TX4) (M := 14) (ci := 2) S hB (kn_c kn_iX4) 0 rfl rfl 1 (by decide) (List.mem_cons_of_mem _ kn_234) rfl rfl dX4_perform_11 ?_
      refine lv_if_ne (tgt := 29) S.1 S.2.1 dX4_perform_14 (by decide) (fun h_14 => ?_) (fun h_14 => ?_)
      · skip
        refine lv_aload_n S.1 S.2.1 dX4_perform_29 rfl (lv_at hl 1 rfl) ?_
        refine lv_aload_n S.1 S.2.1 dX4_perform_30 rfl (lv_at hl 1 rfl) ?_
        refine kv_get (C := RX4) (T := TX4) (M := 14) (ci := 2) S hB (kn_c kn_iX4) 0 rfl rfl 1 (by decide) (List.mem_cons_of_mem _ kn_234) rfl rfl dX4_perform_31 ?_
        refine lv_if_le (tgt := 46) S.1 S.2.1 dX4_perform_34 (by decide) (fun h_34 => ?_) (fun h_34 => ?_)
        · skip
          refine lv_aload_n S.1 S.2.1 dX4_perform_46 rfl (lv_at hl 1 rfl) ?_
          refine kv_get (C := RX4) (T := TX4) (M := 14) (ci := 2) S hB (kn_c kn_iX4) 0 rfl rfl 1 (by decide) (List.mem_cons_of_mem _ kn_234) rfl rfl dX4_perform_47 ?_
          refine kv_put (C := RX4) (T := TX4) (M := 14) (ci := 2) (v := τ.2.2) S hB (kn_c kn_iX4) tyX4 tyX4_ok nmX4 0 rfl rfl 1 (by decide) (List.mem_cons_of_mem _ kn_234) rfl rfl rfl (Nat.le_of_ble_eq_true rfl) dX4_perform_50 (fun H locs hB => ?_)
          have hB : kv_B N D [(cA, .int)] A s (mo_W o a1 a2 a3 a4 a5 a6 cA τ dv ka kb μ fr st oa ob) H locs := hB
          refine lv_aload_n S.1 S.2.1 dX4_perform_53 rfl (lv_at hl 1 rfl) ?_
          refine lv_dup S.1 S.2.1 dX4_perform_54 rfl ?_
          refine kv_get (C := RX4) (T := TX4) (M := 14) (ci := 2) S hB (kn_c kn_iX4) 0 rfl rfl 2 (by decide) (List.mem_cons_of_mem _ kn_235) rfl rfl dX4_perform_55 ?_
          refine lv_iconst (v := 1) S.1 S.2.1 dX4_perform_58 (by decide) ?_
          refine lv_iadd S.1 S.2.1 dX4_perform_59 ?_
          refine kv_put (C := RX4) (T := TX4) (M := 14) (ci := 2) (v := τ.2.1 + 1) S hB (kn_c kn_iX4) tyX4 tyX4_ok nmX4 0 rfl rfl 2 (by decide) (List.mem_cons_of_mem _ kn_235) rfl rfl rfl (Nat.le_of_ble_eq_true rfl) dX4_perform_60 (fun H locs hB => ?_)
          have hB : kv_B N D [(cA, .int)] A s (mo_W o a1 a2 a3 a4 a5 a6 cA (τ.1, τ.2.1 + 1, τ.2.2) dv ka kb μ fr st oa ob) H locs := hB
          refine lv_aload_n S.1 S.2.1 dX4_perform_63 rfl (lv_at hl 1 rfl) ?_
          refine kv_get (C := RX4) (T := TX4) (M := 14) (ci := 2) S hB (kn_c kn_iX4) 0 rfl rfl 0 (by decide) (List.mem_cons_of_mem _ kn_233) rfl rfl dX4_perform_64 ?_
          refine lv_aload_n S.1 S.2.1 dX4_perform_67 rfl (lv_at hl 1 rfl) ?_
          refine kv_get (C := RX4) (T := TX4) (M := 14) (ci := 2) S hB (kn_c kn_iX4) 0 rfl rfl 7 (by decide) (List.mem_cons_of_mem _ kn_240) rfl rfl dX4_perform_68 ?_
          refine lv_iload_n S.1 S.2.1 dX4_perform_71 rfl (lv_at hl 0 rfl) ?_
          refine kv_iald S hB 2 0 rfl rfl i rfl (by omega) (by decide) dX4_perform_72 ?_
          refine lv_aload_n S.1 S.2.1 dX4_perform_73 rfl (lv_at hl 1 rfl) ?_
          refine kv_get (C := RX4) (T := TX4) (M := 14) (ci := 2) S hB (kn_c kn_iX4) 0 rfl rfl 8 (by decide) (List.mem_cons_of_mem _ kn_241) rfl rfl dX4_perform_74 ?_
          refine lv_iload_n S.1 S.2.1 dX4_perform_77 rfl (lv_at hl 0 rfl) ?_
          refine kv_iald S hB 3 0 rfl rfl i rfl (by omega) (by decide) dX4_perform_78 ?_
          refine kv_top (y := x) (hp2) ?_
          refine kv_iast S hB 1 0 rfl rfl pl hp1 (by omega) (by decide) dX4_perform_79 (fun H locs hB => ?_)
          have hB : kv_B N D [(cA, .int)] A s (mo_W o a1 a2 a3 a4 a5 a6 cA (upd τ.1 pl x, τ.2.1 + 1, τ.2.2) dv ka kb μ fr st oa ob) H locs := hB
          refine lv_iinc (k := 0) (v := nI (i + 1)) S.1 S.2.1 dX4_perform_80 hl rfl (nI_1 i) (by decide) rfl (fun ls hl => ?_)
          have hl : lv_has ls 2 [(1, .int (nI (i + 1))), (0, .ref o)] := hl
          refine lv_goto (tgt := 2) S.1 S.2.1 dX4_perform_83 (by decide) ?_
          exact ih2 (i + 1) (upd τ.1 pl x, τ.2.1 + 1, τ.2.2) _ _ _ (by omega) (by rw [← hT0, kp_run, if_neg h_14]; show _ = kp_run _ (kp_put τ pl x); first | rw [kp_put, if_pos h_34] | rw [kp_put, if_neg h_34]) (lv_sub hl [0, 1] rfl) hB
        · skip
          refine lv_aload_n S.1 S.2.1 dX4_perform_37 rfl (lv_at hl 1 rfl) ?_
          refine kv_get (C := RX4) (T := TX4) (M := 14) (ci := 2) S hB (kn_c kn_iX4) 0 rfl rfl 1 (by decide) (List.mem_cons_of_mem _ kn_234) rfl rfl dX4_perform_38 ?_
          refine lv_iconst (v := 1) S.1 S.2.1 dX4_perform_41 (by decide) ?_
          refine lv_isub S.1 S.2.1 dX4_perform_42 ?_
          refine lv_goto (tgt := 50) S.1 S.2.1 dX4_perform_43 (by decide) ?_
          refine kv_put (C := RX4) (T := TX4) (M := 14) (ci := 2) (v := τ.2.2 - 1) S hB (kn_c kn_iX4) tyX4 tyX4_ok nmX4 0 rfl rfl 1 (by decide) (List.mem_cons_of_mem _ kn_234) rfl rfl rfl (Nat.le_of_ble_eq_true rfl) dX4_perform_50 (fun H locs hB => ?_)
          have hB : kv_B N D [(cA, .int)] A s (mo_W o a1 a2 a3 a4 a5 a6 cA (τ.1, τ.2.1, τ.2.2 - 1) dv ka kb μ fr st oa ob) H locs := hB
          refine lv_aload_n S.1 S.2.1 dX4_perform_53 rfl (lv_at hl 1 rfl) ?_
          refine lv_dup S.1 S.2.1 dX4_perform_54 rfl ?_
          refine kv_get (C := RX4) (T := TX4) (M := 14) (ci := 2) S hB (kn_c kn_iX4) 0 rfl rfl 2 (by decide) (List.mem_cons_of_mem _ kn_235) rfl rfl dX4_perform_55 ?_
          refine lv_iconst (v := 1) S.1 S.2.1 dX4_perform_58 (by decide) ?_
          refine lv_iadd S.1 S.2.1 dX4_perform_59 ?_
          refine kv_put (C := RX4) (T := TX4) (M := 14) (ci := 2) (v := τ.2.1 + 1) S hB (kn_c kn_iX4) tyX4 tyX4_ok nmX4 0 rfl rfl 2 (by decide) (List.mem_cons_of_mem _ kn_235) rfl rfl rfl (Nat.le_of_ble_eq_true rfl) dX4_perform_60 (fun H locs hB => ?_)
          have hB : kv_B N D [(cA, .int)] A s (mo_W o a1 a2 a3 a4 a5 a6 cA (τ.1, τ.2.1 + 1, τ.2.2 - 1) dv ka kb μ fr st oa ob) H locs := hB
          refine lv_aload_n S.1 S.2.1 dX4_perform_63 rfl (lv_at hl 1 rfl) ?_
          refine kv_get (C := RX4) (T := TX4) (M := 14) (ci := 2) S hB (kn_c kn_iX4) 0 rfl rfl 0 (by decide) (List.mem_cons_of_mem _ kn_233) rfl rfl dX4_perform_64 ?_
          refine lv_aload_n S.1 S.2.1 dX4_perform_67 rfl (lv_at hl 1 rfl) ?_
          refine kv_get (C := RX4) (T := TX4) (M := 14) (ci := 2) S hB (kn_c kn_iX4) 0 rfl rfl 7 (by decide) (List.mem_cons_of_mem _ kn_240) rfl rfl dX4_perform_68 ?_
          refine lv_iload_n S.1 S.2.1 dX4_perform_71 rfl (lv_at hl 0 rfl) ?_
          refine kv_iald S hB 2 0 rfl rfl i rfl (by omega) (by decide) dX4_perform_72 ?_
          refine lv_aload_n S.1 S.2.1 dX4_perform_73 rfl (lv_at hl 1 rfl) ?_
          refine kv_get (C := RX4) (T := TX4) (M := 14) (ci := 2) S hB (kn_c kn_iX4) 0 rfl rfl 8 (by decide) (List.mem_cons_of_mem _ kn_241) rfl rfl dX4_perform_74 ?_
          refine lv_iload_n S.1 S.2.1 dX4_perform_77 rfl (lv_at hl 0 rfl) ?_
          refine kv_iald S hB 3 0 rfl rfl i rfl (by omega) (by decide) dX4_perform_78 ?_
          refine kv_top (y := x) (hp2) ?_
          refine kv_iast S hB 1 0 rfl rfl pl hp1 (by omega) (by decide) dX4_perform_79 (fun H locs hB => ?_)
          have hB : kv_B N D [(cA, .int)] A s (mo_W o a1 a2 a3 a4 a5 a6 cA (upd τ.1 pl x, τ.2.1 + 1, τ.2.2 - 1) dv ka kb μ fr st oa ob) H locs := hB
          refine lv_iinc (k := 0) (v := nI (i + 1)) S.1 S.2.1 dX4_perform_80 hl rfl (nI_1 i) (by decide) rfl (fun ls hl => ?_)
          have hl : lv_has ls 2 [(1, .int (nI (i + 1))), (0, .ref o)] := hl
          refine lv_goto (tgt := 2) S.1 S.2.1 dX4_perform_83 (by decide) ?_
          exact ih2 (i + 1) (upd τ.1 pl x, τ.2.1 + 1, τ.2.2 - 1) _ _ _ (by omega) (by rw [← hT0, kp_run, if_neg h_14]; show _ = kp_run _ (kp_put τ pl x); first | rw [kp_put, if_pos h_34] | rw [kp_put, if_neg h_34]) (lv_sub hl [0, 1] rfl) hB
      · skip
        refine lv_aload_n S.1 S.2.1 dX4_perform_17 rfl (lv_at hl 1 rfl) ?_
        refine lv_iconst (v := (-1)) S.1 S.2.1 dX4_perform_18 (by decide) ?_
        refine kv_put (C := RX4) (T := TX4) (M := 14) (ci := 2) (v := (-1)) S hB (kn_c kn_iX4) tyX4 tyX4_ok nmX4 0 rfl rfl 1 (by decide) (List.mem_cons_of_mem _ kn_234) rfl rfl rfl (Nat.le_of_ble_eq_true rfl) dX4_perform_19 (fun H locs hB => ?_)
        have hB : kv_B N D [(cA, .int)] A s (mo_W o a1 a2 a3 a4 a5 a6 cA (τ.1, τ.2.1, (-1)) dv ka kb μ fr st oa ob) H locs := hB
        refine lv_aload_n S.1 S.2.1 dX4_perform_22 rfl (lv_at hl 1 rfl) ?_
        refine lv_iconst (v := 0) S.1 S.2.1 dX4_perform_23 (by decide) ?_
        refine kv_put (C := RX4) (T := TX4) (M := 14) (ci := 2) (v := 0) S hB (kn_c kn_iX4) tyX4 tyX4_ok nmX4 0 rfl rfl 3 (by decide) (List.mem_cons_of_mem _ kn_236) rfl rfl rfl (Nat.le_of_ble_eq_true rfl) dX4_perform_24 (fun H locs hB => ?_)
        have hB : kv_B N D [(cA, .int)] A s (mo_W o a1 a2 a3 a4 a5 a6 cA (τ.1, τ.2.1, (-1)) 0 ka kb μ fr st oa ob) H locs := hB
        refine lv_iconst (v := 0) S.1 S.2.1 dX4_perform_27 (by decide) ?_
        exact K _ _ _ _ _ _ hB (by rw [← hT0, kp_run, if_pos h_14]) (by rw [← hT0, kp_run, if_pos h_14]; rfl) dX4_perform_28
  exact loop2 xs.length 0 σ _ _ _ (by omega) (by rw [List.drop_zero]) (lv_sub hl [0, 1] rfl) hB
