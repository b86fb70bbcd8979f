abbrev kr_DI_init : Room := { frames := 1, cells := 1, slots := 80, locals := 12 }
set_option maxRecDepth 100000 in
set_option maxHeartbeats 4000000 in
theorem kc_DI_init (l : Launch) (D : va_G) (d : Nat) : kv_C (Z := Nat × ClassId) l yX1_init wsX1_init kr_DI_init D [.ref d] [(d, .inr (0, [.null, .int 0, .int 0]))] (fun u => [(d, .inr (0, [.ref u.1, .int 0, .int (-1)])), (u.1, .inl (u.2, 80, .inl (fun _ => 0)))]) (fun u => [(u.2, .int)]) 1 80 := by
  refine kv_openC (cc := cX1_init) (maxL := 1) (by decide) rfl rfl (Nat.le_of_ble_eq_true rfl) ?_
  intro p e s m args below meth c A H locs ls Q S hmn hl hB K
  have hl : lv_has ls 1 [(0, .ref d)] := hl
  refine lv_aload_n S.1 S.2.1 dX1_init_0 rfl (lv_at hl 0 rfl) ?_
  refine kv_obj S hl.1 hB (List.mem_cons_of_mem _ kn_21) (List.mem_cons_of_mem _ kn_14) (List.mem_cons_of_mem _ kn_15) dX1_init_1 (Nat.le_of_ble_eq_true rfl) (Nat.le_of_ble_eq_true rfl) ?_
  refine lv_aload_n S.1 S.2.1 dX1_init_4 rfl (lv_at hl 0 rfl) ?_
  refine lv_bipush (v := 80) S.1 S.2.1 dX1_init_5 (by decide) ?_
  refine kv_newa (M := 80) S hB rfl (List.mem_cons_of_mem _ kn_28) (by decide) (by decide) (by decide) (Nat.le_of_ble_eq_true rfl) (Nat.le_of_ble_eq_true rfl) dX1_init_7 (fun w cA H hB => ?_)
  have hB : kv_B (fun _ => True) D [(cA, .int)] A s [(d, .inr (0, [.null, .int 0, .int 0])), (w, .inl (cA, 80, .inl (fun _ => 0)))] H locs := hB
  refine kv_putf (C := RX1) (T := TX1) (M := 3) (ci := 0) (v := w) (ty := (.array .int)) S hmn hB (kn_c kn_iX1) tyX1 tyX1_ok nmX1 0 rfl rfl 0 (by decide) (List.mem_cons_of_mem _ kn_22) rfl rfl rfl (by decide +kernel) rfl rfl (Nat.le_of_ble_eq_true rfl) dX1_init_9 (fun H locs hB => ?_)
  have hB : kv_B (fun _ => True) D [(cA, .int)] A s [(d, .inr (0, [.ref w, .int 0, .int 0])), (w, .inl (cA, 80, .inl (fun _ => 0)))] H locs := hB
  refine lv_aload_n S.1 S.2.1 dX1_init_12 rfl (lv_at hl 0 rfl) ?_
  refine lv_iconst (v := (-1)) S.1 S.2.1 dX1_init_13 (by decide) ?_
  refine kv_put (C := RX1) (T := TX1) (M := 3) (ci := 0) (v := (-1)) S hB (kn_c kn_iX1) tyX1 tyX1_ok nmX1 0 rfl rfl 2 (by decide) (List.mem_cons_of_mem _ kn_24) rfl rfl rfl (Nat.le_of_ble_eq_true rfl) dX1_init_14 (fun H locs hB => ?_)
  exact K _ _ (w, cA) _ _ hB dX1_init_17
abbrev kr_VO_init : Room := { frames := 2, cells := 3, slots := 163, locals := 32 }
set_option maxRecDepth 100000 in
set_option maxHeartbeats 4000000 in
theorem kc_VO_init (l : Launch) (D : va_G) (h : Nat) : kv_C (Z := Nat × Nat × Nat × ClassId) l yX3_init wsX3_init kr_VO_init D [.ref h] [(h, .inr (1, [.null, .null, .int 0, .int 0, .int 0]))] (fun u => vo_W h u.1 u.2.1 u.2.2.1 u.2.2.2 (fun _ => 0, 0, -1) (fun _ => 0) 0 0 0) (fun u => [(u.2.2.2, .int)]) 3 163 := by
  refine kv_openC (cc := cX3_init) (maxL := 1) (by decide) rfl rfl (Nat.le_of_ble_eq_true rfl) ?_
  intro p e s m args below meth c A H locs ls Q S hmn hl hB K
  have hl : lv_has ls 1 [(0, .ref h)] := hl
  refine lv_aload_n S.1 S.2.1 dX3_init_0 rfl (lv_at hl 0 rfl) ?_
  refine kv_obj S hl.1 hB (List.mem_cons_of_mem _ kn_13) (List.mem_cons_of_mem _ kn_14) (List.mem_cons_of_mem _ kn_15) dX3_init_1 (Nat.le_of_ble_eq_true rfl) (Nat.le_of_ble_eq_true rfl) ?_
  refine lv_aload_n S.1 S.2.1 dX3_init_4 rfl (lv_at hl 0 rfl) ?_
  refine kv_newo (C := RX1) (T := TX1) (M := 3) (ci := 0) (fs := [.null, .int 0, .int 0]) S hB (kn_c kn_iX1) tyX1 tyX1_ok (List.mem_cons_of_mem _ kn_16) (List.mem_cons_of_mem _ kn_17) (List.mem_cons_of_mem _ kn_2) rfl (by decide) (Nat.le_of_ble_eq_true rfl) (Nat.le_of_ble_eq_true rfl) dX3_init_5 (fun d H hB => ?_)
  have hB : kv_B (fun _ => True) D [] A s [(h, .inr (1, [.null, .null, .int 0, .int 0, .int 0])), (d, .inr (0, [.null, .int 0, .int 0]))] H locs := hB
  refine lv_dup S.1 S.2.1 dX3_init_8 rfl ?_
  refine kv_init (rest := [.ref d, .ref h]) (wr := [(h, .inr (1, [.null, .null, .int 0, .int 0, .int 0]))]) S (kc_DI_init l D d) (kn_cI S kn_18 kn_19 kn_2 kn_20 rfl kd_X1_init rfl rfl ⟨Nat.le_of_ble_eq_true rfl, Nat.le_of_ble_eq_true rfl⟩) hB [1] [0] rfl rfl (by decide) (by decide) (by decide) hl.1 (Nat.le_of_ble_eq_true rfl) dX3_init_9 ⟨(Nat.le_of_ble_eq_true rfl), (Nat.le_of_ble_eq_true rfl)⟩ (fun u H locs hB => ?_)
  obtain ⟨w, cA⟩ := u
  have hB : kv_B (fun _ => True) D [(cA, .int)] A s [(h, .inr (1, [.null, .null, .int 0, .int 0, .int 0])), (d, .inr (0, [.ref w, .int 0, .int (-1)])), (w, .inl (cA, 80, .inl (fun _ => 0)))] H locs := hB
  refine kv_putf (C := RX3) (T := TX3) (M := 5) (ci := 1) (v := d) (ty := (.object "StripedKeyVolume$Disk")) S hmn hB (kn_c kn_iX3) tyX3 tyX3_ok nmX3 0 rfl rfl 0 (by decide) (List.mem_cons_of_mem _ kn_29) rfl rfl rfl (by decide +kernel) rfl rfl (Nat.le_of_ble_eq_true rfl) dX3_init_12 (fun H locs hB => ?_)
  have hB : kv_B (fun _ => True) D [(cA, .int)] A s [(h, .inr (1, [.ref d, .null, .int 0, .int 0, .int 0])), (d, .inr (0, [.ref w, .int 0, .int (-1)])), (w, .inl (cA, 80, .inl (fun _ => 0)))] H locs := hB
  refine lv_aload_n S.1 S.2.1 dX3_init_15 rfl (lv_at hl 0 rfl) ?_
  refine lv_bipush (v := 80) S.1 S.2.1 dX3_init_16 (by decide) ?_
  refine kv_newa (M := 80) S hB rfl (List.mem_cons_of_mem _ kn_28) (by decide) (by decide) (by decide) (Nat.le_of_ble_eq_true rfl) (Nat.le_of_ble_eq_true rfl) dX3_init_18 (fun r cB H hB => ?_)
  have hcc := kv_same (i := 0) (j := 1) hB rfl rfl
  subst hcc
  have hB := kv_tys (tys' := [(cA, .int)]) [0] rfl hB
  have hB : kv_B (fun _ => True) D [(cA, .int)] A s [(h, .inr (1, [.ref d, .null, .int 0, .int 0, .int 0])), (d, .inr (0, [.ref w, .int 0, .int (-1)])), (w, .inl (cA, 80, .inl (fun _ => 0))), (r, .inl (cA, 80, .inl (fun _ => 0)))] H locs := hB
  refine kv_putf (C := RX3) (T := TX3) (M := 5) (ci := 1) (v := r) (ty := (.array .int)) S hmn hB (kn_c kn_iX3) tyX3 tyX3_ok nmX3 0 rfl rfl 1 (by decide) (List.mem_cons_of_mem _ kn_30) rfl rfl rfl (by decide +kernel) rfl rfl (Nat.le_of_ble_eq_true rfl) dX3_init_20 (fun H locs hB => ?_)
  have hB : kv_B (fun _ => True) D [(cA, .int)] A s [(h, .inr (1, [.ref d, .ref r, .int 0, .int 0, .int 0])), (d, .inr (0, [.ref w, .int 0, .int (-1)])), (w, .inl (cA, 80, .inl (fun _ => 0))), (r, .inl (cA, 80, .inl (fun _ => 0)))] H locs := hB
  refine lv_aload_n S.1 S.2.1 dX3_init_23 rfl (lv_at hl 0 rfl) ?_
  refine lv_iconst (v := 0) S.1 S.2.1 dX3_init_24 (by decide) ?_
  refine kv_put (C := RX3) (T := TX3) (M := 5) (ci := 1) (v := 0) S hB (kn_c kn_iX3) tyX3 tyX3_ok nmX3 0 rfl rfl 2 (by decide) (List.mem_cons_of_mem _ kn_31) rfl rfl rfl (Nat.le_of_ble_eq_true rfl) dX3_init_25 (fun H locs hB => ?_)
  exact K _ _ (d, w, r, cA) _ _ hB dX3_init_28
abbrev kr_MO_init : Room := { frames := 1, cells := 6, slots := 374, locals := 12 }
set_option maxRecDepth 100000 in
set_option maxHeartbeats 4000000 in
theorem kc_MO_init (l : Launch) (D : va_G) (o : Nat) : kv_C (Z := (Nat × Nat × Nat × Nat × Nat × Nat) × ClassId) l yX4_init wsX4_init kr_MO_init D [.ref o] [(o, .inr (2, [.null, .int 0, .int 0, .int 0, .int 0, .int 0, .int 0, .null, .null, .null, .null, .null, .int 0, .int 0]))] (fun u => mo_W o u.1.1 u.1.2.1 u.1.2.2.1 u.1.2.2.2.1 u.1.2.2.2.2.1 u.1.2.2.2.2.2 u.2 (fun _ => 0, 0, -1) 0 0 0 (fun _ => 0, fun _ => 0, 0, fun _ => 0) (fun _ => 0) (fun _ => 0) 0 0) (fun u => [(u.2, .int)]) 6 374 := by
  refine kv_openC (cc := cX4_init) (maxL := 1) (by decide) rfl rfl (Nat.le_of_ble_eq_true rfl) ?_
  intro p e s m args below meth c A H locs ls Q S hmn hl hB K
  have hl : lv_has ls 1 [(0, .ref o)] := hl
  refine lv_aload_n S.1 S.2.1 dX4_init_0 rfl (lv_at hl 0 rfl) ?_
  refine kv_obj S hl.1 hB (List.mem_cons_of_mem _ kn_232) (List.mem_cons_of_mem _ kn_14) (List.mem_cons_of_mem _ kn_15) dX4_init_1 (Nat.le_of_ble_eq_true rfl) (Nat.le_of_ble_eq_true rfl) ?_
  refine lv_aload_n S.1 S.2.1 dX4_init_4 rfl (lv_at hl 0 rfl) ?_
  refine lv_bipush (v := 80) S.1 S.2.1 dX4_init_5 (by decide) ?_
  refine kv_newa (M := 80) S hB rfl (List.mem_cons_of_mem _ kn_28) (by decide) (by decide) (by decide) (Nat.le_of_ble_eq_true rfl) (Nat.le_of_ble_eq_true rfl) dX4_init_7 (fun a1 cA H hB => ?_)
  have hB : kv_B (fun _ => True) D [(cA, .int)] A s [(o, .inr (2, [.null, .int 0, .int 0, .int 0, .int 0, .int 0, .int 0, .null, .null, .null, .null, .null, .int 0, .int 0])), (a1, .inl (cA, 80, .inl (fun _ => 0)))] H locs := hB
  refine kv_putr (C := RX4) (T := TX4) (M := 14) (ci := 2) (v := a1) (ty := (.array .int)) S hB (kn_c kn_iX4) tyX4 tyX4_ok nmX4 0 rfl rfl 0 (by decide) (List.mem_cons_of_mem _ kn_233) rfl rfl (by decide +kernel) rfl rfl (Nat.le_of_ble_eq_true rfl) dX4_init_9 (fun H locs hB => ?_)
  have hB : kv_B (fun _ => True) D [(cA, .int)] A s [(o, .inr (2, [.ref a1, .int 0, .int 0, .int 0, .int 0, .int 0, .int 0, .null, .null, .null, .null, .null, .int 0, .int 0])), (a1, .inl (cA, 80, .inl (fun _ => 0)))] H locs := hB
  refine lv_aload_n S.1 S.2.1 dX4_init_12 rfl (lv_at hl 0 rfl) ?_
  refine lv_iconst (v := (-1)) S.1 S.2.1 dX4_init_13 (by decide) ?_
  refine kv_put (C := RX4) (T := TX4) (M := 14) (ci := 2) (v := (-1)) S hB (kn_c kn_iX4) tyX4 tyX4_ok nmX4 0 rfl rfl 1 (by decide) (List.mem_cons_of_mem _ kn_234) rfl rfl rfl (Nat.le_of_ble_eq_true rfl) dX4_init_14 (fun H locs hB => ?_)
  have hB : kv_B (fun _ => True) D [(cA, .int)] A s [(o, .inr (2, [.ref a1, .int (-1), .int 0, .int 0, .int 0, .int 0, .int 0, .null, .null, .null, .null, .null, .int 0, .int 0])), (a1, .inl (cA, 80, .inl (fun _ => 0)))] H locs := hB
  refine lv_aload_n S.1 S.2.1 dX4_init_17 rfl (lv_at hl 0 rfl) ?_
  refine lv_bipush (v := 100) S.1 S.2.1 dX4_init_18 (by decide) ?_
  refine kv_newa (M := 100) S hB rfl (List.mem_cons_of_mem _ kn_28) (by decide) (by decide) (by decide) (Nat.le_of_ble_eq_true rfl) (Nat.le_of_ble_eq_true rfl) dX4_init_20 (fun a2 cB H hB => ?_)
  have hcc := kv_same (i := 0) (j := 1) hB rfl rfl
  subst hcc
  have hB := kv_tys (tys' := [(cA, .int)]) [0] rfl hB
  have hB : kv_B (fun _ => True) D [(cA, .int)] A s [(o, .inr (2, [.ref a1, .int (-1), .int 0, .int 0, .int 0, .int 0, .int 0, .null, .null, .null, .null, .null, .int 0, .int 0])), (a1, .inl (cA, 80, .inl (fun _ => 0))), (a2, .inl (cA, 100, .inl (fun _ => 0)))] H locs := hB
  refine kv_putr (C := RX4) (T := TX4) (M := 14) (ci := 2) (v := a2) (ty := (.array .int)) S hB (kn_c kn_iX4) tyX4 tyX4_ok nmX4 0 rfl rfl 7 (by decide) (List.mem_cons_of_mem _ kn_240) rfl rfl (by decide +kernel) rfl rfl (Nat.le_of_ble_eq_true rfl) dX4_init_22 (fun H locs hB => ?_)
  have hB : kv_B (fun _ => True) D [(cA, .int)] A s [(o, .inr (2, [.ref a1, .int (-1), .int 0, .int 0, .int 0, .int 0, .int 0, .ref a2, .null, .null, .null, .null, .int 0, .int 0])), (a1, .inl (cA, 80, .inl (fun _ => 0))), (a2, .inl (cA, 100, .inl (fun _ => 0)))] H locs := hB
  refine lv_aload_n S.1 S.2.1 dX4_init_25 rfl (lv_at hl 0 rfl) ?_
  refine lv_bipush (v := 100) S.1 S.2.1 dX4_init_26 (by decide) ?_
  refine kv_newa (M := 100) S hB rfl (List.mem_cons_of_mem _ kn_28) (by decide) (by decide) (by decide) (Nat.le_of_ble_eq_true rfl) (Nat.le_of_ble_eq_true rfl) dX4_init_28 (fun a3 cB H hB => ?_)
  have hcc := kv_same (i := 0) (j := 1) hB rfl rfl
  subst hcc
  have hB := kv_tys (tys' := [(cA, .int)]) [0] rfl hB
  have hB : kv_B (fun _ => True) D [(cA, .int)] A s [(o, .inr (2, [.ref a1, .int (-1), .int 0, .int 0, .int 0, .int 0, .int 0, .ref a2, .null, .null, .null, .null, .int 0, .int 0])), (a1, .inl (cA, 80, .inl (fun _ => 0))), (a2, .inl (cA, 100, .inl (fun _ => 0))), (a3, .inl (cA, 100, .inl (fun _ => 0)))] H locs := hB
  refine kv_putr (C := RX4) (T := TX4) (M := 14) (ci := 2) (v := a3) (ty := (.array .int)) S hB (kn_c kn_iX4) tyX4 tyX4_ok nmX4 0 rfl rfl 8 (by decide) (List.mem_cons_of_mem _ kn_241) rfl rfl (by decide +kernel) rfl rfl (Nat.le_of_ble_eq_true rfl) dX4_init_30 (fun H locs hB => ?_)
  have hB : kv_B (fun _ => True) D [(cA, .int)] A s [(o, .inr (2, [.ref a1, .int (-1), .int 0, .int 0, .int 0, .int 0, .int 0, .ref a2, .ref a3, .null, .null, .null, .int 0, .int 0])), (a1, .inl (cA, 80, .inl (fun _ => 0))), (a2, .inl (cA, 100, .inl (fun _ => 0))), (a3, .inl (cA, 100, .inl (fun _ => 0)))] H locs := hB
  refine lv_aload_n S.1 S.2.1 dX4_init_33 rfl (lv_at hl 0 rfl) ?_
  refine lv_bipush (v := 80) S.1 S.2.1 dX4_init_34 (by decide) ?_
  refine kv_newa (M := 80) S hB rfl (List.mem_cons_of_mem _ kn_28) (by decide) (by decide) (by decide) (Nat.le_of_ble_eq_true rfl) (Nat.le_of_ble_eq_true rfl) dX4_init_36 (fun a4 cB H hB => ?_)
  have hcc := kv_same (i := 0) (j := 1) hB rfl rfl
  subst hcc
  have hB := kv_tys (tys' := [(cA, .int)]) [0] rfl hB
  have hB : kv_B (fun _ => True) D [(cA, .int)] A s [(o, .inr (2, [.ref a1, .int (-1), .int 0, .int 0, .int 0, .int 0, .int 0, .ref a2, .ref a3, .null, .null, .null, .int 0, .int 0])), (a1, .inl (cA, 80, .inl (fun _ => 0))), (a2, .inl (cA, 100, .inl (fun _ => 0))), (a3, .inl (cA, 100, .inl (fun _ => 0))), (a4, .inl (cA, 80, .inl (fun _ => 0)))] H locs := hB
  refine kv_putr (C := RX4) (T := TX4) (M := 14) (ci := 2) (v := a4) (ty := (.array .int)) S hB (kn_c kn_iX4) tyX4 tyX4_ok nmX4 0 rfl rfl 9 (by decide) (List.mem_cons_of_mem _ kn_242) rfl rfl (by decide +kernel) rfl rfl (Nat.le_of_ble_eq_true rfl) dX4_init_38 (fun H locs hB => ?_)
  have hB : kv_B (fun _ => True) D [(cA, .int)] A s [(o, .inr (2, [.ref a1, .int (-1), .int 0, .int 0, .int 0, .int 0, .int 0, .ref a2, .ref a3, .ref a4, .null, .null, .int 0, .int 0])), (a1, .inl (cA, 80, .inl (fun _ => 0))), (a2, .inl (cA, 100, .inl (fun _ => 0))), (a3, .inl (cA, 100, .inl (fun _ => 0))), (a4, .inl (cA, 80, .inl (fun _ => 0)))] H locs := hB
  refine lv_aload_n S.1 S.2.1 dX4_init_41 rfl (lv_at hl 0 rfl) ?_
  refine lv_bipush (v := 8) S.1 S.2.1 dX4_init_42 (by decide) ?_
  refine kv_newa (M := 8) S hB rfl (List.mem_cons_of_mem _ kn_28) (by decide) (by decide) (by decide) (Nat.le_of_ble_eq_true rfl) (Nat.le_of_ble_eq_true rfl) dX4_init_44 (fun a5 cB H hB => ?_)
  have hcc := kv_same (i := 0) (j := 1) hB rfl rfl
  subst hcc
  have hB := kv_tys (tys' := [(cA, .int)]) [0] rfl hB
  have hB : kv_B (fun _ => True) D [(cA, .int)] A s [(o, .inr (2, [.ref a1, .int (-1), .int 0, .int 0, .int 0, .int 0, .int 0, .ref a2, .ref a3, .ref a4, .null, .null, .int 0, .int 0])), (a1, .inl (cA, 80, .inl (fun _ => 0))), (a2, .inl (cA, 100, .inl (fun _ => 0))), (a3, .inl (cA, 100, .inl (fun _ => 0))), (a4, .inl (cA, 80, .inl (fun _ => 0))), (a5, .inl (cA, 8, .inl (fun _ => 0)))] H locs := hB
  refine kv_putr (C := RX4) (T := TX4) (M := 14) (ci := 2) (v := a5) (ty := (.array .int)) S hB (kn_c kn_iX4) tyX4 tyX4_ok nmX4 0 rfl rfl 10 (by decide) (List.mem_cons_of_mem _ kn_243) rfl rfl (by decide +kernel) rfl rfl (Nat.le_of_ble_eq_true rfl) dX4_init_46 (fun H locs hB => ?_)
  have hB : kv_B (fun _ => True) D [(cA, .int)] A s [(o, .inr (2, [.ref a1, .int (-1), .int 0, .int 0, .int 0, .int 0, .int 0, .ref a2, .ref a3, .ref a4, .ref a5, .null, .int 0, .int 0])), (a1, .inl (cA, 80, .inl (fun _ => 0))), (a2, .inl (cA, 100, .inl (fun _ => 0))), (a3, .inl (cA, 100, .inl (fun _ => 0))), (a4, .inl (cA, 80, .inl (fun _ => 0))), (a5, .inl (cA, 8, .inl (fun _ => 0)))] H locs := hB
  refine lv_aload_n S.1 S.2.1 dX4_init_49 rfl (lv_at hl 0 rfl) ?_
  refine lv_bipush (v := 6) S.1 S.2.1 dX4_init_50 (by decide) ?_
  refine kv_newa (M := 6) S hB rfl (List.mem_cons_of_mem _ kn_28) (by decide) (by decide) (by decide) (Nat.le_of_ble_eq_true rfl) (Nat.le_of_ble_eq_true rfl) dX4_init_52 (fun a6 cB H hB => ?_)
  have hcc := kv_same (i := 0) (j := 1) hB rfl rfl
  subst hcc
  have hB := kv_tys (tys' := [(cA, .int)]) [0] rfl hB
  have hB : kv_B (fun _ => True) D [(cA, .int)] A s [(o, .inr (2, [.ref a1, .int (-1), .int 0, .int 0, .int 0, .int 0, .int 0, .ref a2, .ref a3, .ref a4, .ref a5, .null, .int 0, .int 0])), (a1, .inl (cA, 80, .inl (fun _ => 0))), (a2, .inl (cA, 100, .inl (fun _ => 0))), (a3, .inl (cA, 100, .inl (fun _ => 0))), (a4, .inl (cA, 80, .inl (fun _ => 0))), (a5, .inl (cA, 8, .inl (fun _ => 0))), (a6, .inl (cA, 6, .inl (fun _ => 0)))] H locs := hB
  refine kv_putr (C := RX4) (T := TX4) (M := 14) (ci := 2) (v := a6) (ty := (.array .int)) S hB (kn_c kn_iX4) tyX4 tyX4_ok nmX4 0 rfl rfl 11 (by decide) (List.mem_cons_of_mem _ kn_244) rfl rfl (by decide +kernel) rfl rfl (Nat.le_of_ble_eq_true rfl) dX4_init_54 (fun H locs hB => ?_)
  have hB : kv_B (fun _ => True) D [(cA, .int)] A s [(o, .inr (2, [.ref a1, .int (-1), .int 0, .int 0, .int 0, .int 0, .int 0, .ref a2, .ref a3, .ref a4, .ref a5, .ref a6, .int 0, .int 0])), (a1, .inl (cA, 80, .inl (fun _ => 0))), (a2, .inl (cA, 100, .inl (fun _ => 0))), (a3, .inl (cA, 100, .inl (fun _ => 0))), (a4, .inl (cA, 80, .inl (fun _ => 0))), (a5, .inl (cA, 8, .inl (fun _ => 0))), (a6, .inl (cA, 6, .inl (fun _ => 0)))] H locs := hB
  exact K _ _ ((a1, a2, a3, a4, a5, a6), cA) _ _ hB dX4_init_57
