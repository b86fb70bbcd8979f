abbrev kr_DI_wordAt : Room := { frames := 0, cells := 0, slots := 0, locals := 0 }
set_option maxRecDepth 100000 in
set_option maxHeartbeats 4000000 in
theorem kc_DI_wordAt (l : Launch) (N : State → Prop) (hN : kv_Mv N) (D : va_G) (cA : ClassId) (h d w r : Nat) (σ : kp_S) (g : Nat → Int32) (dv dk pk : Int32) (x : Int32) : kv_I N l yX1_wordAt wsX1_wordAt kr_DI_wordAt D [(cA, .int)] [.ref d, .int x] (vo_W h d w r cA σ g dv dk pk) (kp_at σ.1 x) (vo_W h d w r cA σ g dv dk pk) := by
  refine kv_openI (cc := cX1_wordAt) (maxL := 2) (rt := .int) (by decide) rfl (rfl) (Nat.le_of_ble_eq_true rfl) ?_
  intro p e s m args below meth c A H locs ls Q S hl hB K
  have hl : lv_has ls 2 [(0, .ref d), (1, .int x)] := hl
  refine lv_iload_n S.1 S.2.1 dX1_wordAt_0 rfl (lv_at hl 1 rfl) ?_
  refine lv_if_lt (tgt := 19) S.1 S.2.1 dX1_wordAt_1 (by decide) (fun h_1 => ?_) (fun h_1 => ?_)
  · skip
    refine lv_iconst (v := 0) S.1 S.2.1 dX1_wordAt_19 (by decide) ?_
    exact K _ _ _ _ _ _ hB (by first | rw [kp_at, if_pos h_1] | rw [kp_at, if_neg h_1, if_pos h_7] | rw [kp_at, if_neg h_1, if_neg h_7, ej, nI_clamp (by omega)]) (rfl) dX1_wordAt_20
  · skip
    refine lv_iload_n S.1 S.2.1 dX1_wordAt_4 rfl (lv_at hl 1 rfl) ?_
    refine lv_bipush (v := 80) S.1 S.2.1 dX1_wordAt_5 (by decide) ?_
    refine lv_icmp_ge (tgt := 19) S.1 S.2.1 dX1_wordAt_7 (by decide) (fun h_7 => ?_) (fun h_7 => ?_)
    · skip
      refine lv_iconst (v := 0) S.1 S.2.1 dX1_wordAt_19 (by decide) ?_
      exact K _ _ _ _ _ _ hB (by first | rw [kp_at, if_pos h_1] | rw [kp_at, if_neg h_1, if_pos h_7] | rw [kp_at, if_neg h_1, if_neg h_7, ej, nI_clamp (by omega)]) (rfl) dX1_wordAt_20
    · skip
      refine lv_aload_n S.1 S.2.1 dX1_wordAt_10 rfl (lv_at hl 0 rfl) ?_
      refine kv_get (C := RX1) (T := TX1) (M := 3) (ci := 0) S hB (kn_c kn_iX1) 1 rfl rfl 0 (by decide) (List.mem_cons_of_mem _ kn_22) rfl rfl dX1_wordAt_11 ?_
      refine lv_iload_n S.1 S.2.1 dX1_wordAt_14 rfl (lv_at hl 1 rfl) ?_
      obtain ⟨j, hj, ej⟩ := kp_ix h_1 h_7
      refine kv_iald S hB 2 0 rfl rfl j ej (by omega) (by decide) dX1_wordAt_15 ?_
      refine lv_goto (tgt := 20) S.1 S.2.1 dX1_wordAt_16 (by decide) ?_
      exact K _ _ _ _ _ _ hB (by first | rw [kp_at, if_pos h_1] | rw [kp_at, if_neg h_1, if_pos h_7] | rw [kp_at, if_neg h_1, if_neg h_7, ej, nI_clamp (by omega)]) (rfl) dX1_wordAt_20

theorem kc_DI_wordAtN (l : Launch) (N : State → Prop) (hN : kv_Mv N) (D : va_G) (cA : ClassId) (h d w r : Nat) (σ : kp_S) (g : Nat → Int32) (dv dk pk : Int32) (j : Nat) (hj : j < 80) : kv_I N l yX1_wordAt wsX1_wordAt kr_DI_wordAt D [(cA, .int)] [.ref d, .int (nI j)] (vo_W h d w r cA σ g dv dk pk) (σ.1 j) (vo_W h d w r cA σ g dv dk pk) := by
  have hh := kc_DI_wordAt l N hN D cA h d w r σ g dv dk pk (nI j)
  rw [kp_at_n _ hj] at hh
  exact hh

abbrev kr_DI_put : Room := { frames := 0, cells := 0, slots := 0, locals := 0 }
set_option maxRecDepth 100000 in
set_option maxHeartbeats 4000000 in
theorem kc_DI_put (l : Launch) (N : State → Prop) (hN : kv_Mv N) (D : va_G) (cA : ClassId) (h d w r : Nat) (σ : kp_S) (g : Nat → Int32) (dv dk pk : Int32) (j : Nat) (x : Int32) (hj : j < 80) : kv_I N l yX1_put wsX1_put kr_DI_put D [(cA, .int)] [.ref d, .int (nI j), .int x] (vo_W h d w r cA σ g dv dk pk) ((kp_run [(j, x)] σ).1) (vo_W h d w r cA ((kp_run [(j, x)] σ).2) g dv dk pk) := by
  refine kv_openI (cc := cX1_put) (maxL := 3) (rt := .boolean) (by decide) rfl (kp_run_z _ _) (Nat.le_of_ble_eq_true rfl) ?_
  intro p e s m args below meth c A H locs ls Q S hl hB K
  have hl : lv_has ls 3 [(0, .ref d), (1, .int (nI j)), (2, .int x)] := hl
  refine lv_aload_n S.1 S.2.1 dX1_put_0 rfl (lv_at hl 0 rfl) ?_
  refine kv_get (C := RX1) (T := TX1) (M := 3) (ci := 0) S hB (kn_c kn_iX1) 1 rfl rfl 2 (by decide) (List.mem_cons_of_mem _ kn_24) rfl rfl dX1_put_1 ?_
  refine lv_if_ne (tgt := 14) S.1 S.2.1 dX1_put_4 (by decide) (fun h_4 => ?_) (fun h_4 => ?_)
  · skip
    refine lv_aload_n S.1 S.2.1 dX1_put_14 rfl (lv_at hl 0 rfl) ?_
    refine kv_get (C := RX1) (T := TX1) (M := 3) (ci := 0) S hB (kn_c kn_iX1) 1 rfl rfl 2 (by decide) (List.mem_cons_of_mem _ kn_24) rfl rfl dX1_put_15 ?_
    refine lv_if_le (tgt := 31) S.1 S.2.1 dX1_put_18 (by decide) (fun h_18 => ?_) (fun h_18 => ?_)
    · skip
      refine lv_aload_n S.1 S.2.1 dX1_put_31 rfl (lv_at hl 0 rfl) ?_
      refine lv_dup S.1 S.2.1 dX1_put_32 rfl ?_
      refine kv_get (C := RX1) (T := TX1) (M := 3) (ci := 0) S hB (kn_c kn_iX1) 1 rfl rfl 1 (by decide) (List.mem_cons_of_mem _ kn_23) rfl rfl dX1_put_33 ?_
      refine lv_iconst (v := 1) S.1 S.2.1 dX1_put_36 (by decide) ?_
      refine lv_iadd S.1 S.2.1 dX1_put_37 ?_
      refine kv_put (C := RX1) (T := TX1) (M := 3) (ci := 0) (v := σ.2.1 + 1) S hB (kn_c kn_iX1) tyX1 tyX1_ok nmX1 1 rfl rfl 1 (by decide) (List.mem_cons_of_mem _ kn_23) rfl rfl rfl (Nat.le_of_ble_eq_true rfl) dX1_put_38 (fun H locs hB => ?_)
      have hB : kv_B N D [(cA, .int)] A s (vo_W h d w r cA (σ.1, σ.2.1 + 1, σ.2.2) g dv dk pk) H locs := hB
      refine lv_iload_n S.1 S.2.1 dX1_put_41 rfl (lv_at hl 1 rfl) ?_
      refine kv_blt0 (x := j) (tgt := 58) S (by omega) dX1_put_42 (by decide) ?_
      refine lv_iload_n S.1 S.2.1 dX1_put_45 rfl (lv_at hl 1 rfl) ?_
      refine lv_bipush (v := 80) S.1 S.2.1 dX1_put_46 (by decide) ?_
      refine kv_bge (x := j) (y := 80) (tgt := 58) S (by omega) (by omega) dX1_put_48 (by decide) (fun h => absurd h (by omega)) (fun h_48 => ?_)
      refine lv_aload_n S.1 S.2.1 dX1_put_51 rfl (lv_at hl 0 rfl) ?_
      refine kv_get (C := RX1) (T := TX1) (M := 3) (ci := 0) S hB (kn_c kn_iX1) 1 rfl rfl 0 (by decide) (List.mem_cons_of_mem _ kn_22) rfl rfl dX1_put_52 ?_
      refine lv_iload_n S.1 S.2.1 dX1_put_55 rfl (lv_at hl 1 rfl) ?_
      refine lv_iload_n S.1 S.2.1 dX1_put_56 rfl (lv_at hl 2 rfl) ?_
      refine kv_iast S hB 2 0 rfl rfl j rfl (by omega) (by decide) dX1_put_57 (fun H locs hB => ?_)
      have hB : kv_B N D [(cA, .int)] A s (vo_W h d w r cA (upd σ.1 j x, σ.2.1 + 1, σ.2.2) g dv dk pk) H locs := hB
      refine lv_iconst (v := 1) S.1 S.2.1 dX1_put_58 (by decide) ?_
      exact K _ _ _ _ _ _ hB (by rw [kp_run, if_neg h_4]; rfl) (by rw [kp_run, if_neg h_4]; show _ = vo_W h d w r cA (kp_put σ j x) g dv dk pk; first | rw [kp_put, if_pos h_18] | rw [kp_put, if_neg h_18]) dX1_put_59
    · skip
      refine lv_aload_n S.1 S.2.1 dX1_put_21 rfl (lv_at hl 0 rfl) ?_
      refine lv_dup S.1 S.2.1 dX1_put_22 rfl ?_
      refine kv_get (C := RX1) (T := TX1) (M := 3) (ci := 0) S hB (kn_c kn_iX1) 1 rfl rfl 2 (by decide) (List.mem_cons_of_mem _ kn_24) rfl rfl dX1_put_23 ?_
      refine lv_iconst (v := 1) S.1 S.2.1 dX1_put_26 (by decide) ?_
      refine lv_isub S.1 S.2.1 dX1_put_27 ?_
      refine kv_put (C := RX1) (T := TX1) (M := 3) (ci := 0) (v := σ.2.2 - 1) S hB (kn_c kn_iX1) tyX1 tyX1_ok nmX1 1 rfl rfl 2 (by decide) (List.mem_cons_of_mem _ kn_24) rfl rfl rfl (Nat.le_of_ble_eq_true rfl) dX1_put_28 (fun H locs hB => ?_)
      have hB : kv_B N D [(cA, .int)] A s (vo_W h d w r cA (σ.1, σ.2.1, σ.2.2 - 1) g dv dk pk) H locs := hB
      refine lv_aload_n S.1 S.2.1 dX1_put_31 rfl (lv_at hl 0 rfl) ?_
      refine lv_dup S.1 S.2.1 dX1_put_32 rfl ?_
      refine kv_get (C := RX1) (T := TX1) (M := 3) (ci := 0) S hB (kn_c kn_iX1) 1 rfl rfl 1 (by decide) (List.mem_cons_of_mem _ kn_23) rfl rfl dX1_put_33 ?_
      refine lv_iconst (v := 1) S.1 S.2.1 dX1_put_36 (by decide) ?_
      refine lv_iadd S.1 S.2.1 dX1_put_37 ?_
      refine kv_put (C := RX1) (T := TX1) (M := 3) (ci := 0) (v := σ.2.1 + 1) S hB (kn_c kn_iX1) tyX1 tyX1_ok nmX1 1 rfl rfl 1 (by decide) (List.mem_cons_of_mem _ kn_23) rfl rfl rfl (Nat.le_of_ble_eq_true rfl) dX1_put_38 (fun H locs hB => ?_)
      have hB : kv_B N D [(cA, .int)] A s (vo_W h d w r cA (σ.1, σ.2.1 + 1, σ.2.2 - 1) g dv dk pk) H locs := hB
      refine lv_iload_n S.1 S.2.1 dX1_put_41 rfl (lv_at hl 1 rfl) ?_
      refine kv_blt0 (x := j) (tgt := 58) S (by omega) dX1_put_42 (by decide) ?_
      refine lv_iload_n S.1 S.2.1 dX1_put_45 rfl (lv_at hl 1 rfl) ?_
      refine lv_bipush (v := 80) S.1 S.2.1 dX1_put_46 (by decide) ?_
      refine kv_bge (x := j) (y := 80) (tgt := 58) S (by omega) (by omega) dX1_put_48 (by decide) (fun h => absurd h (by omega)) (fun h_48 => ?_)
      refine lv_aload_n S.1 S.2.1 dX1_put_51 rfl (lv_at hl 0 rfl) ?_
      refine kv_get (C := RX1) (T := TX1) (M := 3) (ci := 0) S hB (kn_c kn_iX1) 1 rfl rfl 0 (by decide) (List.mem_cons_of_mem _ kn_22) rfl rfl dX1_put_52 ?_
      refine lv_iload_n S.1 S.2.1 dX1_put_55 rfl (lv_at hl 1 rfl) ?_
      refine lv_iload_n S.1 S.2.1 dX1_put_56 rfl (lv_at hl 2 rfl) ?_
      refine kv_iast S hB 2 0 rfl rfl j rfl (by omega) (by decide) dX1_put_57 (fun H locs hB => ?_)
      have hB : kv_B N D [(cA, .int)] A s (vo_W h d w r cA (upd σ.1 j x, σ.2.1 + 1, σ.2.2 - 1) g dv dk pk) H locs := hB
      refine lv_iconst (v := 1) S.1 S.2.1 dX1_put_58 (by decide) ?_
      exact K _ _ _ _ _ _ hB (by rw [kp_run, if_neg h_4]; rfl) (by rw [kp_run, if_neg h_4]; show _ = vo_W h d w r cA (kp_put σ j x) g dv dk pk; first | rw [kp_put, if_pos h_18] | rw [kp_put, if_neg h_18]) dX1_put_59
  · skip
    refine lv_aload_n S.1 S.2.1 dX1_put_7 rfl (lv_at hl 0 rfl) ?_
    refine lv_iconst (v := (-1)) S.1 S.2.1 dX1_put_8 (by decide) ?_
    refine kv_put (C := RX1) (T := TX1) (M := 3) (ci := 0) (v := (-1)) S hB (kn_c kn_iX1) tyX1 tyX1_ok nmX1 1 rfl rfl 2 (by decide) (List.mem_cons_of_mem _ kn_24) rfl rfl rfl (Nat.le_of_ble_eq_true rfl) dX1_put_9 (fun H locs hB => ?_)
    have hB : kv_B N D [(cA, .int)] A s (vo_W h d w r cA (σ.1, σ.2.1, (-1)) g dv dk pk) H locs := hB
    refine lv_iconst (v := 0) S.1 S.2.1 dX1_put_12 (by decide) ?_
    exact K _ _ _ _ _ _ hB (by rw [kp_run, if_pos h_4]) (by rw [kp_run, if_pos h_4]; rfl) dX1_put_13

abbrev kr_DI_clearJournal : Room := { frames := 1, cells := 0, slots := 0, locals := 22 }
set_option maxRecDepth 100000 in
set_option maxHeartbeats 4000000 in
theorem kc_DI_clearJournal (l : Launch) (N : State → Prop) (hN : kv_Mv N) (D : va_G) (cA : ClassId) (h d w r : Nat) (σ : kp_S) (g : Nat → Int32) (dv dk pk : Int32) : kv_I N l yX1_clearJournal wsX1_clearJournal kr_DI_clearJournal D [(cA, .int)] [.ref d] (vo_W h d w r cA σ g dv dk pk) ((kp_run (kp_cl 9 37 σ.1) σ).1) (vo_W h d w r cA ((kp_run (kp_cl 9 37 σ.1) σ).2) g dv dk pk) := by
  refine kv_openI (cc := cX1_clearJournal) (maxL := 2) (rt := .boolean) (by decide) rfl (kp_run_z _ _) (Nat.le_of_ble_eq_true rfl) ?_
  intro p e s m args below meth c A H locs ls Q S hl hB K
  have hl : lv_has ls 2 [(0, .ref d)] := hl
  refine lv_bipush (v := 37) S.1 S.2.1 dX1_clearJournal_0 (by decide) ?_
  refine lv_istore_n S.1 S.2.1 dX1_clearJournal_2 rfl hl (by decide) rfl (fun ls hl => ?_)
  have hl : lv_has ls 2 [(1, .int 37), (0, .ref d)] := hl
  have loop3 : ∀ (n : Nat) (j : Nat) (τ : kp_S) (H : Heap) (locs : List Loc) (ls : Array Slot), (j + n = 46) → (kp_run (kp_cl n j τ.1) τ = kp_run (kp_cl 9 37 σ.1) σ) → lv_has ls 2 [(1, .int (nI j)), (0, .ref d)] → kv_B N D [(cA, .int)] A s (vo_W h d w r cA τ g dv dk pk) H locs → W p l e kr_DI_clearJournal s m args below meth c H locs 0 0 Q (F0 m 3 ls []) := by
    intro n
    induction n with
    | zero =>
      intro j τ H locs ls hj hT hl hB
      refine lv_iload_n S.1 S.2.1 dX1_clearJournal_3 rfl (lv_at hl 0 rfl) ?_
      refine lv_bipush (v := 45) S.1 S.2.1 dX1_clearJournal_4 (by decide) ?_
      refine kv_bgt (x := j) (y := 45) (tgt := 34) S (by omega) (by omega) dX1_clearJournal_6 (by decide) (fun h_6 => ?_) (fun h => absurd h (by omega))
      refine lv_iconst (v := 1) S.1 S.2.1 dX1_clearJournal_34 (by decide) ?_
      exact K _ _ _ _ _ _ hB (by rw [← hT]; rfl) (by rw [← hT]; rfl) dX1_clearJournal_35
    | succ n ih3 =>
      intro j τ H locs ls hj hT hl hB
      refine lv_iload_n S.1 S.2.1 dX1_clearJournal_3 rfl (lv_at hl 0 rfl) ?_
      refine lv_bipush (v := 45) S.1 S.2.1 dX1_clearJournal_4 (by decide) ?_
      refine kv_bgt (x := j) (y := 45) (tgt := 34) S (by omega) (by omega) dX1_clearJournal_6 (by decide) (fun h => absurd h (by omega)) (fun h_6 => ?_)
      refine lv_aload_n S.1 S.2.1 dX1_clearJournal_9 rfl (lv_at hl 1 rfl) ?_
      refine lv_iload_n S.1 S.2.1 dX1_clearJournal_10 rfl (lv_at hl 0 rfl) ?_
      refine kv_vI (As := [.int (nI j)]) (rest := []) hN S (kc_DI_wordAtN l N hN D cA h d w r τ g dv dk pk j  (by omega)) (kn_cV (C := RX1) S kn_122 kn_115 kn_116 kn_2 kn_117 rfl kd_X1_wordAt rfl rfl ⟨Nat.le_of_ble_eq_true rfl, Nat.le_of_ble_eq_true rfl⟩) hB 1 rfl rfl rfl hl.1 rfl (Nat.le_of_ble_eq_true rfl) dX1_clearJournal_11 ⟨Nat.zero_le _, Nat.zero_le _⟩ (fun H locs hB => ?_)
      refine lv_if_eq (tgt := 28) S.1 S.2.1 dX1_clearJournal_14 (by decide) (fun h_14 => ?_) (fun h_14 => ?_)
      · skip
        refine lv_iinc (k := 0) (v := nI (j + 1)) S.1 S.2.1 dX1_clearJournal_28 hl rfl (nI_1 j) (by decide) rfl (fun ls hl => ?_)
        have hl : lv_has ls 2 [(1, .int (nI (j + 1))), (0, .ref d)] := hl
        refine lv_goto (tgt := 3) S.1 S.2.1 dX1_clearJournal_31 (by decide) ?_
        exact ih3 (j + 1) τ _ _ _ (by omega) (by rw [← hT, kp_cl, if_pos h_14]) (lv_sub hl [0, 1] rfl) hB
      · skip
        have hT1 : kp_run ((j, 0) :: kp_cl n (j + 1) (upd τ.1 j 0)) τ = kp_run (kp_cl 9 37 σ.1) σ := by rw [← hT, kp_cl, if_neg h_14]
        refine lv_aload_n S.1 S.2.1 dX1_clearJournal_17 rfl (lv_at hl 1 rfl) ?_
        refine lv_iload_n S.1 S.2.1 dX1_clearJournal_18 rfl (lv_at hl 0 rfl) ?_
        refine lv_iconst (v := 0) S.1 S.2.1 dX1_clearJournal_19 (by decide) ?_
        refine kv_vI (As := [.int (nI j), .int 0]) (rest := []) hN S (kc_DI_put l N hN D cA h d w r τ g dv dk pk j 0  (by omega)) (kn_cV (C := RX1) S kn_126 kn_100 kn_101 kn_2 kn_102 rfl kd_X1_put rfl rfl ⟨Nat.le_of_ble_eq_true rfl, Nat.le_of_ble_eq_true rfl⟩) hB 1 rfl rfl rfl hl.1 rfl (Nat.le_of_ble_eq_true rfl) dX1_clearJournal_20 ⟨Nat.zero_le _, Nat.zero_le _⟩ (fun H locs hB => ?_)
        have hB : kv_B N D [(cA, .int)] A s (vo_W h d w r cA ((kp_run [(j, 0)] τ).2) g dv dk pk) H locs := hB
        refine lv_if_ne (tgt := 28) S.1 S.2.1 dX1_clearJournal_23 (by decide) (fun h_23 => ?_) (fun h_23 => ?_)
        · skip
          refine lv_iinc (k := 0) (v := nI (j + 1)) S.1 S.2.1 dX1_clearJournal_28 hl rfl (nI_1 j) (by decide) rfl (fun ls hl => ?_)
          have hl : lv_has ls 2 [(1, .int (nI (j + 1))), (0, .ref d)] := hl
          refine lv_goto (tgt := 3) S.1 S.2.1 dX1_clearJournal_31 (by decide) ?_
          exact ih3 (j + 1) ((kp_run [(j, 0)] τ).2) _ _ _ (by omega) (kp_stepf (F := fun f => kp_cl n (j + 1) f) h_23 hT1) (lv_sub hl [0, 1] rfl) hB
        · skip
          refine lv_iconst (v := 0) S.1 S.2.1 dX1_clearJournal_26 (by decide) ?_
          exact K _ _ _ _ _ _ hB (by rw [← kp_stop h_23 hT1]; exact h_23.symm) (by rw [kp_stop h_23 hT1]) dX1_clearJournal_27
  exact loop3 9 37 σ _ _ _ (rfl) (rfl) (lv_sub hl [0, 1] rfl) hB

abbrev kr_DI_finishJournal : Room := { frames := 2, cells := 0, slots := 0, locals := 43 }
set_option maxRecDepth 100000 in
set_option maxHeartbeats 4000000 in
theorem kc_DI_finishJournal (l : Launch) (N : State → Prop) (hN : kv_Mv N) (D : va_G) (cA : ClassId) (h d w r : Nat) (σ : kp_S) (g : Nat → Int32) (dv dk pk : Int32) (q : Nat) (n0 : Nat) (hJ : kp_J σ.1 q n0) : kv_I N l yX1_finishJournal wsX1_finishJournal kr_DI_finishJournal D [(cA, .int)] [.ref d] (vo_W h d w r cA σ g dv dk pk) ((kp_run (kp_fi n0 0 q σ.1) σ).1) (vo_W h d w r cA ((kp_run (kp_fi n0 0 q σ.1) σ).2) g dv dk pk) := by
  refine kv_openI (cc := cX1_finishJournal) (maxL := 4) (rt := .boolean) (by decide) rfl (kp_run_z _ _) (Nat.le_of_ble_eq_true rfl) ?_
  intro p e s m args below meth c A H locs ls Q S hl hB K
  have hl : lv_has ls 4 [(0, .ref d)] := hl
  have hJ0 := hJ.1
  have hJ1 := hJ.2.1
  have hJ2 := hJ.2.2
  refine lv_aload_n S.1 S.2.1 dX1_finishJournal_0 rfl (lv_at hl 0 rfl) ?_
  refine lv_bipush (v := 37) S.1 S.2.1 dX1_finishJournal_1 (by decide) ?_
  refine kv_vI (As := [.int 37]) (rest := []) hN S (kc_DI_wordAtN l N hN D cA h d w r σ g dv dk pk 37  (by omega)) (kn_cV (C := RX1) S kn_122 kn_115 kn_116 kn_2 kn_117 rfl kd_X1_wordAt rfl rfl ⟨Nat.le_of_ble_eq_true rfl, Nat.le_of_ble_eq_true rfl⟩) hB 1 rfl rfl rfl hl.1 rfl (Nat.le_of_ble_eq_true rfl) dX1_finishJournal_3 ⟨Nat.zero_le _, Nat.zero_le _⟩ (fun H locs hB => ?_)
  refine lv_sipush (v := 255) S.1 S.2.1 dX1_finishJournal_6 (by decide) ?_
  refine lv_iand S.1 S.2.1 dX1_finishJournal_9 ?_
  refine kv_top (y := nI q) (by rw [hJ0]; exact kp_J_and hJ1 hJ2) ?_
  refine lv_istore_n S.1 S.2.1 dX1_finishJournal_10 rfl hl (by decide) rfl (fun ls hl => ?_)
  have hl : lv_has ls 4 [(1, .int (nI q)), (0, .ref d)] := hl
  refine lv_aload_n S.1 S.2.1 dX1_finishJournal_11 rfl (lv_at hl 1 rfl) ?_
  refine lv_bipush (v := 37) S.1 S.2.1 dX1_finishJournal_12 (by decide) ?_
  refine kv_vI (As := [.int 37]) (rest := []) hN S (kc_DI_wordAtN l N hN D cA h d w r σ g dv dk pk 37  (by omega)) (kn_cV (C := RX1) S kn_122 kn_115 kn_116 kn_2 kn_117 rfl kd_X1_wordAt rfl rfl ⟨Nat.le_of_ble_eq_true rfl, Nat.le_of_ble_eq_true rfl⟩) hB 1 rfl rfl rfl hl.1 rfl (Nat.le_of_ble_eq_true rfl) dX1_finishJournal_14 ⟨Nat.zero_le _, Nat.zero_le _⟩ (fun H locs hB => ?_)
  refine lv_bipush (v := 8) S.1 S.2.1 dX1_finishJournal_17 (by decide) ?_
  refine lv_iushr (v := kv_us (σ.1 37) 8) S.1 S.2.1 dX1_finishJournal_19 rfl ?_
  refine kv_top (y := nI n0) (by rw [hJ0]; exact kp_J_shr hJ1 hJ2) ?_
  refine lv_istore_n S.1 S.2.1 dX1_finishJournal_20 rfl hl (by decide) rfl (fun ls hl => ?_)
  have hl : lv_has ls 4 [(2, .int (nI n0)), (1, .int (nI q)), (0, .ref d)] := hl
  refine lv_iconst (v := 0) S.1 S.2.1 dX1_finishJournal_21 (by decide) ?_
  refine lv_istore_n S.1 S.2.1 dX1_finishJournal_22 rfl hl (by decide) rfl (fun ls hl => ?_)
  have hl : lv_has ls 4 [(3, .int 0), (2, .int (nI n0)), (1, .int (nI q)), (0, .ref d)] := hl
  have loop23 : ∀ (n : Nat) (i : Nat) (τ : kp_S) (H : Heap) (locs : List Loc) (ls : Array Slot), (i + n = n0) → (kp_run (kp_fi n i q τ.1) τ = kp_run (kp_fi n0 0 q σ.1) σ) → lv_has ls 4 [(3, .int (nI i)), (2, .int (nI n0)), (1, .int (nI q)), (0, .ref d)] → kv_B N D [(cA, .int)] A s (vo_W h d w r cA τ g dv dk pk) H locs → W p l e kr_DI_finishJournal s m args below meth c H locs 0 0 Q (F0 m 23 ls []) := by
    intro n
    induction n with
    | zero =>
      intro i τ H locs ls hi hT hl hB
      have hT0 : kp_run ((36, 0) :: kp_cl 9 37 (upd τ.1 36 0)) τ = kp_run (kp_fi n0 0 q σ.1) σ := hT
      refine lv_iload_n S.1 S.2.1 dX1_finishJournal_23 rfl (lv_at hl 0 rfl) ?_
      refine lv_iload_n S.1 S.2.1 dX1_finishJournal_24 rfl (lv_at hl 1 rfl) ?_
      refine kv_bge (x := i) (y := n0) (tgt := 60) S (by omega) (by omega) dX1_finishJournal_25 (by decide) (fun h_25 => ?_) (fun h => absurd h (by omega))
      refine lv_aload_n S.1 S.2.1 dX1_finishJournal_60 rfl (lv_at hl 3 rfl) ?_
      refine lv_bipush (v := 36) S.1 S.2.1 dX1_finishJournal_61 (by decide) ?_
      refine lv_iconst (v := 0) S.1 S.2.1 dX1_finishJournal_63 (by decide) ?_
      refine kv_vI (As := [.int 36, .int 0]) (rest := []) hN S (kc_DI_put l N hN D cA h d w r τ g dv dk pk 36 0  (by omega)) (kn_cV (C := RX1) S kn_126 kn_100 kn_101 kn_2 kn_102 rfl kd_X1_put rfl rfl ⟨Nat.le_of_ble_eq_true rfl, Nat.le_of_ble_eq_true rfl⟩) hB 1 rfl rfl rfl hl.1 rfl (Nat.le_of_ble_eq_true rfl) dX1_finishJournal_64 ⟨Nat.zero_le _, Nat.zero_le _⟩ (fun H locs hB => ?_)
      have hB : kv_B N D [(cA, .int)] A s (vo_W h d w r cA ((kp_run [(36, 0)] τ).2) g dv dk pk) H locs := hB
      refine lv_if_eq (tgt := 81) S.1 S.2.1 dX1_finishJournal_67 (by decide) (fun h_67 => ?_) (fun h_67 => ?_)
      · skip
        refine lv_iconst (v := 0) S.1 S.2.1 dX1_finishJournal_81 (by decide) ?_
        exact K _ _ _ _ _ _ hB (by first | (rw [← hT2]; exact h_74.symm) | (rw [← hT2]; exact (kp_run_nz h_74).symm) | (rw [← kp_stop h_67 hT0]; exact h_67.symm)) (by first | rw [hT2] | rw [kp_stop h_67 hT0]) dX1_finishJournal_82
      · skip
        have hT2 := kp_stepf (F := fun f => kp_cl 9 37 f) h_67 hT0
        refine lv_aload_n S.1 S.2.1 dX1_finishJournal_70 rfl (lv_at hl 3 rfl) ?_
        refine kv_vI (As := []) (rest := []) hN S (kc_DI_clearJournal l N hN D cA h d w r ((kp_run [(36, 0)] τ).2) g dv dk pk   ) (kn_cV (C := RX1) S kn_127 kn_128 kn_397 kn_2 kn_129 rfl kd_X1_clearJournal rfl rfl ⟨Nat.le_of_ble_eq_true rfl, Nat.le_of_ble_eq_true rfl⟩) hB 1 rfl rfl rfl hl.1 rfl (Nat.le_of_ble_eq_true rfl) dX1_finishJournal_71 ⟨Nat.zero_le _, Nat.zero_le _⟩ (fun H locs hB => ?_)
        have hB : kv_B N D [(cA, .int)] A s (vo_W h d w r cA ((kp_run (kp_cl 9 37 ((kp_run [(36, 0)] τ).2).1) ((kp_run [(36, 0)] τ).2)).2) g dv dk pk) H locs := hB
        refine lv_if_eq (tgt := 81) S.1 S.2.1 dX1_finishJournal_74 (by decide) (fun h_74 => ?_) (fun h_74 => ?_)
        · skip
          refine lv_iconst (v := 0) S.1 S.2.1 dX1_finishJournal_81 (by decide) ?_
          exact K _ _ _ _ _ _ hB (by first | (rw [← hT2]; exact h_74.symm) | (rw [← hT2]; exact (kp_run_nz h_74).symm) | (rw [← kp_stop h_67 hT0]; exact h_67.symm)) (by first | rw [hT2] | rw [kp_stop h_67 hT0]) dX1_finishJournal_82
        · skip
          refine lv_iconst (v := 1) S.1 S.2.1 dX1_finishJournal_77 (by decide) ?_
          refine lv_goto (tgt := 82) S.1 S.2.1 dX1_finishJournal_78 (by decide) ?_
          exact K _ _ _ _ _ _ hB (by first | (rw [← hT2]; exact h_74.symm) | (rw [← hT2]; exact (kp_run_nz h_74).symm) | (rw [← kp_stop h_67 hT0]; exact h_67.symm)) (by first | rw [hT2] | rw [kp_stop h_67 hT0]) dX1_finishJournal_82
    | succ n ih23 =>
      intro i τ H locs ls hi hT hl hB
      have hT0 : kp_run ((q + i, τ.1 (38 + i)) :: kp_fi n (i + 1) q (upd τ.1 (q + i) (τ.1 (38 + i)))) τ = kp_run (kp_fi n0 0 q σ.1) σ := hT
      refine lv_iload_n S.1 S.2.1 dX1_finishJournal_23 rfl (lv_at hl 0 rfl) ?_
      refine lv_iload_n S.1 S.2.1 dX1_finishJournal_24 rfl (lv_at hl 1 rfl) ?_
      refine kv_bge (x := i) (y := n0) (tgt := 60) S (by omega) (by omega) dX1_finishJournal_25 (by decide) (fun h => absurd h (by omega)) (fun h_25 => ?_)
      refine lv_iload_n S.1 S.2.1 dX1_finishJournal_28 rfl (lv_at hl 0 rfl) ?_
      refine lv_bipush (v := 8) S.1 S.2.1 dX1_finishJournal_29 (by decide) ?_
      refine kv_bge (x := i) (y := 8) (tgt := 60) S (by omega) (by omega) dX1_finishJournal_31 (by decide) (fun h => absurd h (by omega)) (fun h_31 => ?_)
      refine lv_aload_n S.1 S.2.1 dX1_finishJournal_34 rfl (lv_at hl 3 rfl) ?_
      refine lv_iload_n S.1 S.2.1 dX1_finishJournal_35 rfl (lv_at hl 2 rfl) ?_
      refine lv_iload_n S.1 S.2.1 dX1_finishJournal_36 rfl (lv_at hl 0 rfl) ?_
      refine lv_iadd S.1 S.2.1 dX1_finishJournal_37 ?_
      refine kv_top (y := nI (q + i)) (nI_add q i) ?_
      refine lv_aload_n S.1 S.2.1 dX1_finishJournal_38 rfl (lv_at hl 3 rfl) ?_
      refine lv_bipush (v := 38) S.1 S.2.1 dX1_finishJournal_39 (by decide) ?_
      refine lv_iload_n S.1 S.2.1 dX1_finishJournal_41 rfl (lv_at hl 0 rfl) ?_
      refine lv_iadd S.1 S.2.1 dX1_finishJournal_42 ?_
      refine kv_top (y := nI (38 + i)) (nI_add 38 i) ?_
      refine kv_vI (As := [.int (nI (38 + i))]) (rest := [.int (nI (q + i)), .ref d]) hN S (kc_DI_wordAtN l N hN D cA h d w r τ g dv dk pk (38 + i)  (by omega)) (kn_cV (C := RX1) S kn_122 kn_115 kn_116 kn_2 kn_117 rfl kd_X1_wordAt rfl rfl ⟨Nat.le_of_ble_eq_true rfl, Nat.le_of_ble_eq_true rfl⟩) hB 1 rfl rfl rfl hl.1 rfl (Nat.le_of_ble_eq_true rfl) dX1_finishJournal_43 ⟨Nat.zero_le _, Nat.zero_le _⟩ (fun H locs hB => ?_)
      refine kv_vI (As := [.int (nI (q + i)), .int (τ.1 (38 + i))]) (rest := []) hN S (kc_DI_put l N hN D cA h d w r τ g dv dk pk (q + i) (τ.1 (38 + i))  (by omega)) (kn_cV (C := RX1) S kn_126 kn_100 kn_101 kn_2 kn_102 rfl kd_X1_put rfl rfl ⟨Nat.le_of_ble_eq_true rfl, Nat.le_of_ble_eq_true rfl⟩) hB 1 rfl rfl rfl hl.1 rfl (Nat.le_of_ble_eq_true rfl) dX1_finishJournal_46 ⟨Nat.zero_le _, Nat.zero_le _⟩ (fun H locs hB => ?_)
      have hB : kv_B N D [(cA, .int)] A s (vo_W h d w r cA ((kp_run [(q + i, τ.1 (38 + i))] τ).2) g dv dk pk) H locs := hB
      refine lv_if_ne (tgt := 54) S.1 S.2.1 dX1_finishJournal_49 (by decide) (fun h_49 => ?_) (fun h_49 => ?_)
      · skip
        refine lv_iinc (k := 0) (v := nI (i + 1)) S.1 S.2.1 dX1_finishJournal_54 hl rfl (nI_1 i) (by decide) rfl (fun ls hl => ?_)
        have hl : lv_has ls 4 [(3, .int (nI (i + 1))), (2, .int (nI n0)), (1, .int (nI q)), (0, .ref d)] := hl
        refine lv_goto (tgt := 23) S.1 S.2.1 dX1_finishJournal_57 (by decide) ?_
        exact ih23 (i + 1) ((kp_run [(q + i, τ.1 (38 + i))] τ).2) _ _ _ (by omega) (kp_stepf (F := fun f => kp_fi n (i + 1) q f) h_49 hT0) (lv_sub hl [0, 1, 2, 3] rfl) hB
      · skip
        refine lv_iconst (v := 0) S.1 S.2.1 dX1_finishJournal_52 (by decide) ?_
        exact K _ _ _ _ _ _ hB (by rw [← kp_stop h_49 hT0]; exact h_49.symm) (by rw [kp_stop h_49 hT0]) dX1_finishJournal_53
  exact loop23 n0 0 σ _ _ _ (by omega) (rfl) (lv_sub hl [0, 1, 2, 3] rfl) hB

abbrev kr_DI_settleJournal : Room := { frames := 3, cells := 0, slots := 0, locals := 66 }
set_option maxRecDepth 100000 in
set_option maxHeartbeats 4000000 in
theorem kc_DI_settleJournal (l : Launch) (N : State → Prop) (hN : kv_Mv N) (D : va_G) (cA : ClassId) (h d w r : Nat) (σ : kp_S) (g : Nat → Int32) (dv dk pk : Int32) (q : Nat) (n0 : Nat) (hJ : σ.1 36 = 1 → kp_J σ.1 q n0) : kv_I N l yX1_settleJournal wsX1_settleJournal kr_DI_settleJournal D [(cA, .int)] [.ref d] (vo_W h d w r cA σ g dv dk pk) ((kp_run (kp_se q n0 σ.1) σ).1) (vo_W h d w r cA ((kp_run (kp_se q n0 σ.1) σ).2) g dv dk pk) := by
  refine kv_openI (cc := cX1_settleJournal) (maxL := 1) (rt := .boolean) (by decide) rfl (kp_run_z _ _) (Nat.le_of_ble_eq_true rfl) ?_
  intro p e s m args below meth c A H locs ls Q S hl hB K
  have hl : lv_has ls 1 [(0, .ref d)] := hl
  refine lv_aload_n S.1 S.2.1 dX1_settleJournal_0 rfl (lv_at hl 0 rfl) ?_
  refine lv_bipush (v := 36) S.1 S.2.1 dX1_settleJournal_1 (by decide) ?_
  refine kv_vI (As := [.int 36]) (rest := []) hN S (kc_DI_wordAtN l N hN D cA h d w r σ g dv dk pk 36  (by omega)) (kn_cV (C := RX1) S kn_122 kn_115 kn_116 kn_2 kn_117 rfl kd_X1_wordAt rfl rfl ⟨Nat.le_of_ble_eq_true rfl, Nat.le_of_ble_eq_true rfl⟩) hB 1 rfl rfl rfl hl.1 rfl (Nat.le_of_ble_eq_true rfl) dX1_settleJournal_3 ⟨Nat.zero_le _, Nat.zero_le _⟩ (fun H locs hB => ?_)
  refine lv_iconst (v := 1) S.1 S.2.1 dX1_settleJournal_6 (by decide) ?_
  refine lv_icmp_ne (tgt := 17) S.1 S.2.1 dX1_settleJournal_7 (by decide) (fun h_7 => ?_) (fun h_7 => ?_)
  · skip
    refine lv_aload_n S.1 S.2.1 dX1_settleJournal_17 rfl (lv_at hl 0 rfl) ?_
    refine kv_vI (As := []) (rest := []) hN S (kc_DI_clearJournal l N hN D cA h d w r σ g dv dk pk   ) (kn_cV (C := RX1) S kn_127 kn_128 kn_397 kn_2 kn_129 rfl kd_X1_clearJournal rfl rfl ⟨Nat.le_of_ble_eq_true rfl, Nat.le_of_ble_eq_true rfl⟩) hB 1 rfl rfl rfl hl.1 rfl (Nat.le_of_ble_eq_true rfl) dX1_settleJournal_18 ⟨Nat.zero_le _, Nat.zero_le _⟩ (fun H locs hB => ?_)
    have hB : kv_B N D [(cA, .int)] A s (vo_W h d w r cA ((kp_run (kp_cl 9 37 σ.1) σ).2) g dv dk pk) H locs := hB
    exact K _ _ _ _ _ _ hB (by first | rw [kp_se, if_pos h_7] | rw [kp_se, if_neg h_7]) (by first | rw [kp_se, if_pos h_7] | rw [kp_se, if_neg h_7]) dX1_settleJournal_21
  · skip
    refine lv_aload_n S.1 S.2.1 dX1_settleJournal_10 rfl (lv_at hl 0 rfl) ?_
    refine kv_vI (As := []) (rest := []) hN S (kc_DI_finishJournal l N hN D cA h d w r σ g dv dk pk  q n0 (hJ h_7)) (kn_cV (C := RX1) S kn_123 kn_124 kn_396 kn_2 kn_125 rfl kd_X1_finishJournal rfl rfl ⟨Nat.le_of_ble_eq_true rfl, Nat.le_of_ble_eq_true rfl⟩) hB 1 rfl rfl rfl hl.1 rfl (Nat.le_of_ble_eq_true rfl) dX1_settleJournal_11 ⟨Nat.zero_le _, Nat.zero_le _⟩ (fun H locs hB => ?_)
    have hB : kv_B N D [(cA, .int)] A s (vo_W h d w r cA ((kp_run (kp_fi n0 0 q σ.1) σ).2) g dv dk pk) H locs := hB
    refine lv_goto (tgt := 21) S.1 S.2.1 dX1_settleJournal_14 (by decide) ?_
    exact K _ _ _ _ _ _ hB (by first | rw [kp_se, if_pos h_7] | rw [kp_se, if_neg h_7]) (by first | rw [kp_se, if_pos h_7] | rw [kp_se, if_neg h_7]) dX1_settleJournal_21

abbrev kr_DI_replaceByJournal : Room := { frames := 3, cells := 0, slots := 0, locals := 66 }
set_option maxRecDepth 100000 in
set_option maxHeartbeats 4000000 in
theorem kc_DI_replaceByJournal (l : Launch) (N : State → Prop) (hN : kv_Mv N) (D : va_G) (cA : ClassId) (h d w r : Nat) (σ : kp_S) (g : Nat → Int32) (dv dk pk : Int32) (q : Nat) (n0 : Nat) (hq : q + n0 ≤ 80) (hn : n0 ≤ 8) : kv_I N l yX1_replaceByJournal wsX1_replaceByJournal kr_DI_replaceByJournal D [(cA, .int)] [.ref d, .int (nI q), .int (nI n0), .ref r] (vo_W h d w r cA σ g dv dk pk) ((kp_run (kp_ch n0 0 n0 q g σ.1) σ).1) (vo_W h d w r cA ((kp_run (kp_ch n0 0 n0 q g σ.1) σ).2) g dv dk pk) := by
  refine kv_openI (cc := cX1_replaceByJournal) (maxL := 5) (rt := .boolean) (by decide) rfl (kp_run_z _ _) (Nat.le_of_ble_eq_true rfl) ?_
  intro p e s m args below meth c A H locs ls Q S hl hB K
  have hl : lv_has ls 5 [(0, .ref d), (1, .int (nI q)), (2, .int (nI n0)), (3, .ref r)] := hl
  refine lv_iconst (v := 0) S.1 S.2.1 dX1_replaceByJournal_0 (by decide) ?_
  refine lv_istore S.1 S.2.1 dX1_replaceByJournal_1 hl (by decide) rfl (fun ls hl => ?_)
  have hl : lv_has ls 5 [(4, .int 0), (0, .ref d), (1, .int (nI q)), (2, .int (nI n0)), (3, .ref r)] := hl
  have loop3 : ∀ (n : Nat) (i : Nat) (τ : kp_S) (H : Heap) (locs : List Loc) (ls : Array Slot), (i + n = n0) → (kp_run (kp_ch n i n0 q g τ.1) τ = kp_run (kp_ch n0 0 n0 q g σ.1) σ) → lv_has ls 5 [(4, .int (nI i)), (0, .ref d), (1, .int (nI q)), (2, .int (nI n0)), (3, .ref r)] → kv_B N D [(cA, .int)] A s (vo_W h d w r cA τ g dv dk pk) H locs → W p l e kr_DI_replaceByJournal s m args below meth c H locs 0 0 Q (F0 m 3 ls []) := by
    intro n
    induction n with
    | zero =>
      intro i τ H locs ls hi hT hl hB
      have hT0 : kp_run ((37, nI (q + 256 * n0)) :: (36, 1) :: kp_fi n0 0 q (upd (upd τ.1 37 (nI (q + 256 * n0))) 36 1)) τ = kp_run (kp_ch n0 0 n0 q g σ.1) σ := hT
      refine lv_iload S.1 S.2.1 dX1_replaceByJournal_3 (lv_at hl 0 rfl) ?_
      refine lv_iload_n S.1 S.2.1 dX1_replaceByJournal_5 rfl (lv_at hl 3 rfl) ?_
      refine kv_bge (x := i) (y := n0) (tgt := 40) S (by omega) (by omega) dX1_replaceByJournal_6 (by decide) (fun h_6 => ?_) (fun h => absurd h (by omega))
      refine lv_aload_n S.1 S.2.1 dX1_replaceByJournal_40 rfl (lv_at hl 1 rfl) ?_
      refine lv_bipush (v := 37) S.1 S.2.1 dX1_replaceByJournal_41 (by decide) ?_
      refine lv_iload_n S.1 S.2.1 dX1_replaceByJournal_43 rfl (lv_at hl 2 rfl) ?_
      refine lv_sipush (v := 256) S.1 S.2.1 dX1_replaceByJournal_44 (by decide) ?_
      refine lv_iload_n S.1 S.2.1 dX1_replaceByJournal_47 rfl (lv_at hl 3 rfl) ?_
      refine lv_imul S.1 S.2.1 dX1_replaceByJournal_48 ?_
      refine kv_top (y := nI (256 * n0)) (pk_mul 256 n0) ?_
      refine lv_iadd S.1 S.2.1 dX1_replaceByJournal_49 ?_
      refine kv_top (y := nI (q + (256 * n0))) (nI_add q (256 * n0)) ?_
      refine kv_vI (As := [.int 37, .int (nI (q + (256 * n0)))]) (rest := []) hN S (kc_DI_put l N hN D cA h d w r τ g dv dk pk 37 (nI (q + (256 * n0)))  (by omega)) (kn_cV (C := RX1) S kn_126 kn_100 kn_101 kn_2 kn_102 rfl kd_X1_put rfl rfl ⟨Nat.le_of_ble_eq_true rfl, Nat.le_of_ble_eq_true rfl⟩) hB 1 rfl rfl rfl hl.1 rfl (Nat.le_of_ble_eq_true rfl) dX1_replaceByJournal_50 ⟨Nat.zero_le _, Nat.zero_le _⟩ (fun H locs hB => ?_)
      have hB : kv_B N D [(cA, .int)] A s (vo_W h d w r cA ((kp_run [(37, nI (q + (256 * n0)))] τ).2) g dv dk pk) H locs := hB
      refine lv_if_eq (tgt := 77) S.1 S.2.1 dX1_replaceByJournal_53 (by decide) (fun h_53 => ?_) (fun h_53 => ?_)
      · skip
        refine lv_iconst (v := 0) S.1 S.2.1 dX1_replaceByJournal_77 (by decide) ?_
        exact K _ _ _ _ _ _ hB (by first | (rw [← hT3]; exact h_70.symm) | (rw [← hT3]; exact (kp_run_nz h_70).symm) | (rw [← kp_stop h_63 hT2]; exact h_63.symm) | (rw [← kp_stop h_53 hT0]; exact h_53.symm)) (by first | rw [hT3] | rw [kp_stop h_63 hT2] | rw [kp_stop h_53 hT0]) dX1_replaceByJournal_78
      · skip
        have hT2 := kp_stepf (F := fun f => (36, 1) :: kp_fi n0 0 q (upd f 36 1)) h_53 hT0
        refine lv_aload_n S.1 S.2.1 dX1_replaceByJournal_56 rfl (lv_at hl 1 rfl) ?_
        refine lv_bipush (v := 36) S.1 S.2.1 dX1_replaceByJournal_57 (by decide) ?_
        refine lv_iconst (v := 1) S.1 S.2.1 dX1_replaceByJournal_59 (by decide) ?_
        refine kv_vI (As := [.int 36, .int 1]) (rest := []) hN S (kc_DI_put l N hN D cA h d w r ((kp_run [(37, nI (q + (256 * n0)))] τ).2) g dv dk pk 36 1  (by omega)) (kn_cV (C := RX1) S kn_126 kn_100 kn_101 kn_2 kn_102 rfl kd_X1_put rfl rfl ⟨Nat.le_of_ble_eq_true rfl, Nat.le_of_ble_eq_true rfl⟩) hB 1 rfl rfl rfl hl.1 rfl (Nat.le_of_ble_eq_true rfl) dX1_replaceByJournal_60 ⟨Nat.zero_le _, Nat.zero_le _⟩ (fun H locs hB => ?_)
        have hB : kv_B N D [(cA, .int)] A s (vo_W h d w r cA ((kp_run [(36, 1)] ((kp_run [(37, nI (q + (256 * n0)))] τ).2)).2) g dv dk pk) H locs := hB
        refine lv_if_eq (tgt := 77) S.1 S.2.1 dX1_replaceByJournal_63 (by decide) (fun h_63 => ?_) (fun h_63 => ?_)
        · skip
          refine lv_iconst (v := 0) S.1 S.2.1 dX1_replaceByJournal_77 (by decide) ?_
          exact K _ _ _ _ _ _ hB (by first | (rw [← hT3]; exact h_70.symm) | (rw [← hT3]; exact (kp_run_nz h_70).symm) | (rw [← kp_stop h_63 hT2]; exact h_63.symm) | (rw [← kp_stop h_53 hT0]; exact h_53.symm)) (by first | rw [hT3] | rw [kp_stop h_63 hT2] | rw [kp_stop h_53 hT0]) dX1_replaceByJournal_78
        · skip
          have hT3 := kp_stepf (F := fun f => kp_fi n0 0 q f) h_63 hT2
          refine lv_aload_n S.1 S.2.1 dX1_replaceByJournal_66 rfl (lv_at hl 1 rfl) ?_
          refine kv_vI (As := []) (rest := []) hN S (kc_DI_finishJournal l N hN D cA h d w r ((kp_run [(36, 1)] ((kp_run [(37, nI (q + (256 * n0)))] τ).2)).2) g dv dk pk  q n0 (⟨by rw [kp_run_1 _ _ h_63, kp_run_1 _ _ h_53]; rfl, hq, hn⟩)) (kn_cV (C := RX1) S kn_123 kn_124 kn_396 kn_2 kn_125 rfl kd_X1_finishJournal rfl rfl ⟨Nat.le_of_ble_eq_true rfl, Nat.le_of_ble_eq_true rfl⟩) hB 1 rfl rfl rfl hl.1 rfl (Nat.le_of_ble_eq_true rfl) dX1_replaceByJournal_67 ⟨Nat.zero_le _, Nat.zero_le _⟩ (fun H locs hB => ?_)
          have hB : kv_B N D [(cA, .int)] A s (vo_W h d w r cA ((kp_run (kp_fi n0 0 q ((kp_run [(36, 1)] ((kp_run [(37, nI (q + (256 * n0)))] τ).2)).2).1) ((kp_run [(36, 1)] ((kp_run [(37, nI (q + (256 * n0)))] τ).2)).2)).2) g dv dk pk) H locs := hB
          refine lv_if_eq (tgt := 77) S.1 S.2.1 dX1_replaceByJournal_70 (by decide) (fun h_70 => ?_) (fun h_70 => ?_)
          · skip
            refine lv_iconst (v := 0) S.1 S.2.1 dX1_replaceByJournal_77 (by decide) ?_
            exact K _ _ _ _ _ _ hB (by first | (rw [← hT3]; exact h_70.symm) | (rw [← hT3]; exact (kp_run_nz h_70).symm) | (rw [← kp_stop h_63 hT2]; exact h_63.symm) | (rw [← kp_stop h_53 hT0]; exact h_53.symm)) (by first | rw [hT3] | rw [kp_stop h_63 hT2] | rw [kp_stop h_53 hT0]) dX1_replaceByJournal_78
          · skip
            refine lv_iconst (v := 1) S.1 S.2.1 dX1_replaceByJournal_73 (by decide) ?_
            refine lv_goto (tgt := 78) S.1 S.2.1 dX1_replaceByJournal_74 (by decide) ?_
            exact K _ _ _ _ _ _ hB (by first | (rw [← hT3]; exact h_70.symm) | (rw [← hT3]; exact (kp_run_nz h_70).symm) | (rw [← kp_stop h_63 hT2]; exact h_63.symm) | (rw [← kp_stop h_53 hT0]; exact h_53.symm)) (by first | rw [hT3] | rw [kp_stop h_63 hT2] | rw [kp_stop h_53 hT0]) dX1_replaceByJournal_78
    | succ n ih3 =>
      intro i τ H locs ls hi hT hl hB
      have hT0 : kp_run ((38 + i, g i) :: kp_ch n (i + 1) n0 q g (upd τ.1 (38 + i) (g i))) τ = kp_run (kp_ch n0 0 n0 q g σ.1) σ := hT
      refine lv_iload S.1 S.2.1 dX1_replaceByJournal_3 (lv_at hl 0 rfl) ?_
      refine lv_iload_n S.1 S.2.1 dX1_replaceByJournal_5 rfl (lv_at hl 3 rfl) ?_
      refine kv_bge (x := i) (y := n0) (tgt := 40) S (by omega) (by omega) dX1_replaceByJournal_6 (by decide) (fun h => absurd h (by omega)) (fun h_6 => ?_)
      refine lv_iload S.1 S.2.1 dX1_replaceByJournal_9 (lv_at hl 0 rfl) ?_
      refine lv_aload_n S.1 S.2.1 dX1_replaceByJournal_11 rfl (lv_at hl 4 rfl) ?_
      refine kv_alen S hB 3 0 rfl rfl dX1_replaceByJournal_12 ?_
      refine kv_bge (x := i) (y := 80) (tgt := 40) S (by omega) (by omega) dX1_replaceByJournal_13 (by decide) (fun h => absurd h (by omega)) (fun h_13 => ?_)
      refine lv_aload_n S.1 S.2.1 dX1_replaceByJournal_16 rfl (lv_at hl 1 rfl) ?_
      refine lv_bipush (v := 38) S.1 S.2.1 dX1_replaceByJournal_17 (by decide) ?_
      refine lv_iload S.1 S.2.1 dX1_replaceByJournal_19 (lv_at hl 0 rfl) ?_
      refine lv_iadd S.1 S.2.1 dX1_replaceByJournal_21 ?_
      refine kv_top (y := nI (38 + i)) (nI_add 38 i) ?_
      refine lv_aload_n S.1 S.2.1 dX1_replaceByJournal_22 rfl (lv_at hl 4 rfl) ?_
      refine lv_iload S.1 S.2.1 dX1_replaceByJournal_23 (lv_at hl 0 rfl) ?_
      refine kv_iald S hB 3 0 rfl rfl i rfl (by omega) (by decide) dX1_replaceByJournal_25 ?_
      refine kv_vI (As := [.int (nI (38 + i)), .int (g i)]) (rest := []) hN S (kc_DI_put l N hN D cA h d w r τ g dv dk pk (38 + i) (g i)  (by omega)) (kn_cV (C := RX1) S kn_126 kn_100 kn_101 kn_2 kn_102 rfl kd_X1_put rfl rfl ⟨Nat.le_of_ble_eq_true rfl, Nat.le_of_ble_eq_true rfl⟩) hB 1 rfl rfl rfl hl.1 rfl (Nat.le_of_ble_eq_true rfl) dX1_replaceByJournal_26 ⟨Nat.zero_le _, Nat.zero_le _⟩ (fun H locs hB => ?_)
      have hB : kv_B N D [(cA, .int)] A s (vo_W h d w r cA ((kp_run [(38 + i, g i)] τ).2) g dv dk pk) H locs := hB
      refine lv_if_ne (tgt := 34) S.1 S.2.1 dX1_replaceByJournal_29 (by decide) (fun h_29 => ?_) (fun h_29 => ?_)
      · skip
        refine lv_iinc (k := 0) (v := nI (i + 1)) S.1 S.2.1 dX1_replaceByJournal_34 hl rfl (nI_1 i) (by decide) rfl (fun ls hl => ?_)
        have hl : lv_has ls 5 [(4, .int (nI (i + 1))), (0, .ref d), (1, .int (nI q)), (2, .int (nI n0)), (3, .ref r)] := hl
        refine lv_goto (tgt := 3) S.1 S.2.1 dX1_replaceByJournal_37 (by decide) ?_
        exact ih3 (i + 1) ((kp_run [(38 + i, g i)] τ).2) _ _ _ (by omega) (kp_stepf (F := fun f => kp_ch n (i + 1) n0 q g f) h_29 hT0) (lv_sub hl [0, 1, 2, 3, 4] rfl) hB
      · skip
        refine lv_iconst (v := 0) S.1 S.2.1 dX1_replaceByJournal_32 (by decide) ?_
        exact K _ _ _ _ _ _ hB (by rw [← kp_stop h_29 hT0]; exact h_29.symm) (by rw [kp_stop h_29 hT0]) dX1_replaceByJournal_33
  exact loop3 n0 0 σ _ _ _ (by omega) (rfl) (lv_sub hl [0, 1, 2, 3, 4] rfl) hB
