abbrev kr_MO_cut : Room := { frames := 0, cells := 0, slots := 0, locals := 0 }
set_option maxRecDepth 100000 in
set_option maxHeartbeats 4000000 in
theorem kc_MO_cut (l : Launch) (N : State → Prop) (hN : kv_Mv N) (D : va_G) (cA : ClassId) (o a1 a2 a3 a4 a5 a6 : Nat) (σ : kp_S) (dv ka kb : Int32) (μ : kp_P) (fr st : Nat → Int32) (oa ob : Int32) (x : Int32) : kv_I N l yX4_cut wsX4_cut kr_MO_cut D [(cA, .int)] [.ref o, .int x] (mo_W o a1 a2 a3 a4 a5 a6 cA σ dv ka kb μ fr st oa ob) ((kp_y_cut (σ, dv, ka, kb, μ, fr, st, oa, ob) x).1) (mo_T o a1 a2 a3 a4 a5 a6 cA (kp_y_cut (σ, dv, ka, kb, μ, fr, st, oa, ob) x).2) := by
  refine kv_openI (cc := cX4_cut) (maxL := 2) (rt := .boolean) (by decide) rfl (kp_y_cut_z _ _) (Nat.le_of_ble_eq_true rfl) ?_
  intro p e s m args below meth c A H locs ls Q S hl hB K
  have hl : lv_has ls 2 [(0, .ref o), (1, .int x)] := hl
  refine lv_iload_n S.1 S.2.1 dX4_cut_0 rfl (lv_at hl 1 rfl) ?_
  refine lv_iconst (v := (-1)) S.1 S.2.1 dX4_cut_1 (by decide) ?_
  refine lv_icmp_ge (tgt := 7) S.1 S.2.1 dX4_cut_2 (by decide) (fun h_2 => ?_) (fun h_2 => ?_)
  · skip
    refine lv_aload_n S.1 S.2.1 dX4_cut_7 rfl (lv_at hl 0 rfl) ?_
    refine lv_iload_n S.1 S.2.1 dX4_cut_8 rfl (lv_at hl 1 rfl) ?_
    refine kv_put (C := RX4) (T := TX4) (M := 14) (ci := 2) (v := x) S hB (kn_c kn_iX4) tyX4 tyX4_ok nmX4 0 rfl rfl 1 (by decide) (List.mem_cons_of_mem _ kn_234) rfl rfl rfl (Nat.le_of_ble_eq_true rfl) dX4_cut_9 (fun H locs hB => ?_)
    have hB : kv_B N D [(cA, .int)] A s (mo_W o a1 a2 a3 a4 a5 a6 cA (σ.1, σ.2.1, x) dv ka kb μ fr st oa ob) H locs := hB
    refine lv_iconst (v := 1) S.1 S.2.1 dX4_cut_12 (by decide) ?_
    exact K _ _ _ _ _ _ hB (by first | (rw [kp_y_cut, if_pos h_2]) | (rw [kp_y_cut, if_pos h_2]; rfl)) (by first | (rw [kp_y_cut, if_pos h_2]) | (rw [kp_y_cut, if_pos h_2]; rfl)) dX4_cut_13
  · skip
    refine lv_iconst (v := 0) S.1 S.2.1 dX4_cut_5 (by decide) ?_
    exact K _ _ _ _ _ _ hB (by first | (rw [kp_y_cut, if_neg h_2]) | (rw [kp_y_cut, if_neg h_2]; rfl)) (by first | (rw [kp_y_cut, if_neg h_2]) | (rw [kp_y_cut, if_neg h_2]; rfl)) dX4_cut_6

abbrev kr_MO_closed : Room := { frames := 0, cells := 0, slots := 0, locals := 0 }
set_option maxRecDepth 100000 in
set_option maxHeartbeats 4000000 in
theorem kc_MO_closed (l : Launch) (N : State → Prop) (hN : kv_Mv N) (D : va_G) (cA : ClassId) (o a1 a2 a3 a4 a5 a6 : Nat) (σ : kp_S) (dv ka kb : Int32) (μ : kp_P) (fr st : Nat → Int32) (oa ob : Int32) : kv_I N l yX4_closed wsX4_closed kr_MO_closed D [(cA, .int)] [.ref o] (mo_W o a1 a2 a3 a4 a5 a6 cA σ dv ka kb μ fr st oa ob) (kp_ro dv) (mo_W o a1 a2 a3 a4 a5 a6 cA σ dv ka kb μ fr st oa ob) := by
  refine kv_openI (cc := cX4_closed) (maxL := 1) (rt := .int) (by decide) rfl (rfl) (Nat.le_of_ble_eq_true rfl) ?_
  intro p e s m args below meth c A H locs ls Q S hl hB K
  have hl : lv_has ls 1 [(0, .ref o)] := hl
  refine lv_aload_n S.1 S.2.1 dX4_closed_0 rfl (lv_at hl 0 rfl) ?_
  refine kv_get (C := RX4) (T := TX4) (M := 14) (ci := 2) S hB (kn_c kn_iX4) 0 rfl rfl 3 (by decide) (List.mem_cons_of_mem _ kn_236) rfl rfl dX4_closed_1 ?_
  refine lv_if_ne (tgt := 12) S.1 S.2.1 dX4_closed_4 (by decide) (fun h_4 => ?_) (fun h_4 => ?_)
  · skip
    refine lv_aload_n S.1 S.2.1 dX4_closed_12 rfl (lv_at hl 0 rfl) ?_
    refine kv_get (C := RX4) (T := TX4) (M := 14) (ci := 2) S hB (kn_c kn_iX4) 0 rfl rfl 3 (by decide) (List.mem_cons_of_mem _ kn_236) rfl rfl dX4_closed_13 ?_
    refine lv_iconst (v := 1) S.1 S.2.1 dX4_closed_16 (by decide) ?_
    refine lv_icmp_ne (tgt := 25) S.1 S.2.1 dX4_closed_17 (by decide) (fun h_17 => ?_) (fun h_17 => ?_)
    · skip
      refine lv_iconst (v := 0) S.1 S.2.1 dX4_closed_25 (by decide) ?_
      exact K _ _ _ _ _ _ hB (by first | rw [kp_ro, if_pos h_4] | rw [kp_ro, if_neg h_4, if_pos h_17] | rw [kp_ro, if_neg h_4, if_neg h_17]) (rfl) dX4_closed_26
    · skip
      refine lv_bipush (v := (-4)) S.1 S.2.1 dX4_closed_20 (by decide) ?_
      refine lv_goto (tgt := 26) S.1 S.2.1 dX4_closed_22 (by decide) ?_
      exact K _ _ _ _ _ _ hB (by first | rw [kp_ro, if_pos h_4] | rw [kp_ro, if_neg h_4, if_pos h_17] | rw [kp_ro, if_neg h_4, if_neg h_17]) (rfl) dX4_closed_26
  · skip
    refine lv_bipush (v := (-2)) S.1 S.2.1 dX4_closed_7 (by decide) ?_
    refine lv_goto (tgt := 26) S.1 S.2.1 dX4_closed_9 (by decide) ?_
    exact K _ _ _ _ _ _ hB (by first | rw [kp_ro, if_pos h_4] | rw [kp_ro, if_neg h_4, if_pos h_17] | rw [kp_ro, if_neg h_4, if_neg h_17]) (rfl) dX4_closed_26

abbrev kr_MO_badSlot : Room := { frames := 1, cells := 0, slots := 0, locals := 21 }
set_option maxRecDepth 100000 in
set_option maxHeartbeats 4000000 in
theorem kc_MO_badSlot (l : Launch) (N : State → Prop) (hN : kv_Mv N) (D : va_G) (cA : ClassId) (o a1 a2 a3 a4 a5 a6 : Nat) (σ : kp_S) (dv ka kb : Int32) (μ : kp_P) (fr st : Nat → Int32) (oa ob : Int32) (x : Int32) : kv_I N l yX4_badSlot wsX4_badSlot kr_MO_badSlot D [(cA, .int)] [.ref o, .int x] (mo_W o a1 a2 a3 a4 a5 a6 cA σ dv ka kb μ fr st oa ob) (kp_rs σ.1 dv x) (mo_W o a1 a2 a3 a4 a5 a6 cA σ dv ka kb μ fr st oa ob) := by
  refine kv_openI (cc := cX4_badSlot) (maxL := 2) (rt := .int) (by decide) rfl (rfl) (Nat.le_of_ble_eq_true rfl) ?_
  intro p e s m args below meth c A H locs ls Q S hl hB K
  have hl : lv_has ls 2 [(0, .ref o), (1, .int x)] := hl
  refine lv_aload_n S.1 S.2.1 dX4_badSlot_0 rfl (lv_at hl 0 rfl) ?_
  refine kv_vI (As := []) (rest := []) hN S (kc_MO_closed l N hN D cA o a1 a2 a3 a4 a5 a6 σ dv ka kb μ fr st oa ob   ) (kn_cV (C := RX4) S kn_344 kn_345 kn_418 kn_3 kn_346 rfl kd_X4_closed rfl rfl ⟨Nat.le_of_ble_eq_true rfl, Nat.le_of_ble_eq_true rfl⟩) hB 0 rfl rfl rfl hl.1 rfl (Nat.le_of_ble_eq_true rfl) dX4_badSlot_1 ⟨Nat.zero_le _, Nat.zero_le _⟩ (fun H locs hB => ?_)
  refine lv_if_ge (tgt := 12) S.1 S.2.1 dX4_badSlot_4 (by decide) (fun h_4 => ?_) (fun h_4 => ?_)
  · skip
    have h_ro := kp_ro_ge h_4
    refine lv_iload_n S.1 S.2.1 dX4_badSlot_12 rfl (lv_at hl 1 rfl) ?_
    refine lv_if_lt (tgt := 21) S.1 S.2.1 dX4_badSlot_13 (by decide) (fun h_13 => ?_) (fun h_13 => ?_)
    · skip
      refine lv_bipush (v := (-5)) S.1 S.2.1 dX4_badSlot_21 (by decide) ?_
      exact K _ _ _ _ _ _ hB (by first | rw [kp_rs, if_pos h_ro, if_pos h_13] | rw [kp_rs, if_pos h_ro, if_neg h_13, if_neg h_18]) (rfl) dX4_badSlot_23
    · skip
      refine lv_iload_n S.1 S.2.1 dX4_badSlot_16 rfl (lv_at hl 1 rfl) ?_
      refine lv_iconst (v := 3) S.1 S.2.1 dX4_badSlot_17 (by decide) ?_
      refine lv_icmp_le (tgt := 24) S.1 S.2.1 dX4_badSlot_18 (by decide) (fun h_18 => ?_) (fun h_18 => ?_)
      · skip
        have h_18 := kp_le3.mp h_18
        obtain ⟨j, hj, rfl⟩ := kp_ix4 h_13 h_18
        refine lv_aload_n S.1 S.2.1 dX4_badSlot_24 rfl (lv_at hl 0 rfl) ?_
        refine lv_iload_n S.1 S.2.1 dX4_badSlot_25 rfl (lv_at hl 1 rfl) ?_
        refine kv_vI (As := [.int (nI j)]) (rest := []) hN S (kc_MO_active l N hN D cA o a1 a2 a3 a4 a5 a6 σ dv ka kb μ fr st oa ob j  (by omega)) (kn_cV (C := RX4) S kn_323 kn_324 kn_416 kn_3 kn_325 rfl kd_X4_active rfl rfl ⟨Nat.le_of_ble_eq_true rfl, Nat.le_of_ble_eq_true rfl⟩) hB 0 rfl rfl rfl hl.1 rfl (Nat.le_of_ble_eq_true rfl) dX4_badSlot_26 ⟨Nat.zero_le _, Nat.zero_le _⟩ (fun H locs hB => ?_)
        refine lv_if_eq (tgt := 36) S.1 S.2.1 dX4_badSlot_29 (by decide) (fun h_29 => ?_) (fun h_29 => ?_)
        · skip
          refine lv_bipush (v := (-6)) S.1 S.2.1 dX4_badSlot_36 (by decide) ?_
          exact K _ _ _ _ _ _ hB (by first | rw [kp_rs, if_pos h_ro, if_neg h_13, if_pos h_18, nI_clamp (by omega), if_pos h_29] | rw [kp_rs, if_pos h_ro, if_neg h_13, if_pos h_18, nI_clamp (by omega), if_neg h_29]) (rfl) dX4_badSlot_38
        · skip
          refine lv_iconst (v := 0) S.1 S.2.1 dX4_badSlot_32 (by decide) ?_
          refine lv_goto (tgt := 38) S.1 S.2.1 dX4_badSlot_33 (by decide) ?_
          exact K _ _ _ _ _ _ hB (by first | rw [kp_rs, if_pos h_ro, if_neg h_13, if_pos h_18, nI_clamp (by omega), if_pos h_29] | rw [kp_rs, if_pos h_ro, if_neg h_13, if_pos h_18, nI_clamp (by omega), if_neg h_29]) (rfl) dX4_badSlot_38
      · skip
        have h_18 := fun q => h_18 (kp_le3.mpr q)
        refine lv_bipush (v := (-5)) S.1 S.2.1 dX4_badSlot_21 (by decide) ?_
        exact K _ _ _ _ _ _ hB (by first | rw [kp_rs, if_pos h_ro, if_pos h_13] | rw [kp_rs, if_pos h_ro, if_neg h_13, if_neg h_18]) (rfl) dX4_badSlot_23
  · skip
    have h_ro := kp_ro_lt h_4
    refine lv_aload_n S.1 S.2.1 dX4_badSlot_7 rfl (lv_at hl 0 rfl) ?_
    refine kv_vI (As := []) (rest := []) hN S (kc_MO_closed l N hN D cA o a1 a2 a3 a4 a5 a6 σ dv ka kb μ fr st oa ob   ) (kn_cV (C := RX4) S kn_344 kn_345 kn_418 kn_3 kn_346 rfl kd_X4_closed rfl rfl ⟨Nat.le_of_ble_eq_true rfl, Nat.le_of_ble_eq_true rfl⟩) hB 0 rfl rfl rfl hl.1 rfl (Nat.le_of_ble_eq_true rfl) dX4_badSlot_8 ⟨Nat.zero_le _, Nat.zero_le _⟩ (fun H locs hB => ?_)
    exact K _ _ _ _ _ _ hB (by rw [kp_rs, if_neg h_ro]) (rfl) dX4_badSlot_11

abbrev kr_MO_badWord : Room := { frames := 1, cells := 0, slots := 0, locals := 20 }
set_option maxRecDepth 100000 in
set_option maxHeartbeats 4000000 in
theorem kc_MO_badWord (l : Launch) (N : State → Prop) (hN : kv_Mv N) (D : va_G) (cA : ClassId) (o a1 a2 a3 a4 a5 a6 : Nat) (σ : kp_S) (dv ka kb : Int32) (μ : kp_P) (fr st : Nat → Int32) (oa ob : Int32) (x : Int32) (y : Int32) : kv_I N l yX4_badWord wsX4_badWord kr_MO_badWord D [(cA, .int)] [.ref o, .int x, .int y] (mo_W o a1 a2 a3 a4 a5 a6 cA σ dv ka kb μ fr st oa ob) (kp_rw dv x y) (mo_W o a1 a2 a3 a4 a5 a6 cA σ dv ka kb μ fr st oa ob) := by
  refine kv_openI (cc := cX4_badWord) (maxL := 3) (rt := .int) (by decide) rfl (rfl) (Nat.le_of_ble_eq_true rfl) ?_
  intro p e s m args below meth c A H locs ls Q S hl hB K
  have hl : lv_has ls 3 [(0, .ref o), (1, .int x), (2, .int y)] := hl
  refine lv_aload_n S.1 S.2.1 dX4_badWord_0 rfl (lv_at hl 0 rfl) ?_
  refine kv_vI (As := []) (rest := []) hN S (kc_MO_closed l N hN D cA o a1 a2 a3 a4 a5 a6 σ dv ka kb μ fr st oa ob   ) (kn_cV (C := RX4) S kn_344 kn_345 kn_418 kn_3 kn_346 rfl kd_X4_closed rfl rfl ⟨Nat.le_of_ble_eq_true rfl, Nat.le_of_ble_eq_true rfl⟩) hB 0 rfl rfl rfl hl.1 rfl (Nat.le_of_ble_eq_true rfl) dX4_badWord_1 ⟨Nat.zero_le _, Nat.zero_le _⟩ (fun H locs hB => ?_)
  refine lv_if_ge (tgt := 12) S.1 S.2.1 dX4_badWord_4 (by decide) (fun h_4 => ?_) (fun h_4 => ?_)
  · skip
    have h_ro := kp_ro_ge h_4
    refine lv_iload_n S.1 S.2.1 dX4_badWord_12 rfl (lv_at hl 1 rfl) ?_
    refine lv_if_lt (tgt := 31) S.1 S.2.1 dX4_badWord_13 (by decide) (fun h_13 => ?_) (fun h_13 => ?_)
    · skip
      refine lv_bipush (v := (-5)) S.1 S.2.1 dX4_badWord_31 (by decide) ?_
      refine lv_goto (tgt := 37) S.1 S.2.1 dX4_badWord_33 (by decide) ?_
      exact K _ _ _ _ _ _ hB (by first | rw [kp_rw, if_pos h_ro, if_pos h_13] | rw [kp_rw, if_pos h_ro, if_neg h_13, if_pos h_19] | rw [kp_rw, if_pos h_ro, if_neg h_13, if_neg h_19, if_pos h_23] | rw [kp_rw, if_pos h_ro, if_neg h_13, if_neg h_19, if_neg h_23, if_pos h_28] | rw [kp_rw, if_pos h_ro, if_neg h_13, if_neg h_19, if_neg h_23, if_neg h_28]) (rfl) dX4_badWord_37
    · skip
      refine lv_iload_n S.1 S.2.1 dX4_badWord_16 rfl (lv_at hl 1 rfl) ?_
      refine lv_bipush (v := 7) S.1 S.2.1 dX4_badWord_17 (by decide) ?_
      refine lv_icmp_gt (tgt := 31) S.1 S.2.1 dX4_badWord_19 (by decide) (fun h_19 => ?_) (fun h_19 => ?_)
      · skip
        have h_19 := kp_gt7.mp h_19
        refine lv_bipush (v := (-5)) S.1 S.2.1 dX4_badWord_31 (by decide) ?_
        refine lv_goto (tgt := 37) S.1 S.2.1 dX4_badWord_33 (by decide) ?_
        exact K _ _ _ _ _ _ hB (by first | rw [kp_rw, if_pos h_ro, if_pos h_13] | rw [kp_rw, if_pos h_ro, if_neg h_13, if_pos h_19] | rw [kp_rw, if_pos h_ro, if_neg h_13, if_neg h_19, if_pos h_23] | rw [kp_rw, if_pos h_ro, if_neg h_13, if_neg h_19, if_neg h_23, if_pos h_28] | rw [kp_rw, if_pos h_ro, if_neg h_13, if_neg h_19, if_neg h_23, if_neg h_28]) (rfl) dX4_badWord_37
      · skip
        have h_19 := fun q => h_19 (kp_gt7.mpr q)
        refine lv_iload_n S.1 S.2.1 dX4_badWord_22 rfl (lv_at hl 2 rfl) ?_
        refine lv_if_lt (tgt := 31) S.1 S.2.1 dX4_badWord_23 (by decide) (fun h_23 => ?_) (fun h_23 => ?_)
        · skip
          refine lv_bipush (v := (-5)) S.1 S.2.1 dX4_badWord_31 (by decide) ?_
          refine lv_goto (tgt := 37) S.1 S.2.1 dX4_badWord_33 (by decide) ?_
          exact K _ _ _ _ _ _ hB (by first | rw [kp_rw, if_pos h_ro, if_pos h_13] | rw [kp_rw, if_pos h_ro, if_neg h_13, if_pos h_19] | rw [kp_rw, if_pos h_ro, if_neg h_13, if_neg h_19, if_pos h_23] | rw [kp_rw, if_pos h_ro, if_neg h_13, if_neg h_19, if_neg h_23, if_pos h_28] | rw [kp_rw, if_pos h_ro, if_neg h_13, if_neg h_19, if_neg h_23, if_neg h_28]) (rfl) dX4_badWord_37
        · skip
          refine lv_iload_n S.1 S.2.1 dX4_badWord_26 rfl (lv_at hl 2 rfl) ?_
          refine lv_iconst (v := 3) S.1 S.2.1 dX4_badWord_27 (by decide) ?_
          refine lv_icmp_le (tgt := 36) S.1 S.2.1 dX4_badWord_28 (by decide) (fun h_28 => ?_) (fun h_28 => ?_)
          · skip
            have h_28 := kp_le3n.mp h_28
            refine lv_iconst (v := 0) S.1 S.2.1 dX4_badWord_36 (by decide) ?_
            exact K _ _ _ _ _ _ hB (by first | rw [kp_rw, if_pos h_ro, if_pos h_13] | rw [kp_rw, if_pos h_ro, if_neg h_13, if_pos h_19] | rw [kp_rw, if_pos h_ro, if_neg h_13, if_neg h_19, if_pos h_23] | rw [kp_rw, if_pos h_ro, if_neg h_13, if_neg h_19, if_neg h_23, if_pos h_28] | rw [kp_rw, if_pos h_ro, if_neg h_13, if_neg h_19, if_neg h_23, if_neg h_28]) (rfl) dX4_badWord_37
          · skip
            have h_28 : (4 : Int32) ≤ y := Classical.byContradiction fun q => h_28 (kp_le3n.mpr q)
            refine lv_bipush (v := (-5)) S.1 S.2.1 dX4_badWord_31 (by decide) ?_
            refine lv_goto (tgt := 37) S.1 S.2.1 dX4_badWord_33 (by decide) ?_
            exact K _ _ _ _ _ _ hB (by first | rw [kp_rw, if_pos h_ro, if_pos h_13] | rw [kp_rw, if_pos h_ro, if_neg h_13, if_pos h_19] | rw [kp_rw, if_pos h_ro, if_neg h_13, if_neg h_19, if_pos h_23] | rw [kp_rw, if_pos h_ro, if_neg h_13, if_neg h_19, if_neg h_23, if_pos h_28] | rw [kp_rw, if_pos h_ro, if_neg h_13, if_neg h_19, if_neg h_23, if_neg h_28]) (rfl) dX4_badWord_37
  · skip
    have h_ro := kp_ro_lt h_4
    refine lv_aload_n S.1 S.2.1 dX4_badWord_7 rfl (lv_at hl 0 rfl) ?_
    refine kv_vI (As := []) (rest := []) hN S (kc_MO_closed l N hN D cA o a1 a2 a3 a4 a5 a6 σ dv ka kb μ fr st oa ob   ) (kn_cV (C := RX4) S kn_344 kn_345 kn_418 kn_3 kn_346 rfl kd_X4_closed rfl rfl ⟨Nat.le_of_ble_eq_true rfl, Nat.le_of_ble_eq_true rfl⟩) hB 0 rfl rfl rfl hl.1 rfl (Nat.le_of_ble_eq_true rfl) dX4_badWord_8 ⟨Nat.zero_le _, Nat.zero_le _⟩ (fun H locs hB => ?_)
    exact K _ _ _ _ _ _ hB (by rw [kp_rw, if_neg h_ro]) (rfl) dX4_badWord_11

abbrev kr_MO_state : Room := { frames := 0, cells := 0, slots := 0, locals := 0 }
set_option maxRecDepth 100000 in
set_option maxHeartbeats 4000000 in
theorem kc_MO_state (l : Launch) (N : State → Prop) (hN : kv_Mv N) (D : va_G) (cA : ClassId) (o a1 a2 a3 a4 a5 a6 : Nat) (σ : kp_S) (dv ka kb : Int32) (μ : kp_P) (fr st : Nat → Int32) (oa ob : Int32) : kv_I N l yX4_state wsX4_state kr_MO_state D [(cA, .int)] [.ref o] (mo_W o a1 a2 a3 a4 a5 a6 cA σ dv ka kb μ fr st oa ob) dv (mo_W o a1 a2 a3 a4 a5 a6 cA σ dv ka kb μ fr st oa ob) := by
  refine kv_openI (cc := cX4_state) (maxL := 1) (rt := .int) (by decide) rfl (rfl) (Nat.le_of_ble_eq_true rfl) ?_
  intro p e s m args below meth c A H locs ls Q S hl hB K
  have hl : lv_has ls 1 [(0, .ref o)] := hl
  refine lv_aload_n S.1 S.2.1 dX4_state_0 rfl (lv_at hl 0 rfl) ?_
  refine kv_get (C := RX4) (T := TX4) (M := 14) (ci := 2) S hB (kn_c kn_iX4) 0 rfl rfl 3 (by decide) (List.mem_cons_of_mem _ kn_236) rfl rfl dX4_state_1 ?_
  exact K _ _ _ _ _ _ hB (rfl) (rfl) dX4_state_4

abbrev kr_MO_writes : Room := { frames := 0, cells := 0, slots := 0, locals := 0 }
set_option maxRecDepth 100000 in
set_option maxHeartbeats 4000000 in
theorem kc_MO_writes (l : Launch) (N : State → Prop) (hN : kv_Mv N) (D : va_G) (cA : ClassId) (o a1 a2 a3 a4 a5 a6 : Nat) (σ : kp_S) (dv ka kb : Int32) (μ : kp_P) (fr st : Nat → Int32) (oa ob : Int32) : kv_I N l yX4_writes wsX4_writes kr_MO_writes D [(cA, .int)] [.ref o] (mo_W o a1 a2 a3 a4 a5 a6 cA σ dv ka kb μ fr st oa ob) σ.2.1 (mo_W o a1 a2 a3 a4 a5 a6 cA σ dv ka kb μ fr st oa ob) := by
  refine kv_openI (cc := cX4_writes) (maxL := 1) (rt := .int) (by decide) rfl (rfl) (Nat.le_of_ble_eq_true rfl) ?_
  intro p e s m args below meth c A H locs ls Q S hl hB K
  have hl : lv_has ls 1 [(0, .ref o)] := hl
  refine lv_aload_n S.1 S.2.1 dX4_writes_0 rfl (lv_at hl 0 rfl) ?_
  refine kv_get (C := RX4) (T := TX4) (M := 14) (ci := 2) S hB (kn_c kn_iX4) 0 rfl rfl 2 (by decide) (List.mem_cons_of_mem _ kn_235) rfl rfl dX4_writes_1 ?_
  exact K _ _ _ _ _ _ hB (rfl) (rfl) dX4_writes_4

abbrev kr_MO_peek : Room := { frames := 0, cells := 0, slots := 0, locals := 0 }
set_option maxRecDepth 100000 in
set_option maxHeartbeats 4000000 in
theorem kc_MO_peek (l : Launch) (N : State → Prop) (hN : kv_Mv N) (D : va_G) (cA : ClassId) (o a1 a2 a3 a4 a5 a6 : Nat) (σ : kp_S) (dv ka kb : Int32) (μ : kp_P) (fr st : Nat → Int32) (oa ob : Int32) (x : Int32) : kv_I N l yX4_peek wsX4_peek kr_MO_peek D [(cA, .int)] [.ref o, .int x] (mo_W o a1 a2 a3 a4 a5 a6 cA σ dv ka kb μ fr st oa ob) (kp_at σ.1 x) (mo_W o a1 a2 a3 a4 a5 a6 cA σ dv ka kb μ fr st oa ob) := by
  refine kv_openI (cc := cX4_peek) (maxL := 2) (rt := .int) (by decide) rfl (rfl) (Nat.le_of_ble_eq_true rfl) ?_
  intro p e s m args below meth c A H locs ls Q S hl hB K
  have hl : lv_has ls 2 [(0, .ref o), (1, .int x)] := hl
  refine lv_iload_n S.1 S.2.1 dX4_peek_0 rfl (lv_at hl 1 rfl) ?_
  refine lv_if_lt (tgt := 10) S.1 S.2.1 dX4_peek_1 (by decide) (fun h_1 => ?_) (fun h_1 => ?_)
  · skip
    refine lv_iconst (v := 0) S.1 S.2.1 dX4_peek_10 (by decide) ?_
    refine lv_goto (tgt := 20) S.1 S.2.1 dX4_peek_11 (by decide) ?_
    exact K _ _ _ _ _ _ hB (by first | rw [kp_at, if_pos h_1] | rw [kp_at, if_neg h_1, if_pos h_7] | rw [kp_at, if_neg h_1, if_neg h_7, ej, nI_clamp (by omega)]) (rfl) dX4_peek_20
  · skip
    refine lv_iload_n S.1 S.2.1 dX4_peek_4 rfl (lv_at hl 1 rfl) ?_
    refine lv_bipush (v := 79) S.1 S.2.1 dX4_peek_5 (by decide) ?_
    refine lv_icmp_le (tgt := 14) S.1 S.2.1 dX4_peek_7 (by decide) (fun h_7 => ?_) (fun h_7 => ?_)
    · skip
      have h_7 := kp_le79.mp h_7
      refine lv_aload_n S.1 S.2.1 dX4_peek_14 rfl (lv_at hl 0 rfl) ?_
      refine kv_get (C := RX4) (T := TX4) (M := 14) (ci := 2) S hB (kn_c kn_iX4) 0 rfl rfl 0 (by decide) (List.mem_cons_of_mem _ kn_233) rfl rfl dX4_peek_15 ?_
      refine lv_iload_n S.1 S.2.1 dX4_peek_18 rfl (lv_at hl 1 rfl) ?_
      obtain ⟨j, hj, ej⟩ := kp_ix h_1 h_7
      refine kv_iald S hB 1 0 rfl rfl j ej (by omega) (by decide) dX4_peek_19 ?_
      exact K _ _ _ _ _ _ hB (by first | rw [kp_at, if_pos h_1] | rw [kp_at, if_neg h_1, if_pos h_7] | rw [kp_at, if_neg h_1, if_neg h_7, ej, nI_clamp (by omega)]) (rfl) dX4_peek_20
    · skip
      have h_7 : (80 : Int32) ≤ x := Classical.byContradiction fun q => h_7 (kp_le79.mpr q)
      refine lv_iconst (v := 0) S.1 S.2.1 dX4_peek_10 (by decide) ?_
      refine lv_goto (tgt := 20) S.1 S.2.1 dX4_peek_11 (by decide) ?_
      exact K _ _ _ _ _ _ hB (by first | rw [kp_at, if_pos h_1] | rw [kp_at, if_neg h_1, if_pos h_7] | rw [kp_at, if_neg h_1, if_neg h_7, ej, nI_clamp (by omega)]) (rfl) dX4_peek_20

abbrev kr_MO_lock : Room := { frames := 0, cells := 0, slots := 0, locals := 0 }
set_option maxRecDepth 100000 in
set_option maxHeartbeats 4000000 in
theorem kc_MO_lock (l : Launch) (N : State → Prop) (hN : kv_Mv N) (D : va_G) (cA : ClassId) (o a1 a2 a3 a4 a5 a6 : Nat) (σ : kp_S) (dv ka kb : Int32) (μ : kp_P) (fr st : Nat → Int32) (oa ob : Int32) : kv_I N l yX4_lock wsX4_lock kr_MO_lock D [(cA, .int)] [.ref o] (mo_W o a1 a2 a3 a4 a5 a6 cA σ dv ka kb μ fr st oa ob) ((kp_y_lock (σ, dv, ka, kb, μ, fr, st, oa, ob)).1) (mo_T o a1 a2 a3 a4 a5 a6 cA (kp_y_lock (σ, dv, ka, kb, μ, fr, st, oa, ob)).2) := by
  refine kv_openI (cc := cX4_lock) (maxL := 2) (rt := .int) (by decide) rfl (rfl) (Nat.le_of_ble_eq_true rfl) ?_
  intro p e s m args below meth c A H locs ls Q S hl hB K
  have hl : lv_has ls 2 [(0, .ref o)] := hl
  refine lv_aload_n S.1 S.2.1 dX4_lock_0 rfl (lv_at hl 0 rfl) ?_
  refine kv_get (C := RX4) (T := TX4) (M := 14) (ci := 2) S hB (kn_c kn_iX4) 0 rfl rfl 3 (by decide) (List.mem_cons_of_mem _ kn_236) rfl rfl dX4_lock_1 ?_
  refine lv_if_ne (tgt := 10) S.1 S.2.1 dX4_lock_4 (by decide) (fun h_4 => ?_) (fun h_4 => ?_)
  · skip
    refine lv_aload_n S.1 S.2.1 dX4_lock_10 rfl (lv_at hl 0 rfl) ?_
    refine kv_get (C := RX4) (T := TX4) (M := 14) (ci := 2) S hB (kn_c kn_iX4) 0 rfl rfl 3 (by decide) (List.mem_cons_of_mem _ kn_236) rfl rfl dX4_lock_11 ?_
    refine lv_istore_n S.1 S.2.1 dX4_lock_14 rfl hl (by decide) rfl (fun ls hl => ?_)
    have hl : lv_has ls 2 [(1, .int dv), (0, .ref o)] := hl
    refine lv_aload_n S.1 S.2.1 dX4_lock_15 rfl (lv_at hl 1 rfl) ?_
    refine lv_iconst (v := 1) S.1 S.2.1 dX4_lock_16 (by decide) ?_
    refine kv_put (C := RX4) (T := TX4) (M := 14) (ci := 2) (v := 1) S hB (kn_c kn_iX4) tyX4 tyX4_ok nmX4 0 rfl rfl 3 (by decide) (List.mem_cons_of_mem _ kn_236) rfl rfl rfl (Nat.le_of_ble_eq_true rfl) dX4_lock_17 (fun H locs hB => ?_)
    have hB : kv_B N D [(cA, .int)] A s (mo_W o a1 a2 a3 a4 a5 a6 cA σ 1 ka kb μ fr st oa ob) H locs := hB
    refine lv_iload_n S.1 S.2.1 dX4_lock_20 rfl (lv_at hl 0 rfl) ?_
    refine lv_iconst (v := 1) S.1 S.2.1 dX4_lock_21 (by decide) ?_
    refine lv_isub S.1 S.2.1 dX4_lock_22 ?_
    exact K _ _ _ _ _ _ hB (by first | (rw [kp_y_lock, if_neg h_4]) | (rw [kp_y_lock, if_neg h_4]; rfl)) (by first | (rw [kp_y_lock, if_neg h_4]) | (rw [kp_y_lock, if_neg h_4]; rfl)) dX4_lock_23
  · skip
    refine lv_bipush (v := (-2)) S.1 S.2.1 dX4_lock_7 (by decide) ?_
    exact K _ _ _ _ _ _ hB (by first | (rw [kp_y_lock, if_pos h_4]) | (rw [kp_y_lock, if_pos h_4]; rfl)) (by first | (rw [kp_y_lock, if_pos h_4]) | (rw [kp_y_lock, if_pos h_4]; rfl)) dX4_lock_9

abbrev kr_MO_add : Room := { frames := 4, cells := 0, slots := 0, locals := 97 }
set_option maxRecDepth 100000 in
set_option maxHeartbeats 4000000 in
theorem kc_MO_add (l : Launch) (N : State → Prop) (hN : kv_Mv N) (D : va_G) (cA : ClassId) (o a1 a2 a3 a4 a5 a6 : Nat) (σ : kp_S) (dv ka kb : Int32) (μ : kp_P) (fr st : Nat → Int32) (oa ob : Int32) (pw : Int32) (sd : Int32) : kv_I N l yX4_add wsX4_add kr_MO_add D [(cA, .int)] [.ref o, .int pw, .int sd] (mo_W o a1 a2 a3 a4 a5 a6 cA σ dv ka kb μ fr st oa ob) ((kp_y_add (σ, dv, ka, kb, μ, fr, st, oa, ob) pw sd).1) (mo_T o a1 a2 a3 a4 a5 a6 cA (kp_y_add (σ, dv, ka, kb, μ, fr, st, oa, ob) pw sd).2) := by
  refine kv_openI (cc := cX4_add) (maxL := 4) (rt := .int) (by decide) rfl (rfl) (Nat.le_of_ble_eq_true rfl) ?_
  intro p e s m args below meth c A H locs ls Q S hl hB K
  have hl : lv_has ls 4 [(0, .ref o), (1, .int pw), (2, .int sd)] := hl
  refine lv_aload_n S.1 S.2.1 dX4_add_0 rfl (lv_at hl 0 rfl) ?_
  refine kv_vI (As := []) (rest := []) hN S (kc_MO_closed l N hN D cA o a1 a2 a3 a4 a5 a6 σ dv ka kb μ fr st oa ob   ) (kn_cV (C := RX4) S kn_344 kn_345 kn_418 kn_3 kn_346 rfl kd_X4_closed rfl rfl ⟨Nat.le_of_ble_eq_true rfl, Nat.le_of_ble_eq_true rfl⟩) hB 0 rfl rfl rfl hl.1 rfl (Nat.le_of_ble_eq_true rfl) dX4_add_1 ⟨Nat.zero_le _, Nat.zero_le _⟩ (fun H locs hB => ?_)
  refine lv_if_ge (tgt := 12) S.1 S.2.1 dX4_add_4 (by decide) (fun h_4 => ?_) (fun h_4 => ?_)
  · skip
    have h_ro := kp_ro_ge h_4
    refine lv_iconst (v := 0) S.1 S.2.1 dX4_add_12 (by decide) ?_
    refine lv_istore_n S.1 S.2.1 dX4_add_13 rfl hl (by decide) rfl (fun ls hl => ?_)
    have hl : lv_has ls 4 [(3, .int 0), (0, .ref o), (1, .int pw), (2, .int sd)] := hl
    have loop14 : ∀ (n : Nat) (k : Nat) (H : Heap) (locs : List Loc) (ls : Array Slot), (k + n = 4) → (kp_lf σ.1 n k = kp_lf σ.1 4 0) → lv_has ls 4 [(3, .int (nI k)), (0, .ref o), (1, .int pw), (2, .int sd)] → kv_B N D [(cA, .int)] A s (mo_W o a1 a2 a3 a4 a5 a6 cA σ dv ka kb μ fr st oa ob) H locs → W p l e kr_MO_add s m args below meth c H locs 0 0 Q (F0 m 14 ls []) := by
      intro n
      induction n with
      | zero =>
        intro k H locs ls hk hT hl hB
        refine lv_iload_n S.1 S.2.1 dX4_add_14 rfl (lv_at hl 0 rfl) ?_
        refine lv_iconst (v := 4) S.1 S.2.1 dX4_add_15 (by decide) ?_
        refine kv_bge (x := k) (y := 4) (tgt := 33) S (by omega) (by omega) dX4_add_16 (by decide) (fun h_16 => ?_) (fun h => absurd h (by omega))
        refine lv_iload_n S.1 S.2.1 dX4_add_33 rfl (lv_at hl 0 rfl) ?_
        refine lv_iconst (v := 4) S.1 S.2.1 dX4_add_34 (by decide) ?_
        refine kv_bne (x := k) (y := 4) (tgt := 41) S (by omega) (by omega) dX4_add_35 (by decide) (fun h => absurd h (by omega)) (fun h_35 => ?_)
        refine lv_bipush (v := (-7)) S.1 S.2.1 dX4_add_38 (by decide) ?_
        exact K _ _ _ _ _ _ hB (by first | (rw [kp_y_add, if_pos h_ro, if_pos (by rw [← hT]; show k = 4; omega)]) | (rw [kp_y_add, if_pos h_ro, if_pos (by rw [← hT]; show k = 4; omega)]; rfl)) (by first | (rw [kp_y_add, if_pos h_ro, if_pos (by rw [← hT]; show k = 4; omega)]) | (rw [kp_y_add, if_pos h_ro, if_pos (by rw [← hT]; show k = 4; omega)]; rfl)) dX4_add_40
      | succ n ih14 =>
        intro k H locs ls hk hT hl hB
        refine lv_iload_n S.1 S.2.1 dX4_add_14 rfl (lv_at hl 0 rfl) ?_
        refine lv_iconst (v := 4) S.1 S.2.1 dX4_add_15 (by decide) ?_
        refine kv_bge (x := k) (y := 4) (tgt := 33) S (by omega) (by omega) dX4_add_16 (by decide) (fun h => absurd h (by omega)) (fun h_16 => ?_)
        refine lv_aload_n S.1 S.2.1 dX4_add_19 rfl (lv_at hl 1 rfl) ?_
        refine lv_iload_n S.1 S.2.1 dX4_add_20 rfl (lv_at hl 0 rfl) ?_
        refine kv_vI (As := [.int (nI k)]) (rest := []) hN S (kc_MO_active l N hN D cA o a1 a2 a3 a4 a5 a6 σ dv ka kb μ fr st oa ob k  (by omega)) (kn_cV (C := RX4) S kn_323 kn_324 kn_416 kn_3 kn_325 rfl kd_X4_active rfl rfl ⟨Nat.le_of_ble_eq_true rfl, Nat.le_of_ble_eq_true rfl⟩) hB 0 rfl rfl rfl hl.1 rfl (Nat.le_of_ble_eq_true rfl) dX4_add_21 ⟨Nat.zero_le _, Nat.zero_le _⟩ (fun H locs hB => ?_)
        refine lv_if_eq (tgt := 33) S.1 S.2.1 dX4_add_24 (by decide) (fun h_24 => ?_) (fun h_24 => ?_)
        · skip
          have hlf : kp_lf σ.1 4 0 = k := by rw [← hT, kp_lf, if_pos h_24]
          refine lv_iload_n S.1 S.2.1 dX4_add_33 rfl (lv_at hl 0 rfl) ?_
          refine lv_iconst (v := 4) S.1 S.2.1 dX4_add_34 (by decide) ?_
          refine kv_bne (x := k) (y := 4) (tgt := 41) S (by omega) (by omega) dX4_add_35 (by decide) (fun h_35 => ?_) (fun h => absurd h (by omega))
          refine lv_aload_n S.1 S.2.1 dX4_add_41 rfl (lv_at hl 1 rfl) ?_
          refine lv_iload_n S.1 S.2.1 dX4_add_42 rfl (lv_at hl 2 rfl) ?_
          refine lv_iload_n S.1 S.2.1 dX4_add_43 rfl (lv_at hl 3 rfl) ?_
          refine lv_aload_n S.1 S.2.1 dX4_add_44 rfl (lv_at hl 1 rfl) ?_
          refine kv_get (C := RX4) (T := TX4) (M := 14) (ci := 2) S hB (kn_c kn_iX4) 0 rfl rfl 4 (by decide) (List.mem_cons_of_mem _ kn_237) rfl rfl dX4_add_45 ?_
          refine lv_aload_n S.1 S.2.1 dX4_add_48 rfl (lv_at hl 1 rfl) ?_
          refine kv_get (C := RX4) (T := TX4) (M := 14) (ci := 2) S hB (kn_c kn_iX4) 0 rfl rfl 5 (by decide) (List.mem_cons_of_mem _ kn_238) rfl rfl dX4_add_49 ?_
          refine kv_vV (As := [.int pw, .int sd, .int ka, .int kb]) (rest := []) hN S (kc_MO_makeSlot l N hN D cA o a1 a2 a3 a4 a5 a6 σ dv ka kb μ fr st oa ob pw sd ka kb  ) (kn_cV (C := RX4) S kn_281 kn_282 kn_409 kn_3 kn_283 rfl kd_X4_makeSlot rfl rfl ⟨Nat.le_of_ble_eq_true rfl, Nat.le_of_ble_eq_true rfl⟩) hB 0 rfl rfl rfl hl.1 rfl (Nat.le_of_ble_eq_true rfl) dX4_add_52 ⟨Nat.zero_le _, Nat.zero_le _⟩ (fun H locs hB => ?_)
          have hB : kv_B N D [(cA, .int)] A s (mo_W o a1 a2 a3 a4 a5 a6 cA σ dv ka kb μ (kp_sl pw sd ka kb) (kp_ms sd ka kb) oa ob) H locs := hB
          refine lv_aload_n S.1 S.2.1 dX4_add_55 rfl (lv_at hl 1 rfl) ?_
          refine lv_iconst (v := 4) S.1 S.2.1 dX4_add_56 (by decide) ?_
          refine lv_bipush (v := 8) S.1 S.2.1 dX4_add_57 (by decide) ?_
          refine lv_iload_n S.1 S.2.1 dX4_add_59 rfl (lv_at hl 0 rfl) ?_
          refine lv_imul S.1 S.2.1 dX4_add_60 ?_
          refine kv_top (y := nI (8 * k)) (pk_mul 8 k) ?_
          refine lv_iadd S.1 S.2.1 dX4_add_61 ?_
          refine kv_top (y := nI (4 + (8 * k))) (nI_add 4 (8 * k)) ?_
          refine lv_bipush (v := 8) S.1 S.2.1 dX4_add_62 (by decide) ?_
          refine kv_vV (As := [.int (nI (4 + (8 * k))), .int 8]) (rest := []) hN S (kc_MO_planChange l N hN D cA o a1 a2 a3 a4 a5 a6 σ dv ka kb μ (kp_sl pw sd ka kb) (kp_ms sd ka kb) oa ob (4 + (8 * k)) 8  (by omega) (by decide)) (kn_cV (C := RX4) S kn_347 kn_348 kn_419 kn_3 kn_349 rfl kd_X4_planChange rfl rfl ⟨Nat.le_of_ble_eq_true rfl, Nat.le_of_ble_eq_true rfl⟩) hB 0 rfl rfl rfl hl.1 rfl (Nat.le_of_ble_eq_true rfl) dX4_add_64 ⟨Nat.zero_le _, Nat.zero_le _⟩ (fun H locs hB => ?_)
          have hB : kv_B N D [(cA, .int)] A s (mo_W o a1 a2 a3 a4 a5 a6 cA σ dv ka kb (kp_ps (kp_ch 8 0 8 (4 + (8 * k)) (kp_sl pw sd ka kb) σ.1) (μ.1, μ.2.1, 0, σ.1)) (kp_sl pw sd ka kb) (kp_ms sd ka kb) oa ob) H locs := hB
          refine lv_aload_n S.1 S.2.1 dX4_add_67 rfl (lv_at hl 1 rfl) ?_
          refine kv_vI (As := []) (rest := []) hN S (kc_MO_perform l N hN D cA o a1 a2 a3 a4 a5 a6 σ dv ka kb (kp_ps (kp_ch 8 0 8 (4 + (8 * k)) (kp_sl pw sd ka kb) σ.1) (μ.1, μ.2.1, 0, σ.1)) (kp_sl pw sd ka kb) (kp_ms sd ka kb) oa ob  (kp_ch 8 0 8 (4 + 8 * k) (kp_sl pw sd ka kb) σ.1) (kp_ps_sd _ _ _ _ (Nat.le_trans (kp_ch_len 8 0 8 _ _ _) (by decide)) (kp_ch_in 8 0 8 _ _ _ (by omega) (by decide)))) (kn_cV (C := RX4) S kn_307 kn_308 kn_412 kn_3 kn_309 rfl kd_X4_perform rfl rfl ⟨Nat.le_of_ble_eq_true rfl, Nat.le_of_ble_eq_true rfl⟩) hB 0 rfl rfl rfl hl.1 rfl (Nat.le_of_ble_eq_true rfl) dX4_add_68 ⟨Nat.zero_le _, Nat.zero_le _⟩ (fun H locs hB => ?_)
          have hB : kv_B N D [(cA, .int)] A s (mo_W o a1 a2 a3 a4 a5 a6 cA ((kp_run (kp_ch 8 0 8 (4 + 8 * k) (kp_sl pw sd ka kb) σ.1) σ).2) (if (kp_run (kp_ch 8 0 8 (4 + 8 * k) (kp_sl pw sd ka kb) σ.1) σ).1 = 0 then 0 else dv) ka kb (kp_ps (kp_ch 8 0 8 (4 + (8 * k)) (kp_sl pw sd ka kb) σ.1) (μ.1, μ.2.1, 0, σ.1)) (kp_sl pw sd ka kb) (kp_ms sd ka kb) oa ob) H locs := hB
          refine lv_if_eq (tgt := 78) S.1 S.2.1 dX4_add_71 (by decide) (fun h_71 => ?_) (fun h_71 => ?_)
          · skip
            simp only [if_pos h_71] at hB
            have hB : kv_B N D [(cA, .int)] A s (mo_W o a1 a2 a3 a4 a5 a6 cA ((kp_run (kp_ch 8 0 8 (4 + 8 * k) (kp_sl pw sd ka kb) σ.1) σ).2) 0 ka kb (kp_ps (kp_ch 8 0 8 (4 + (8 * k)) (kp_sl pw sd ka kb) σ.1) (μ.1, μ.2.1, 0, σ.1)) (kp_sl pw sd ka kb) (kp_ms sd ka kb) oa ob) H locs := hB
            refine lv_iconst (v := (-1)) S.1 S.2.1 dX4_add_78 (by decide) ?_
            exact K _ _ _ _ _ _ hB (by first | (rw [kp_y_add, if_pos h_ro, hlf, if_neg (by omega), kp_yc, kp_yf, if_pos h_71]; simp only [if_pos h_71]) | (rw [kp_y_add, if_pos h_ro, hlf, if_neg (by omega), kp_yc, kp_yf, if_neg h_71]; simp only [if_neg h_71]) | (rw [kp_y_add, if_pos h_ro, hlf, if_neg (by omega), kp_yc, kp_yf, if_pos h_71]) | (rw [kp_y_add, if_pos h_ro, hlf, if_neg (by omega), kp_yc, kp_yf, if_neg h_71]) | (rw [kp_y_add, if_pos h_ro, hlf, if_neg (by omega), kp_yc, kp_yf, if_pos h_71]; rfl) | (rw [kp_y_add, if_pos h_ro, hlf, if_neg (by omega), kp_yc, kp_yf, if_neg h_71]; rfl)) (by first | (rw [kp_y_add, if_pos h_ro, hlf, if_neg (by omega), kp_yc, kp_yf, if_pos h_71]; simp only [if_pos h_71]) | (rw [kp_y_add, if_pos h_ro, hlf, if_neg (by omega), kp_yc, kp_yf, if_neg h_71]; simp only [if_neg h_71]) | (rw [kp_y_add, if_pos h_ro, hlf, if_neg (by omega), kp_yc, kp_yf, if_pos h_71]) | (rw [kp_y_add, if_pos h_ro, hlf, if_neg (by omega), kp_yc, kp_yf, if_neg h_71]) | (rw [kp_y_add, if_pos h_ro, hlf, if_neg (by omega), kp_yc, kp_yf, if_pos h_71]; rfl) | (rw [kp_y_add, if_pos h_ro, hlf, if_neg (by omega), kp_yc, kp_yf, if_neg h_71]; rfl)) dX4_add_79
          · skip
            simp only [if_neg h_71] at hB
            have hB : kv_B N D [(cA, .int)] A s (mo_W o a1 a2 a3 a4 a5 a6 cA ((kp_run (kp_ch 8 0 8 (4 + 8 * k) (kp_sl pw sd ka kb) σ.1) σ).2) dv ka kb (kp_ps (kp_ch 8 0 8 (4 + (8 * k)) (kp_sl pw sd ka kb) σ.1) (μ.1, μ.2.1, 0, σ.1)) (kp_sl pw sd ka kb) (kp_ms sd ka kb) oa ob) H locs := hB
            refine lv_iload_n S.1 S.2.1 dX4_add_74 rfl (lv_at hl 0 rfl) ?_
            refine lv_goto (tgt := 79) S.1 S.2.1 dX4_add_75 (by decide) ?_
            exact K _ _ _ _ _ _ hB (by first | (rw [kp_y_add, if_pos h_ro, hlf, if_neg (by omega), kp_yc, kp_yf, if_pos h_71]; simp only [if_pos h_71]) | (rw [kp_y_add, if_pos h_ro, hlf, if_neg (by omega), kp_yc, kp_yf, if_neg h_71]; simp only [if_neg h_71]) | (rw [kp_y_add, if_pos h_ro, hlf, if_neg (by omega), kp_yc, kp_yf, if_pos h_71]) | (rw [kp_y_add, if_pos h_ro, hlf, if_neg (by omega), kp_yc, kp_yf, if_neg h_71]) | (rw [kp_y_add, if_pos h_ro, hlf, if_neg (by omega), kp_yc, kp_yf, if_pos h_71]; rfl) | (rw [kp_y_add, if_pos h_ro, hlf, if_neg (by omega), kp_yc, kp_yf, if_neg h_71]; rfl)) (by first | (rw [kp_y_add, if_pos h_ro, hlf, if_neg (by omega), kp_yc, kp_yf, if_pos h_71]; simp only [if_pos h_71]) | (rw [kp_y_add, if_pos h_ro, hlf, if_neg (by omega), kp_yc, kp_yf, if_neg h_71]; simp only [if_neg h_71]) | (rw [kp_y_add, if_pos h_ro, hlf, if_neg (by omega), kp_yc, kp_yf, if_pos h_71]) | (rw [kp_y_add, if_pos h_ro, hlf, if_neg (by omega), kp_yc, kp_yf, if_neg h_71]) | (rw [kp_y_add, if_pos h_ro, hlf, if_neg (by omega), kp_yc, kp_yf, if_pos h_71]; rfl) | (rw [kp_y_add, if_pos h_ro, hlf, if_neg (by omega), kp_yc, kp_yf, if_neg h_71]; rfl)) dX4_add_79
        · skip
          refine lv_iinc (k := 0) (v := nI (k + 1)) S.1 S.2.1 dX4_add_27 hl rfl (nI_1 k) (by decide) rfl (fun ls hl => ?_)
          have hl : lv_has ls 4 [(3, .int (nI (k + 1))), (0, .ref o), (1, .int pw), (2, .int sd)] := hl
          refine lv_goto (tgt := 14) S.1 S.2.1 dX4_add_30 (by decide) ?_
          exact ih14 (k + 1) _ _ _ (by omega) (by rw [← hT, kp_lf, if_neg h_24]) (lv_sub hl [0, 1, 2, 3] rfl) hB
    exact loop14 4 0 _ _ _ (rfl) (rfl) (lv_sub hl [0, 1, 2, 3] rfl) hB
  · skip
    have h_ro := kp_ro_lt h_4
    refine lv_aload_n S.1 S.2.1 dX4_add_7 rfl (lv_at hl 0 rfl) ?_
    refine kv_vI (As := []) (rest := []) hN S (kc_MO_closed l N hN D cA o a1 a2 a3 a4 a5 a6 σ dv ka kb μ fr st oa ob   ) (kn_cV (C := RX4) S kn_344 kn_345 kn_418 kn_3 kn_346 rfl kd_X4_closed rfl rfl ⟨Nat.le_of_ble_eq_true rfl, Nat.le_of_ble_eq_true rfl⟩) hB 0 rfl rfl rfl hl.1 rfl (Nat.le_of_ble_eq_true rfl) dX4_add_8 ⟨Nat.zero_le _, Nat.zero_le _⟩ (fun H locs hB => ?_)
    exact K _ _ _ _ _ _ hB (by first | (rw [kp_y_add, if_neg h_ro]) | (rw [kp_y_add, if_neg h_ro]; rfl)) (by first | (rw [kp_y_add, if_neg h_ro]) | (rw [kp_y_add, if_neg h_ro]; rfl)) dX4_add_11

abbrev kr_MO_change : Room := { frames := 4, cells := 0, slots := 0, locals := 97 }
set_option maxRecDepth 100000 in
set_option maxHeartbeats 4000000 in
theorem kc_MO_change (l : Launch) (N : State → Prop) (hN : kv_Mv N) (D : va_G) (cA : ClassId) (o a1 a2 a3 a4 a5 a6 : Nat) (σ : kp_S) (dv ka kb : Int32) (μ : kp_P) (fr st : Nat → Int32) (oa ob : Int32) (x : Int32) (pw : Int32) (sd : Int32) : kv_I N l yX4_change wsX4_change kr_MO_change D [(cA, .int)] [.ref o, .int x, .int pw, .int sd] (mo_W o a1 a2 a3 a4 a5 a6 cA σ dv ka kb μ fr st oa ob) ((kp_y_change (σ, dv, ka, kb, μ, fr, st, oa, ob) x pw sd).1) (mo_T o a1 a2 a3 a4 a5 a6 cA (kp_y_change (σ, dv, ka, kb, μ, fr, st, oa, ob) x pw sd).2) := by
  refine kv_openI (cc := cX4_change) (maxL := 4) (rt := .int) (by decide) rfl (rfl) (Nat.le_of_ble_eq_true rfl) ?_
  intro p e s m args below meth c A H locs ls Q S hl hB K
  have hl : lv_has ls 4 [(0, .ref o), (1, .int x), (2, .int pw), (3, .int sd)] := hl
  refine lv_aload_n S.1 S.2.1 dX4_change_0 rfl (lv_at hl 0 rfl) ?_
  refine lv_iload_n S.1 S.2.1 dX4_change_1 rfl (lv_at hl 1 rfl) ?_
  refine kv_vI (As := [.int x]) (rest := []) hN S (kc_MO_badSlot l N hN D cA o a1 a2 a3 a4 a5 a6 σ dv ka kb μ fr st oa ob x  ) (kn_cV (C := RX4) S kn_354 kn_355 kn_420 kn_3 kn_356 rfl kd_X4_badSlot rfl rfl ⟨Nat.le_of_ble_eq_true rfl, Nat.le_of_ble_eq_true rfl⟩) hB 0 rfl rfl rfl hl.1 rfl (Nat.le_of_ble_eq_true rfl) dX4_change_2 ⟨Nat.zero_le _, Nat.zero_le _⟩ (fun H locs hB => ?_)
  refine lv_if_ge (tgt := 14) S.1 S.2.1 dX4_change_5 (by decide) (fun h_5 => ?_) (fun h_5 => ?_)
  · skip
    have h_R := kp_rs_ge h_5
    obtain ⟨k, hk, rfl⟩ := kp_rs_k h_R
    refine lv_aload_n S.1 S.2.1 dX4_change_14 rfl (lv_at hl 0 rfl) ?_
    refine lv_iload_n S.1 S.2.1 dX4_change_15 rfl (lv_at hl 2 rfl) ?_
    refine lv_iload_n S.1 S.2.1 dX4_change_16 rfl (lv_at hl 3 rfl) ?_
    refine lv_aload_n S.1 S.2.1 dX4_change_17 rfl (lv_at hl 0 rfl) ?_
    refine kv_get (C := RX4) (T := TX4) (M := 14) (ci := 2) S hB (kn_c kn_iX4) 0 rfl rfl 4 (by decide) (List.mem_cons_of_mem _ kn_237) rfl rfl dX4_change_18 ?_
    refine lv_aload_n S.1 S.2.1 dX4_change_21 rfl (lv_at hl 0 rfl) ?_
    refine kv_get (C := RX4) (T := TX4) (M := 14) (ci := 2) S hB (kn_c kn_iX4) 0 rfl rfl 5 (by decide) (List.mem_cons_of_mem _ kn_238) rfl rfl dX4_change_22 ?_
    refine kv_vV (As := [.int pw, .int sd, .int ka, .int kb]) (rest := []) hN S (kc_MO_makeSlot l N hN D cA o a1 a2 a3 a4 a5 a6 σ dv ka kb μ fr st oa ob pw sd ka kb  ) (kn_cV (C := RX4) S kn_281 kn_282 kn_409 kn_3 kn_283 rfl kd_X4_makeSlot rfl rfl ⟨Nat.le_of_ble_eq_true rfl, Nat.le_of_ble_eq_true rfl⟩) hB 0 rfl rfl rfl hl.1 rfl (Nat.le_of_ble_eq_true rfl) dX4_change_25 ⟨Nat.zero_le _, Nat.zero_le _⟩ (fun H locs hB => ?_)
    have hB : kv_B N D [(cA, .int)] A s (mo_W o a1 a2 a3 a4 a5 a6 cA σ dv ka kb μ (kp_sl pw sd ka kb) (kp_ms sd ka kb) oa ob) H locs := hB
    refine lv_aload_n S.1 S.2.1 dX4_change_28 rfl (lv_at hl 0 rfl) ?_
    refine lv_iconst (v := 4) S.1 S.2.1 dX4_change_29 (by decide) ?_
    refine lv_bipush (v := 8) S.1 S.2.1 dX4_change_30 (by decide) ?_
    refine lv_iload_n S.1 S.2.1 dX4_change_32 rfl (lv_at hl 1 rfl) ?_
    refine lv_imul S.1 S.2.1 dX4_change_33 ?_
    refine kv_top (y := nI (8 * k)) (pk_mul 8 k) ?_
    refine lv_iadd S.1 S.2.1 dX4_change_34 ?_
    refine kv_top (y := nI (4 + (8 * k))) (nI_add 4 (8 * k)) ?_
    refine lv_bipush (v := 8) S.1 S.2.1 dX4_change_35 (by decide) ?_
    refine kv_vV (As := [.int (nI (4 + (8 * k))), .int 8]) (rest := []) hN S (kc_MO_planChange l N hN D cA o a1 a2 a3 a4 a5 a6 σ dv ka kb μ (kp_sl pw sd ka kb) (kp_ms sd ka kb) oa ob (4 + (8 * k)) 8  (by omega) (by decide)) (kn_cV (C := RX4) S kn_347 kn_348 kn_419 kn_3 kn_349 rfl kd_X4_planChange rfl rfl ⟨Nat.le_of_ble_eq_true rfl, Nat.le_of_ble_eq_true rfl⟩) hB 0 rfl rfl rfl hl.1 rfl (Nat.le_of_ble_eq_true rfl) dX4_change_37 ⟨Nat.zero_le _, Nat.zero_le _⟩ (fun H locs hB => ?_)
    have hB : kv_B N D [(cA, .int)] A s (mo_W o a1 a2 a3 a4 a5 a6 cA σ dv ka kb (kp_ps (kp_ch 8 0 8 (4 + (8 * k)) (kp_sl pw sd ka kb) σ.1) (μ.1, μ.2.1, 0, σ.1)) (kp_sl pw sd ka kb) (kp_ms sd ka kb) oa ob) H locs := hB
    refine lv_aload_n S.1 S.2.1 dX4_change_40 rfl (lv_at hl 0 rfl) ?_
    refine kv_vI (As := []) (rest := []) hN S (kc_MO_perform l N hN D cA o a1 a2 a3 a4 a5 a6 σ dv ka kb (kp_ps (kp_ch 8 0 8 (4 + (8 * k)) (kp_sl pw sd ka kb) σ.1) (μ.1, μ.2.1, 0, σ.1)) (kp_sl pw sd ka kb) (kp_ms sd ka kb) oa ob  (kp_ch 8 0 8 (4 + 8 * k) (kp_sl pw sd ka kb) σ.1) (kp_ps_sd _ _ _ _ (Nat.le_trans (kp_ch_len 8 0 8 _ _ _) (by decide)) (kp_ch_in 8 0 8 _ _ _ (by omega) (by decide)))) (kn_cV (C := RX4) S kn_307 kn_308 kn_412 kn_3 kn_309 rfl kd_X4_perform rfl rfl ⟨Nat.le_of_ble_eq_true rfl, Nat.le_of_ble_eq_true rfl⟩) hB 0 rfl rfl rfl hl.1 rfl (Nat.le_of_ble_eq_true rfl) dX4_change_41 ⟨Nat.zero_le _, Nat.zero_le _⟩ (fun H locs hB => ?_)
    have hB : kv_B N D [(cA, .int)] A s (mo_W o a1 a2 a3 a4 a5 a6 cA ((kp_run (kp_ch 8 0 8 (4 + 8 * k) (kp_sl pw sd ka kb) σ.1) σ).2) (if (kp_run (kp_ch 8 0 8 (4 + 8 * k) (kp_sl pw sd ka kb) σ.1) σ).1 = 0 then 0 else dv) ka kb (kp_ps (kp_ch 8 0 8 (4 + (8 * k)) (kp_sl pw sd ka kb) σ.1) (μ.1, μ.2.1, 0, σ.1)) (kp_sl pw sd ka kb) (kp_ms sd ka kb) oa ob) H locs := hB
    refine lv_if_eq (tgt := 51) S.1 S.2.1 dX4_change_44 (by decide) (fun h_44 => ?_) (fun h_44 => ?_)
    · skip
      simp only [if_pos h_44] at hB
      have hB : kv_B N D [(cA, .int)] A s (mo_W o a1 a2 a3 a4 a5 a6 cA ((kp_run (kp_ch 8 0 8 (4 + 8 * k) (kp_sl pw sd ka kb) σ.1) σ).2) 0 ka kb (kp_ps (kp_ch 8 0 8 (4 + (8 * k)) (kp_sl pw sd ka kb) σ.1) (μ.1, μ.2.1, 0, σ.1)) (kp_sl pw sd ka kb) (kp_ms sd ka kb) oa ob) H locs := hB
      refine lv_iconst (v := (-1)) S.1 S.2.1 dX4_change_51 (by decide) ?_
      exact K _ _ _ _ _ _ hB (by first | (rw [kp_y_change, if_pos h_R, nI_clamp (by omega), kp_yc, kp_yf, if_pos h_44]; simp only [if_pos h_44]) | (rw [kp_y_change, if_pos h_R, nI_clamp (by omega), kp_yc, kp_yf, if_neg h_44]; simp only [if_neg h_44]) | (rw [kp_y_change, if_pos h_R, nI_clamp (by omega), kp_yc, kp_yf, if_pos h_44]) | (rw [kp_y_change, if_pos h_R, nI_clamp (by omega), kp_yc, kp_yf, if_neg h_44]) | (rw [kp_y_change, if_pos h_R, nI_clamp (by omega), kp_yc, kp_yf, if_pos h_44]; rfl) | (rw [kp_y_change, if_pos h_R, nI_clamp (by omega), kp_yc, kp_yf, if_neg h_44]; rfl)) (by first | (rw [kp_y_change, if_pos h_R, nI_clamp (by omega), kp_yc, kp_yf, if_pos h_44]; simp only [if_pos h_44]) | (rw [kp_y_change, if_pos h_R, nI_clamp (by omega), kp_yc, kp_yf, if_neg h_44]; simp only [if_neg h_44]) | (rw [kp_y_change, if_pos h_R, nI_clamp (by omega), kp_yc, kp_yf, if_pos h_44]) | (rw [kp_y_change, if_pos h_R, nI_clamp (by omega), kp_yc, kp_yf, if_neg h_44]) | (rw [kp_y_change, if_pos h_R, nI_clamp (by omega), kp_yc, kp_yf, if_pos h_44]; rfl) | (rw [kp_y_change, if_pos h_R, nI_clamp (by omega), kp_yc, kp_yf, if_neg h_44]; rfl)) dX4_change_52
    · skip
      simp only [if_neg h_44] at hB
      have hB : kv_B N D [(cA, .int)] A s (mo_W o a1 a2 a3 a4 a5 a6 cA ((kp_run (kp_ch 8 0 8 (4 + 8 * k) (kp_sl pw sd ka kb) σ.1) σ).2) dv ka kb (kp_ps (kp_ch 8 0 8 (4 + (8 * k)) (kp_sl pw sd ka kb) σ.1) (μ.1, μ.2.1, 0, σ.1)) (kp_sl pw sd ka kb) (kp_ms sd ka kb) oa ob) H locs := hB
      refine lv_iconst (v := 0) S.1 S.2.1 dX4_change_47 (by decide) ?_
      refine lv_goto (tgt := 52) S.1 S.2.1 dX4_change_48 (by decide) ?_
      exact K _ _ _ _ _ _ hB (by first | (rw [kp_y_change, if_pos h_R, nI_clamp (by omega), kp_yc, kp_yf, if_pos h_44]; simp only [if_pos h_44]) | (rw [kp_y_change, if_pos h_R, nI_clamp (by omega), kp_yc, kp_yf, if_neg h_44]; simp only [if_neg h_44]) | (rw [kp_y_change, if_pos h_R, nI_clamp (by omega), kp_yc, kp_yf, if_pos h_44]) | (rw [kp_y_change, if_pos h_R, nI_clamp (by omega), kp_yc, kp_yf, if_neg h_44]) | (rw [kp_y_change, if_pos h_R, nI_clamp (by omega), kp_yc, kp_yf, if_pos h_44]; rfl) | (rw [kp_y_change, if_pos h_R, nI_clamp (by omega), kp_yc, kp_yf, if_neg h_44]; rfl)) (by first | (rw [kp_y_change, if_pos h_R, nI_clamp (by omega), kp_yc, kp_yf, if_pos h_44]; simp only [if_pos h_44]) | (rw [kp_y_change, if_pos h_R, nI_clamp (by omega), kp_yc, kp_yf, if_neg h_44]; simp only [if_neg h_44]) | (rw [kp_y_change, if_pos h_R, nI_clamp (by omega), kp_yc, kp_yf, if_pos h_44]) | (rw [kp_y_change, if_pos h_R, nI_clamp (by omega), kp_yc, kp_yf, if_neg h_44]) | (rw [kp_y_change, if_pos h_R, nI_clamp (by omega), kp_yc, kp_yf, if_pos h_44]; rfl) | (rw [kp_y_change, if_pos h_R, nI_clamp (by omega), kp_yc, kp_yf, if_neg h_44]; rfl)) dX4_change_52
  · skip
    have h_R := kp_rs_lt h_5
    refine lv_aload_n S.1 S.2.1 dX4_change_8 rfl (lv_at hl 0 rfl) ?_
    refine lv_iload_n S.1 S.2.1 dX4_change_9 rfl (lv_at hl 1 rfl) ?_
    refine kv_vI (As := [.int x]) (rest := []) hN S (kc_MO_badSlot l N hN D cA o a1 a2 a3 a4 a5 a6 σ dv ka kb μ fr st oa ob x  ) (kn_cV (C := RX4) S kn_354 kn_355 kn_420 kn_3 kn_356 rfl kd_X4_badSlot rfl rfl ⟨Nat.le_of_ble_eq_true rfl, Nat.le_of_ble_eq_true rfl⟩) hB 0 rfl rfl rfl hl.1 rfl (Nat.le_of_ble_eq_true rfl) dX4_change_10 ⟨Nat.zero_le _, Nat.zero_le _⟩ (fun H locs hB => ?_)
    exact K _ _ _ _ _ _ hB (by first | (rw [kp_y_change, if_neg h_R]) | (rw [kp_y_change, if_neg h_R]; rfl)) (by first | (rw [kp_y_change, if_neg h_R]) | (rw [kp_y_change, if_neg h_R]; rfl)) dX4_change_13

abbrev kr_MO_revoke : Room := { frames := 4, cells := 0, slots := 0, locals := 89 }
set_option maxRecDepth 100000 in
set_option maxHeartbeats 4000000 in
theorem kc_MO_revoke (l : Launch) (N : State → Prop) (hN : kv_Mv N) (D : va_G) (cA : ClassId) (o a1 a2 a3 a4 a5 a6 : Nat) (σ : kp_S) (dv ka kb : Int32) (μ : kp_P) (fr st : Nat → Int32) (oa ob : Int32) (x : Int32) : kv_I N l yX4_revoke wsX4_revoke kr_MO_revoke D [(cA, .int)] [.ref o, .int x] (mo_W o a1 a2 a3 a4 a5 a6 cA σ dv ka kb μ fr st oa ob) ((kp_y_revoke (σ, dv, ka, kb, μ, fr, st, oa, ob) x).1) (mo_T o a1 a2 a3 a4 a5 a6 cA (kp_y_revoke (σ, dv, ka, kb, μ, fr, st, oa, ob) x).2) := by
  refine kv_openI (cc := cX4_revoke) (maxL := 3) (rt := .int) (by decide) rfl (rfl) (Nat.le_of_ble_eq_true rfl) ?_
  intro p e s m args below meth c A H locs ls Q S hl hB K
  have hl : lv_has ls 3 [(0, .ref o), (1, .int x)] := hl
  refine lv_aload_n S.1 S.2.1 dX4_revoke_0 rfl (lv_at hl 0 rfl) ?_
  refine lv_iload_n S.1 S.2.1 dX4_revoke_1 rfl (lv_at hl 1 rfl) ?_
  refine kv_vI (As := [.int x]) (rest := []) hN S (kc_MO_badSlot l N hN D cA o a1 a2 a3 a4 a5 a6 σ dv ka kb μ fr st oa ob x  ) (kn_cV (C := RX4) S kn_354 kn_355 kn_420 kn_3 kn_356 rfl kd_X4_badSlot rfl rfl ⟨Nat.le_of_ble_eq_true rfl, Nat.le_of_ble_eq_true rfl⟩) hB 0 rfl rfl rfl hl.1 rfl (Nat.le_of_ble_eq_true rfl) dX4_revoke_2 ⟨Nat.zero_le _, Nat.zero_le _⟩ (fun H locs hB => ?_)
  refine lv_if_ge (tgt := 14) S.1 S.2.1 dX4_revoke_5 (by decide) (fun h_5 => ?_) (fun h_5 => ?_)
  · skip
    have h_R := kp_rs_ge h_5
    obtain ⟨k, hk, rfl⟩ := kp_rs_k h_R
    refine lv_aload_n S.1 S.2.1 dX4_revoke_14 rfl (lv_at hl 0 rfl) ?_
    refine kv_vI (As := []) (rest := []) hN S (kc_MO_count l N hN D cA o a1 a2 a3 a4 a5 a6 σ dv ka kb μ fr st oa ob   ) (kn_cV (C := RX4) S kn_320 kn_321 kn_415 kn_3 kn_322 rfl kd_X4_count rfl rfl ⟨Nat.le_of_ble_eq_true rfl, Nat.le_of_ble_eq_true rfl⟩) hB 0 rfl rfl rfl hl.1 rfl (Nat.le_of_ble_eq_true rfl) dX4_revoke_15 ⟨Nat.zero_le _, Nat.zero_le _⟩ (fun H locs hB => ?_)
    refine lv_iconst (v := 1) S.1 S.2.1 dX4_revoke_18 (by decide) ?_
    refine lv_icmp_ne (tgt := 25) S.1 S.2.1 dX4_revoke_19 (by decide) (fun h_19 => ?_) (fun h_19 => ?_)
    · skip
      refine lv_iconst (v := 0) S.1 S.2.1 dX4_revoke_25 (by decide) ?_
      refine lv_istore_n S.1 S.2.1 dX4_revoke_26 rfl hl (by decide) rfl (fun ls hl => ?_)
      have hl : lv_has ls 3 [(2, .int 0), (0, .ref o), (1, .int (nI k))] := hl
      refine lv_iload_n S.1 S.2.1 dX4_revoke_27 rfl (lv_at hl 0 rfl) ?_
      refine lv_bipush (v := 8) S.1 S.2.1 dX4_revoke_28 (by decide) ?_
      refine kv_bge (x := 0) (y := 8) (tgt := 46) S (by omega) (by omega) dX4_revoke_30 (by decide) (fun h => absurd h (by omega)) (fun h_30 => ?_)
      refine lv_aload_n S.1 S.2.1 dX4_revoke_33 rfl (lv_at hl 1 rfl) ?_
      refine kv_get (C := RX4) (T := TX4) (M := 14) (ci := 2) S hB (kn_c kn_iX4) 0 rfl rfl 10 (by decide) (List.mem_cons_of_mem _ kn_243) rfl rfl dX4_revoke_34 ?_
      refine lv_iload_n S.1 S.2.1 dX4_revoke_37 rfl (lv_at hl 0 rfl) ?_
      refine lv_iconst (v := 0) S.1 S.2.1 dX4_revoke_38 (by decide) ?_
      refine kv_iast S hB 5 0 rfl rfl 0 rfl (by omega) (by decide) dX4_revoke_39 (fun H locs hB => ?_)
      have hB : kv_B N D [(cA, .int)] A s (mo_W o a1 a2 a3 a4 a5 a6 cA σ dv ka kb μ (upd fr 0 0) st oa ob) H locs := hB
      refine lv_iinc (k := 0) (v := 1) S.1 S.2.1 dX4_revoke_40 hl rfl (by decide) (by decide) rfl (fun ls hl => ?_)
      have hl : lv_has ls 3 [(2, .int 1), (0, .ref o), (1, .int (nI k))] := hl
      refine lv_goto (tgt := 27) S.1 S.2.1 dX4_revoke_43 (by decide) ?_
      refine lv_iload_n S.1 S.2.1 dX4_revoke_27 rfl (lv_at hl 0 rfl) ?_
      refine lv_bipush (v := 8) S.1 S.2.1 dX4_revoke_28 (by decide) ?_
      refine kv_bge (x := 1) (y := 8) (tgt := 46) S (by omega) (by omega) dX4_revoke_30 (by decide) (fun h => absurd h (by omega)) (fun h_30 => ?_)
      refine lv_aload_n S.1 S.2.1 dX4_revoke_33 rfl (lv_at hl 1 rfl) ?_
      refine kv_get (C := RX4) (T := TX4) (M := 14) (ci := 2) S hB (kn_c kn_iX4) 0 rfl rfl 10 (by decide) (List.mem_cons_of_mem _ kn_243) rfl rfl dX4_revoke_34 ?_
      refine lv_iload_n S.1 S.2.1 dX4_revoke_37 rfl (lv_at hl 0 rfl) ?_
      refine lv_iconst (v := 0) S.1 S.2.1 dX4_revoke_38 (by decide) ?_
      refine kv_iast S hB 5 0 rfl rfl 1 rfl (by omega) (by decide) dX4_revoke_39 (fun H locs hB => ?_)
      have hB : kv_B N D [(cA, .int)] A s (mo_W o a1 a2 a3 a4 a5 a6 cA σ dv ka kb μ (upd (upd fr 0 0) 1 0) st oa ob) H locs := hB
      refine lv_iinc (k := 0) (v := 2) S.1 S.2.1 dX4_revoke_40 hl rfl (by decide) (by decide) rfl (fun ls hl => ?_)
      have hl : lv_has ls 3 [(2, .int 2), (0, .ref o), (1, .int (nI k))] := hl
      refine lv_goto (tgt := 27) S.1 S.2.1 dX4_revoke_43 (by decide) ?_
      refine lv_iload_n S.1 S.2.1 dX4_revoke_27 rfl (lv_at hl 0 rfl) ?_
      refine lv_bipush (v := 8) S.1 S.2.1 dX4_revoke_28 (by decide) ?_
      refine kv_bge (x := 2) (y := 8) (tgt := 46) S (by omega) (by omega) dX4_revoke_30 (by decide) (fun h => absurd h (by omega)) (fun h_30 => ?_)
      refine lv_aload_n S.1 S.2.1 dX4_revoke_33 rfl (lv_at hl 1 rfl) ?_
      refine kv_get (C := RX4) (T := TX4) (M := 14) (ci := 2) S hB (kn_c kn_iX4) 0 rfl rfl 10 (by decide) (List.mem_cons_of_mem _ kn_243) rfl rfl dX4_revoke_34 ?_
      refine lv_iload_n S.1 S.2.1 dX4_revoke_37 rfl (lv_at hl 0 rfl) ?_
      refine lv_iconst (v := 0) S.1 S.2.1 dX4_revoke_38 (by decide) ?_
      refine kv_iast S hB 5 0 rfl rfl 2 rfl (by omega) (by decide) dX4_revoke_39 (fun H locs hB => ?_)
      have hB : kv_B N D [(cA, .int)] A s (mo_W o a1 a2 a3 a4 a5 a6 cA σ dv ka kb μ (upd (upd (upd fr 0 0) 1 0) 2 0) st oa ob) H locs := hB
      refine lv_iinc (k := 0) (v := 3) S.1 S.2.1 dX4_revoke_40 hl rfl (by decide) (by decide) rfl (fun ls hl => ?_)
      have hl : lv_has ls 3 [(2, .int 3), (0, .ref o), (1, .int (nI k))] := hl
      refine lv_goto (tgt := 27) S.1 S.2.1 dX4_revoke_43 (by decide) ?_
      refine lv_iload_n S.1 S.2.1 dX4_revoke_27 rfl (lv_at hl 0 rfl) ?_
      refine lv_bipush (v := 8) S.1 S.2.1 dX4_revoke_28 (by decide) ?_
      refine kv_bge (x := 3) (y := 8) (tgt := 46) S (by omega) (by omega) dX4_revoke_30 (by decide) (fun h => absurd h (by omega)) (fun h_30 => ?_)
      refine lv_aload_n S.1 S.2.1 dX4_revoke_33 rfl (lv_at hl 1 rfl) ?_
      refine kv_get (C := RX4) (T := TX4) (M := 14) (ci := 2) S hB (kn_c kn_iX4) 0 rfl rfl 10 (by decide) (List.mem_cons_of_mem _ kn_243) rfl rfl dX4_revoke_34 ?_
      refine lv_iload_n S.1 S.2.1 dX4_revoke_37 rfl (lv_at hl 0 rfl) ?_
      refine lv_iconst (v := 0) S.1 S.2.1 dX4_revoke_38 (by decide) ?_
      refine kv_iast S hB 5 0 rfl rfl 3 rfl (by omega) (by decide) dX4_revoke_39 (fun H locs hB => ?_)
      have hB : kv_B N D [(cA, .int)] A s (mo_W o a1 a2 a3 a4 a5 a6 cA σ dv ka kb μ (upd (upd (upd (upd fr 0 0) 1 0) 2 0) 3 0) st oa ob) H locs := hB
      refine lv_iinc (k := 0) (v := 4) S.1 S.2.1 dX4_revoke_40 hl rfl (by decide) (by decide) rfl (fun ls hl => ?_)
      have hl : lv_has ls 3 [(2, .int 4), (0, .ref o), (1, .int (nI k))] := hl
      refine lv_goto (tgt := 27) S.1 S.2.1 dX4_revoke_43 (by decide) ?_
      refine lv_iload_n S.1 S.2.1 dX4_revoke_27 rfl (lv_at hl 0 rfl) ?_
      refine lv_bipush (v := 8) S.1 S.2.1 dX4_revoke_28 (by decide) ?_
      refine kv_bge (x := 4) (y := 8) (tgt := 46) S (by omega) (by omega) dX4_revoke_30 (by decide) (fun h => absurd h (by omega)) (fun h_30 => ?_)
      refine lv_aload_n S.1 S.2.1 dX4_revoke_33 rfl (lv_at hl 1 rfl) ?_
      refine kv_get (C := RX4) (T := TX4) (M := 14) (ci := 2) S hB (kn_c kn_iX4) 0 rfl rfl 10 (by decide) (List.mem_cons_of_mem _ kn_243) rfl rfl dX4_revoke_34 ?_
      refine lv_iload_n S.1 S.2.1 dX4_revoke_37 rfl (lv_at hl 0 rfl) ?_
      refine lv_iconst (v := 0) S.1 S.2.1 dX4_revoke_38 (by decide) ?_
      refine kv_iast S hB 5 0 rfl rfl 4 rfl (by omega) (by decide) dX4_revoke_39 (fun H locs hB => ?_)
      have hB : kv_B N D [(cA, .int)] A s (mo_W o a1 a2 a3 a4 a5 a6 cA σ dv ka kb μ (upd (upd (upd (upd (upd fr 0 0) 1 0) 2 0) 3 0) 4 0) st oa ob) H locs := hB
      refine lv_iinc (k := 0) (v := 5) S.1 S.2.1 dX4_revoke_40 hl rfl (by decide) (by decide) rfl (fun ls hl => ?_)
      have hl : lv_has ls 3 [(2, .int 5), (0, .ref o), (1, .int (nI k))] := hl
      refine lv_goto (tgt := 27) S.1 S.2.1 dX4_revoke_43 (by decide) ?_
      refine lv_iload_n S.1 S.2.1 dX4_revoke_27 rfl (lv_at hl 0 rfl) ?_
      refine lv_bipush (v := 8) S.1 S.2.1 dX4_revoke_28 (by decide) ?_
      refine kv_bge (x := 5) (y := 8) (tgt := 46) S (by omega) (by omega) dX4_revoke_30 (by decide) (fun h => absurd h (by omega)) (fun h_30 => ?_)
      refine lv_aload_n S.1 S.2.1 dX4_revoke_33 rfl (lv_at hl 1 rfl) ?_
      refine kv_get (C := RX4) (T := TX4) (M := 14) (ci := 2) S hB (kn_c kn_iX4) 0 rfl rfl 10 (by decide) (List.mem_cons_of_mem _ kn_243) rfl rfl dX4_revoke_34 ?_
      refine lv_iload_n S.1 S.2.1 dX4_revoke_37 rfl (lv_at hl 0 rfl) ?_
      refine lv_iconst (v := 0) S.1 S.2.1 dX4_revoke_38 (by decide) ?_
      refine kv_iast S hB 5 0 rfl rfl 5 rfl (by omega) (by decide) dX4_revoke_39 (fun H locs hB => ?_)
      have hB : kv_B N D [(cA, .int)] A s (mo_W o a1 a2 a3 a4 a5 a6 cA σ dv ka kb μ (upd (upd (upd (upd (upd (upd fr 0 0) 1 0) 2 0) 3 0) 4 0) 5 0) st oa ob) H locs := hB
      refine lv_iinc (k := 0) (v := 6) S.1 S.2.1 dX4_revoke_40 hl rfl (by decide) (by decide) rfl (fun ls hl => ?_)
      have hl : lv_has ls 3 [(2, .int 6), (0, .ref o), (1, .int (nI k))] := hl
      refine lv_goto (tgt := 27) S.1 S.2.1 dX4_revoke_43 (by decide) ?_
      refine lv_iload_n S.1 S.2.1 dX4_revoke_27 rfl (lv_at hl 0 rfl) ?_
      refine lv_bipush (v := 8) S.1 S.2.1 dX4_revoke_28 (by decide) ?_
      refine kv_bge (x := 6) (y := 8) (tgt := 46) S (by omega) (by omega) dX4_revoke_30 (by decide) (fun h => absurd h (by omega)) (fun h_30 => ?_)
      refine lv_aload_n S.1 S.2.1 dX4_revoke_33 rfl (lv_at hl 1 rfl) ?_
      refine kv_get (C := RX4) (T := TX4) (M := 14) (ci := 2) S hB (kn_c kn_iX4) 0 rfl rfl 10 (by decide) (List.mem_cons_of_mem _ kn_243) rfl rfl dX4_revoke_34 ?_
      refine lv_iload_n S.1 S.2.1 dX4_revoke_37 rfl (lv_at hl 0 rfl) ?_
      refine lv_iconst (v := 0) S.1 S.2.1 dX4_revoke_38 (by decide) ?_
      refine kv_iast S hB 5 0 rfl rfl 6 rfl (by omega) (by decide) dX4_revoke_39 (fun H locs hB => ?_)
      have hB : kv_B N D [(cA, .int)] A s (mo_W o a1 a2 a3 a4 a5 a6 cA σ dv ka kb μ (upd (upd (upd (upd (upd (upd (upd fr 0 0) 1 0) 2 0) 3 0) 4 0) 5 0) 6 0) st oa ob) H locs := hB
      refine lv_iinc (k := 0) (v := 7) S.1 S.2.1 dX4_revoke_40 hl rfl (by decide) (by decide) rfl (fun ls hl => ?_)
      have hl : lv_has ls 3 [(2, .int 7), (0, .ref o), (1, .int (nI k))] := hl
      refine lv_goto (tgt := 27) S.1 S.2.1 dX4_revoke_43 (by decide) ?_
      refine lv_iload_n S.1 S.2.1 dX4_revoke_27 rfl (lv_at hl 0 rfl) ?_
      refine lv_bipush (v := 8) S.1 S.2.1 dX4_revoke_28 (by decide) ?_
      refine kv_bge (x := 7) (y := 8) (tgt := 46) S (by omega) (by omega) dX4_revoke_30 (by decide) (fun h => absurd h (by omega)) (fun h_30 => ?_)
      refine lv_aload_n S.1 S.2.1 dX4_revoke_33 rfl (lv_at hl 1 rfl) ?_
      refine kv_get (C := RX4) (T := TX4) (M := 14) (ci := 2) S hB (kn_c kn_iX4) 0 rfl rfl 10 (by decide) (List.mem_cons_of_mem _ kn_243) rfl rfl dX4_revoke_34 ?_
      refine lv_iload_n S.1 S.2.1 dX4_revoke_37 rfl (lv_at hl 0 rfl) ?_
      refine lv_iconst (v := 0) S.1 S.2.1 dX4_revoke_38 (by decide) ?_
      refine kv_iast S hB 5 0 rfl rfl 7 rfl (by omega) (by decide) dX4_revoke_39 (fun H locs hB => ?_)
      have hB : kv_B N D [(cA, .int)] A s (mo_W o a1 a2 a3 a4 a5 a6 cA σ dv ka kb μ (upd (upd (upd (upd (upd (upd (upd (upd fr 0 0) 1 0) 2 0) 3 0) 4 0) 5 0) 6 0) 7 0) st oa ob) H locs := hB
      refine lv_iinc (k := 0) (v := 8) S.1 S.2.1 dX4_revoke_40 hl rfl (by decide) (by decide) rfl (fun ls hl => ?_)
      have hl : lv_has ls 3 [(2, .int 8), (0, .ref o), (1, .int (nI k))] := hl
      refine lv_goto (tgt := 27) S.1 S.2.1 dX4_revoke_43 (by decide) ?_
      refine lv_iload_n S.1 S.2.1 dX4_revoke_27 rfl (lv_at hl 0 rfl) ?_
      refine lv_bipush (v := 8) S.1 S.2.1 dX4_revoke_28 (by decide) ?_
      refine kv_bge (x := 8) (y := 8) (tgt := 46) S (by omega) (by omega) dX4_revoke_30 (by decide) (fun h_30 => ?_) (fun h => absurd h (by omega))
      have hB := kv_arr 5 rfl (fun _ => 0) (by exact kp_c8 rfl rfl rfl rfl rfl rfl rfl rfl) hB
      have hB : kv_B N D [(cA, .int)] A s (mo_W o a1 a2 a3 a4 a5 a6 cA σ dv ka kb μ (fun _ => 0) st oa ob) H locs := hB
      refine lv_aload_n S.1 S.2.1 dX4_revoke_46 rfl (lv_at hl 1 rfl) ?_
      refine lv_iconst (v := 4) S.1 S.2.1 dX4_revoke_47 (by decide) ?_
      refine lv_bipush (v := 8) S.1 S.2.1 dX4_revoke_48 (by decide) ?_
      refine lv_iload_n S.1 S.2.1 dX4_revoke_50 rfl (lv_at hl 2 rfl) ?_
      refine lv_imul S.1 S.2.1 dX4_revoke_51 ?_
      refine kv_top (y := nI (8 * k)) (pk_mul 8 k) ?_
      refine lv_iadd S.1 S.2.1 dX4_revoke_52 ?_
      refine kv_top (y := nI (4 + (8 * k))) (nI_add 4 (8 * k)) ?_
      refine lv_bipush (v := 8) S.1 S.2.1 dX4_revoke_53 (by decide) ?_
      refine kv_vV (As := [.int (nI (4 + (8 * k))), .int 8]) (rest := []) hN S (kc_MO_planChange l N hN D cA o a1 a2 a3 a4 a5 a6 σ dv ka kb μ (fun _ => 0) st oa ob (4 + (8 * k)) 8  (by omega) (by decide)) (kn_cV (C := RX4) S kn_347 kn_348 kn_419 kn_3 kn_349 rfl kd_X4_planChange rfl rfl ⟨Nat.le_of_ble_eq_true rfl, Nat.le_of_ble_eq_true rfl⟩) hB 0 rfl rfl rfl hl.1 rfl (Nat.le_of_ble_eq_true rfl) dX4_revoke_55 ⟨Nat.zero_le _, Nat.zero_le _⟩ (fun H locs hB => ?_)
      have hB : kv_B N D [(cA, .int)] A s (mo_W o a1 a2 a3 a4 a5 a6 cA σ dv ka kb (kp_ps (kp_ch 8 0 8 (4 + (8 * k)) (fun _ => 0) σ.1) (μ.1, μ.2.1, 0, σ.1)) (fun _ => 0) st oa ob) H locs := hB
      refine lv_aload_n S.1 S.2.1 dX4_revoke_58 rfl (lv_at hl 1 rfl) ?_
      refine kv_vI (As := []) (rest := []) hN S (kc_MO_perform l N hN D cA o a1 a2 a3 a4 a5 a6 σ dv ka kb (kp_ps (kp_ch 8 0 8 (4 + (8 * k)) (fun _ => 0) σ.1) (μ.1, μ.2.1, 0, σ.1)) (fun _ => 0) st oa ob  (kp_ch 8 0 8 (4 + 8 * k) (fun _ => 0) σ.1) (kp_ps_sd _ _ _ _ (Nat.le_trans (kp_ch_len 8 0 8 _ _ _) (by decide)) (kp_ch_in 8 0 8 _ _ _ (by omega) (by decide)))) (kn_cV (C := RX4) S kn_307 kn_308 kn_412 kn_3 kn_309 rfl kd_X4_perform rfl rfl ⟨Nat.le_of_ble_eq_true rfl, Nat.le_of_ble_eq_true rfl⟩) hB 0 rfl rfl rfl hl.1 rfl (Nat.le_of_ble_eq_true rfl) dX4_revoke_59 ⟨Nat.zero_le _, Nat.zero_le _⟩ (fun H locs hB => ?_)
      have hB : kv_B N D [(cA, .int)] A s (mo_W o a1 a2 a3 a4 a5 a6 cA ((kp_run (kp_ch 8 0 8 (4 + 8 * k) (fun _ => 0) σ.1) σ).2) (if (kp_run (kp_ch 8 0 8 (4 + 8 * k) (fun _ => 0) σ.1) σ).1 = 0 then 0 else dv) ka kb (kp_ps (kp_ch 8 0 8 (4 + (8 * k)) (fun _ => 0) σ.1) (μ.1, μ.2.1, 0, σ.1)) (fun _ => 0) st oa ob) H locs := hB
      refine lv_if_eq (tgt := 69) S.1 S.2.1 dX4_revoke_62 (by decide) (fun h_62 => ?_) (fun h_62 => ?_)
      · skip
        simp only [if_pos h_62] at hB
        have hB : kv_B N D [(cA, .int)] A s (mo_W o a1 a2 a3 a4 a5 a6 cA ((kp_run (kp_ch 8 0 8 (4 + 8 * k) (fun _ => 0) σ.1) σ).2) 0 ka kb (kp_ps (kp_ch 8 0 8 (4 + (8 * k)) (fun _ => 0) σ.1) (μ.1, μ.2.1, 0, σ.1)) (fun _ => 0) st oa ob) H locs := hB
        refine lv_iconst (v := (-1)) S.1 S.2.1 dX4_revoke_69 (by decide) ?_
        exact K _ _ _ _ _ _ hB (by first | (rw [kp_y_revoke, if_pos h_R, if_neg h_19, nI_clamp (by omega), kp_yc, kp_yf, if_pos h_62]; simp only [if_pos h_62]) | (rw [kp_y_revoke, if_pos h_R, if_neg h_19, nI_clamp (by omega), kp_yc, kp_yf, if_neg h_62]; simp only [if_neg h_62]) | (rw [kp_y_revoke, if_pos h_R, if_neg h_19, nI_clamp (by omega), kp_yc, kp_yf, if_pos h_62]) | (rw [kp_y_revoke, if_pos h_R, if_neg h_19, nI_clamp (by omega), kp_yc, kp_yf, if_neg h_62]) | (rw [kp_y_revoke, if_pos h_R, if_neg h_19, nI_clamp (by omega), kp_yc, kp_yf, if_pos h_62]; rfl) | (rw [kp_y_revoke, if_pos h_R, if_neg h_19, nI_clamp (by omega), kp_yc, kp_yf, if_neg h_62]; rfl)) (by first | (rw [kp_y_revoke, if_pos h_R, if_neg h_19, nI_clamp (by omega), kp_yc, kp_yf, if_pos h_62]; simp only [if_pos h_62]) | (rw [kp_y_revoke, if_pos h_R, if_neg h_19, nI_clamp (by omega), kp_yc, kp_yf, if_neg h_62]; simp only [if_neg h_62]) | (rw [kp_y_revoke, if_pos h_R, if_neg h_19, nI_clamp (by omega), kp_yc, kp_yf, if_pos h_62]) | (rw [kp_y_revoke, if_pos h_R, if_neg h_19, nI_clamp (by omega), kp_yc, kp_yf, if_neg h_62]) | (rw [kp_y_revoke, if_pos h_R, if_neg h_19, nI_clamp (by omega), kp_yc, kp_yf, if_pos h_62]; rfl) | (rw [kp_y_revoke, if_pos h_R, if_neg h_19, nI_clamp (by omega), kp_yc, kp_yf, if_neg h_62]; rfl)) dX4_revoke_70
      · skip
        simp only [if_neg h_62] at hB
        have hB : kv_B N D [(cA, .int)] A s (mo_W o a1 a2 a3 a4 a5 a6 cA ((kp_run (kp_ch 8 0 8 (4 + 8 * k) (fun _ => 0) σ.1) σ).2) dv ka kb (kp_ps (kp_ch 8 0 8 (4 + (8 * k)) (fun _ => 0) σ.1) (μ.1, μ.2.1, 0, σ.1)) (fun _ => 0) st oa ob) H locs := hB
        refine lv_iconst (v := 0) S.1 S.2.1 dX4_revoke_65 (by decide) ?_
        refine lv_goto (tgt := 70) S.1 S.2.1 dX4_revoke_66 (by decide) ?_
        exact K _ _ _ _ _ _ hB (by first | (rw [kp_y_revoke, if_pos h_R, if_neg h_19, nI_clamp (by omega), kp_yc, kp_yf, if_pos h_62]; simp only [if_pos h_62]) | (rw [kp_y_revoke, if_pos h_R, if_neg h_19, nI_clamp (by omega), kp_yc, kp_yf, if_neg h_62]; simp only [if_neg h_62]) | (rw [kp_y_revoke, if_pos h_R, if_neg h_19, nI_clamp (by omega), kp_yc, kp_yf, if_pos h_62]) | (rw [kp_y_revoke, if_pos h_R, if_neg h_19, nI_clamp (by omega), kp_yc, kp_yf, if_neg h_62]) | (rw [kp_y_revoke, if_pos h_R, if_neg h_19, nI_clamp (by omega), kp_yc, kp_yf, if_pos h_62]; rfl) | (rw [kp_y_revoke, if_pos h_R, if_neg h_19, nI_clamp (by omega), kp_yc, kp_yf, if_neg h_62]; rfl)) (by first | (rw [kp_y_revoke, if_pos h_R, if_neg h_19, nI_clamp (by omega), kp_yc, kp_yf, if_pos h_62]; simp only [if_pos h_62]) | (rw [kp_y_revoke, if_pos h_R, if_neg h_19, nI_clamp (by omega), kp_yc, kp_yf, if_neg h_62]; simp only [if_neg h_62]) | (rw [kp_y_revoke, if_pos h_R, if_neg h_19, nI_clamp (by omega), kp_yc, kp_yf, if_pos h_62]) | (rw [kp_y_revoke, if_pos h_R, if_neg h_19, nI_clamp (by omega), kp_yc, kp_yf, if_neg h_62]) | (rw [kp_y_revoke, if_pos h_R, if_neg h_19, nI_clamp (by omega), kp_yc, kp_yf, if_pos h_62]; rfl) | (rw [kp_y_revoke, if_pos h_R, if_neg h_19, nI_clamp (by omega), kp_yc, kp_yf, if_neg h_62]; rfl)) dX4_revoke_70
    · skip
      refine lv_bipush (v := (-8)) S.1 S.2.1 dX4_revoke_22 (by decide) ?_
      exact K _ _ _ _ _ _ hB (by first | (rw [kp_y_revoke, if_pos h_R, if_pos h_19]) | (rw [kp_y_revoke, if_pos h_R, if_pos h_19]; rfl)) (by first | (rw [kp_y_revoke, if_pos h_R, if_pos h_19]) | (rw [kp_y_revoke, if_pos h_R, if_pos h_19]; rfl)) dX4_revoke_24
  · skip
    have h_R := kp_rs_lt h_5
    refine lv_aload_n S.1 S.2.1 dX4_revoke_8 rfl (lv_at hl 0 rfl) ?_
    refine lv_iload_n S.1 S.2.1 dX4_revoke_9 rfl (lv_at hl 1 rfl) ?_
    refine kv_vI (As := [.int x]) (rest := []) hN S (kc_MO_badSlot l N hN D cA o a1 a2 a3 a4 a5 a6 σ dv ka kb μ fr st oa ob x  ) (kn_cV (C := RX4) S kn_354 kn_355 kn_420 kn_3 kn_356 rfl kd_X4_badSlot rfl rfl ⟨Nat.le_of_ble_eq_true rfl, Nat.le_of_ble_eq_true rfl⟩) hB 0 rfl rfl rfl hl.1 rfl (Nat.le_of_ble_eq_true rfl) dX4_revoke_10 ⟨Nat.zero_le _, Nat.zero_le _⟩ (fun H locs hB => ?_)
    exact K _ _ _ _ _ _ hB (by first | (rw [kp_y_revoke, if_neg h_R]) | (rw [kp_y_revoke, if_neg h_R]; rfl)) (by first | (rw [kp_y_revoke, if_neg h_R]) | (rw [kp_y_revoke, if_neg h_R]; rfl)) dX4_revoke_13

abbrev kr_MO_write : Room := { frames := 5, cells := 0, slots := 0, locals := 119 }
set_option maxRecDepth 100000 in
set_option maxHeartbeats 4000000 in
theorem kc_MO_write (l : Launch) (N : State → Prop) (hN : kv_Mv N) (D : va_G) (cA : ClassId) (o a1 a2 a3 a4 a5 a6 : Nat) (σ : kp_S) (dv ka kb : Int32) (μ : kp_P) (fr st : Nat → Int32) (oa ob : Int32) (x : Int32) (y : Int32) (t : Int32) : kv_I N l yX4_write wsX4_write kr_MO_write D [(cA, .int)] [.ref o, .int x, .int y, .int t] (mo_W o a1 a2 a3 a4 a5 a6 cA σ dv ka kb μ fr st oa ob) ((kp_y_write (σ, dv, ka, kb, μ, fr, st, oa, ob) x y t).1) (mo_T o a1 a2 a3 a4 a5 a6 cA (kp_y_write (σ, dv, ka, kb, μ, fr, st, oa, ob) x y t).2) := by
  refine kv_openI (cc := cX4_write) (maxL := 6) (rt := .int) (by decide) rfl (rfl) (Nat.le_of_ble_eq_true rfl) ?_
  intro p e s m args below meth c A H locs ls Q S hl hB K
  have hl : lv_has ls 6 [(0, .ref o), (1, .int x), (2, .int y), (3, .int t)] := hl
  refine lv_aload_n S.1 S.2.1 dX4_write_0 rfl (lv_at hl 0 rfl) ?_
  refine lv_iload_n S.1 S.2.1 dX4_write_1 rfl (lv_at hl 1 rfl) ?_
  refine lv_iload_n S.1 S.2.1 dX4_write_2 rfl (lv_at hl 2 rfl) ?_
  refine kv_vI (As := [.int x, .int y]) (rest := []) hN S (kc_MO_badWord l N hN D cA o a1 a2 a3 a4 a5 a6 σ dv ka kb μ fr st oa ob x y  ) (kn_cV (C := RX4) S kn_365 kn_366 kn_421 kn_3 kn_367 rfl kd_X4_badWord rfl rfl ⟨Nat.le_of_ble_eq_true rfl, Nat.le_of_ble_eq_true rfl⟩) hB 0 rfl rfl rfl hl.1 rfl (Nat.le_of_ble_eq_true rfl) dX4_write_3 ⟨Nat.zero_le _, Nat.zero_le _⟩ (fun H locs hB => ?_)
  refine lv_if_ge (tgt := 16) S.1 S.2.1 dX4_write_6 (by decide) (fun h_6 => ?_) (fun h_6 => ?_)
  · skip
    have h_R := kp_rw_ge h_6
    obtain ⟨z, hz, i, hi, rfl, rfl⟩ := kp_rw_k h_R
    refine lv_iconst (v := 0) S.1 S.2.1 dX4_write_16 (by decide) ?_
    refine lv_istore S.1 S.2.1 dX4_write_17 hl (by decide) rfl (fun ls hl => ?_)
    have hl : lv_has ls 6 [(4, .int 0), (0, .ref o), (1, .int (nI z)), (2, .int (nI i)), (3, .int t)] := hl
    have loop19 : ∀ (n : Nat) (j : Nat) (gg : Nat → Int32) (H : Heap) (locs : List Loc) (ls : Array Slot), (j + n = 4) → (kp_wl σ.1 ka kb z i t n j gg = kp_wl σ.1 ka kb z i t 4 0 fr) → lv_has ls 6 [(4, .int (nI j)), (0, .ref o), (1, .int (nI z)), (2, .int (nI i)), (3, .int t)] → kv_B N D [(cA, .int)] A s (mo_W o a1 a2 a3 a4 a5 a6 cA σ dv ka kb μ gg st oa ob) H locs → W p l e kr_MO_write s m args below meth c H locs 0 0 Q (F0 m 19 ls []) := by
      intro n
      induction n with
      | zero =>
        intro j gg H locs ls hj hT hl hB
        refine lv_iload S.1 S.2.1 dX4_write_19 (lv_at hl 0 rfl) ?_
        refine lv_iconst (v := 4) S.1 S.2.1 dX4_write_21 (by decide) ?_
        refine kv_bge (x := j) (y := 4) (tgt := 94) S (by omega) (by omega) dX4_write_22 (by decide) (fun h_22 => ?_) (fun h => absurd h (by omega))
        have hT0 : gg = kp_wl σ.1 ka kb z i t 4 0 fr := hT
        subst hT0
        refine lv_aload_n S.1 S.2.1 dX4_write_94 rfl (lv_at hl 1 rfl) ?_
        refine lv_bipush (v := 48) S.1 S.2.1 dX4_write_95 (by decide) ?_
        refine lv_iconst (v := 4) S.1 S.2.1 dX4_write_97 (by decide) ?_
        refine lv_iload_n S.1 S.2.1 dX4_write_98 rfl (lv_at hl 2 rfl) ?_
        refine lv_imul S.1 S.2.1 dX4_write_99 ?_
        refine kv_top (y := nI (4 * z)) (pk_mul 4 z) ?_
        refine lv_iadd S.1 S.2.1 dX4_write_100 ?_
        refine kv_top (y := nI (48 + (4 * z))) (nI_add 48 (4 * z)) ?_
        refine lv_iconst (v := 4) S.1 S.2.1 dX4_write_101 (by decide) ?_
        refine kv_vV (As := [.int (nI (48 + (4 * z))), .int 4]) (rest := []) hN S (kc_MO_planChange l N hN D cA o a1 a2 a3 a4 a5 a6 σ dv ka kb μ (kp_wl σ.1 ka kb z i t 4 0 fr) st oa ob (48 + (4 * z)) 4  (by omega) (by decide)) (kn_cV (C := RX4) S kn_347 kn_348 kn_419 kn_3 kn_349 rfl kd_X4_planChange rfl rfl ⟨Nat.le_of_ble_eq_true rfl, Nat.le_of_ble_eq_true rfl⟩) hB 0 rfl rfl rfl hl.1 rfl (Nat.le_of_ble_eq_true rfl) dX4_write_102 ⟨Nat.zero_le _, Nat.zero_le _⟩ (fun H locs hB => ?_)
        have hB : kv_B N D [(cA, .int)] A s (mo_W o a1 a2 a3 a4 a5 a6 cA σ dv ka kb (kp_ps (kp_ch 4 0 4 (48 + (4 * z)) (kp_wl σ.1 ka kb z i t 4 0 fr) σ.1) (μ.1, μ.2.1, 0, σ.1)) (kp_wl σ.1 ka kb z i t 4 0 fr) st oa ob) H locs := hB
        refine lv_aload_n S.1 S.2.1 dX4_write_105 rfl (lv_at hl 1 rfl) ?_
        refine kv_vI (As := []) (rest := []) hN S (kc_MO_perform l N hN D cA o a1 a2 a3 a4 a5 a6 σ dv ka kb (kp_ps (kp_ch 4 0 4 (48 + (4 * z)) (kp_wl σ.1 ka kb z i t 4 0 fr) σ.1) (μ.1, μ.2.1, 0, σ.1)) (kp_wl σ.1 ka kb z i t 4 0 fr) st oa ob  (kp_ch 4 0 4 (48 + 4 * z) (kp_wl σ.1 ka kb z i t 4 0 fr) σ.1) (kp_ps_sd _ _ _ _ (Nat.le_trans (kp_ch_len 4 0 4 _ _ _) (by decide)) (kp_ch_in 4 0 4 _ _ _ (by omega) (by decide)))) (kn_cV (C := RX4) S kn_307 kn_308 kn_412 kn_3 kn_309 rfl kd_X4_perform rfl rfl ⟨Nat.le_of_ble_eq_true rfl, Nat.le_of_ble_eq_true rfl⟩) hB 0 rfl rfl rfl hl.1 rfl (Nat.le_of_ble_eq_true rfl) dX4_write_106 ⟨Nat.zero_le _, Nat.zero_le _⟩ (fun H locs hB => ?_)
        have hB : kv_B N D [(cA, .int)] A s (mo_W o a1 a2 a3 a4 a5 a6 cA ((kp_run (kp_ch 4 0 4 (48 + 4 * z) (kp_wl σ.1 ka kb z i t 4 0 fr) σ.1) σ).2) (if (kp_run (kp_ch 4 0 4 (48 + 4 * z) (kp_wl σ.1 ka kb z i t 4 0 fr) σ.1) σ).1 = 0 then 0 else dv) ka kb (kp_ps (kp_ch 4 0 4 (48 + (4 * z)) (kp_wl σ.1 ka kb z i t 4 0 fr) σ.1) (μ.1, μ.2.1, 0, σ.1)) (kp_wl σ.1 ka kb z i t 4 0 fr) st oa ob) H locs := hB
        refine lv_if_eq (tgt := 116) S.1 S.2.1 dX4_write_109 (by decide) (fun h_109 => ?_) (fun h_109 => ?_)
        · skip
          simp only [if_pos h_109] at hB
          have hB : kv_B N D [(cA, .int)] A s (mo_W o a1 a2 a3 a4 a5 a6 cA ((kp_run (kp_ch 4 0 4 (48 + 4 * z) (kp_wl σ.1 ka kb z i t 4 0 fr) σ.1) σ).2) 0 ka kb (kp_ps (kp_ch 4 0 4 (48 + (4 * z)) (kp_wl σ.1 ka kb z i t 4 0 fr) σ.1) (μ.1, μ.2.1, 0, σ.1)) (kp_wl σ.1 ka kb z i t 4 0 fr) st oa ob) H locs := hB
          refine lv_iconst (v := (-1)) S.1 S.2.1 dX4_write_116 (by decide) ?_
          exact K _ _ _ _ _ _ hB (by first | (rw [kp_y_write, if_pos h_R, nI_clamp (by omega), nI_clamp (by omega), kp_yc, kp_yf, if_pos h_109]; simp only [if_pos h_109]) | (rw [kp_y_write, if_pos h_R, nI_clamp (by omega), nI_clamp (by omega), kp_yc, kp_yf, if_neg h_109]; simp only [if_neg h_109]) | (rw [kp_y_write, if_pos h_R, nI_clamp (by omega), nI_clamp (by omega), kp_yc, kp_yf, if_pos h_109]) | (rw [kp_y_write, if_pos h_R, nI_clamp (by omega), nI_clamp (by omega), kp_yc, kp_yf, if_neg h_109]) | (rw [kp_y_write, if_pos h_R, nI_clamp (by omega), nI_clamp (by omega), kp_yc, kp_yf, if_pos h_109]; rfl) | (rw [kp_y_write, if_pos h_R, nI_clamp (by omega), nI_clamp (by omega), kp_yc, kp_yf, if_neg h_109]; rfl)) (by first | (rw [kp_y_write, if_pos h_R, nI_clamp (by omega), nI_clamp (by omega), kp_yc, kp_yf, if_pos h_109]; simp only [if_pos h_109]) | (rw [kp_y_write, if_pos h_R, nI_clamp (by omega), nI_clamp (by omega), kp_yc, kp_yf, if_neg h_109]; simp only [if_neg h_109]) | (rw [kp_y_write, if_pos h_R, nI_clamp (by omega), nI_clamp (by omega), kp_yc, kp_yf, if_pos h_109]) | (rw [kp_y_write, if_pos h_R, nI_clamp (by omega), nI_clamp (by omega), kp_yc, kp_yf, if_neg h_109]) | (rw [kp_y_write, if_pos h_R, nI_clamp (by omega), nI_clamp (by omega), kp_yc, kp_yf, if_pos h_109]; rfl) | (rw [kp_y_write, if_pos h_R, nI_clamp (by omega), nI_clamp (by omega), kp_yc, kp_yf, if_neg h_109]; rfl)) dX4_write_117
        · skip
          simp only [if_neg h_109] at hB
          have hB : kv_B N D [(cA, .int)] A s (mo_W o a1 a2 a3 a4 a5 a6 cA ((kp_run (kp_ch 4 0 4 (48 + 4 * z) (kp_wl σ.1 ka kb z i t 4 0 fr) σ.1) σ).2) dv ka kb (kp_ps (kp_ch 4 0 4 (48 + (4 * z)) (kp_wl σ.1 ka kb z i t 4 0 fr) σ.1) (μ.1, μ.2.1, 0, σ.1)) (kp_wl σ.1 ka kb z i t 4 0 fr) st oa ob) H locs := hB
          refine lv_iconst (v := 0) S.1 S.2.1 dX4_write_112 (by decide) ?_
          refine lv_goto (tgt := 117) S.1 S.2.1 dX4_write_113 (by decide) ?_
          exact K _ _ _ _ _ _ hB (by first | (rw [kp_y_write, if_pos h_R, nI_clamp (by omega), nI_clamp (by omega), kp_yc, kp_yf, if_pos h_109]; simp only [if_pos h_109]) | (rw [kp_y_write, if_pos h_R, nI_clamp (by omega), nI_clamp (by omega), kp_yc, kp_yf, if_neg h_109]; simp only [if_neg h_109]) | (rw [kp_y_write, if_pos h_R, nI_clamp (by omega), nI_clamp (by omega), kp_yc, kp_yf, if_pos h_109]) | (rw [kp_y_write, if_pos h_R, nI_clamp (by omega), nI_clamp (by omega), kp_yc, kp_yf, if_neg h_109]) | (rw [kp_y_write, if_pos h_R, nI_clamp (by omega), nI_clamp (by omega), kp_yc, kp_yf, if_pos h_109]; rfl) | (rw [kp_y_write, if_pos h_R, nI_clamp (by omega), nI_clamp (by omega), kp_yc, kp_yf, if_neg h_109]; rfl)) (by first | (rw [kp_y_write, if_pos h_R, nI_clamp (by omega), nI_clamp (by omega), kp_yc, kp_yf, if_pos h_109]; simp only [if_pos h_109]) | (rw [kp_y_write, if_pos h_R, nI_clamp (by omega), nI_clamp (by omega), kp_yc, kp_yf, if_neg h_109]; simp only [if_neg h_109]) | (rw [kp_y_write, if_pos h_R, nI_clamp (by omega), nI_clamp (by omega), kp_yc, kp_yf, if_pos h_109]) | (rw [kp_y_write, if_pos h_R, nI_clamp (by omega), nI_clamp (by omega), kp_yc, kp_yf, if_neg h_109]) | (rw [kp_y_write, if_pos h_R, nI_clamp (by omega), nI_clamp (by omega), kp_yc, kp_yf, if_pos h_109]; rfl) | (rw [kp_y_write, if_pos h_R, nI_clamp (by omega), nI_clamp (by omega), kp_yc, kp_yf, if_neg h_109]; rfl)) dX4_write_117
      | succ n ih19 =>
        intro j gg H locs ls hj hT hl hB
        refine lv_iload S.1 S.2.1 dX4_write_19 (lv_at hl 0 rfl) ?_
        refine lv_iconst (v := 4) S.1 S.2.1 dX4_write_21 (by decide) ?_
        refine kv_bge (x := j) (y := 4) (tgt := 94) S (by omega) (by omega) dX4_write_22 (by decide) (fun h => absurd h (by omega)) (fun h_22 => ?_)
        refine lv_iload S.1 S.2.1 dX4_write_25 (lv_at hl 0 rfl) ?_
        refine lv_iload_n S.1 S.2.1 dX4_write_27 rfl (lv_at hl 3 rfl) ?_
        refine kv_bne (x := j) (y := i) (tgt := 35) S (by omega) (by omega) dX4_write_28 (by decide) (fun h_28 => ?_) (fun h_28 => ?_)
        · skip
          refine lv_aload_n S.1 S.2.1 dX4_write_35 rfl (lv_at hl 1 rfl) ?_
          refine kv_get (C := RX4) (T := TX4) (M := 14) (ci := 2) S hB (kn_c kn_iX4) 0 rfl rfl 4 (by decide) (List.mem_cons_of_mem _ kn_237) rfl rfl dX4_write_36 ?_
          refine lv_aload_n S.1 S.2.1 dX4_write_39 rfl (lv_at hl 1 rfl) ?_
          refine kv_get (C := RX4) (T := TX4) (M := 14) (ci := 2) S hB (kn_c kn_iX4) 0 rfl rfl 5 (by decide) (List.mem_cons_of_mem _ kn_238) rfl rfl dX4_write_40 ?_
          refine lv_iload_n S.1 S.2.1 dX4_write_43 rfl (lv_at hl 2 rfl) ?_
          refine lv_iload S.1 S.2.1 dX4_write_44 (lv_at hl 0 rfl) ?_
          refine lv_aload_n S.1 S.2.1 dX4_write_46 rfl (lv_at hl 1 rfl) ?_
          refine kv_get (C := RX4) (T := TX4) (M := 14) (ci := 2) S hB (kn_c kn_iX4) 0 rfl rfl 0 (by decide) (List.mem_cons_of_mem _ kn_233) rfl rfl dX4_write_47 ?_
          refine lv_bipush (v := 48) S.1 S.2.1 dX4_write_50 (by decide) ?_
          refine lv_iconst (v := 4) S.1 S.2.1 dX4_write_52 (by decide) ?_
          refine lv_iload_n S.1 S.2.1 dX4_write_53 rfl (lv_at hl 2 rfl) ?_
          refine lv_imul S.1 S.2.1 dX4_write_54 ?_
          refine kv_top (y := nI (4 * z)) (pk_mul 4 z) ?_
          refine lv_iadd S.1 S.2.1 dX4_write_55 ?_
          refine kv_top (y := nI (48 + (4 * z))) (nI_add 48 (4 * z)) ?_
          refine lv_iload S.1 S.2.1 dX4_write_56 (lv_at hl 0 rfl) ?_
          refine lv_iadd S.1 S.2.1 dX4_write_58 ?_
          refine kv_top (y := nI ((48 + (4 * z)) + j)) (nI_add (48 + (4 * z)) j) ?_
          refine kv_iald S hB 1 0 rfl rfl ((48 + (4 * z)) + j) rfl (by omega) (by decide) dX4_write_59 ?_
          refine kv_sP (As := [.int ka, .int kb, .int (nI z), .int (nI j), .int (σ.1 ((48 + (4 * z)) + j))]) (rest := []) S (kc_MO_show l D ka kb (nI z) j (σ.1 ((48 + (4 * z)) + j))  (by omega)) (kn_cS S kn_368 kn_369 kn_3 kn_370 kd_X4_show rfl rfl ⟨Nat.le_of_ble_eq_true rfl, Nat.le_of_ble_eq_true rfl⟩) hB rfl hl.1 rfl (Nat.le_of_ble_eq_true rfl) dX4_write_60 ⟨Nat.zero_le _, Nat.zero_le _⟩ (fun H locs hB => ?_)
          refine lv_topi (fun x_1 ex_1 => ?_)
          refine lv_istore S.1 S.2.1 dX4_write_63 hl (by decide) rfl (fun ls hl => ?_)
          have hl : lv_has ls 6 [(5, .int x_1), (4, .int (nI j)), (0, .ref o), (1, .int (nI z)), (2, .int (nI i)), (3, .int t)] := hl
          refine lv_aload_n S.1 S.2.1 dX4_write_65 rfl (lv_at hl 2 rfl) ?_
          refine kv_get (C := RX4) (T := TX4) (M := 14) (ci := 2) S hB (kn_c kn_iX4) 0 rfl rfl 10 (by decide) (List.mem_cons_of_mem _ kn_243) rfl rfl dX4_write_66 ?_
          refine lv_iload S.1 S.2.1 dX4_write_69 (lv_at hl 1 rfl) ?_
          refine lv_aload_n S.1 S.2.1 dX4_write_71 rfl (lv_at hl 2 rfl) ?_
          refine kv_get (C := RX4) (T := TX4) (M := 14) (ci := 2) S hB (kn_c kn_iX4) 0 rfl rfl 4 (by decide) (List.mem_cons_of_mem _ kn_237) rfl rfl dX4_write_72 ?_
          refine lv_aload_n S.1 S.2.1 dX4_write_75 rfl (lv_at hl 2 rfl) ?_
          refine kv_get (C := RX4) (T := TX4) (M := 14) (ci := 2) S hB (kn_c kn_iX4) 0 rfl rfl 5 (by decide) (List.mem_cons_of_mem _ kn_238) rfl rfl dX4_write_76 ?_
          refine lv_iload_n S.1 S.2.1 dX4_write_79 rfl (lv_at hl 3 rfl) ?_
          refine lv_iload S.1 S.2.1 dX4_write_80 (lv_at hl 1 rfl) ?_
          refine lv_iload S.1 S.2.1 dX4_write_82 (lv_at hl 0 rfl) ?_
          refine kv_sP (As := [.int ka, .int kb, .int (nI z), .int (nI j), .int x_1]) (rest := [.int (nI j), .ref a5]) S (kc_MO_hide l D ka kb (nI z) j x_1  (by omega)) (kn_cS S kn_297 kn_298 kn_3 kn_299 kd_X4_hide rfl rfl ⟨Nat.le_of_ble_eq_true rfl, Nat.le_of_ble_eq_true rfl⟩) hB rfl hl.1 rfl (Nat.le_of_ble_eq_true rfl) dX4_write_84 ⟨Nat.zero_le _, Nat.zero_le _⟩ (fun H locs hB => ?_)
          refine kv_iast S hB 5 0 rfl rfl j rfl (by omega) (by decide) dX4_write_87 (fun H locs hB => ?_)
          have hB : kv_B N D [(cA, .int)] A s (mo_W o a1 a2 a3 a4 a5 a6 cA σ dv ka kb μ (upd gg j (kp_hide ka kb (nI z) j x_1)) st oa ob) H locs := hB
          refine lv_iinc (k := 1) (v := nI (j + 1)) S.1 S.2.1 dX4_write_88 hl rfl (nI_1 j) (by decide) rfl (fun ls hl => ?_)
          have hl : lv_has ls 6 [(4, .int (nI (j + 1))), (5, .int x_1), (0, .ref o), (1, .int (nI z)), (2, .int (nI i)), (3, .int t)] := hl
          refine lv_goto (tgt := 19) S.1 S.2.1 dX4_write_91 (by decide) ?_
          exact ih19 (j + 1) (upd gg j (kp_hide ka kb (nI z) j x_1)) _ _ _ (by omega) (by subst_vars; rw [← hT, kp_wl]; first | rw [if_pos rfl] | rw [if_neg h_28]) (lv_sub hl [0, 2, 3, 4, 5] rfl) hB
        · skip
          refine lv_iload_n S.1 S.2.1 dX4_write_31 rfl (lv_at hl 4 rfl) ?_
          refine lv_goto (tgt := 63) S.1 S.2.1 dX4_write_32 (by decide) ?_
          refine lv_istore S.1 S.2.1 dX4_write_63 hl (by decide) rfl (fun ls hl => ?_)
          have hl : lv_has ls 6 [(5, .int t), (4, .int (nI j)), (0, .ref o), (1, .int (nI z)), (2, .int (nI i)), (3, .int t)] := hl
          refine lv_aload_n S.1 S.2.1 dX4_write_65 rfl (lv_at hl 2 rfl) ?_
          refine kv_get (C := RX4) (T := TX4) (M := 14) (ci := 2) S hB (kn_c kn_iX4) 0 rfl rfl 10 (by decide) (List.mem_cons_of_mem _ kn_243) rfl rfl dX4_write_66 ?_
          refine lv_iload S.1 S.2.1 dX4_write_69 (lv_at hl 1 rfl) ?_
          refine lv_aload_n S.1 S.2.1 dX4_write_71 rfl (lv_at hl 2 rfl) ?_
          refine kv_get (C := RX4) (T := TX4) (M := 14) (ci := 2) S hB (kn_c kn_iX4) 0 rfl rfl 4 (by decide) (List.mem_cons_of_mem _ kn_237) rfl rfl dX4_write_72 ?_
          refine lv_aload_n S.1 S.2.1 dX4_write_75 rfl (lv_at hl 2 rfl) ?_
          refine kv_get (C := RX4) (T := TX4) (M := 14) (ci := 2) S hB (kn_c kn_iX4) 0 rfl rfl 5 (by decide) (List.mem_cons_of_mem _ kn_238) rfl rfl dX4_write_76 ?_
          refine lv_iload_n S.1 S.2.1 dX4_write_79 rfl (lv_at hl 3 rfl) ?_
          refine lv_iload S.1 S.2.1 dX4_write_80 (lv_at hl 1 rfl) ?_
          refine lv_iload S.1 S.2.1 dX4_write_82 (lv_at hl 0 rfl) ?_
          refine kv_sP (As := [.int ka, .int kb, .int (nI z), .int (nI j), .int t]) (rest := [.int (nI j), .ref a5]) S (kc_MO_hide l D ka kb (nI z) j t  (by omega)) (kn_cS S kn_297 kn_298 kn_3 kn_299 kd_X4_hide rfl rfl ⟨Nat.le_of_ble_eq_true rfl, Nat.le_of_ble_eq_true rfl⟩) hB rfl hl.1 rfl (Nat.le_of_ble_eq_true rfl) dX4_write_84 ⟨Nat.zero_le _, Nat.zero_le _⟩ (fun H locs hB => ?_)
          refine kv_iast S hB 5 0 rfl rfl j rfl (by omega) (by decide) dX4_write_87 (fun H locs hB => ?_)
          have hB : kv_B N D [(cA, .int)] A s (mo_W o a1 a2 a3 a4 a5 a6 cA σ dv ka kb μ (upd gg j (kp_hide ka kb (nI z) j t)) st oa ob) H locs := hB
          refine lv_iinc (k := 1) (v := nI (j + 1)) S.1 S.2.1 dX4_write_88 hl rfl (nI_1 j) (by decide) rfl (fun ls hl => ?_)
          have hl : lv_has ls 6 [(4, .int (nI (j + 1))), (5, .int t), (0, .ref o), (1, .int (nI z)), (2, .int (nI i)), (3, .int t)] := hl
          refine lv_goto (tgt := 19) S.1 S.2.1 dX4_write_91 (by decide) ?_
          exact ih19 (j + 1) (upd gg j (kp_hide ka kb (nI z) j t)) _ _ _ (by omega) (by subst_vars; rw [← hT, kp_wl]; first | rw [if_pos rfl] | rw [if_neg h_28]) (lv_sub hl [0, 2, 3, 4, 5] rfl) hB
    exact loop19 4 0 fr _ _ _ (rfl) (rfl) (lv_sub hl [0, 1, 2, 3, 4] rfl) hB
  · skip
    have h_R := kp_rw_lt h_6
    refine lv_aload_n S.1 S.2.1 dX4_write_9 rfl (lv_at hl 0 rfl) ?_
    refine lv_iload_n S.1 S.2.1 dX4_write_10 rfl (lv_at hl 1 rfl) ?_
    refine lv_iload_n S.1 S.2.1 dX4_write_11 rfl (lv_at hl 2 rfl) ?_
    refine kv_vI (As := [.int x, .int y]) (rest := []) hN S (kc_MO_badWord l N hN D cA o a1 a2 a3 a4 a5 a6 σ dv ka kb μ fr st oa ob x y  ) (kn_cV (C := RX4) S kn_365 kn_366 kn_421 kn_3 kn_367 rfl kd_X4_badWord rfl rfl ⟨Nat.le_of_ble_eq_true rfl, Nat.le_of_ble_eq_true rfl⟩) hB 0 rfl rfl rfl hl.1 rfl (Nat.le_of_ble_eq_true rfl) dX4_write_12 ⟨Nat.zero_le _, Nat.zero_le _⟩ (fun H locs hB => ?_)
    exact K _ _ _ _ _ _ hB (by first | (rw [kp_y_write, if_neg h_R]) | (rw [kp_y_write, if_neg h_R]; rfl)) (by first | (rw [kp_y_write, if_neg h_R]) | (rw [kp_y_write, if_neg h_R]; rfl)) dX4_write_15

abbrev kr_MO_read : Room := { frames := 5, cells := 0, slots := 0, locals := 119 }
set_option maxRecDepth 100000 in
set_option maxHeartbeats 4000000 in
theorem kc_MO_read (l : Launch) (N : State → Prop) (hN : kv_Mv N) (D : va_G) (cA : ClassId) (o a1 a2 a3 a4 a5 a6 : Nat) (σ : kp_S) (dv ka kb : Int32) (μ : kp_P) (fr st : Nat → Int32) (oa ob : Int32) (x : Int32) (y : Int32) : kv_L N l yX4_read wsX4_read kr_MO_read D [(cA, .int)] [.ref o, .int x, .int y] (mo_W o a1 a2 a3 a4 a5 a6 cA σ dv ka kb μ fr st oa ob) (kp_y_read (σ, dv, ka, kb, μ, fr, st, oa, ob) x y) (mo_W o a1 a2 a3 a4 a5 a6 cA σ dv ka kb μ fr st oa ob) := by
  refine kv_openL (cc := cX4_read) (maxL := 4) (by decide) rfl (Nat.le_of_ble_eq_true rfl) ?_
  intro p e s m args below meth c A H locs ls Q S hl hB K
  have hl : lv_has ls 4 [(0, .ref o), (1, .int x), (2, .int y)] := hl
  refine lv_aload_n S.1 S.2.1 dX4_read_0 rfl (lv_at hl 0 rfl) ?_
  refine lv_iload_n S.1 S.2.1 dX4_read_1 rfl (lv_at hl 1 rfl) ?_
  refine lv_iload_n S.1 S.2.1 dX4_read_2 rfl (lv_at hl 2 rfl) ?_
  refine kv_vI (As := [.int x, .int y]) (rest := []) hN S (kc_MO_badWord l N hN D cA o a1 a2 a3 a4 a5 a6 σ dv ka kb μ fr st oa ob x y  ) (kn_cV (C := RX4) S kn_365 kn_366 kn_421 kn_3 kn_367 rfl kd_X4_badWord rfl rfl ⟨Nat.le_of_ble_eq_true rfl, Nat.le_of_ble_eq_true rfl⟩) hB 0 rfl rfl rfl hl.1 rfl (Nat.le_of_ble_eq_true rfl) dX4_read_3 ⟨Nat.zero_le _, Nat.zero_le _⟩ (fun H locs hB => ?_)
  refine lv_if_ge (tgt := 17) S.1 S.2.1 dX4_read_6 (by decide) (fun h_6 => ?_) (fun h_6 => ?_)
  · skip
    have h_R := kp_rw_ge h_6
    obtain ⟨z, hz, i, hi, rfl, rfl⟩ := kp_rw_k h_R
    refine lv_aload_n S.1 S.2.1 dX4_read_17 rfl (lv_at hl 0 rfl) ?_
    refine kv_get (C := RX4) (T := TX4) (M := 14) (ci := 2) S hB (kn_c kn_iX4) 0 rfl rfl 4 (by decide) (List.mem_cons_of_mem _ kn_237) rfl rfl dX4_read_18 ?_
    refine lv_aload_n S.1 S.2.1 dX4_read_21 rfl (lv_at hl 0 rfl) ?_
    refine kv_get (C := RX4) (T := TX4) (M := 14) (ci := 2) S hB (kn_c kn_iX4) 0 rfl rfl 5 (by decide) (List.mem_cons_of_mem _ kn_238) rfl rfl dX4_read_22 ?_
    refine lv_iload_n S.1 S.2.1 dX4_read_25 rfl (lv_at hl 1 rfl) ?_
    refine lv_iload_n S.1 S.2.1 dX4_read_26 rfl (lv_at hl 2 rfl) ?_
    refine lv_aload_n S.1 S.2.1 dX4_read_27 rfl (lv_at hl 0 rfl) ?_
    refine kv_get (C := RX4) (T := TX4) (M := 14) (ci := 2) S hB (kn_c kn_iX4) 0 rfl rfl 0 (by decide) (List.mem_cons_of_mem _ kn_233) rfl rfl dX4_read_28 ?_
    refine lv_bipush (v := 48) S.1 S.2.1 dX4_read_31 (by decide) ?_
    refine lv_iconst (v := 4) S.1 S.2.1 dX4_read_33 (by decide) ?_
    refine lv_iload_n S.1 S.2.1 dX4_read_34 rfl (lv_at hl 1 rfl) ?_
    refine lv_imul S.1 S.2.1 dX4_read_35 ?_
    refine kv_top (y := nI (4 * z)) (pk_mul 4 z) ?_
    refine lv_iadd S.1 S.2.1 dX4_read_36 ?_
    refine kv_top (y := nI (48 + (4 * z))) (nI_add 48 (4 * z)) ?_
    refine lv_iload_n S.1 S.2.1 dX4_read_37 rfl (lv_at hl 2 rfl) ?_
    refine lv_iadd S.1 S.2.1 dX4_read_38 ?_
    refine kv_top (y := nI ((48 + (4 * z)) + i)) (nI_add (48 + (4 * z)) i) ?_
    refine kv_iald S hB 1 0 rfl rfl ((48 + (4 * z)) + i) rfl (by omega) (by decide) dX4_read_39 ?_
    refine kv_sP (As := [.int ka, .int kb, .int (nI z), .int (nI i), .int (σ.1 ((48 + (4 * z)) + i))]) (rest := []) S (kc_MO_show l D ka kb (nI z) i (σ.1 ((48 + (4 * z)) + i))  (by omega)) (kn_cS S kn_368 kn_369 kn_3 kn_370 kd_X4_show rfl rfl ⟨Nat.le_of_ble_eq_true rfl, Nat.le_of_ble_eq_true rfl⟩) hB rfl hl.1 rfl (Nat.le_of_ble_eq_true rfl) dX4_read_40 ⟨Nat.zero_le _, Nat.zero_le _⟩ (fun H locs hB => ?_)
    refine lv_topi (fun x_1 ex_1 => ?_)
    refine lv_istore_n S.1 S.2.1 dX4_read_43 rfl hl (by decide) rfl (fun ls hl => ?_)
    have hl : lv_has ls 4 [(3, .int x_1), (0, .ref o), (1, .int (nI z)), (2, .int (nI i))] := hl
    refine lv_iload_n S.1 S.2.1 dX4_read_44 rfl (lv_at hl 0 rfl) ?_
    refine lv_if_ge (tgt := 57) S.1 S.2.1 dX4_read_45 (by decide) (fun h_45 => ?_) (fun h_45 => ?_)
    · skip
      refine lv_iload_n S.1 S.2.1 dX4_read_57 rfl (lv_at hl 0 rfl) ?_
      refine lv_i2l (v := x_1.toInt64) S.1 S.2.1 dX4_read_58 rfl ?_
      exact K _ _ _ _ _ _ hB (by subst_vars; first | rw [kp_y_read, if_pos h_R, nI_clamp (by omega), nI_clamp (by omega), kp_y_wd, if_pos h_45] | rw [kp_y_read, if_pos h_R, nI_clamp (by omega), nI_clamp (by omega), kp_y_wd, if_neg h_45]) (rfl) dX4_read_59
    · skip
      refine lv_iload_n S.1 S.2.1 dX4_read_48 rfl (lv_at hl 0 rfl) ?_
      refine lv_i2l (v := x_1.toInt64) S.1 S.2.1 dX4_read_49 rfl ?_
      refine lv_ldc2 (v := 4294967296) S.1 S.2.1 S.2.2.2.1 (S.2.2.2.2 _ (List.mem_cons_of_mem _ kn_375)) dX4_read_50 ?_
      refine lv_ladd S.1 S.2.1 dX4_read_53 ?_
      refine lv_goto (tgt := 59) S.1 S.2.1 dX4_read_54 (by decide) ?_
      exact K _ _ _ _ _ _ hB (by subst_vars; first | rw [kp_y_read, if_pos h_R, nI_clamp (by omega), nI_clamp (by omega), kp_y_wd, if_pos h_45] | rw [kp_y_read, if_pos h_R, nI_clamp (by omega), nI_clamp (by omega), kp_y_wd, if_neg h_45]) (rfl) dX4_read_59
  · skip
    have h_R := kp_rw_lt h_6
    refine lv_aload_n S.1 S.2.1 dX4_read_9 rfl (lv_at hl 0 rfl) ?_
    refine lv_iload_n S.1 S.2.1 dX4_read_10 rfl (lv_at hl 1 rfl) ?_
    refine lv_iload_n S.1 S.2.1 dX4_read_11 rfl (lv_at hl 2 rfl) ?_
    refine kv_vI (As := [.int x, .int y]) (rest := []) hN S (kc_MO_badWord l N hN D cA o a1 a2 a3 a4 a5 a6 σ dv ka kb μ fr st oa ob x y  ) (kn_cV (C := RX4) S kn_365 kn_366 kn_421 kn_3 kn_367 rfl kd_X4_badWord rfl rfl ⟨Nat.le_of_ble_eq_true rfl, Nat.le_of_ble_eq_true rfl⟩) hB 0 rfl rfl rfl hl.1 rfl (Nat.le_of_ble_eq_true rfl) dX4_read_12 ⟨Nat.zero_le _, Nat.zero_le _⟩ (fun H locs hB => ?_)
    refine lv_i2l (v := (kp_rw dv x y).toInt64) S.1 S.2.1 dX4_read_15 rfl ?_
    exact K _ _ _ _ _ _ hB (by rw [kp_y_read, if_neg h_R]) (rfl) dX4_read_16

abbrev kr_MO_mount : Room := { frames := 3, cells := 0, slots := 0, locals := 66 }
set_option maxRecDepth 100000 in
set_option maxHeartbeats 4000000 in
theorem kc_MO_mount (l : Launch) (N : State → Prop) (hN : kv_Mv N) (D : va_G) (cA : ClassId) (o a1 a2 a3 a4 a5 a6 : Nat) (σ : kp_S) (dv ka kb : Int32) (μ : kp_P) (fr st : Nat → Int32) (oa ob : Int32) (q : Nat) (n0 : Nat) (hJ : σ.1 36 = 1 → kp_J σ.1 q n0) : kv_I N l yX4_mount wsX4_mount kr_MO_mount D [(cA, .int)] [.ref o] (mo_W o a1 a2 a3 a4 a5 a6 cA σ dv ka kb μ fr st oa ob) ((kp_y_mount (σ, dv, ka, kb, μ, fr, st, oa, ob) q n0).1) (mo_T o a1 a2 a3 a4 a5 a6 cA (kp_y_mount (σ, dv, ka, kb, μ, fr, st, oa, ob) q n0).2) := by
  refine kv_openI (cc := cX4_mount) (maxL := 1) (rt := .int) (by decide) rfl (rfl) (Nat.le_of_ble_eq_true rfl) ?_
  intro p e s m args below meth c A H locs ls Q S hl hB K
  have hl : lv_has ls 1 [(0, .ref o)] := hl
  refine lv_aload_n S.1 S.2.1 dX4_mount_0 rfl (lv_at hl 0 rfl) ?_
  refine kv_get (C := RX4) (T := TX4) (M := 14) (ci := 2) S hB (kn_c kn_iX4) 0 rfl rfl 0 (by decide) (List.mem_cons_of_mem _ kn_233) rfl rfl dX4_mount_1 ?_
  refine lv_iconst (v := 0) S.1 S.2.1 dX4_mount_4 (by decide) ?_
  refine kv_iald S hB 1 0 rfl rfl 0 rfl (by omega) (by decide) dX4_mount_5 ?_
  refine lv_ldc (v := 1396855379) S.1 S.2.1 S.2.2.2.1 (S.2.2.2.2 _ (List.mem_cons_of_mem _ kn_306)) dX4_mount_6 ?_
  refine lv_icmp_eq (tgt := 19) S.1 S.2.1 dX4_mount_8 (by decide) (fun h_8 => ?_) (fun h_8 => ?_)
  · skip
    refine lv_aload_n S.1 S.2.1 dX4_mount_19 rfl (lv_at hl 0 rfl) ?_
    refine kv_vV (As := []) (rest := []) hN S (kc_MO_begin l N hN D cA o a1 a2 a3 a4 a5 a6 σ dv ka kb μ fr st oa ob   ) (kn_cV (C := RX4) S kn_269 kn_270 kn_408 kn_3 kn_271 rfl kd_X4_begin rfl rfl ⟨Nat.le_of_ble_eq_true rfl, Nat.le_of_ble_eq_true rfl⟩) hB 0 rfl rfl rfl hl.1 rfl (Nat.le_of_ble_eq_true rfl) dX4_mount_20 ⟨Nat.zero_le _, Nat.zero_le _⟩ (fun H locs hB => ?_)
    have hB : kv_B N D [(cA, .int)] A s (mo_W o a1 a2 a3 a4 a5 a6 cA σ dv ka kb (μ.1, μ.2.1, 0, σ.1) fr st oa ob) H locs := hB
    refine lv_aload_n S.1 S.2.1 dX4_mount_23 rfl (lv_at hl 0 rfl) ?_
    refine kv_get (C := RX4) (T := TX4) (M := 14) (ci := 2) S hB (kn_c kn_iX4) 0 rfl rfl 9 (by decide) (List.mem_cons_of_mem _ kn_242) rfl rfl dX4_mount_24 ?_
    refine lv_bipush (v := 36) S.1 S.2.1 dX4_mount_27 (by decide) ?_
    refine kv_iald S hB 4 0 rfl rfl 36 rfl (by omega) (by decide) dX4_mount_29 ?_
    refine lv_iconst (v := 1) S.1 S.2.1 dX4_mount_30 (by decide) ?_
    refine lv_icmp_ne (tgt := 41) S.1 S.2.1 dX4_mount_31 (by decide) (fun h_31 => ?_) (fun h_31 => ?_)
    · skip
      refine lv_aload_n S.1 S.2.1 dX4_mount_41 rfl (lv_at hl 0 rfl) ?_
      refine kv_vV (As := []) (rest := []) hN S (kc_MO_planClean l N hN D cA o a1 a2 a3 a4 a5 a6 σ dv ka kb (μ.1, μ.2.1, 0, σ.1) fr st oa ob   (by show 0 + 9 ≤ 100; omega)) (kn_cV (C := RX4) S kn_317 kn_318 kn_414 kn_3 kn_319 rfl kd_X4_planClean rfl rfl ⟨Nat.le_of_ble_eq_true rfl, Nat.le_of_ble_eq_true rfl⟩) hB 0 rfl rfl rfl hl.1 rfl (Nat.le_of_ble_eq_true rfl) dX4_mount_42 ⟨Nat.zero_le _, Nat.zero_le _⟩ (fun H locs hB => ?_)
      have hB : kv_B N D [(cA, .int)] A s (mo_W o a1 a2 a3 a4 a5 a6 cA σ dv ka kb (kp_ps (kp_cl 9 37 σ.1) (μ.1, μ.2.1, 0, σ.1)) fr st oa ob) H locs := hB
      have hMu : (kp_ps (kp_cl 9 37 σ.1) (μ.1, μ.2.1, 0, σ.1)) = kp_ps (kp_se q n0 σ.1) (μ.1, μ.2.1, 0, σ.1) := by rw [kp_se, if_neg h_31]
      rw [hMu] at hB
      have hB : kv_B N D [(cA, .int)] A s (mo_W o a1 a2 a3 a4 a5 a6 cA σ dv ka kb (kp_ps (kp_se q n0 σ.1) (μ.1, μ.2.1, 0, σ.1)) fr st oa ob) H locs := hB
      refine lv_aload_n S.1 S.2.1 dX4_mount_45 rfl (lv_at hl 0 rfl) ?_
      refine kv_vI (As := []) (rest := []) hN S (kc_MO_perform l N hN D cA o a1 a2 a3 a4 a5 a6 σ dv ka kb (kp_ps (kp_se q n0 σ.1) (μ.1, μ.2.1, 0, σ.1)) fr st oa ob  (kp_se q n0 σ.1) (kp_se_sd hJ _ _ _)) (kn_cV (C := RX4) S kn_307 kn_308 kn_412 kn_3 kn_309 rfl kd_X4_perform rfl rfl ⟨Nat.le_of_ble_eq_true rfl, Nat.le_of_ble_eq_true rfl⟩) hB 0 rfl rfl rfl hl.1 rfl (Nat.le_of_ble_eq_true rfl) dX4_mount_46 ⟨Nat.zero_le _, Nat.zero_le _⟩ (fun H locs hB => ?_)
      have hB : kv_B N D [(cA, .int)] A s (mo_W o a1 a2 a3 a4 a5 a6 cA ((kp_run (kp_se q n0 σ.1) σ).2) (if (kp_run (kp_se q n0 σ.1) σ).1 = 0 then 0 else dv) ka kb (kp_ps (kp_se q n0 σ.1) (μ.1, μ.2.1, 0, σ.1)) fr st oa ob) H locs := hB
      refine lv_if_ne (tgt := 54) S.1 S.2.1 dX4_mount_49 (by decide) (fun h_49 => ?_) (fun h_49 => ?_)
      · skip
        simp only [if_neg h_49] at hB
        have hB : kv_B N D [(cA, .int)] A s (mo_W o a1 a2 a3 a4 a5 a6 cA ((kp_run (kp_se q n0 σ.1) σ).2) dv ka kb (kp_ps (kp_se q n0 σ.1) (μ.1, μ.2.1, 0, σ.1)) fr st oa ob) H locs := hB
        refine lv_aload_n S.1 S.2.1 dX4_mount_54 rfl (lv_at hl 0 rfl) ?_
        refine lv_iconst (v := 1) S.1 S.2.1 dX4_mount_55 (by decide) ?_
        refine kv_put (C := RX4) (T := TX4) (M := 14) (ci := 2) (v := 1) S hB (kn_c kn_iX4) tyX4 tyX4_ok nmX4 0 rfl rfl 3 (by decide) (List.mem_cons_of_mem _ kn_236) rfl rfl rfl (Nat.le_of_ble_eq_true rfl) dX4_mount_56 (fun H locs hB => ?_)
        have hB : kv_B N D [(cA, .int)] A s (mo_W o a1 a2 a3 a4 a5 a6 cA ((kp_run (kp_se q n0 σ.1) σ).2) 1 ka kb (kp_ps (kp_se q n0 σ.1) (μ.1, μ.2.1, 0, σ.1)) fr st oa ob) H locs := hB
        refine lv_aload_n S.1 S.2.1 dX4_mount_59 rfl (lv_at hl 0 rfl) ?_
        refine kv_vI (As := []) (rest := []) hN S (kc_MO_count l N hN D cA o a1 a2 a3 a4 a5 a6 ((kp_run (kp_se q n0 σ.1) σ).2) 1 ka kb (kp_ps (kp_se q n0 σ.1) (μ.1, μ.2.1, 0, σ.1)) fr st oa ob   ) (kn_cV (C := RX4) S kn_320 kn_321 kn_415 kn_3 kn_322 rfl kd_X4_count rfl rfl ⟨Nat.le_of_ble_eq_true rfl, Nat.le_of_ble_eq_true rfl⟩) hB 0 rfl rfl rfl hl.1 rfl (Nat.le_of_ble_eq_true rfl) dX4_mount_60 ⟨Nat.zero_le _, Nat.zero_le _⟩ (fun H locs hB => ?_)
        exact K _ _ _ _ _ _ hB (by first | (rw [kp_y_mount, if_pos h_8, kp_yf, if_neg h_49]) | (rw [kp_y_mount, if_pos h_8, kp_yf, if_neg h_49]; rfl)) (by first | (rw [kp_y_mount, if_pos h_8, kp_yf, if_neg h_49]) | (rw [kp_y_mount, if_pos h_8, kp_yf, if_neg h_49]; rfl)) dX4_mount_63
      · skip
        simp only [if_pos h_49] at hB
        have hB : kv_B N D [(cA, .int)] A s (mo_W o a1 a2 a3 a4 a5 a6 cA ((kp_run (kp_se q n0 σ.1) σ).2) 0 ka kb (kp_ps (kp_se q n0 σ.1) (μ.1, μ.2.1, 0, σ.1)) fr st oa ob) H locs := hB
        refine lv_iconst (v := (-1)) S.1 S.2.1 dX4_mount_52 (by decide) ?_
        exact K _ _ _ _ _ _ hB (by first | (rw [kp_y_mount, if_pos h_8, kp_yf, if_pos h_49]) | (rw [kp_y_mount, if_pos h_8, kp_yf, if_pos h_49]; rfl)) (by first | (rw [kp_y_mount, if_pos h_8, kp_yf, if_pos h_49]) | (rw [kp_y_mount, if_pos h_8, kp_yf, if_pos h_49]; rfl)) dX4_mount_53
    · skip
      have hJ1 := (hJ h_31).2.1
      have hJ2 := (hJ h_31).2.2
      refine lv_aload_n S.1 S.2.1 dX4_mount_34 rfl (lv_at hl 0 rfl) ?_
      refine kv_vV (As := []) (rest := []) hN S (kc_MO_planFinish l N hN D cA o a1 a2 a3 a4 a5 a6 σ dv ka kb (μ.1, μ.2.1, 0, σ.1) fr st oa ob  q n0 (hJ h_31) (by show 0 + n0 + 10 ≤ 100; omega)) (kn_cV (C := RX4) S kn_314 kn_315 kn_413 kn_3 kn_316 rfl kd_X4_planFinish rfl rfl ⟨Nat.le_of_ble_eq_true rfl, Nat.le_of_ble_eq_true rfl⟩) hB 0 rfl rfl rfl hl.1 rfl (Nat.le_of_ble_eq_true rfl) dX4_mount_35 ⟨Nat.zero_le _, Nat.zero_le _⟩ (fun H locs hB => ?_)
      have hB : kv_B N D [(cA, .int)] A s (mo_W o a1 a2 a3 a4 a5 a6 cA σ dv ka kb (kp_ps (kp_fi n0 0 q σ.1) (μ.1, μ.2.1, 0, σ.1)) fr st oa ob) H locs := hB
      refine lv_goto (tgt := 45) S.1 S.2.1 dX4_mount_38 (by decide) ?_
      have hMu : (kp_ps (kp_fi n0 0 q σ.1) (μ.1, μ.2.1, 0, σ.1)) = kp_ps (kp_se q n0 σ.1) (μ.1, μ.2.1, 0, σ.1) := by rw [kp_se, if_pos h_31]
      rw [hMu] at hB
      have hB : kv_B N D [(cA, .int)] A s (mo_W o a1 a2 a3 a4 a5 a6 cA σ dv ka kb (kp_ps (kp_se q n0 σ.1) (μ.1, μ.2.1, 0, σ.1)) fr st oa ob) H locs := hB
      refine lv_aload_n S.1 S.2.1 dX4_mount_45 rfl (lv_at hl 0 rfl) ?_
      refine kv_vI (As := []) (rest := []) hN S (kc_MO_perform l N hN D cA o a1 a2 a3 a4 a5 a6 σ dv ka kb (kp_ps (kp_se q n0 σ.1) (μ.1, μ.2.1, 0, σ.1)) fr st oa ob  (kp_se q n0 σ.1) (kp_se_sd hJ _ _ _)) (kn_cV (C := RX4) S kn_307 kn_308 kn_412 kn_3 kn_309 rfl kd_X4_perform rfl rfl ⟨Nat.le_of_ble_eq_true rfl, Nat.le_of_ble_eq_true rfl⟩) hB 0 rfl rfl rfl hl.1 rfl (Nat.le_of_ble_eq_true rfl) dX4_mount_46 ⟨Nat.zero_le _, Nat.zero_le _⟩ (fun H locs hB => ?_)
      have hB : kv_B N D [(cA, .int)] A s (mo_W o a1 a2 a3 a4 a5 a6 cA ((kp_run (kp_se q n0 σ.1) σ).2) (if (kp_run (kp_se q n0 σ.1) σ).1 = 0 then 0 else dv) ka kb (kp_ps (kp_se q n0 σ.1) (μ.1, μ.2.1, 0, σ.1)) fr st oa ob) H locs := hB
      refine lv_if_ne (tgt := 54) S.1 S.2.1 dX4_mount_49 (by decide) (fun h_49 => ?_) (fun h_49 => ?_)
      · skip
        simp only [if_neg h_49] at hB
        have hB : kv_B N D [(cA, .int)] A s (mo_W o a1 a2 a3 a4 a5 a6 cA ((kp_run (kp_se q n0 σ.1) σ).2) dv ka kb (kp_ps (kp_se q n0 σ.1) (μ.1, μ.2.1, 0, σ.1)) fr st oa ob) H locs := hB
        refine lv_aload_n S.1 S.2.1 dX4_mount_54 rfl (lv_at hl 0 rfl) ?_
        refine lv_iconst (v := 1) S.1 S.2.1 dX4_mount_55 (by decide) ?_
        refine kv_put (C := RX4) (T := TX4) (M := 14) (ci := 2) (v := 1) S hB (kn_c kn_iX4) tyX4 tyX4_ok nmX4 0 rfl rfl 3 (by decide) (List.mem_cons_of_mem _ kn_236) rfl rfl rfl (Nat.le_of_ble_eq_true rfl) dX4_mount_56 (fun H locs hB => ?_)
        have hB : kv_B N D [(cA, .int)] A s (mo_W o a1 a2 a3 a4 a5 a6 cA ((kp_run (kp_se q n0 σ.1) σ).2) 1 ka kb (kp_ps (kp_se q n0 σ.1) (μ.1, μ.2.1, 0, σ.1)) fr st oa ob) H locs := hB
        refine lv_aload_n S.1 S.2.1 dX4_mount_59 rfl (lv_at hl 0 rfl) ?_
        refine kv_vI (As := []) (rest := []) hN S (kc_MO_count l N hN D cA o a1 a2 a3 a4 a5 a6 ((kp_run (kp_se q n0 σ.1) σ).2) 1 ka kb (kp_ps (kp_se q n0 σ.1) (μ.1, μ.2.1, 0, σ.1)) fr st oa ob   ) (kn_cV (C := RX4) S kn_320 kn_321 kn_415 kn_3 kn_322 rfl kd_X4_count rfl rfl ⟨Nat.le_of_ble_eq_true rfl, Nat.le_of_ble_eq_true rfl⟩) hB 0 rfl rfl rfl hl.1 rfl (Nat.le_of_ble_eq_true rfl) dX4_mount_60 ⟨Nat.zero_le _, Nat.zero_le _⟩ (fun H locs hB => ?_)
        exact K _ _ _ _ _ _ hB (by first | (rw [kp_y_mount, if_pos h_8, kp_yf, if_neg h_49]) | (rw [kp_y_mount, if_pos h_8, kp_yf, if_neg h_49]; rfl)) (by first | (rw [kp_y_mount, if_pos h_8, kp_yf, if_neg h_49]) | (rw [kp_y_mount, if_pos h_8, kp_yf, if_neg h_49]; rfl)) dX4_mount_63
      · skip
        simp only [if_pos h_49] at hB
        have hB : kv_B N D [(cA, .int)] A s (mo_W o a1 a2 a3 a4 a5 a6 cA ((kp_run (kp_se q n0 σ.1) σ).2) 0 ka kb (kp_ps (kp_se q n0 σ.1) (μ.1, μ.2.1, 0, σ.1)) fr st oa ob) H locs := hB
        refine lv_iconst (v := (-1)) S.1 S.2.1 dX4_mount_52 (by decide) ?_
        exact K _ _ _ _ _ _ hB (by first | (rw [kp_y_mount, if_pos h_8, kp_yf, if_pos h_49]) | (rw [kp_y_mount, if_pos h_8, kp_yf, if_pos h_49]; rfl)) (by first | (rw [kp_y_mount, if_pos h_8, kp_yf, if_pos h_49]) | (rw [kp_y_mount, if_pos h_8, kp_yf, if_pos h_49]; rfl)) dX4_mount_53
  · skip
    refine lv_aload_n S.1 S.2.1 dX4_mount_11 rfl (lv_at hl 0 rfl) ?_
    refine lv_iconst (v := 0) S.1 S.2.1 dX4_mount_12 (by decide) ?_
    refine kv_put (C := RX4) (T := TX4) (M := 14) (ci := 2) (v := 0) S hB (kn_c kn_iX4) tyX4 tyX4_ok nmX4 0 rfl rfl 3 (by decide) (List.mem_cons_of_mem _ kn_236) rfl rfl rfl (Nat.le_of_ble_eq_true rfl) dX4_mount_13 (fun H locs hB => ?_)
    have hB : kv_B N D [(cA, .int)] A s (mo_W o a1 a2 a3 a4 a5 a6 cA σ 0 ka kb μ fr st oa ob) H locs := hB
    refine lv_bipush (v := (-3)) S.1 S.2.1 dX4_mount_16 (by decide) ?_
    exact K _ _ _ _ _ _ hB (by first | (rw [kp_y_mount, if_neg h_8]) | (rw [kp_y_mount, if_neg h_8]; rfl)) (by first | (rw [kp_y_mount, if_neg h_8]) | (rw [kp_y_mount, if_neg h_8]; rfl)) dX4_mount_18

abbrev kr_MO_unlock : Room := { frames := 4, cells := 0, slots := 0, locals := 95 }
set_option maxRecDepth 100000 in
set_option maxHeartbeats 4000000 in
theorem kc_MO_unlock (l : Launch) (N : State → Prop) (hN : kv_Mv N) (D : va_G) (cA : ClassId) (o a1 a2 a3 a4 a5 a6 : Nat) (σ : kp_S) (dv ka kb : Int32) (μ : kp_P) (fr st : Nat → Int32) (oa ob : Int32) (pw : Int32) : kv_I N l yX4_unlock wsX4_unlock kr_MO_unlock D [(cA, .int)] [.ref o, .int pw] (mo_W o a1 a2 a3 a4 a5 a6 cA σ dv ka kb μ fr st oa ob) ((kp_y_unlock (σ, dv, ka, kb, μ, fr, st, oa, ob) pw).1) (mo_T o a1 a2 a3 a4 a5 a6 cA (kp_y_unlock (σ, dv, ka, kb, μ, fr, st, oa, ob) pw).2) := by
  refine kv_openI (cc := cX4_unlock) (maxL := 3) (rt := .int) (by decide) rfl (rfl) (Nat.le_of_ble_eq_true rfl) ?_
  intro p e s m args below meth c A H locs ls Q S hl hB K
  have hl : lv_has ls 3 [(0, .ref o), (1, .int pw)] := hl
  refine lv_aload_n S.1 S.2.1 dX4_unlock_0 rfl (lv_at hl 0 rfl) ?_
  refine kv_get (C := RX4) (T := TX4) (M := 14) (ci := 2) S hB (kn_c kn_iX4) 0 rfl rfl 3 (by decide) (List.mem_cons_of_mem _ kn_236) rfl rfl dX4_unlock_1 ?_
  refine lv_if_ne (tgt := 10) S.1 S.2.1 dX4_unlock_4 (by decide) (fun h_4 => ?_) (fun h_4 => ?_)
  · skip
    refine lv_iconst (v := 0) S.1 S.2.1 dX4_unlock_10 (by decide) ?_
    refine lv_istore_n S.1 S.2.1 dX4_unlock_11 rfl hl (by decide) rfl (fun ls hl => ?_)
    have hl : lv_has ls 3 [(2, .int 0), (0, .ref o), (1, .int pw)] := hl
    have loop12 : ∀ (n : Nat) (k : Nat) (s1 : Nat → Int32) (o1 : Int32) (o2 : Int32) (H : Heap) (locs : List Loc) (ls : Array Slot), (k + n = 4) → (kp_mu σ.1 pw n k (dv, ka, kb, s1, o1, o2) = kp_mu σ.1 pw 4 0 (dv, ka, kb, st, oa, ob)) → lv_has ls 3 [(2, .int (nI k)), (0, .ref o), (1, .int pw)] → kv_B N D [(cA, .int)] A s (mo_W o a1 a2 a3 a4 a5 a6 cA σ dv ka kb μ fr s1 o1 o2) H locs → W p l e kr_MO_unlock s m args below meth c H locs 0 0 Q (F0 m 12 ls []) := by
      intro n
      induction n with
      | zero =>
        intro k s1 o1 o2 H locs ls hk hT hl hB
        have hT0 : (-9, dv, ka, kb, s1, o1, o2) = kp_mq (σ, dv, ka, kb, μ, fr, st, oa, ob) pw := hT
        refine lv_iload_n S.1 S.2.1 dX4_unlock_12 rfl (lv_at hl 0 rfl) ?_
        refine lv_iconst (v := 4) S.1 S.2.1 dX4_unlock_13 (by decide) ?_
        refine kv_bge (x := k) (y := 4) (tgt := 55) S (by omega) (by omega) dX4_unlock_14 (by decide) (fun h_14 => ?_) (fun h => absurd h (by omega))
        refine lv_bipush (v := (-9)) S.1 S.2.1 dX4_unlock_55 (by decide) ?_
        exact K _ _ _ _ _ _ hB (by first | (rw [kp_y_unlock, if_neg h_4, ← hT0]) | (rw [kp_y_unlock, if_neg h_4, ← hT0]; rfl)) (by first | (rw [kp_y_unlock, if_neg h_4, ← hT0]) | (rw [kp_y_unlock, if_neg h_4, ← hT0]; rfl)) dX4_unlock_57
      | succ n ih12 =>
        intro k s1 o1 o2 H locs ls hk hT hl hB
        refine lv_iload_n S.1 S.2.1 dX4_unlock_12 rfl (lv_at hl 0 rfl) ?_
        refine lv_iconst (v := 4) S.1 S.2.1 dX4_unlock_13 (by decide) ?_
        refine kv_bge (x := k) (y := 4) (tgt := 55) S (by omega) (by omega) dX4_unlock_14 (by decide) (fun h => absurd h (by omega)) (fun h_14 => ?_)
        refine lv_aload_n S.1 S.2.1 dX4_unlock_17 rfl (lv_at hl 1 rfl) ?_
        refine lv_iload_n S.1 S.2.1 dX4_unlock_18 rfl (lv_at hl 0 rfl) ?_
        refine lv_iload_n S.1 S.2.1 dX4_unlock_19 rfl (lv_at hl 2 rfl) ?_
        refine kv_vI (As := [.int (nI k), .int pw]) (rest := []) hN S (kc_MO_opens l N hN D cA o a1 a2 a3 a4 a5 a6 σ dv ka kb μ fr s1 o1 o2 k pw  (by omega)) (kn_cV (C := RX4) S kn_330 kn_331 kn_417 kn_3 kn_332 rfl kd_X4_opens rfl rfl ⟨Nat.le_of_ble_eq_true rfl, Nat.le_of_ble_eq_true rfl⟩) hB 0 rfl rfl rfl hl.1 rfl (Nat.le_of_ble_eq_true rfl) dX4_unlock_20 ⟨Nat.zero_le _, Nat.zero_le _⟩ (fun H locs hB => ?_)
        have hB : kv_B N D [(cA, .int)] A s (mo_W o a1 a2 a3 a4 a5 a6 cA σ dv ka kb μ fr (kp_so σ.1 (4 + 8 * k) pw) (kp_oh σ.1 (4 + 8 * k) pw 0) (kp_oh σ.1 (4 + 8 * k) pw 1)) H locs := hB
        refine lv_if_eq (tgt := 49) S.1 S.2.1 dX4_unlock_23 (by decide) (fun h_23 => ?_) (fun h_23 => ?_)
        · skip
          refine lv_iinc (k := 0) (v := nI (k + 1)) S.1 S.2.1 dX4_unlock_49 hl rfl (nI_1 k) (by decide) rfl (fun ls hl => ?_)
          have hl : lv_has ls 3 [(2, .int (nI (k + 1))), (0, .ref o), (1, .int pw)] := hl
          refine lv_goto (tgt := 12) S.1 S.2.1 dX4_unlock_52 (by decide) ?_
          exact ih12 (k + 1) (kp_so σ.1 (4 + 8 * k) pw) (kp_oh σ.1 (4 + 8 * k) pw 0) (kp_oh σ.1 (4 + 8 * k) pw 1) _ _ _ (by omega) (by rw [← hT, kp_mu, if_pos h_23]) (lv_sub hl [0, 1, 2] rfl) hB
        · skip
          have hT1 : (nI k, 2, kp_oh σ.1 (4 + 8 * k) pw 0, kp_oh σ.1 (4 + 8 * k) pw 1, kp_so σ.1 (4 + 8 * k) pw, kp_oh σ.1 (4 + 8 * k) pw 0, kp_oh σ.1 (4 + 8 * k) pw 1) = kp_mq (σ, dv, ka, kb, μ, fr, st, oa, ob) pw := by show _ = kp_mu σ.1 pw 4 0 (dv, ka, kb, st, oa, ob); rw [← hT, kp_mu, if_neg h_23]
          refine lv_aload_n S.1 S.2.1 dX4_unlock_26 rfl (lv_at hl 1 rfl) ?_
          refine lv_iconst (v := 2) S.1 S.2.1 dX4_unlock_27 (by decide) ?_
          refine kv_put (C := RX4) (T := TX4) (M := 14) (ci := 2) (v := 2) S hB (kn_c kn_iX4) tyX4 tyX4_ok nmX4 0 rfl rfl 3 (by decide) (List.mem_cons_of_mem _ kn_236) rfl rfl rfl (Nat.le_of_ble_eq_true rfl) dX4_unlock_28 (fun H locs hB => ?_)
          have hB : kv_B N D [(cA, .int)] A s (mo_W o a1 a2 a3 a4 a5 a6 cA σ 2 ka kb μ fr (kp_so σ.1 (4 + 8 * k) pw) (kp_oh σ.1 (4 + 8 * k) pw 0) (kp_oh σ.1 (4 + 8 * k) pw 1)) H locs := hB
          refine lv_aload_n S.1 S.2.1 dX4_unlock_31 rfl (lv_at hl 1 rfl) ?_
          refine lv_aload_n S.1 S.2.1 dX4_unlock_32 rfl (lv_at hl 1 rfl) ?_
          refine kv_get (C := RX4) (T := TX4) (M := 14) (ci := 2) S hB (kn_c kn_iX4) 0 rfl rfl 12 (by decide) (List.mem_cons_of_mem _ kn_245) rfl rfl dX4_unlock_33 ?_
          refine kv_put (C := RX4) (T := TX4) (M := 14) (ci := 2) (v := kp_oh σ.1 (4 + 8 * k) pw 0) S hB (kn_c kn_iX4) tyX4 tyX4_ok nmX4 0 rfl rfl 4 (by decide) (List.mem_cons_of_mem _ kn_237) rfl rfl rfl (Nat.le_of_ble_eq_true rfl) dX4_unlock_36 (fun H locs hB => ?_)
          have hB : kv_B N D [(cA, .int)] A s (mo_W o a1 a2 a3 a4 a5 a6 cA σ 2 (kp_oh σ.1 (4 + 8 * k) pw 0) kb μ fr (kp_so σ.1 (4 + 8 * k) pw) (kp_oh σ.1 (4 + 8 * k) pw 0) (kp_oh σ.1 (4 + 8 * k) pw 1)) H locs := hB
          refine lv_aload_n S.1 S.2.1 dX4_unlock_39 rfl (lv_at hl 1 rfl) ?_
          refine lv_aload_n S.1 S.2.1 dX4_unlock_40 rfl (lv_at hl 1 rfl) ?_
          refine kv_get (C := RX4) (T := TX4) (M := 14) (ci := 2) S hB (kn_c kn_iX4) 0 rfl rfl 13 (by decide) (List.mem_cons_of_mem _ kn_246) rfl rfl dX4_unlock_41 ?_
          refine kv_put (C := RX4) (T := TX4) (M := 14) (ci := 2) (v := kp_oh σ.1 (4 + 8 * k) pw 1) S hB (kn_c kn_iX4) tyX4 tyX4_ok nmX4 0 rfl rfl 5 (by decide) (List.mem_cons_of_mem _ kn_238) rfl rfl rfl (Nat.le_of_ble_eq_true rfl) dX4_unlock_44 (fun H locs hB => ?_)
          have hB : kv_B N D [(cA, .int)] A s (mo_W o a1 a2 a3 a4 a5 a6 cA σ 2 (kp_oh σ.1 (4 + 8 * k) pw 0) (kp_oh σ.1 (4 + 8 * k) pw 1) μ fr (kp_so σ.1 (4 + 8 * k) pw) (kp_oh σ.1 (4 + 8 * k) pw 0) (kp_oh σ.1 (4 + 8 * k) pw 1)) H locs := hB
          refine lv_iload_n S.1 S.2.1 dX4_unlock_47 rfl (lv_at hl 0 rfl) ?_
          exact K _ _ _ _ _ _ hB (by first | (rw [kp_y_unlock, if_neg h_4, ← hT1]) | (rw [kp_y_unlock, if_neg h_4, ← hT1]; rfl)) (by first | (rw [kp_y_unlock, if_neg h_4, ← hT1]) | (rw [kp_y_unlock, if_neg h_4, ← hT1]; rfl)) dX4_unlock_48
    exact loop12 4 0 st oa ob _ _ _ (rfl) (rfl) (lv_sub hl [0, 1, 2] rfl) hB
  · skip
    refine lv_bipush (v := (-2)) S.1 S.2.1 dX4_unlock_7 (by decide) ?_
    exact K _ _ _ _ _ _ hB (by first | (rw [kp_y_unlock, if_pos h_4]) | (rw [kp_y_unlock, if_pos h_4]; rfl)) (by first | (rw [kp_y_unlock, if_pos h_4]) | (rw [kp_y_unlock, if_pos h_4]; rfl)) dX4_unlock_9

abbrev kr_MO_format : Room := { frames := 5, cells := 0, slots := 0, locals := 119 }
set_option maxRecDepth 100000 in
set_option maxHeartbeats 4000000 in
theorem kc_MO_format (l : Launch) (N : State → Prop) (hN : kv_Mv N) (D : va_G) (cA : ClassId) (o a1 a2 a3 a4 a5 a6 : Nat) (σ : kp_S) (dv ka kb : Int32) (μ : kp_P) (fr st : Nat → Int32) (oa ob : Int32) (a : Int32) (b : Int32) (pw : Int32) (sd : Int32) : kv_I N l yX4_format wsX4_format kr_MO_format D [(cA, .int)] [.ref o, .int a, .int b, .int pw, .int sd] (mo_W o a1 a2 a3 a4 a5 a6 cA σ dv ka kb μ fr st oa ob) ((kp_y_format (σ, dv, ka, kb, μ, fr, st, oa, ob) a b pw sd).1) (mo_T o a1 a2 a3 a4 a5 a6 cA (kp_y_format (σ, dv, ka, kb, μ, fr, st, oa, ob) a b pw sd).2) := by
  refine kv_openI (cc := cX4_format) (maxL := 7) (rt := .int) (by decide) rfl (rfl) (Nat.le_of_ble_eq_true rfl) ?_
  intro p e s m args below meth c A H locs ls Q S hl hB K
  have hl : lv_has ls 7 [(0, .ref o), (1, .int a), (2, .int b), (3, .int pw), (4, .int sd)] := hl
  refine lv_aload_n S.1 S.2.1 dX4_format_0 rfl (lv_at hl 0 rfl) ?_
  refine kv_vV (As := []) (rest := []) hN S (kc_MO_begin l N hN D cA o a1 a2 a3 a4 a5 a6 σ dv ka kb μ fr st oa ob   ) (kn_cV (C := RX4) S kn_269 kn_270 kn_408 kn_3 kn_271 rfl kd_X4_begin rfl rfl ⟨Nat.le_of_ble_eq_true rfl, Nat.le_of_ble_eq_true rfl⟩) hB 0 rfl rfl rfl hl.1 rfl (Nat.le_of_ble_eq_true rfl) dX4_format_1 ⟨Nat.zero_le _, Nat.zero_le _⟩ (fun H locs hB => ?_)
  have hB : kv_B N D [(cA, .int)] A s (mo_W o a1 a2 a3 a4 a5 a6 cA σ dv ka kb (μ.1, μ.2.1, 0, σ.1) fr st oa ob) H locs := hB
  refine lv_iconst (v := 0) S.1 S.2.1 dX4_format_4 (by decide) ?_
  refine lv_istore S.1 S.2.1 dX4_format_5 hl (by decide) rfl (fun ls hl => ?_)
  have hl : lv_has ls 7 [(5, .int 0), (0, .ref o), (1, .int a), (2, .int b), (3, .int pw), (4, .int sd)] := hl
  have loop7 : ∀ (n : Nat) (j : Nat) (gg : Nat → Int32) (H : Heap) (locs : List Loc) (ls : Array Slot), (j + n = 80) → (∀ i, i < j → gg i = 0) → lv_has ls 7 [(5, .int (nI j)), (0, .ref o), (1, .int a), (2, .int b), (3, .int pw), (4, .int sd)] → kv_B N D [(cA, .int)] A s (mo_W o a1 a2 a3 a4 a5 a6 cA σ dv ka kb (μ.1, μ.2.1, 0, gg) fr st oa ob) H locs → W p l e kr_MO_format s m args below meth c H locs 0 0 Q (F0 m 7 ls []) := by
    intro n
    induction n with
    | zero =>
      intro j gg H locs ls hj hG hl hB
      refine lv_iload S.1 S.2.1 dX4_format_7 (lv_at hl 0 rfl) ?_
      refine lv_bipush (v := 80) S.1 S.2.1 dX4_format_9 (by decide) ?_
      refine kv_bge (x := j) (y := 80) (tgt := 28) S (by omega) (by omega) dX4_format_11 (by decide) (fun h_11 => ?_) (fun h => absurd h (by omega))
      have hB := kv_arr 4 rfl (fun _ => 0) (fun i hi => hG i (by omega)) hB
      have hB : kv_B N D [(cA, .int)] A s (mo_W o a1 a2 a3 a4 a5 a6 cA σ dv ka kb (μ.1, μ.2.1, 0, fun _ => 0) fr st oa ob) H locs := hB
      refine lv_iload S.1 S.2.1 dX4_format_28 (lv_at hl 5 rfl) ?_
      refine lv_iconst (v := 5) S.1 S.2.1 dX4_format_30 (by decide) ?_
      refine kv_sP (As := [.int sd, .int 5]) (rest := []) S (kc_MO_h l D sd 5  ) (kn_cS S kn_272 kn_273 kn_3 kn_274 kd_X4_h rfl rfl ⟨Nat.le_of_ble_eq_true rfl, Nat.le_of_ble_eq_true rfl⟩) hB rfl hl.1 rfl (Nat.le_of_ble_eq_true rfl) dX4_format_31 ⟨Nat.zero_le _, Nat.zero_le _⟩ (fun H locs hB => ?_)
      refine lv_topi (fun x_1 ex_1 => ?_)
      refine lv_istore S.1 S.2.1 dX4_format_34 hl (by decide) rfl (fun ls hl => ?_)
      have hl : lv_has ls 7 [(5, .int x_1), (0, .ref o), (1, .int a), (2, .int b), (3, .int pw), (4, .int sd)] := hl
      refine lv_aload_n S.1 S.2.1 dX4_format_36 rfl (lv_at hl 1 rfl) ?_
      refine kv_get (C := RX4) (T := TX4) (M := 14) (ci := 2) S hB (kn_c kn_iX4) 0 rfl rfl 9 (by decide) (List.mem_cons_of_mem _ kn_242) rfl rfl dX4_format_37 ?_
      refine lv_iconst (v := 1) S.1 S.2.1 dX4_format_40 (by decide) ?_
      refine lv_iload_n S.1 S.2.1 dX4_format_41 rfl (lv_at hl 2 rfl) ?_
      refine lv_iload_n S.1 S.2.1 dX4_format_42 rfl (lv_at hl 3 rfl) ?_
      refine lv_iload S.1 S.2.1 dX4_format_43 (lv_at hl 0 rfl) ?_
      refine kv_sP (As := [.int a, .int b, .int x_1]) (rest := [.int 1, .ref a4]) S (kc_MO_digest l D a b x_1  ) (kn_cS S kn_278 kn_279 kn_3 kn_280 kd_X4_digest rfl rfl ⟨Nat.le_of_ble_eq_true rfl, Nat.le_of_ble_eq_true rfl⟩) hB rfl hl.1 rfl (Nat.le_of_ble_eq_true rfl) dX4_format_45 ⟨Nat.zero_le _, Nat.zero_le _⟩ (fun H locs hB => ?_)
      refine kv_iast S hB 4 0 rfl rfl 1 rfl (by omega) (by decide) dX4_format_48 (fun H locs hB => ?_)
      have hB : kv_B N D [(cA, .int)] A s (mo_W o a1 a2 a3 a4 a5 a6 cA σ dv ka kb (μ.1, μ.2.1, 0, upd (fun _ => 0) 1 (kp_dg a b x_1)) fr st oa ob) H locs := hB
      refine lv_aload_n S.1 S.2.1 dX4_format_49 rfl (lv_at hl 1 rfl) ?_
      refine kv_get (C := RX4) (T := TX4) (M := 14) (ci := 2) S hB (kn_c kn_iX4) 0 rfl rfl 9 (by decide) (List.mem_cons_of_mem _ kn_242) rfl rfl dX4_format_50 ?_
      refine lv_iconst (v := 2) S.1 S.2.1 dX4_format_53 (by decide) ?_
      refine lv_iload S.1 S.2.1 dX4_format_54 (lv_at hl 0 rfl) ?_
      refine kv_iast S hB 4 0 rfl rfl 2 rfl (by omega) (by decide) dX4_format_56 (fun H locs hB => ?_)
      have hB : kv_B N D [(cA, .int)] A s (mo_W o a1 a2 a3 a4 a5 a6 cA σ dv ka kb (μ.1, μ.2.1, 0, upd (upd (fun _ => 0) 1 (kp_dg a b x_1)) 2 x_1) fr st oa ob) H locs := hB
      refine lv_aload_n S.1 S.2.1 dX4_format_57 rfl (lv_at hl 1 rfl) ?_
      refine lv_iload_n S.1 S.2.1 dX4_format_58 rfl (lv_at hl 4 rfl) ?_
      refine lv_iload S.1 S.2.1 dX4_format_59 (lv_at hl 5 rfl) ?_
      refine lv_iload_n S.1 S.2.1 dX4_format_61 rfl (lv_at hl 2 rfl) ?_
      refine lv_iload_n S.1 S.2.1 dX4_format_62 rfl (lv_at hl 3 rfl) ?_
      refine kv_vV (As := [.int pw, .int sd, .int a, .int b]) (rest := []) hN S (kc_MO_makeSlot l N hN D cA o a1 a2 a3 a4 a5 a6 σ dv ka kb (μ.1, μ.2.1, 0, upd (upd (fun _ => 0) 1 (kp_dg a b x_1)) 2 x_1) fr st oa ob pw sd a b  ) (kn_cV (C := RX4) S kn_281 kn_282 kn_409 kn_3 kn_283 rfl kd_X4_makeSlot rfl rfl ⟨Nat.le_of_ble_eq_true rfl, Nat.le_of_ble_eq_true rfl⟩) hB 0 rfl rfl rfl hl.1 rfl (Nat.le_of_ble_eq_true rfl) dX4_format_63 ⟨Nat.zero_le _, Nat.zero_le _⟩ (fun H locs hB => ?_)
      have hB : kv_B N D [(cA, .int)] A s (mo_W o a1 a2 a3 a4 a5 a6 cA σ dv ka kb (μ.1, μ.2.1, 0, upd (upd (fun _ => 0) 1 (kp_dg a b x_1)) 2 x_1) (kp_sl pw sd a b) (kp_ms sd a b) oa ob) H locs := hB
      refine lv_iconst (v := 0) S.1 S.2.1 dX4_format_66 (by decide) ?_
      refine lv_istore S.1 S.2.1 dX4_format_67 hl (by decide) rfl (fun ls hl => ?_)
      have hl : lv_has ls 7 [(6, .int 0), (5, .int x_1), (0, .ref o), (1, .int a), (2, .int b), (3, .int pw), (4, .int sd)] := hl
      have loop69 : ∀ (n : Nat) (i : Nat) (gg : Nat → Int32) (H : Heap) (locs : List Loc) (ls : Array Slot), (i + n = 8) → (∀ j, j < 48 → (j < 4 + i ∨ 12 ≤ j) → gg j = kp_vol a b pw sd j) → lv_has ls 7 [(6, .int (nI i)), (0, .ref o), (1, .int a), (2, .int b), (3, .int pw), (4, .int sd)] → kv_B N D [(cA, .int)] A s (mo_W o a1 a2 a3 a4 a5 a6 cA σ dv ka kb (μ.1, μ.2.1, 0, gg) (kp_sl pw sd a b) (kp_ms sd a b) oa ob) H locs → W p l e kr_MO_format s m args below meth c H locs 0 0 Q (F0 m 69 ls []) := by
        intro n
        induction n with
        | zero =>
          intro i gg H locs ls hi hG hl hB
          refine lv_iload S.1 S.2.1 dX4_format_69 (lv_at hl 0 rfl) ?_
          refine lv_bipush (v := 8) S.1 S.2.1 dX4_format_71 (by decide) ?_
          refine kv_bge (x := i) (y := 8) (tgt := 98) S (by omega) (by omega) dX4_format_73 (by decide) (fun h_73 => ?_) (fun h => absurd h (by omega))
          refine lv_iconst (v := 0) S.1 S.2.1 dX4_format_98 (by decide) ?_
          refine lv_istore S.1 S.2.1 dX4_format_99 hl (by decide) rfl (fun ls hl => ?_)
          have hl : lv_has ls 7 [(6, .int 0), (0, .ref o), (1, .int a), (2, .int b), (3, .int pw), (4, .int sd)] := hl
          have loop101 : ∀ (n : Nat) (i : Nat) (gg : Nat → Int32) (H : Heap) (locs : List Loc) (ls : Array Slot), (i + n = 32) → (∀ j, j < 48 + i → gg j = kp_vol a b pw sd j) → lv_has ls 7 [(6, .int (nI i)), (0, .ref o), (1, .int a), (2, .int b), (3, .int pw), (4, .int sd)] → kv_B N D [(cA, .int)] A s (mo_W o a1 a2 a3 a4 a5 a6 cA σ dv ka kb (μ.1, μ.2.1, 0, gg) (kp_sl pw sd a b) (kp_ms sd a b) oa ob) H locs → W p l e kr_MO_format s m args below meth c H locs 0 0 Q (F0 m 101 ls []) := by
            intro n
            induction n with
            | zero =>
              intro i gg H locs ls hi hG hl hB
              refine lv_iload S.1 S.2.1 dX4_format_101 (lv_at hl 0 rfl) ?_
              refine lv_bipush (v := 32) S.1 S.2.1 dX4_format_103 (by decide) ?_
              refine kv_bge (x := i) (y := 32) (tgt := 138) S (by omega) (by omega) dX4_format_105 (by decide) (fun h_105 => ?_) (fun h => absurd h (by omega))
              have hB := kv_arr 4 rfl (kp_vol a b pw sd) (fun i hi => hG i (by omega)) hB
              have hB : kv_B N D [(cA, .int)] A s (mo_W o a1 a2 a3 a4 a5 a6 cA σ dv ka kb (μ.1, μ.2.1, 0, kp_vol a b pw sd) (kp_sl pw sd a b) (kp_ms sd a b) oa ob) H locs := hB
              refine lv_iconst (v := 0) S.1 S.2.1 dX4_format_138 (by decide) ?_
              refine lv_istore S.1 S.2.1 dX4_format_139 hl (by decide) rfl (fun ls hl => ?_)
              have hl : lv_has ls 7 [(6, .int 0), (0, .ref o), (1, .int a), (2, .int b), (3, .int pw), (4, .int sd)] := hl
              have loop141 : ∀ (n : Nat) (j : Nat) (ν : kp_P) (H : Heap) (locs : List Loc) (ls : Array Slot), (j + n = 80) → (ν.2.2.2 = kp_vol a b pw sd) → (ν.2.2.1 = j) → (kp_ps (kp_fm n j (kp_vol a b pw sd)) ν = kp_ps (kp_fm 80 0 (kp_vol a b pw sd)) (μ.1, μ.2.1, 0, kp_vol a b pw sd)) → lv_has ls 7 [(6, .int (nI j)), (0, .ref o)] → kv_B N D [(cA, .int)] A s (mo_W o a1 a2 a3 a4 a5 a6 cA σ dv ka kb ν (kp_sl pw sd a b) (kp_ms sd a b) oa ob) H locs → W p l e kr_MO_format s m args below meth c H locs 0 0 Q (F0 m 141 ls []) := by
                intro n
                induction n with
                | zero =>
                  intro j ν H locs ls hj hS hm hT hl hB
                  refine lv_iload S.1 S.2.1 dX4_format_141 (lv_at hl 0 rfl) ?_
                  refine lv_bipush (v := 80) S.1 S.2.1 dX4_format_143 (by decide) ?_
                  refine kv_bge (x := j) (y := 80) (tgt := 167) S (by omega) (by omega) dX4_format_145 (by decide) (fun h_145 => ?_) (fun h => absurd h (by omega))
                  refine lv_aload_n S.1 S.2.1 dX4_format_167 rfl (lv_at hl 1 rfl) ?_
                  refine lv_iconst (v := 0) S.1 S.2.1 dX4_format_168 (by decide) ?_
                  refine lv_ldc (v := 1396855379) S.1 S.2.1 S.2.2.2.1 (S.2.2.2.2 _ (List.mem_cons_of_mem _ kn_306)) dX4_format_169 ?_
                  refine kv_vV (As := [.int 0, .int 1396855379]) (rest := []) hN S (kc_MO_plan l N hN D cA o a1 a2 a3 a4 a5 a6 σ dv ka kb ν (kp_sl pw sd a b) (kp_ms sd a b) oa ob 0 1396855379  (by omega) (by omega)) (kn_cV (C := RX4) S kn_303 kn_304 kn_411 kn_3 kn_305 rfl kd_X4_plan rfl rfl ⟨Nat.le_of_ble_eq_true rfl, Nat.le_of_ble_eq_true rfl⟩) hB 0 rfl rfl rfl hl.1 rfl (Nat.le_of_ble_eq_true rfl) dX4_format_171 ⟨Nat.zero_le _, Nat.zero_le _⟩ (fun H locs hB => ?_)
                  have hB : kv_B N D [(cA, .int)] A s (mo_W o a1 a2 a3 a4 a5 a6 cA σ dv ka kb (kp_p1 ν 0 1396855379) (kp_sl pw sd a b) (kp_ms sd a b) oa ob) H locs := hB
                  have hMu : kp_p1 ν 0 1396855379 = kp_ps (kp_fm 80 0 (kp_vol a b pw sd)) (μ.1, μ.2.1, 0, kp_vol a b pw sd) := hT
                  rw [hMu] at hB
                  have hB : kv_B N D [(cA, .int)] A s (mo_W o a1 a2 a3 a4 a5 a6 cA σ dv ka kb (kp_ps (kp_fm 80 0 (kp_vol a b pw sd)) (μ.1, μ.2.1, 0, kp_vol a b pw sd)) (kp_sl pw sd a b) (kp_ms sd a b) oa ob) H locs := hB
                  refine lv_aload_n S.1 S.2.1 dX4_format_174 rfl (lv_at hl 1 rfl) ?_
                  refine kv_vI (As := []) (rest := []) hN S (kc_MO_perform l N hN D cA o a1 a2 a3 a4 a5 a6 σ dv ka kb (kp_ps (kp_fm 80 0 (kp_vol a b pw sd)) (μ.1, μ.2.1, 0, kp_vol a b pw sd)) (kp_sl pw sd a b) (kp_ms sd a b) oa ob  (kp_fm 80 0 (kp_vol a b pw sd)) (kp_ps_sd _ _ _ _ (by rw [kp_fm_len]; decide) (kp_fm_in 80 0 _ (by decide)))) (kn_cV (C := RX4) S kn_307 kn_308 kn_412 kn_3 kn_309 rfl kd_X4_perform rfl rfl ⟨Nat.le_of_ble_eq_true rfl, Nat.le_of_ble_eq_true rfl⟩) hB 0 rfl rfl rfl hl.1 rfl (Nat.le_of_ble_eq_true rfl) dX4_format_175 ⟨Nat.zero_le _, Nat.zero_le _⟩ (fun H locs hB => ?_)
                  have hB : kv_B N D [(cA, .int)] A s (mo_W o a1 a2 a3 a4 a5 a6 cA ((kp_run (kp_fm 80 0 (kp_vol a b pw sd)) σ).2) (if (kp_run (kp_fm 80 0 (kp_vol a b pw sd)) σ).1 = 0 then 0 else dv) ka kb (kp_ps (kp_fm 80 0 (kp_vol a b pw sd)) (μ.1, μ.2.1, 0, kp_vol a b pw sd)) (kp_sl pw sd a b) (kp_ms sd a b) oa ob) H locs := hB
                  refine lv_if_ne (tgt := 183) S.1 S.2.1 dX4_format_178 (by decide) (fun h_178 => ?_) (fun h_178 => ?_)
                  · skip
                    simp only [if_neg h_178] at hB
                    have hB : kv_B N D [(cA, .int)] A s (mo_W o a1 a2 a3 a4 a5 a6 cA ((kp_run (kp_fm 80 0 (kp_vol a b pw sd)) σ).2) dv ka kb (kp_ps (kp_fm 80 0 (kp_vol a b pw sd)) (μ.1, μ.2.1, 0, kp_vol a b pw sd)) (kp_sl pw sd a b) (kp_ms sd a b) oa ob) H locs := hB
                    refine lv_aload_n S.1 S.2.1 dX4_format_183 rfl (lv_at hl 1 rfl) ?_
                    refine lv_iconst (v := 1) S.1 S.2.1 dX4_format_184 (by decide) ?_
                    refine kv_put (C := RX4) (T := TX4) (M := 14) (ci := 2) (v := 1) S hB (kn_c kn_iX4) tyX4 tyX4_ok nmX4 0 rfl rfl 3 (by decide) (List.mem_cons_of_mem _ kn_236) rfl rfl rfl (Nat.le_of_ble_eq_true rfl) dX4_format_185 (fun H locs hB => ?_)
                    have hB : kv_B N D [(cA, .int)] A s (mo_W o a1 a2 a3 a4 a5 a6 cA ((kp_run (kp_fm 80 0 (kp_vol a b pw sd)) σ).2) 1 ka kb (kp_ps (kp_fm 80 0 (kp_vol a b pw sd)) (μ.1, μ.2.1, 0, kp_vol a b pw sd)) (kp_sl pw sd a b) (kp_ms sd a b) oa ob) H locs := hB
                    refine lv_iconst (v := 0) S.1 S.2.1 dX4_format_188 (by decide) ?_
                    exact K _ _ _ _ _ _ hB (by first | (rw [kp_y_format, kp_yf, if_neg h_178]) | (rw [kp_y_format, kp_yf, if_neg h_178]; rfl)) (by first | (rw [kp_y_format, kp_yf, if_neg h_178]) | (rw [kp_y_format, kp_yf, if_neg h_178]; rfl)) dX4_format_189
                  · skip
                    simp only [if_pos h_178] at hB
                    have hB : kv_B N D [(cA, .int)] A s (mo_W o a1 a2 a3 a4 a5 a6 cA ((kp_run (kp_fm 80 0 (kp_vol a b pw sd)) σ).2) 0 ka kb (kp_ps (kp_fm 80 0 (kp_vol a b pw sd)) (μ.1, μ.2.1, 0, kp_vol a b pw sd)) (kp_sl pw sd a b) (kp_ms sd a b) oa ob) H locs := hB
                    refine lv_iconst (v := (-1)) S.1 S.2.1 dX4_format_181 (by decide) ?_
                    exact K _ _ _ _ _ _ hB (by first | (rw [kp_y_format, kp_yf, if_pos h_178]) | (rw [kp_y_format, kp_yf, if_pos h_178]; rfl)) (by first | (rw [kp_y_format, kp_yf, if_pos h_178]) | (rw [kp_y_format, kp_yf, if_pos h_178]; rfl)) dX4_format_182
                | succ n ih141 =>
                  intro j ν H locs ls hj hS hm hT hl hB
                  refine lv_iload S.1 S.2.1 dX4_format_141 (lv_at hl 0 rfl) ?_
                  refine lv_bipush (v := 80) S.1 S.2.1 dX4_format_143 (by decide) ?_
                  refine kv_bge (x := j) (y := 80) (tgt := 167) S (by omega) (by omega) dX4_format_145 (by decide) (fun h => absurd h (by omega)) (fun h_145 => ?_)
                  refine lv_aload_n S.1 S.2.1 dX4_format_148 rfl (lv_at hl 1 rfl) ?_
                  refine lv_iload S.1 S.2.1 dX4_format_149 (lv_at hl 0 rfl) ?_
                  refine lv_aload_n S.1 S.2.1 dX4_format_151 rfl (lv_at hl 1 rfl) ?_
                  refine kv_get (C := RX4) (T := TX4) (M := 14) (ci := 2) S hB (kn_c kn_iX4) 0 rfl rfl 9 (by decide) (List.mem_cons_of_mem _ kn_242) rfl rfl dX4_format_152 ?_
                  refine lv_iload S.1 S.2.1 dX4_format_155 (lv_at hl 0 rfl) ?_
                  refine kv_iald S hB 4 0 rfl rfl j rfl (by omega) (by decide) dX4_format_157 ?_
                  refine kv_vV (As := [.int (nI j), .int (ν.2.2.2 j)]) (rest := []) hN S (kc_MO_plan l N hN D cA o a1 a2 a3 a4 a5 a6 σ dv ka kb ν (kp_sl pw sd a b) (kp_ms sd a b) oa ob j (ν.2.2.2 j)  (by omega) (by omega)) (kn_cV (C := RX4) S kn_303 kn_304 kn_411 kn_3 kn_305 rfl kd_X4_plan rfl rfl ⟨Nat.le_of_ble_eq_true rfl, Nat.le_of_ble_eq_true rfl⟩) hB 0 rfl rfl rfl hl.1 rfl (Nat.le_of_ble_eq_true rfl) dX4_format_158 ⟨Nat.zero_le _, Nat.zero_le _⟩ (fun H locs hB => ?_)
                  have hB : kv_B N D [(cA, .int)] A s (mo_W o a1 a2 a3 a4 a5 a6 cA σ dv ka kb (kp_p1 ν j (ν.2.2.2 j)) (kp_sl pw sd a b) (kp_ms sd a b) oa ob) H locs := hB
                  refine lv_iinc (k := 0) (v := nI (j + 1)) S.1 S.2.1 dX4_format_161 hl rfl (nI_1 j) (by decide) rfl (fun ls hl => ?_)
                  have hl : lv_has ls 7 [(6, .int (nI (j + 1))), (0, .ref o)] := hl
                  refine lv_goto (tgt := 141) S.1 S.2.1 dX4_format_164 (by decide) ?_
                  exact ih141 (j + 1) (kp_p1 ν j (ν.2.2.2 j)) _ _ _ (by omega) (by show upd ν.2.2.2 j (ν.2.2.2 j) = _; rw [kp_upd_self]; exact hS) (by show ν.2.2.1 + 1 = _; omega) (by rw [← hT, hS]; rfl) (lv_sub hl [0, 1] rfl) hB
              exact loop141 80 0 (μ.1, μ.2.1, 0, kp_vol a b pw sd) _ _ _ (rfl) (rfl) (rfl) (rfl) (lv_sub hl [0, 1] rfl) hB
            | succ n ih101 =>
              intro i gg H locs ls hi hG hl hB
              refine lv_iload S.1 S.2.1 dX4_format_101 (lv_at hl 0 rfl) ?_
              refine lv_bipush (v := 32) S.1 S.2.1 dX4_format_103 (by decide) ?_
              refine kv_bge (x := i) (y := 32) (tgt := 138) S (by omega) (by omega) dX4_format_105 (by decide) (fun h => absurd h (by omega)) (fun h_105 => ?_)
              refine lv_aload_n S.1 S.2.1 dX4_format_108 rfl (lv_at hl 1 rfl) ?_
              refine kv_get (C := RX4) (T := TX4) (M := 14) (ci := 2) S hB (kn_c kn_iX4) 0 rfl rfl 9 (by decide) (List.mem_cons_of_mem _ kn_242) rfl rfl dX4_format_109 ?_
              refine lv_bipush (v := 48) S.1 S.2.1 dX4_format_112 (by decide) ?_
              refine lv_iload S.1 S.2.1 dX4_format_114 (lv_at hl 0 rfl) ?_
              refine lv_iadd S.1 S.2.1 dX4_format_116 ?_
              refine kv_top (y := nI (48 + i)) (nI_add 48 i) ?_
              refine lv_iload_n S.1 S.2.1 dX4_format_117 rfl (lv_at hl 2 rfl) ?_
              refine lv_iload_n S.1 S.2.1 dX4_format_118 rfl (lv_at hl 3 rfl) ?_
              refine lv_iload S.1 S.2.1 dX4_format_119 (lv_at hl 0 rfl) ?_
              refine lv_iconst (v := 4) S.1 S.2.1 dX4_format_121 (by decide) ?_
              refine lv_idiv S.1 S.2.1 dX4_format_122 (by decide) ?_
              refine kv_top (y := nI (i / 4)) (pk_div (a := i) (d := 4) (by omega) (by omega) (by omega)) ?_
              refine lv_iload S.1 S.2.1 dX4_format_123 (lv_at hl 0 rfl) ?_
              refine lv_iconst (v := 4) S.1 S.2.1 dX4_format_125 (by decide) ?_
              refine lv_irem S.1 S.2.1 dX4_format_126 (by decide) ?_
              refine kv_top (y := nI (i % 4)) (pk_rem (a := i) (d := 4) (by omega) (by omega) (by omega)) ?_
              refine lv_iconst (v := 0) S.1 S.2.1 dX4_format_127 (by decide) ?_
              refine kv_sP (As := [.int a, .int b, .int (nI (i / 4)), .int (nI (i % 4)), .int 0]) (rest := [.int (nI (48 + i)), .ref a4]) S (kc_MO_hide l D a b (nI (i / 4)) (i % 4) 0  (by omega)) (kn_cS S kn_297 kn_298 kn_3 kn_299 kd_X4_hide rfl rfl ⟨Nat.le_of_ble_eq_true rfl, Nat.le_of_ble_eq_true rfl⟩) hB rfl hl.1 rfl (Nat.le_of_ble_eq_true rfl) dX4_format_128 ⟨Nat.zero_le _, Nat.zero_le _⟩ (fun H locs hB => ?_)
              refine kv_iast S hB 4 0 rfl rfl (48 + i) rfl (by omega) (by decide) dX4_format_131 (fun H locs hB => ?_)
              have hB : kv_B N D [(cA, .int)] A s (mo_W o a1 a2 a3 a4 a5 a6 cA σ dv ka kb (μ.1, μ.2.1, 0, upd gg (48 + i) (kp_hide a b (nI (i / 4)) (i % 4) 0)) (kp_sl pw sd a b) (kp_ms sd a b) oa ob) H locs := hB
              refine lv_iinc (k := 0) (v := nI (i + 1)) S.1 S.2.1 dX4_format_132 hl rfl (nI_1 i) (by decide) rfl (fun ls hl => ?_)
              have hl : lv_has ls 7 [(6, .int (nI (i + 1))), (0, .ref o), (1, .int a), (2, .int b), (3, .int pw), (4, .int sd)] := hl
              refine lv_goto (tgt := 101) S.1 S.2.1 dX4_format_135 (by decide) ?_
              exact ih101 (i + 1) (upd gg (48 + i) (kp_hide a b (nI (i / 4)) (i % 4) 0)) _ _ _ (by omega) (fun j hj => by by_cases q : j = 48 + i <;> first | (subst q; rw [pk_us, kp_vol_h a b pw sd (by omega)]) | (rw [pk_un q]; exact hG j (by omega))) (lv_sub hl [0, 1, 2, 3, 4, 5] rfl) hB
          exact loop101 32 0 gg _ _ _ (rfl) (fun j hj => hG j (by omega) (by omega)) (lv_sub hl [0, 1, 2, 3, 4, 5] rfl) hB
        | succ n ih69 =>
          intro i gg H locs ls hi hG hl hB
          refine lv_iload S.1 S.2.1 dX4_format_69 (lv_at hl 0 rfl) ?_
          refine lv_bipush (v := 8) S.1 S.2.1 dX4_format_71 (by decide) ?_
          refine kv_bge (x := i) (y := 8) (tgt := 98) S (by omega) (by omega) dX4_format_73 (by decide) (fun h => absurd h (by omega)) (fun h_73 => ?_)
          refine lv_aload_n S.1 S.2.1 dX4_format_76 rfl (lv_at hl 1 rfl) ?_
          refine kv_get (C := RX4) (T := TX4) (M := 14) (ci := 2) S hB (kn_c kn_iX4) 0 rfl rfl 9 (by decide) (List.mem_cons_of_mem _ kn_242) rfl rfl dX4_format_77 ?_
          refine lv_iconst (v := 4) S.1 S.2.1 dX4_format_80 (by decide) ?_
          refine lv_iload S.1 S.2.1 dX4_format_81 (lv_at hl 0 rfl) ?_
          refine lv_iadd S.1 S.2.1 dX4_format_83 ?_
          refine kv_top (y := nI (4 + i)) (nI_add 4 i) ?_
          refine lv_aload_n S.1 S.2.1 dX4_format_84 rfl (lv_at hl 1 rfl) ?_
          refine kv_get (C := RX4) (T := TX4) (M := 14) (ci := 2) S hB (kn_c kn_iX4) 0 rfl rfl 10 (by decide) (List.mem_cons_of_mem _ kn_243) rfl rfl dX4_format_85 ?_
          refine lv_iload S.1 S.2.1 dX4_format_88 (lv_at hl 0 rfl) ?_
          refine kv_iald S hB 5 0 rfl rfl i rfl (by omega) (by decide) dX4_format_90 ?_
          refine kv_iast S hB 4 0 rfl rfl (4 + i) rfl (by omega) (by decide) dX4_format_91 (fun H locs hB => ?_)
          have hB : kv_B N D [(cA, .int)] A s (mo_W o a1 a2 a3 a4 a5 a6 cA σ dv ka kb (μ.1, μ.2.1, 0, upd gg (4 + i) ((kp_sl pw sd a b) i)) (kp_sl pw sd a b) (kp_ms sd a b) oa ob) H locs := hB
          refine lv_iinc (k := 0) (v := nI (i + 1)) S.1 S.2.1 dX4_format_92 hl rfl (nI_1 i) (by decide) rfl (fun ls hl => ?_)
          have hl : lv_has ls 7 [(6, .int (nI (i + 1))), (0, .ref o), (1, .int a), (2, .int b), (3, .int pw), (4, .int sd)] := hl
          refine lv_goto (tgt := 69) S.1 S.2.1 dX4_format_95 (by decide) ?_
          exact ih69 (i + 1) (upd gg (4 + i) ((kp_sl pw sd a b) i)) _ _ _ (by omega) (fun j h1 h2 => by by_cases q : j = 4 + i <;> first | (subst q; rw [pk_us, kp_vol_sl a b pw sd (by omega)]) | (rw [pk_un q]; exact hG j h1 (by omega))) (lv_sub hl [0, 1, 2, 3, 4, 5] rfl) hB
      exact loop69 8 0 (upd (upd (fun _ => 0) 1 (kp_dg a b x_1)) 2 x_1) _ _ _ (rfl) (by subst_vars; exact fun j h1 h2 => kp_vol1 a b pw sd h1 h2) (lv_sub hl [0, 2, 3, 4, 5, 6] rfl) hB
    | succ n ih7 =>
      intro j gg H locs ls hj hG hl hB
      refine lv_iload S.1 S.2.1 dX4_format_7 (lv_at hl 0 rfl) ?_
      refine lv_bipush (v := 80) S.1 S.2.1 dX4_format_9 (by decide) ?_
      refine kv_bge (x := j) (y := 80) (tgt := 28) S (by omega) (by omega) dX4_format_11 (by decide) (fun h => absurd h (by omega)) (fun h_11 => ?_)
      refine lv_aload_n S.1 S.2.1 dX4_format_14 rfl (lv_at hl 1 rfl) ?_
      refine kv_get (C := RX4) (T := TX4) (M := 14) (ci := 2) S hB (kn_c kn_iX4) 0 rfl rfl 9 (by decide) (List.mem_cons_of_mem _ kn_242) rfl rfl dX4_format_15 ?_
      refine lv_iload S.1 S.2.1 dX4_format_18 (lv_at hl 0 rfl) ?_
      refine lv_iconst (v := 0) S.1 S.2.1 dX4_format_20 (by decide) ?_
      refine kv_iast S hB 4 0 rfl rfl j rfl (by omega) (by decide) dX4_format_21 (fun H locs hB => ?_)
      have hB : kv_B N D [(cA, .int)] A s (mo_W o a1 a2 a3 a4 a5 a6 cA σ dv ka kb (μ.1, μ.2.1, 0, upd gg j 0) fr st oa ob) H locs := hB
      refine lv_iinc (k := 0) (v := nI (j + 1)) S.1 S.2.1 dX4_format_22 hl rfl (nI_1 j) (by decide) rfl (fun ls hl => ?_)
      have hl : lv_has ls 7 [(5, .int (nI (j + 1))), (0, .ref o), (1, .int a), (2, .int b), (3, .int pw), (4, .int sd)] := hl
      refine lv_goto (tgt := 7) S.1 S.2.1 dX4_format_25 (by decide) ?_
      exact ih7 (j + 1) (upd gg j 0) _ _ _ (by omega) (fun i hi => by by_cases q : i = j <;> first | (subst q; exact pk_us) | (rw [pk_un q]; exact hG i (by omega))) (lv_sub hl [0, 1, 2, 3, 4, 5] rfl) hB
  exact loop7 80 0 σ.1 _ _ _ (rfl) (fun i hi => absurd hi (Nat.not_lt_zero i)) (lv_sub hl [0, 1, 2, 3, 4, 5] rfl) hB
