abbrev kr_VO_slotPlace : Room := { frames := 0, cells := 0, slots := 0, locals := 0 }
set_option maxRecDepth 100000 in
set_option maxHeartbeats 4000000 in
theorem kc_VO_slotPlace (l : Launch) (D : va_G) (k : Nat) : kv_I (fun _ => True) l yX3_slotPlace wsX3_slotPlace kr_VO_slotPlace D [] [.int (nI k)] [] (nI (4 + 8 * k)) [] := by
  refine kv_openI (cc := cX3_slotPlace) (maxL := 1) (rt := .int) (by decide) rfl (rfl) (Nat.le_of_ble_eq_true rfl) ?_
  intro p e s m args below meth c A H locs ls Q S hl hB K
  have hl : lv_has ls 1 [(0, .int (nI k))] := hl
  refine lv_iconst (v := 4) S.1 S.2.1 dX3_slotPlace_0 (by decide) ?_
  refine lv_bipush (v := 8) S.1 S.2.1 dX3_slotPlace_1 (by decide) ?_
  refine lv_iload_n S.1 S.2.1 dX3_slotPlace_3 rfl (lv_at hl 0 rfl) ?_
  refine lv_imul S.1 S.2.1 dX3_slotPlace_4 ?_
  refine kv_top (y := nI (8 * k)) (pk_mul 8 k) ?_
  refine lv_iadd S.1 S.2.1 dX3_slotPlace_5 ?_
  refine kv_top (y := nI (4 + (8 * k))) (nI_add 4 (8 * k)) ?_
  exact K _ _ _ _ _ _ hB (rfl) (rfl) dX3_slotPlace_6

abbrev kr_VO_sectorPlace : Room := { frames := 0, cells := 0, slots := 0, locals := 0 }
set_option maxRecDepth 100000 in
set_option maxHeartbeats 4000000 in
theorem kc_VO_sectorPlace (l : Launch) (D : va_G) (k : Nat) : kv_I (fun _ => True) l yX3_sectorPlace wsX3_sectorPlace kr_VO_sectorPlace D [] [.int (nI k)] [] (nI (48 + 4 * k)) [] := by
  refine kv_openI (cc := cX3_sectorPlace) (maxL := 1) (rt := .int) (by decide) rfl (rfl) (Nat.le_of_ble_eq_true rfl) ?_
  intro p e s m args below meth c A H locs ls Q S hl hB K
  have hl : lv_has ls 1 [(0, .int (nI k))] := hl
  refine lv_bipush (v := 48) S.1 S.2.1 dX3_sectorPlace_0 (by decide) ?_
  refine lv_iconst (v := 4) S.1 S.2.1 dX3_sectorPlace_2 (by decide) ?_
  refine lv_iload_n S.1 S.2.1 dX3_sectorPlace_3 rfl (lv_at hl 0 rfl) ?_
  refine lv_imul S.1 S.2.1 dX3_sectorPlace_4 ?_
  refine kv_top (y := nI (4 * k)) (pk_mul 4 k) ?_
  refine lv_iadd S.1 S.2.1 dX3_sectorPlace_5 ?_
  refine kv_top (y := nI (48 + (4 * k))) (nI_add 48 (4 * k)) ?_
  exact K _ _ _ _ _ _ hB (rfl) (rfl) dX3_sectorPlace_6

abbrev kr_VO_holdNoKeys : Room := { frames := 0, cells := 0, slots := 0, locals := 0 }
set_option maxRecDepth 100000 in
set_option maxHeartbeats 4000000 in
theorem kc_VO_holdNoKeys (l : Launch) (N : State → Prop) (hN : kv_Mv N) (D : va_G) (cA : ClassId) (h d w r : Nat) (σ : kp_S) (g : Nat → Int32) (dv dk pk : Int32) (x : Int32) : kv_V N l yX3_holdNoKeys wsX3_holdNoKeys kr_VO_holdNoKeys D [(cA, .int)] [.ref h, .int x] (vo_W h d w r cA σ g dv dk pk)  (vo_W h d w r cA σ g x 0 0) := by
  refine kv_openV (cc := cX3_holdNoKeys) (maxL := 2) (by decide) rfl (Nat.le_of_ble_eq_true rfl) ?_
  intro p e s m args below meth c A H locs ls Q S hl hB K
  have hl : lv_has ls 2 [(0, .ref h), (1, .int x)] := hl
  refine lv_aload_n S.1 S.2.1 dX3_holdNoKeys_0 rfl (lv_at hl 0 rfl) ?_
  refine lv_iload_n S.1 S.2.1 dX3_holdNoKeys_1 rfl (lv_at hl 1 rfl) ?_
  refine kv_put (C := RX3) (T := TX3) (M := 5) (ci := 1) (v := x) S hB (kn_c kn_iX3) tyX3 tyX3_ok nmX3 0 rfl rfl 2 (by decide) (List.mem_cons_of_mem _ kn_31) rfl rfl rfl (Nat.le_of_ble_eq_true rfl) dX3_holdNoKeys_2 (fun H locs hB => ?_)
  have hB : kv_B N D [(cA, .int)] A s (vo_W h d w r cA σ g x dk pk) H locs := hB
  refine lv_aload_n S.1 S.2.1 dX3_holdNoKeys_5 rfl (lv_at hl 0 rfl) ?_
  refine lv_iconst (v := 0) S.1 S.2.1 dX3_holdNoKeys_6 (by decide) ?_
  refine kv_put (C := RX3) (T := TX3) (M := 5) (ci := 1) (v := 0) S hB (kn_c kn_iX3) tyX3 tyX3_ok nmX3 0 rfl rfl 3 (by decide) (List.mem_cons_of_mem _ kn_32) rfl rfl rfl (Nat.le_of_ble_eq_true rfl) dX3_holdNoKeys_7 (fun H locs hB => ?_)
  have hB : kv_B N D [(cA, .int)] A s (vo_W h d w r cA σ g x 0 pk) H locs := hB
  refine lv_aload_n S.1 S.2.1 dX3_holdNoKeys_10 rfl (lv_at hl 0 rfl) ?_
  refine lv_iconst (v := 0) S.1 S.2.1 dX3_holdNoKeys_11 (by decide) ?_
  refine kv_put (C := RX3) (T := TX3) (M := 5) (ci := 1) (v := 0) S hB (kn_c kn_iX3) tyX3 tyX3_ok nmX3 0 rfl rfl 4 (by decide) (List.mem_cons_of_mem _ kn_33) rfl rfl rfl (Nat.le_of_ble_eq_true rfl) dX3_holdNoKeys_12 (fun H locs hB => ?_)
  have hB : kv_B N D [(cA, .int)] A s (vo_W h d w r cA σ g x 0 0) H locs := hB
  exact K _ _ _ _ _ hB (rfl) dX3_holdNoKeys_15

abbrev kr_VO_powerLost : Room := { frames := 1, cells := 0, slots := 0, locals := 21 }
set_option maxRecDepth 100000 in
set_option maxHeartbeats 4000000 in
theorem kc_VO_powerLost (l : Launch) (N : State → Prop) (hN : kv_Mv N) (D : va_G) (cA : ClassId) (h d w r : Nat) (σ : kp_S) (g : Nat → Int32) (dv dk pk : Int32) : kv_I N l yX3_powerLost wsX3_powerLost kr_VO_powerLost D [(cA, .int)] [.ref h] (vo_W h d w r cA σ g dv dk pk) (-1) (vo_W h d w r cA σ g 0 0 0) := by
  refine kv_openI (cc := cX3_powerLost) (maxL := 1) (rt := .int) (by decide) rfl (rfl) (Nat.le_of_ble_eq_true rfl) ?_
  intro p e s m args below meth c A H locs ls Q S hl hB K
  have hl : lv_has ls 1 [(0, .ref h)] := hl
  refine lv_aload_n S.1 S.2.1 dX3_powerLost_0 rfl (lv_at hl 0 rfl) ?_
  refine lv_iconst (v := 0) S.1 S.2.1 dX3_powerLost_1 (by decide) ?_
  refine kv_vV (As := [.int 0]) (rest := []) hN S (kc_VO_holdNoKeys l N hN D cA h d w r σ g dv dk pk 0  ) (kn_cV (C := RX3) S kn_107 kn_108 kn_395 kn_1 kn_109 rfl kd_X3_holdNoKeys rfl rfl ⟨Nat.le_of_ble_eq_true rfl, Nat.le_of_ble_eq_true rfl⟩) hB 0 rfl rfl rfl hl.1 rfl (Nat.le_of_ble_eq_true rfl) dX3_powerLost_2 ⟨Nat.zero_le _, Nat.zero_le _⟩ (fun H locs hB => ?_)
  have hB : kv_B N D [(cA, .int)] A s (vo_W h d w r cA σ g 0 0 0) H locs := hB
  refine lv_iconst (v := (-1)) S.1 S.2.1 dX3_powerLost_5 (by decide) ?_
  exact K _ _ _ _ _ _ hB (rfl) (rfl) dX3_powerLost_6

abbrev kr_VO_refusalUnlessOpen : Room := { frames := 0, cells := 0, slots := 0, locals := 0 }
set_option maxRecDepth 100000 in
set_option maxHeartbeats 4000000 in
theorem kc_VO_refusalUnlessOpen (l : Launch) (N : State → Prop) (hN : kv_Mv N) (D : va_G) (cA : ClassId) (h d w r : Nat) (σ : kp_S) (g : Nat → Int32) (dv dk pk : Int32) : kv_I N l yX3_refusalUnlessOpen wsX3_refusalUnlessOpen kr_VO_refusalUnlessOpen D [(cA, .int)] [.ref h] (vo_W h d w r cA σ g dv dk pk) (kp_ro dv) (vo_W h d w r cA σ g dv dk pk) := by
  refine kv_openI (cc := cX3_refusalUnlessOpen) (maxL := 1) (rt := .int) (by decide) rfl (rfl) (Nat.le_of_ble_eq_true rfl) ?_
  intro p e s m args below meth c A H locs ls Q S hl hB K
  have hl : lv_has ls 1 [(0, .ref h)] := hl
  refine lv_aload_n S.1 S.2.1 dX3_refusalUnlessOpen_0 rfl (lv_at hl 0 rfl) ?_
  refine kv_get (C := RX3) (T := TX3) (M := 5) (ci := 1) S hB (kn_c kn_iX3) 0 rfl rfl 2 (by decide) (List.mem_cons_of_mem _ kn_31) rfl rfl dX3_refusalUnlessOpen_1 ?_
  refine lv_if_ne (tgt := 10) S.1 S.2.1 dX3_refusalUnlessOpen_4 (by decide) (fun h_4 => ?_) (fun h_4 => ?_)
  · skip
    refine lv_aload_n S.1 S.2.1 dX3_refusalUnlessOpen_10 rfl (lv_at hl 0 rfl) ?_
    refine kv_get (C := RX3) (T := TX3) (M := 5) (ci := 1) S hB (kn_c kn_iX3) 0 rfl rfl 2 (by decide) (List.mem_cons_of_mem _ kn_31) rfl rfl dX3_refusalUnlessOpen_11 ?_
    refine lv_iconst (v := 1) S.1 S.2.1 dX3_refusalUnlessOpen_14 (by decide) ?_
    refine lv_icmp_ne (tgt := 23) S.1 S.2.1 dX3_refusalUnlessOpen_15 (by decide) (fun h_15 => ?_) (fun h_15 => ?_)
    · skip
      refine lv_iconst (v := 0) S.1 S.2.1 dX3_refusalUnlessOpen_23 (by decide) ?_
      exact K _ _ _ _ _ _ hB (by first | rw [kp_ro, if_neg h_4, if_pos h_15] | rw [kp_ro, if_neg h_4, if_neg h_15]) (rfl) dX3_refusalUnlessOpen_24
    · skip
      refine lv_bipush (v := (-4)) S.1 S.2.1 dX3_refusalUnlessOpen_18 (by decide) ?_
      refine lv_goto (tgt := 24) S.1 S.2.1 dX3_refusalUnlessOpen_20 (by decide) ?_
      exact K _ _ _ _ _ _ hB (by first | rw [kp_ro, if_neg h_4, if_pos h_15] | rw [kp_ro, if_neg h_4, if_neg h_15]) (rfl) dX3_refusalUnlessOpen_24
  · skip
    refine lv_bipush (v := (-2)) S.1 S.2.1 dX3_refusalUnlessOpen_7 (by decide) ?_
    exact K _ _ _ _ _ _ hB (by rw [kp_ro, if_pos h_4]) (rfl) dX3_refusalUnlessOpen_9

abbrev kr_VO_isActive : Room := { frames := 1, cells := 0, slots := 0, locals := 21 }
set_option maxRecDepth 100000 in
set_option maxHeartbeats 4000000 in
theorem kc_VO_isActive (l : Launch) (N : State → Prop) (hN : kv_Mv N) (D : va_G) (cA : ClassId) (h d w r : Nat) (σ : kp_S) (g : Nat → Int32) (dv dk pk : Int32) (k : Nat) (hk : k < 4) : kv_I N l yX3_isActive wsX3_isActive kr_VO_isActive D [(cA, .int)] [.ref h, .int (nI k)] (vo_W h d w r cA σ g dv dk pk) (kp_ac σ.1 k) (vo_W h d w r cA σ g dv dk pk) := by
  refine kv_openI (cc := cX3_isActive) (maxL := 2) (rt := .boolean) (by decide) rfl (kp_ac_z _ _) (Nat.le_of_ble_eq_true rfl) ?_
  intro p e s m args below meth c A H locs ls Q S hl hB K
  have hl : lv_has ls 2 [(0, .ref h), (1, .int (nI k))] := hl
  refine lv_aload_n S.1 S.2.1 dX3_isActive_0 rfl (lv_at hl 0 rfl) ?_
  refine kv_get (C := RX3) (T := TX3) (M := 5) (ci := 1) S hB (kn_c kn_iX3) 0 rfl rfl 0 (by decide) (List.mem_cons_of_mem _ kn_29) rfl rfl dX3_isActive_1 ?_
  refine lv_iload_n S.1 S.2.1 dX3_isActive_4 rfl (lv_at hl 1 rfl) ?_
  refine kv_sP (As := [.int (nI k)]) (rest := [.ref d]) S (kc_VO_slotPlace l D k  ) (kn_cS S kn_63 kn_64 kn_1 kn_65 kd_X3_slotPlace rfl rfl ⟨Nat.le_of_ble_eq_true rfl, Nat.le_of_ble_eq_true rfl⟩) hB rfl hl.1 rfl (Nat.le_of_ble_eq_true rfl) dX3_isActive_5 ⟨Nat.zero_le _, Nat.zero_le _⟩ (fun H locs hB => ?_)
  refine kv_vI (As := [.int (nI (4 + 8 * k))]) (rest := []) hN S (kc_DI_wordAtN l N hN D cA h d w r σ g dv dk pk (4 + 8 * k)  (by omega)) (kn_cV (C := RX1) S kn_114 kn_115 kn_116 kn_2 kn_117 rfl kd_X1_wordAt rfl rfl ⟨Nat.le_of_ble_eq_true rfl, Nat.le_of_ble_eq_true rfl⟩) hB 1 rfl rfl rfl hl.1 rfl (Nat.le_of_ble_eq_true rfl) dX3_isActive_8 ⟨Nat.zero_le _, Nat.zero_le _⟩ (fun H locs hB => ?_)
  refine lv_iconst (v := 1) S.1 S.2.1 dX3_isActive_11 (by decide) ?_
  refine lv_icmp_ne (tgt := 19) S.1 S.2.1 dX3_isActive_12 (by decide) (fun h_12 => ?_) (fun h_12 => ?_)
  · skip
    refine lv_iconst (v := 0) S.1 S.2.1 dX3_isActive_19 (by decide) ?_
    exact K _ _ _ _ _ _ hB (by first | rw [kp_ac, if_pos h_12] | rw [kp_ac, if_neg h_12]) (rfl) dX3_isActive_20
  · skip
    refine lv_iconst (v := 1) S.1 S.2.1 dX3_isActive_15 (by decide) ?_
    refine lv_goto (tgt := 20) S.1 S.2.1 dX3_isActive_16 (by decide) ?_
    exact K _ _ _ _ _ _ hB (by first | rw [kp_ac, if_pos h_12] | rw [kp_ac, if_neg h_12]) (rfl) dX3_isActive_20

abbrev kr_VO_slots : Room := { frames := 2, cells := 0, slots := 0, locals := 42 }
set_option maxRecDepth 100000 in
set_option maxHeartbeats 4000000 in
theorem kc_VO_slots (l : Launch) (N : State → Prop) (hN : kv_Mv N) (D : va_G) (cA : ClassId) (h d w r : Nat) (σ : kp_S) (g : Nat → Int32) (dv dk pk : Int32) : kv_I N l yX3_slots wsX3_slots kr_VO_slots D [(cA, .int)] [.ref h] (vo_W h d w r cA σ g dv dk pk) (kp_sm σ.1 4 0 0) (vo_W h d w r cA σ g dv dk pk) := by
  refine kv_openI (cc := cX3_slots) (maxL := 3) (rt := .int) (by decide) rfl (rfl) (Nat.le_of_ble_eq_true rfl) ?_
  intro p e s m args below meth c A H locs ls Q S hl hB K
  have hl : lv_has ls 3 [(0, .ref h)] := hl
  refine lv_iconst (v := 0) S.1 S.2.1 dX3_slots_0 (by decide) ?_
  refine lv_istore_n S.1 S.2.1 dX3_slots_1 rfl hl (by decide) rfl (fun ls hl => ?_)
  have hl : lv_has ls 3 [(1, .int 0), (0, .ref h)] := hl
  refine lv_iconst (v := 0) S.1 S.2.1 dX3_slots_2 (by decide) ?_
  refine lv_istore_n S.1 S.2.1 dX3_slots_3 rfl hl (by decide) rfl (fun ls hl => ?_)
  have hl : lv_has ls 3 [(2, .int 0), (1, .int 0), (0, .ref h)] := hl
  have loop4 : ∀ (n : Nat) (k : Nat) (t : Int32) (H : Heap) (locs : List Loc) (ls : Array Slot), (k + n = 4) → (kp_sm σ.1 n k t = kp_sm σ.1 4 0 0) → lv_has ls 3 [(2, .int (nI k)), (1, .int t), (0, .ref h)] → kv_B N D [(cA, .int)] A s (vo_W h d w r cA σ g dv dk pk) H locs → W p l e kr_VO_slots s m args below meth c H locs 0 0 Q (F0 m 4 ls []) := by
    intro n
    induction n with
    | zero =>
      intro k t H locs ls hk hT hl hB
      refine lv_iload_n S.1 S.2.1 dX3_slots_4 rfl (lv_at hl 0 rfl) ?_
      refine lv_iconst (v := 4) S.1 S.2.1 dX3_slots_5 (by decide) ?_
      refine kv_bge (x := k) (y := 4) (tgt := 29) S (by omega) (by omega) dX3_slots_6 (by decide) (fun h_6 => ?_) (fun h => absurd h (by omega))
      refine lv_iload_n S.1 S.2.1 dX3_slots_29 rfl (lv_at hl 1 rfl) ?_
      exact K _ _ _ _ _ _ hB (hT) (rfl) dX3_slots_30
    | succ n ih4 =>
      intro k t H locs ls hk hT hl hB
      refine lv_iload_n S.1 S.2.1 dX3_slots_4 rfl (lv_at hl 0 rfl) ?_
      refine lv_iconst (v := 4) S.1 S.2.1 dX3_slots_5 (by decide) ?_
      refine kv_bge (x := k) (y := 4) (tgt := 29) S (by omega) (by omega) dX3_slots_6 (by decide) (fun h => absurd h (by omega)) (fun h_6 => ?_)
      refine lv_aload_n S.1 S.2.1 dX3_slots_9 rfl (lv_at hl 2 rfl) ?_
      refine lv_iload_n S.1 S.2.1 dX3_slots_10 rfl (lv_at hl 0 rfl) ?_
      refine kv_vI (As := [.int (nI k)]) (rest := []) hN S (kc_VO_isActive l N hN D cA h d w r σ g dv dk pk k  (by omega)) (kn_cV (C := RX3) S kn_137 kn_138 kn_399 kn_1 kn_139 rfl kd_X3_isActive rfl rfl ⟨Nat.le_of_ble_eq_true rfl, Nat.le_of_ble_eq_true rfl⟩) hB 0 rfl rfl rfl hl.1 rfl (Nat.le_of_ble_eq_true rfl) dX3_slots_11 ⟨Nat.zero_le _, Nat.zero_le _⟩ (fun H locs hB => ?_)
      refine lv_if_eq (tgt := 23) S.1 S.2.1 dX3_slots_14 (by decide) (fun h_14 => ?_) (fun h_14 => ?_)
      · skip
        refine lv_iinc (k := 0) (v := nI (k + 1)) S.1 S.2.1 dX3_slots_23 hl rfl (nI_1 k) (by decide) rfl (fun ls hl => ?_)
        have hl : lv_has ls 3 [(2, .int (nI (k + 1))), (1, .int t), (0, .ref h)] := hl
        refine lv_goto (tgt := 4) S.1 S.2.1 dX3_slots_26 (by decide) ?_
        exact ih4 (k + 1) t _ _ _ (by omega) (by rw [← hT, kp_sm, if_pos h_14, Int32.add_zero]) (lv_sub hl [0, 1, 2] rfl) hB
      · skip
        refine lv_iload_n S.1 S.2.1 dX3_slots_17 rfl (lv_at hl 1 rfl) ?_
        refine lv_iconst (v := 1) S.1 S.2.1 dX3_slots_18 (by decide) ?_
        refine lv_iload_n S.1 S.2.1 dX3_slots_19 rfl (lv_at hl 0 rfl) ?_
        refine lv_ishl S.1 S.2.1 dX3_slots_20 ?_
        refine lv_iadd S.1 S.2.1 dX3_slots_21 ?_
        refine lv_topi (fun x_1 ex_1 => ?_)
        refine lv_istore_n S.1 S.2.1 dX3_slots_22 rfl hl (by decide) rfl (fun ls hl => ?_)
        have hl : lv_has ls 3 [(1, .int x_1), (2, .int (nI k)), (0, .ref h)] := hl
        refine lv_iinc (k := 1) (v := nI (k + 1)) S.1 S.2.1 dX3_slots_23 hl rfl (nI_1 k) (by decide) rfl (fun ls hl => ?_)
        have hl : lv_has ls 3 [(2, .int (nI (k + 1))), (1, .int x_1), (0, .ref h)] := hl
        refine lv_goto (tgt := 4) S.1 S.2.1 dX3_slots_26 (by decide) ?_
        exact ih4 (k + 1) x_1 _ _ _ (by omega) (by rw [← hT, ex_1, kp_sm, if_neg h_14]) (lv_sub hl [0, 1, 2] rfl) hB
  exact loop4 4 0 0 _ _ _ (rfl) (rfl) (lv_sub hl [0, 1, 2] rfl) hB

abbrev kr_VO_activeSlots : Room := { frames := 3, cells := 0, slots := 0, locals := 64 }
set_option maxRecDepth 100000 in
set_option maxHeartbeats 4000000 in
theorem kc_VO_activeSlots (l : Launch) (N : State → Prop) (hN : kv_Mv N) (D : va_G) (cA : ClassId) (h d w r : Nat) (σ : kp_S) (g : Nat → Int32) (dv dk pk : Int32) : kv_I N l yX3_activeSlots wsX3_activeSlots kr_VO_activeSlots D [(cA, .int)] [.ref h] (vo_W h d w r cA σ g dv dk pk) (kp_bc (kp_sm σ.1 4 0 0)) (vo_W h d w r cA σ g dv dk pk) := by
  refine kv_openI (cc := cX3_activeSlots) (maxL := 1) (rt := .int) (by decide) rfl (rfl) (Nat.le_of_ble_eq_true rfl) ?_
  intro p e s m args below meth c A H locs ls Q S hl hB K
  have hl : lv_has ls 1 [(0, .ref h)] := hl
  refine lv_aload_n S.1 S.2.1 dX3_activeSlots_0 rfl (lv_at hl 0 rfl) ?_
  refine kv_vI (As := []) (rest := []) hN S (kc_VO_slots l N hN D cA h d w r σ g dv dk pk   ) (kn_cV (C := RX3) S kn_133 kn_134 kn_135 kn_1 kn_136 rfl kd_X3_slots rfl rfl ⟨Nat.le_of_ble_eq_true rfl, Nat.le_of_ble_eq_true rfl⟩) hB 0 rfl rfl rfl hl.1 rfl (Nat.le_of_ble_eq_true rfl) dX3_activeSlots_1 ⟨Nat.zero_le _, Nat.zero_le _⟩ (fun H locs hB => ?_)
  refine kv_sP (As := [.int (kp_sm σ.1 4 0 0)]) (rest := []) S (kc_IN_bitCount l D (kp_sm σ.1 4 0 0)  ) (kn_cS S kn_140 kn_141 kn_7 kn_142 kd_J6_bitCount rfl rfl ⟨Nat.le_of_ble_eq_true rfl, Nat.le_of_ble_eq_true rfl⟩) hB rfl hl.1 rfl (Nat.le_of_ble_eq_true rfl) dX3_activeSlots_4 ⟨Nat.zero_le _, Nat.zero_le _⟩ (fun H locs hB => ?_)
  exact K _ _ _ _ _ _ hB (rfl) (rfl) dX3_activeSlots_7

abbrev kr_VO_leastFreeSlot : Room := { frames := 2, cells := 0, slots := 0, locals := 42 }
set_option maxRecDepth 100000 in
set_option maxHeartbeats 4000000 in
theorem kc_VO_leastFreeSlot (l : Launch) (N : State → Prop) (hN : kv_Mv N) (D : va_G) (cA : ClassId) (h d w r : Nat) (σ : kp_S) (g : Nat → Int32) (dv dk pk : Int32) : kv_I N l yX3_leastFreeSlot wsX3_leastFreeSlot kr_VO_leastFreeSlot D [(cA, .int)] [.ref h] (vo_W h d w r cA σ g dv dk pk) (nI (kp_lf σ.1 4 0)) (vo_W h d w r cA σ g dv dk pk) := by
  refine kv_openI (cc := cX3_leastFreeSlot) (maxL := 2) (rt := .int) (by decide) rfl (rfl) (Nat.le_of_ble_eq_true rfl) ?_
  intro p e s m args below meth c A H locs ls Q S hl hB K
  have hl : lv_has ls 2 [(0, .ref h)] := hl
  refine lv_iconst (v := 0) S.1 S.2.1 dX3_leastFreeSlot_0 (by decide) ?_
  refine lv_istore_n S.1 S.2.1 dX3_leastFreeSlot_1 rfl hl (by decide) rfl (fun ls hl => ?_)
  have hl : lv_has ls 2 [(1, .int 0), (0, .ref h)] := hl
  have loop2 : ∀ (n : Nat) (k : Nat) (H : Heap) (locs : List Loc) (ls : Array Slot), (k + n = 4) → (kp_lf σ.1 n k = kp_lf σ.1 4 0) → lv_has ls 2 [(1, .int (nI k)), (0, .ref h)] → kv_B N D [(cA, .int)] A s (vo_W h d w r cA σ g dv dk pk) H locs → W p l e kr_VO_leastFreeSlot s m args below meth c H locs 0 0 Q (F0 m 2 ls []) := by
    intro n
    induction n with
    | zero =>
      intro k H locs ls hk hT hl hB
      refine lv_iload_n S.1 S.2.1 dX3_leastFreeSlot_2 rfl (lv_at hl 0 rfl) ?_
      refine lv_iconst (v := 4) S.1 S.2.1 dX3_leastFreeSlot_3 (by decide) ?_
      refine kv_bge (x := k) (y := 4) (tgt := 21) S (by omega) (by omega) dX3_leastFreeSlot_4 (by decide) (fun h_4 => ?_) (fun h => absurd h (by omega))
      refine lv_iload_n S.1 S.2.1 dX3_leastFreeSlot_21 rfl (lv_at hl 0 rfl) ?_
      exact K _ _ _ _ _ _ hB (by first | (rw [← hT, kp_lf, if_pos h_12]) | (rw [← hT]; rfl)) (rfl) dX3_leastFreeSlot_22
    | succ n ih2 =>
      intro k H locs ls hk hT hl hB
      refine lv_iload_n S.1 S.2.1 dX3_leastFreeSlot_2 rfl (lv_at hl 0 rfl) ?_
      refine lv_iconst (v := 4) S.1 S.2.1 dX3_leastFreeSlot_3 (by decide) ?_
      refine kv_bge (x := k) (y := 4) (tgt := 21) S (by omega) (by omega) dX3_leastFreeSlot_4 (by decide) (fun h => absurd h (by omega)) (fun h_4 => ?_)
      refine lv_aload_n S.1 S.2.1 dX3_leastFreeSlot_7 rfl (lv_at hl 1 rfl) ?_
      refine lv_iload_n S.1 S.2.1 dX3_leastFreeSlot_8 rfl (lv_at hl 0 rfl) ?_
      refine kv_vI (As := [.int (nI k)]) (rest := []) hN S (kc_VO_isActive l N hN D cA h d w r σ g dv dk pk k  (by omega)) (kn_cV (C := RX3) S kn_137 kn_138 kn_399 kn_1 kn_139 rfl kd_X3_isActive rfl rfl ⟨Nat.le_of_ble_eq_true rfl, Nat.le_of_ble_eq_true rfl⟩) hB 0 rfl rfl rfl hl.1 rfl (Nat.le_of_ble_eq_true rfl) dX3_leastFreeSlot_9 ⟨Nat.zero_le _, Nat.zero_le _⟩ (fun H locs hB => ?_)
      refine lv_if_eq (tgt := 21) S.1 S.2.1 dX3_leastFreeSlot_12 (by decide) (fun h_12 => ?_) (fun h_12 => ?_)
      · skip
        refine lv_iload_n S.1 S.2.1 dX3_leastFreeSlot_21 rfl (lv_at hl 0 rfl) ?_
        exact K _ _ _ _ _ _ hB (by first | (rw [← hT, kp_lf, if_pos h_12]) | (rw [← hT]; rfl)) (rfl) dX3_leastFreeSlot_22
      · skip
        refine lv_iinc (k := 0) (v := nI (k + 1)) S.1 S.2.1 dX3_leastFreeSlot_15 hl rfl (nI_1 k) (by decide) rfl (fun ls hl => ?_)
        have hl : lv_has ls 2 [(1, .int (nI (k + 1))), (0, .ref h)] := hl
        refine lv_goto (tgt := 2) S.1 S.2.1 dX3_leastFreeSlot_18 (by decide) ?_
        exact ih2 (k + 1) _ _ _ (by omega) (by rw [← hT, kp_lf, if_neg h_12]) (lv_sub hl [0, 1] rfl) hB
  exact loop2 4 0 _ _ _ (rfl) (rfl) (lv_sub hl [0, 1] rfl) hB

abbrev kr_VO_refusalOfSlot : Room := { frames := 2, cells := 0, slots := 0, locals := 42 }
set_option maxRecDepth 100000 in
set_option maxHeartbeats 4000000 in
theorem kc_VO_refusalOfSlot (l : Launch) (N : State → Prop) (hN : kv_Mv N) (D : va_G) (cA : ClassId) (h d w r : Nat) (σ : kp_S) (g : Nat → Int32) (dv dk pk : Int32) (x : Int32) : kv_I N l yX3_refusalOfSlot wsX3_refusalOfSlot kr_VO_refusalOfSlot D [(cA, .int)] [.ref h, .int x] (vo_W h d w r cA σ g dv dk pk) (kp_rs σ.1 dv x) (vo_W h d w r cA σ g dv dk pk) := by
  refine kv_openI (cc := cX3_refusalOfSlot) (maxL := 3) (rt := .int) (by decide) rfl (rfl) (Nat.le_of_ble_eq_true rfl) ?_
  intro p e s m args below meth c A H locs ls Q S hl hB K
  have hl : lv_has ls 3 [(0, .ref h), (1, .int x)] := hl
  refine lv_aload_n S.1 S.2.1 dX3_refusalOfSlot_0 rfl (lv_at hl 0 rfl) ?_
  refine kv_vI (As := []) (rest := []) hN S (kc_VO_refusalUnlessOpen l N hN D cA h d w r σ g dv dk pk   ) (kn_cV (C := RX3) S kn_168 kn_169 kn_401 kn_1 kn_170 rfl kd_X3_refusalUnlessOpen rfl rfl ⟨Nat.le_of_ble_eq_true rfl, Nat.le_of_ble_eq_true rfl⟩) hB 0 rfl rfl rfl hl.1 rfl (Nat.le_of_ble_eq_true rfl) dX3_refusalOfSlot_1 ⟨Nat.zero_le _, Nat.zero_le _⟩ (fun H locs hB => ?_)
  refine lv_topi (fun x_1 ex_1 => ?_)
  refine lv_istore_n S.1 S.2.1 dX3_refusalOfSlot_4 rfl hl (by decide) rfl (fun ls hl => ?_)
  have hl : lv_has ls 3 [(2, .int x_1), (0, .ref h), (1, .int x)] := hl
  refine lv_iload_n S.1 S.2.1 dX3_refusalOfSlot_5 rfl (lv_at hl 0 rfl) ?_
  refine lv_if_eq (tgt := 11) S.1 S.2.1 dX3_refusalOfSlot_6 (by decide) (fun h_6 => ?_) (fun h_6 => ?_)
  · skip
    have h_6 : kp_ro dv = 0 := by rw [← ex_1]; exact h_6
    refine lv_iload_n S.1 S.2.1 dX3_refusalOfSlot_11 rfl (lv_at hl 2 rfl) ?_
    refine lv_if_lt (tgt := 20) S.1 S.2.1 dX3_refusalOfSlot_12 (by decide) (fun h_12 => ?_) (fun h_12 => ?_)
    · skip
      refine lv_bipush (v := (-5)) S.1 S.2.1 dX3_refusalOfSlot_20 (by decide) ?_
      exact K _ _ _ _ _ _ hB (by first | rw [kp_rs, if_pos h_6, if_pos h_12] | rw [kp_rs, if_pos h_6, if_neg h_12, if_neg h_17]) (rfl) dX3_refusalOfSlot_22
    · skip
      refine lv_iload_n S.1 S.2.1 dX3_refusalOfSlot_15 rfl (lv_at hl 2 rfl) ?_
      refine lv_iconst (v := 4) S.1 S.2.1 dX3_refusalOfSlot_16 (by decide) ?_
      refine lv_icmp_lt (tgt := 23) S.1 S.2.1 dX3_refusalOfSlot_17 (by decide) (fun h_17 => ?_) (fun h_17 => ?_)
      · skip
        obtain ⟨j, hj, rfl⟩ := kp_ix4 h_12 h_17
        refine lv_aload_n S.1 S.2.1 dX3_refusalOfSlot_23 rfl (lv_at hl 1 rfl) ?_
        refine lv_iload_n S.1 S.2.1 dX3_refusalOfSlot_24 rfl (lv_at hl 2 rfl) ?_
        refine kv_vI (As := [.int (nI j)]) (rest := []) hN S (kc_VO_isActive l N hN D cA h d w r σ g dv dk pk j  (by omega)) (kn_cV (C := RX3) S kn_137 kn_138 kn_399 kn_1 kn_139 rfl kd_X3_isActive rfl rfl ⟨Nat.le_of_ble_eq_true rfl, Nat.le_of_ble_eq_true rfl⟩) hB 0 rfl rfl rfl hl.1 rfl (Nat.le_of_ble_eq_true rfl) dX3_refusalOfSlot_25 ⟨Nat.zero_le _, Nat.zero_le _⟩ (fun H locs hB => ?_)
        refine lv_if_eq (tgt := 35) S.1 S.2.1 dX3_refusalOfSlot_28 (by decide) (fun h_28 => ?_) (fun h_28 => ?_)
        · skip
          refine lv_bipush (v := (-6)) S.1 S.2.1 dX3_refusalOfSlot_35 (by decide) ?_
          exact K _ _ _ _ _ _ hB (by first | rw [kp_rs, if_pos h_6, if_neg h_12, if_pos h_17, nI_clamp (by omega), if_pos h_28] | rw [kp_rs, if_pos h_6, if_neg h_12, if_pos h_17, nI_clamp (by omega), if_neg h_28]) (rfl) dX3_refusalOfSlot_37
        · skip
          refine lv_iconst (v := 0) S.1 S.2.1 dX3_refusalOfSlot_31 (by decide) ?_
          refine lv_goto (tgt := 37) S.1 S.2.1 dX3_refusalOfSlot_32 (by decide) ?_
          exact K _ _ _ _ _ _ hB (by first | rw [kp_rs, if_pos h_6, if_neg h_12, if_pos h_17, nI_clamp (by omega), if_pos h_28] | rw [kp_rs, if_pos h_6, if_neg h_12, if_pos h_17, nI_clamp (by omega), if_neg h_28]) (rfl) dX3_refusalOfSlot_37
      · skip
        refine lv_bipush (v := (-5)) S.1 S.2.1 dX3_refusalOfSlot_20 (by decide) ?_
        exact K _ _ _ _ _ _ hB (by first | rw [kp_rs, if_pos h_6, if_pos h_12] | rw [kp_rs, if_pos h_6, if_neg h_12, if_neg h_17]) (rfl) dX3_refusalOfSlot_22
  · skip
    have h_6 : ¬ kp_ro dv = 0 := by rw [← ex_1]; exact h_6
    refine lv_iload_n S.1 S.2.1 dX3_refusalOfSlot_9 rfl (lv_at hl 0 rfl) ?_
    exact K _ _ _ _ _ _ hB (by rw [kp_rs, if_neg h_6, ex_1]) (rfl) dX3_refusalOfSlot_10

abbrev kr_VO_refusalOfWord : Room := { frames := 1, cells := 0, slots := 0, locals := 20 }
set_option maxRecDepth 100000 in
set_option maxHeartbeats 4000000 in
theorem kc_VO_refusalOfWord (l : Launch) (N : State → Prop) (hN : kv_Mv N) (D : va_G) (cA : ClassId) (h d w r : Nat) (σ : kp_S) (g : Nat → Int32) (dv dk pk : Int32) (x : Int32) (y : Int32) : kv_I N l yX3_refusalOfWord wsX3_refusalOfWord kr_VO_refusalOfWord D [(cA, .int)] [.ref h, .int x, .int y] (vo_W h d w r cA σ g dv dk pk) (kp_rw dv x y) (vo_W h d w r cA σ g dv dk pk) := by
  refine kv_openI (cc := cX3_refusalOfWord) (maxL := 5) (rt := .int) (by decide) rfl (rfl) (Nat.le_of_ble_eq_true rfl) ?_
  intro p e s m args below meth c A H locs ls Q S hl hB K
  have hl : lv_has ls 5 [(0, .ref h), (1, .int x), (2, .int y)] := hl
  refine lv_aload_n S.1 S.2.1 dX3_refusalOfWord_0 rfl (lv_at hl 0 rfl) ?_
  refine kv_vI (As := []) (rest := []) hN S (kc_VO_refusalUnlessOpen l N hN D cA h d w r σ g dv dk pk   ) (kn_cV (C := RX3) S kn_168 kn_169 kn_401 kn_1 kn_170 rfl kd_X3_refusalUnlessOpen rfl rfl ⟨Nat.le_of_ble_eq_true rfl, Nat.le_of_ble_eq_true rfl⟩) hB 0 rfl rfl rfl hl.1 rfl (Nat.le_of_ble_eq_true rfl) dX3_refusalOfWord_1 ⟨Nat.zero_le _, Nat.zero_le _⟩ (fun H locs hB => ?_)
  refine lv_topi (fun x_1 ex_1 => ?_)
  refine lv_istore_n S.1 S.2.1 dX3_refusalOfWord_4 rfl hl (by decide) rfl (fun ls hl => ?_)
  have hl : lv_has ls 5 [(3, .int x_1), (0, .ref h), (1, .int x), (2, .int y)] := hl
  refine lv_iload_n S.1 S.2.1 dX3_refusalOfWord_5 rfl (lv_at hl 0 rfl) ?_
  refine lv_if_eq (tgt := 11) S.1 S.2.1 dX3_refusalOfWord_6 (by decide) (fun h_6 => ?_) (fun h_6 => ?_)
  · skip
    have h_6 : kp_ro dv = 0 := by rw [← ex_1]; exact h_6
    refine lv_iload_n S.1 S.2.1 dX3_refusalOfWord_11 rfl (lv_at hl 2 rfl) ?_
    refine lv_if_lt (tgt := 34) S.1 S.2.1 dX3_refusalOfWord_12 (by decide) (fun h_12 => ?_) (fun h_12 => ?_)
    · skip
      refine lv_iconst (v := 0) S.1 S.2.1 dX3_refusalOfWord_34 (by decide) ?_
      refine lv_istore S.1 S.2.1 dX3_refusalOfWord_35 hl (by decide) rfl (fun ls hl => ?_)
      have hl : lv_has ls 5 [(4, .int 0), (3, .int x_1), (0, .ref h), (1, .int x), (2, .int y)] := hl
      refine lv_iload S.1 S.2.1 dX3_refusalOfWord_37 (lv_at hl 0 rfl) ?_
      refine lv_if_eq (tgt := 46) S.1 S.2.1 dX3_refusalOfWord_39 (by decide) (fun h_39 => ?_) (fun h => absurd h (by decide))
      refine lv_bipush (v := (-5)) S.1 S.2.1 dX3_refusalOfWord_46 (by decide) ?_
      exact K _ _ _ _ _ _ hB (by first | rw [kp_rw, if_pos h_6, if_pos h_12] | rw [kp_rw, if_pos h_6, if_neg h_12, if_pos h_18] | rw [kp_rw, if_pos h_6, if_neg h_12, if_neg h_18, if_pos h_22] | rw [kp_rw, if_pos h_6, if_neg h_12, if_neg h_18, if_neg h_22, if_pos h_27] | rw [kp_rw, if_pos h_6, if_neg h_12, if_neg h_18, if_neg h_22, if_neg h_27]) (rfl) dX3_refusalOfWord_48
    · skip
      refine lv_iload_n S.1 S.2.1 dX3_refusalOfWord_15 rfl (lv_at hl 2 rfl) ?_
      refine lv_bipush (v := 8) S.1 S.2.1 dX3_refusalOfWord_16 (by decide) ?_
      refine lv_icmp_ge (tgt := 34) S.1 S.2.1 dX3_refusalOfWord_18 (by decide) (fun h_18 => ?_) (fun h_18 => ?_)
      · skip
        refine lv_iconst (v := 0) S.1 S.2.1 dX3_refusalOfWord_34 (by decide) ?_
        refine lv_istore S.1 S.2.1 dX3_refusalOfWord_35 hl (by decide) rfl (fun ls hl => ?_)
        have hl : lv_has ls 5 [(4, .int 0), (3, .int x_1), (0, .ref h), (1, .int x), (2, .int y)] := hl
        refine lv_iload S.1 S.2.1 dX3_refusalOfWord_37 (lv_at hl 0 rfl) ?_
        refine lv_if_eq (tgt := 46) S.1 S.2.1 dX3_refusalOfWord_39 (by decide) (fun h_39 => ?_) (fun h => absurd h (by decide))
        refine lv_bipush (v := (-5)) S.1 S.2.1 dX3_refusalOfWord_46 (by decide) ?_
        exact K _ _ _ _ _ _ hB (by first | rw [kp_rw, if_pos h_6, if_pos h_12] | rw [kp_rw, if_pos h_6, if_neg h_12, if_pos h_18] | rw [kp_rw, if_pos h_6, if_neg h_12, if_neg h_18, if_pos h_22] | rw [kp_rw, if_pos h_6, if_neg h_12, if_neg h_18, if_neg h_22, if_pos h_27] | rw [kp_rw, if_pos h_6, if_neg h_12, if_neg h_18, if_neg h_22, if_neg h_27]) (rfl) dX3_refusalOfWord_48
      · skip
        refine lv_iload_n S.1 S.2.1 dX3_refusalOfWord_21 rfl (lv_at hl 3 rfl) ?_
        refine lv_if_lt (tgt := 34) S.1 S.2.1 dX3_refusalOfWord_22 (by decide) (fun h_22 => ?_) (fun h_22 => ?_)
        · skip
          refine lv_iconst (v := 0) S.1 S.2.1 dX3_refusalOfWord_34 (by decide) ?_
          refine lv_istore S.1 S.2.1 dX3_refusalOfWord_35 hl (by decide) rfl (fun ls hl => ?_)
          have hl : lv_has ls 5 [(4, .int 0), (3, .int x_1), (0, .ref h), (1, .int x), (2, .int y)] := hl
          refine lv_iload S.1 S.2.1 dX3_refusalOfWord_37 (lv_at hl 0 rfl) ?_
          refine lv_if_eq (tgt := 46) S.1 S.2.1 dX3_refusalOfWord_39 (by decide) (fun h_39 => ?_) (fun h => absurd h (by decide))
          refine lv_bipush (v := (-5)) S.1 S.2.1 dX3_refusalOfWord_46 (by decide) ?_
          exact K _ _ _ _ _ _ hB (by first | rw [kp_rw, if_pos h_6, if_pos h_12] | rw [kp_rw, if_pos h_6, if_neg h_12, if_pos h_18] | rw [kp_rw, if_pos h_6, if_neg h_12, if_neg h_18, if_pos h_22] | rw [kp_rw, if_pos h_6, if_neg h_12, if_neg h_18, if_neg h_22, if_pos h_27] | rw [kp_rw, if_pos h_6, if_neg h_12, if_neg h_18, if_neg h_22, if_neg h_27]) (rfl) dX3_refusalOfWord_48
        · skip
          refine lv_iload_n S.1 S.2.1 dX3_refusalOfWord_25 rfl (lv_at hl 3 rfl) ?_
          refine lv_iconst (v := 4) S.1 S.2.1 dX3_refusalOfWord_26 (by decide) ?_
          refine lv_icmp_ge (tgt := 34) S.1 S.2.1 dX3_refusalOfWord_27 (by decide) (fun h_27 => ?_) (fun h_27 => ?_)
          · skip
            refine lv_iconst (v := 0) S.1 S.2.1 dX3_refusalOfWord_34 (by decide) ?_
            refine lv_istore S.1 S.2.1 dX3_refusalOfWord_35 hl (by decide) rfl (fun ls hl => ?_)
            have hl : lv_has ls 5 [(4, .int 0), (3, .int x_1), (0, .ref h), (1, .int x), (2, .int y)] := hl
            refine lv_iload S.1 S.2.1 dX3_refusalOfWord_37 (lv_at hl 0 rfl) ?_
            refine lv_if_eq (tgt := 46) S.1 S.2.1 dX3_refusalOfWord_39 (by decide) (fun h_39 => ?_) (fun h => absurd h (by decide))
            refine lv_bipush (v := (-5)) S.1 S.2.1 dX3_refusalOfWord_46 (by decide) ?_
            exact K _ _ _ _ _ _ hB (by first | rw [kp_rw, if_pos h_6, if_pos h_12] | rw [kp_rw, if_pos h_6, if_neg h_12, if_pos h_18] | rw [kp_rw, if_pos h_6, if_neg h_12, if_neg h_18, if_pos h_22] | rw [kp_rw, if_pos h_6, if_neg h_12, if_neg h_18, if_neg h_22, if_pos h_27] | rw [kp_rw, if_pos h_6, if_neg h_12, if_neg h_18, if_neg h_22, if_neg h_27]) (rfl) dX3_refusalOfWord_48
          · skip
            refine lv_iconst (v := 1) S.1 S.2.1 dX3_refusalOfWord_30 (by decide) ?_
            refine lv_goto (tgt := 35) S.1 S.2.1 dX3_refusalOfWord_31 (by decide) ?_
            refine lv_istore S.1 S.2.1 dX3_refusalOfWord_35 hl (by decide) rfl (fun ls hl => ?_)
            have hl : lv_has ls 5 [(4, .int 1), (3, .int x_1), (0, .ref h), (1, .int x), (2, .int y)] := hl
            refine lv_iload S.1 S.2.1 dX3_refusalOfWord_37 (lv_at hl 0 rfl) ?_
            refine lv_if_eq (tgt := 46) S.1 S.2.1 dX3_refusalOfWord_39 (by decide) (fun h => absurd h (by decide)) (fun h_39 => ?_)
            refine lv_iconst (v := 0) S.1 S.2.1 dX3_refusalOfWord_42 (by decide) ?_
            refine lv_goto (tgt := 48) S.1 S.2.1 dX3_refusalOfWord_43 (by decide) ?_
            exact K _ _ _ _ _ _ hB (by first | rw [kp_rw, if_pos h_6, if_pos h_12] | rw [kp_rw, if_pos h_6, if_neg h_12, if_pos h_18] | rw [kp_rw, if_pos h_6, if_neg h_12, if_neg h_18, if_pos h_22] | rw [kp_rw, if_pos h_6, if_neg h_12, if_neg h_18, if_neg h_22, if_pos h_27] | rw [kp_rw, if_pos h_6, if_neg h_12, if_neg h_18, if_neg h_22, if_neg h_27]) (rfl) dX3_refusalOfWord_48
  · skip
    have h_6 : ¬ kp_ro dv = 0 := by rw [← ex_1]; exact h_6
    refine lv_iload_n S.1 S.2.1 dX3_refusalOfWord_9 rfl (lv_at hl 0 rfl) ?_
    exact K _ _ _ _ _ _ hB (by rw [kp_rw, if_neg h_6, ex_1]) (rfl) dX3_refusalOfWord_10

abbrev kr_VO_plainWord : Room := { frames := 5, cells := 0, slots := 0, locals := 118 }
set_option maxRecDepth 100000 in
set_option maxHeartbeats 4000000 in
theorem kc_VO_plainWord (l : Launch) (N : State → Prop) (hN : kv_Mv N) (D : va_G) (cA : ClassId) (h d w r : Nat) (σ : kp_S) (g : Nat → Int32) (dv dk pk : Int32) (k : Nat) (i : Nat) (hk : k < 8) (hi : i < 4) : kv_I N l yX3_plainWord wsX3_plainWord kr_VO_plainWord D [(cA, .int)] [.ref h, .int (nI k), .int (nI i)] (vo_W h d w r cA σ g dv dk pk) (kp_show dk pk (nI k) i (σ.1 (48 + 4 * k + i))) (vo_W h d w r cA σ g dv dk pk) := by
  refine kv_openI (cc := cX3_plainWord) (maxL := 4) (rt := .int) (by decide) rfl (rfl) (Nat.le_of_ble_eq_true rfl) ?_
  intro p e s m args below meth c A H locs ls Q S hl hB K
  have hl : lv_has ls 4 [(0, .ref h), (1, .int (nI k)), (2, .int (nI i))] := hl
  refine lv_aload_n S.1 S.2.1 dX3_plainWord_0 rfl (lv_at hl 0 rfl) ?_
  refine kv_get (C := RX3) (T := TX3) (M := 5) (ci := 1) S hB (kn_c kn_iX3) 0 rfl rfl 0 (by decide) (List.mem_cons_of_mem _ kn_29) rfl rfl dX3_plainWord_1 ?_
  refine lv_iload_n S.1 S.2.1 dX3_plainWord_4 rfl (lv_at hl 1 rfl) ?_
  refine kv_sP (As := [.int (nI k)]) (rest := [.ref d]) S (kc_VO_sectorPlace l D k  ) (kn_cS S kn_86 kn_87 kn_1 kn_88 kd_X3_sectorPlace rfl rfl ⟨Nat.le_of_ble_eq_true rfl, Nat.le_of_ble_eq_true rfl⟩) hB rfl hl.1 rfl (Nat.le_of_ble_eq_true rfl) dX3_plainWord_5 ⟨Nat.zero_le _, Nat.zero_le _⟩ (fun H locs hB => ?_)
  refine lv_iload_n S.1 S.2.1 dX3_plainWord_8 rfl (lv_at hl 2 rfl) ?_
  refine lv_iadd S.1 S.2.1 dX3_plainWord_9 ?_
  refine kv_top (y := nI ((48 + 4 * k) + i)) (nI_add (48 + 4 * k) i) ?_
  refine kv_vI (As := [.int (nI ((48 + 4 * k) + i))]) (rest := []) hN S (kc_DI_wordAtN l N hN D cA h d w r σ g dv dk pk ((48 + 4 * k) + i)  (by omega)) (kn_cV (C := RX1) S kn_114 kn_115 kn_116 kn_2 kn_117 rfl kd_X1_wordAt rfl rfl ⟨Nat.le_of_ble_eq_true rfl, Nat.le_of_ble_eq_true rfl⟩) hB 1 rfl rfl rfl hl.1 rfl (Nat.le_of_ble_eq_true rfl) dX3_plainWord_10 ⟨Nat.zero_le _, Nat.zero_le _⟩ (fun H locs hB => ?_)
  refine lv_topi (fun x_1 ex_1 => ?_)
  refine lv_istore_n S.1 S.2.1 dX3_plainWord_13 rfl hl (by decide) rfl (fun ls hl => ?_)
  have hl : lv_has ls 4 [(3, .int x_1), (0, .ref h), (1, .int (nI k)), (2, .int (nI i))] := hl
  refine lv_aload_n S.1 S.2.1 dX3_plainWord_14 rfl (lv_at hl 1 rfl) ?_
  refine kv_get (C := RX3) (T := TX3) (M := 5) (ci := 1) S hB (kn_c kn_iX3) 0 rfl rfl 3 (by decide) (List.mem_cons_of_mem _ kn_32) rfl rfl dX3_plainWord_15 ?_
  refine lv_aload_n S.1 S.2.1 dX3_plainWord_18 rfl (lv_at hl 1 rfl) ?_
  refine kv_get (C := RX3) (T := TX3) (M := 5) (ci := 1) S hB (kn_c kn_iX3) 0 rfl rfl 4 (by decide) (List.mem_cons_of_mem _ kn_33) rfl rfl dX3_plainWord_19 ?_
  refine lv_iload_n S.1 S.2.1 dX3_plainWord_22 rfl (lv_at hl 2 rfl) ?_
  refine lv_iload_n S.1 S.2.1 dX3_plainWord_23 rfl (lv_at hl 3 rfl) ?_
  refine lv_iload_n S.1 S.2.1 dX3_plainWord_24 rfl (lv_at hl 0 rfl) ?_
  refine kv_sP (As := [.int dk, .int pk, .int (nI k), .int (nI i), .int x_1]) (rest := []) S (kc_CI_decipherSectorWord l D dk pk (nI k) i x_1  (by omega)) (kn_cS S kn_205 kn_206 kn_5 kn_207 kd_X0_decipherSectorWord rfl rfl ⟨Nat.le_of_ble_eq_true rfl, Nat.le_of_ble_eq_true rfl⟩) hB rfl hl.1 rfl (Nat.le_of_ble_eq_true rfl) dX3_plainWord_25 ⟨Nat.zero_le _, Nat.zero_le _⟩ (fun H locs hB => ?_)
  exact K _ _ _ _ _ _ hB (by subst_vars; rfl) (rfl) dX3_plainWord_28

abbrev kr_VO_workOutVolume : Room := { frames := 5, cells := 0, slots := 0, locals := 124 }
set_option maxRecDepth 100000 in
set_option maxHeartbeats 4000000 in
theorem kc_VO_workOutVolume (l : Launch) (N : State → Prop) (hN : kv_Mv N) (D : va_G) (cA : ClassId) (h d w r : Nat) (σ : kp_S) (g : Nat → Int32) (dv dk pk : Int32) (a : Int32) (b : Int32) (pw : Int32) (sd : Int32) : kv_V N l yX3_workOutVolume wsX3_workOutVolume kr_VO_workOutVolume D [(cA, .int)] [.ref h, .int a, .int b, .int pw, .int sd] (vo_W h d w r cA σ g dv dk pk)  (vo_W h d w r cA σ (kp_vol a b pw sd) dv dk pk) := by
  refine kv_openV (cc := cX3_workOutVolume) (maxL := 8) (by decide) rfl (Nat.le_of_ble_eq_true rfl) ?_
  intro p e s m args below meth c A H locs ls Q S hl hB K
  have hl : lv_has ls 8 [(0, .ref h), (1, .int a), (2, .int b), (3, .int pw), (4, .int sd)] := hl
  refine lv_aload_n S.1 S.2.1 dX3_workOutVolume_0 rfl (lv_at hl 0 rfl) ?_
  refine kv_get (C := RX3) (T := TX3) (M := 5) (ci := 1) S hB (kn_c kn_iX3) 0 rfl rfl 1 (by decide) (List.mem_cons_of_mem _ kn_30) rfl rfl dX3_workOutVolume_1 ?_
  refine lv_iconst (v := 0) S.1 S.2.1 dX3_workOutVolume_4 (by decide) ?_
  refine kv_sV (As := [.ref r, .int 0]) (rest := []) hN S (kc_AR_fill l N hN D cA h d w r σ g dv dk pk 0  ) (kn_cS S kn_50 kn_51 kn_4 kn_52 kd_J7_fill rfl rfl ⟨Nat.le_of_ble_eq_true rfl, Nat.le_of_ble_eq_true rfl⟩) hB rfl hl.1 rfl (Nat.le_of_ble_eq_true rfl) dX3_workOutVolume_5 ⟨Nat.zero_le _, Nat.zero_le _⟩ (fun H locs hB => ?_)
  have hB : kv_B N D [(cA, .int)] A s (vo_W h d w r cA σ (fun _ => 0) dv dk pk) H locs := hB
  refine lv_iload S.1 S.2.1 dX3_workOutVolume_8 (lv_at hl 4 rfl) ?_
  refine lv_iconst (v := 5) S.1 S.2.1 dX3_workOutVolume_10 (by decide) ?_
  refine kv_sP (As := [.int sd, .int 5]) (rest := []) S (kc_CI_mix l D sd 5  ) (kn_cS S kn_53 kn_54 kn_5 kn_55 kd_X0_mix rfl rfl ⟨Nat.le_of_ble_eq_true rfl, Nat.le_of_ble_eq_true rfl⟩) hB rfl hl.1 rfl (Nat.le_of_ble_eq_true rfl) dX3_workOutVolume_11 ⟨Nat.zero_le _, Nat.zero_le _⟩ (fun H locs hB => ?_)
  refine lv_topi (fun x_1 ex_1 => ?_)
  refine lv_istore S.1 S.2.1 dX3_workOutVolume_14 hl (by decide) rfl (fun ls hl => ?_)
  have hl : lv_has ls 8 [(5, .int x_1), (0, .ref h), (1, .int a), (2, .int b), (3, .int pw), (4, .int sd)] := hl
  refine lv_aload_n S.1 S.2.1 dX3_workOutVolume_16 rfl (lv_at hl 1 rfl) ?_
  refine kv_get (C := RX3) (T := TX3) (M := 5) (ci := 1) S hB (kn_c kn_iX3) 0 rfl rfl 1 (by decide) (List.mem_cons_of_mem _ kn_30) rfl rfl dX3_workOutVolume_17 ?_
  refine lv_iconst (v := 2) S.1 S.2.1 dX3_workOutVolume_20 (by decide) ?_
  refine lv_iload S.1 S.2.1 dX3_workOutVolume_21 (lv_at hl 0 rfl) ?_
  refine kv_iast S hB 3 0 rfl rfl 2 rfl (by omega) (by decide) dX3_workOutVolume_23 (fun H locs hB => ?_)
  have hB : kv_B N D [(cA, .int)] A s (vo_W h d w r cA σ (upd (fun _ => 0) 2 x_1) dv dk pk) H locs := hB
  refine lv_aload_n S.1 S.2.1 dX3_workOutVolume_24 rfl (lv_at hl 1 rfl) ?_
  refine kv_get (C := RX3) (T := TX3) (M := 5) (ci := 1) S hB (kn_c kn_iX3) 0 rfl rfl 1 (by decide) (List.mem_cons_of_mem _ kn_30) rfl rfl dX3_workOutVolume_25 ?_
  refine lv_iconst (v := 1) S.1 S.2.1 dX3_workOutVolume_28 (by decide) ?_
  refine lv_iload_n S.1 S.2.1 dX3_workOutVolume_29 rfl (lv_at hl 2 rfl) ?_
  refine lv_iload_n S.1 S.2.1 dX3_workOutVolume_30 rfl (lv_at hl 3 rfl) ?_
  refine lv_iload S.1 S.2.1 dX3_workOutVolume_31 (lv_at hl 0 rfl) ?_
  refine kv_sP (As := [.int a, .int b, .int x_1]) (rest := [.int 1, .ref r]) S (kc_CI_digest l D a b x_1  ) (kn_cS S kn_59 kn_60 kn_5 kn_61 kd_X0_digest rfl rfl ⟨Nat.le_of_ble_eq_true rfl, Nat.le_of_ble_eq_true rfl⟩) hB rfl hl.1 rfl (Nat.le_of_ble_eq_true rfl) dX3_workOutVolume_33 ⟨Nat.zero_le _, Nat.zero_le _⟩ (fun H locs hB => ?_)
  refine kv_iast S hB 3 0 rfl rfl 1 rfl (by omega) (by decide) dX3_workOutVolume_36 (fun H locs hB => ?_)
  have hB : kv_B N D [(cA, .int)] A s (vo_W h d w r cA σ (upd (upd (fun _ => 0) 2 x_1) 1 (kp_dg a b x_1)) dv dk pk) H locs := hB
  refine lv_aload_n S.1 S.2.1 dX3_workOutVolume_37 rfl (lv_at hl 1 rfl) ?_
  refine kv_get (C := RX3) (T := TX3) (M := 5) (ci := 1) S hB (kn_c kn_iX3) 0 rfl rfl 1 (by decide) (List.mem_cons_of_mem _ kn_30) rfl rfl dX3_workOutVolume_38 ?_
  refine lv_iconst (v := 0) S.1 S.2.1 dX3_workOutVolume_41 (by decide) ?_
  refine kv_sP (As := [.int 0]) (rest := [.ref r]) S (kc_VO_slotPlace l D 0  ) (kn_cS S kn_63 kn_64 kn_1 kn_65 kd_X3_slotPlace rfl rfl ⟨Nat.le_of_ble_eq_true rfl, Nat.le_of_ble_eq_true rfl⟩) hB rfl hl.1 rfl (Nat.le_of_ble_eq_true rfl) dX3_workOutVolume_42 ⟨Nat.zero_le _, Nat.zero_le _⟩ (fun H locs hB => ?_)
  refine lv_iload_n S.1 S.2.1 dX3_workOutVolume_45 rfl (lv_at hl 2 rfl) ?_
  refine lv_iload_n S.1 S.2.1 dX3_workOutVolume_46 rfl (lv_at hl 3 rfl) ?_
  refine lv_iload_n S.1 S.2.1 dX3_workOutVolume_47 rfl (lv_at hl 4 rfl) ?_
  refine lv_iload S.1 S.2.1 dX3_workOutVolume_48 (lv_at hl 5 rfl) ?_
  refine kv_sV (As := [.ref r, .int (nI (4 + 8 * 0)), .int a, .int b, .int pw, .int sd]) (rest := []) hN S (kc_SL_workOut l N hN D cA h d w r σ (upd (upd (fun _ => 0) 2 x_1) 1 (kp_dg a b x_1)) dv dk pk (4 + 8 * 0) a b pw sd  (by omega)) (kn_cS S kn_66 kn_67 kn_6 kn_68 kd_X2_workOut rfl rfl ⟨Nat.le_of_ble_eq_true rfl, Nat.le_of_ble_eq_true rfl⟩) hB rfl hl.1 rfl (Nat.le_of_ble_eq_true rfl) dX3_workOutVolume_50 ⟨Nat.zero_le _, Nat.zero_le _⟩ (fun H locs hB => ?_)
  have hB : kv_B N D [(cA, .int)] A s (vo_W h d w r cA σ (kp_wo (upd (upd (fun _ => 0) 2 x_1) 1 (kp_dg a b x_1)) (4 + 8 * 0) a b pw sd) dv dk pk) H locs := hB
  refine lv_iconst (v := 0) S.1 S.2.1 dX3_workOutVolume_53 (by decide) ?_
  refine lv_istore S.1 S.2.1 dX3_workOutVolume_54 hl (by decide) rfl (fun ls hl => ?_)
  have hl : lv_has ls 8 [(6, .int 0), (5, .int x_1), (0, .ref h), (1, .int a), (2, .int b), (3, .int pw), (4, .int sd)] := hl
  have loop56 : ∀ (n : Nat) (k : Nat) (gg : Nat → Int32) (H : Heap) (locs : List Loc) (ls : Array Slot), (k + n = 8) → (∀ j, j < 48 + 4 * k → gg j = kp_vol a b pw sd j) → lv_has ls 8 [(6, .int (nI k)), (0, .ref h), (1, .int a), (2, .int b)] → kv_B N D [(cA, .int)] A s (vo_W h d w r cA σ gg dv dk pk) H locs → W p l e kr_VO_workOutVolume s m args below meth c H locs 0 0 Q (F0 m 56 ls []) := by
    intro n
    induction n with
    | zero =>
      intro k gg H locs ls hk hG hl hB
      refine lv_iload S.1 S.2.1 dX3_workOutVolume_56 (lv_at hl 0 rfl) ?_
      refine lv_bipush (v := 8) S.1 S.2.1 dX3_workOutVolume_58 (by decide) ?_
      refine kv_bge (x := k) (y := 8) (tgt := 107) S (by omega) (by omega) dX3_workOutVolume_60 (by decide) (fun h_60 => ?_) (fun h => absurd h (by omega))
      have hB := kv_arr 3 rfl (kp_vol a b pw sd) (fun i hi => hG i (by omega)) hB
      exact K _ _ _ _ _ hB (rfl) dX3_workOutVolume_107
    | succ n ih56 =>
      intro k gg H locs ls hk hG hl hB
      refine lv_iload S.1 S.2.1 dX3_workOutVolume_56 (lv_at hl 0 rfl) ?_
      refine lv_bipush (v := 8) S.1 S.2.1 dX3_workOutVolume_58 (by decide) ?_
      refine kv_bge (x := k) (y := 8) (tgt := 107) S (by omega) (by omega) dX3_workOutVolume_60 (by decide) (fun h => absurd h (by omega)) (fun h_60 => ?_)
      refine lv_iconst (v := 0) S.1 S.2.1 dX3_workOutVolume_63 (by decide) ?_
      refine lv_istore S.1 S.2.1 dX3_workOutVolume_64 hl (by decide) rfl (fun ls hl => ?_)
      have hl : lv_has ls 8 [(7, .int 0), (6, .int (nI k)), (0, .ref h), (1, .int a), (2, .int b)] := hl
      have loop66 : ∀ (n : Nat) (i : Nat) (g2 : Nat → Int32) (H : Heap) (locs : List Loc) (ls : Array Slot), (i + n = 4) → (∀ j, j < 48 + 4 * k + i → g2 j = kp_vol a b pw sd j) → lv_has ls 8 [(7, .int (nI i)), (6, .int (nI k)), (0, .ref h), (1, .int a), (2, .int b)] → kv_B N D [(cA, .int)] A s (vo_W h d w r cA σ g2 dv dk pk) H locs → W p l e kr_VO_workOutVolume s m args below meth c H locs 0 0 Q (F0 m 66 ls []) := by
        intro n
        induction n with
        | zero =>
          intro i g2 H locs ls hi hG2 hl hB
          refine lv_iload S.1 S.2.1 dX3_workOutVolume_66 (lv_at hl 0 rfl) ?_
          refine lv_iconst (v := 4) S.1 S.2.1 dX3_workOutVolume_68 (by decide) ?_
          refine kv_bge (x := i) (y := 4) (tgt := 101) S (by omega) (by omega) dX3_workOutVolume_69 (by decide) (fun h_69 => ?_) (fun h => absurd h (by omega))
          refine lv_iinc (k := 1) (v := nI (k + 1)) S.1 S.2.1 dX3_workOutVolume_101 hl rfl (nI_1 k) (by decide) rfl (fun ls hl => ?_)
          have hl : lv_has ls 8 [(6, .int (nI (k + 1))), (7, .int (nI i)), (0, .ref h), (1, .int a), (2, .int b)] := hl
          refine lv_goto (tgt := 56) S.1 S.2.1 dX3_workOutVolume_104 (by decide) ?_
          exact ih56 (k + 1) g2 _ _ _ (by omega) (fun j hj => hG2 j (by omega)) (lv_sub hl [0, 2, 3, 4] rfl) hB
        | succ n ih66 =>
          intro i g2 H locs ls hi hG2 hl hB
          refine lv_iload S.1 S.2.1 dX3_workOutVolume_66 (lv_at hl 0 rfl) ?_
          refine lv_iconst (v := 4) S.1 S.2.1 dX3_workOutVolume_68 (by decide) ?_
          refine kv_bge (x := i) (y := 4) (tgt := 101) S (by omega) (by omega) dX3_workOutVolume_69 (by decide) (fun h => absurd h (by omega)) (fun h_69 => ?_)
          refine lv_aload_n S.1 S.2.1 dX3_workOutVolume_72 rfl (lv_at hl 2 rfl) ?_
          refine kv_get (C := RX3) (T := TX3) (M := 5) (ci := 1) S hB (kn_c kn_iX3) 0 rfl rfl 1 (by decide) (List.mem_cons_of_mem _ kn_30) rfl rfl dX3_workOutVolume_73 ?_
          refine lv_iload S.1 S.2.1 dX3_workOutVolume_76 (lv_at hl 1 rfl) ?_
          refine kv_sP (As := [.int (nI k)]) (rest := [.ref r]) S (kc_VO_sectorPlace l D k  ) (kn_cS S kn_86 kn_87 kn_1 kn_88 kd_X3_sectorPlace rfl rfl ⟨Nat.le_of_ble_eq_true rfl, Nat.le_of_ble_eq_true rfl⟩) hB rfl hl.1 rfl (Nat.le_of_ble_eq_true rfl) dX3_workOutVolume_78 ⟨Nat.zero_le _, Nat.zero_le _⟩ (fun H locs hB => ?_)
          refine lv_iload S.1 S.2.1 dX3_workOutVolume_81 (lv_at hl 0 rfl) ?_
          refine lv_iadd S.1 S.2.1 dX3_workOutVolume_83 ?_
          refine kv_top (y := nI ((48 + 4 * k) + i)) (nI_add (48 + 4 * k) i) ?_
          refine lv_iload_n S.1 S.2.1 dX3_workOutVolume_84 rfl (lv_at hl 3 rfl) ?_
          refine lv_iload_n S.1 S.2.1 dX3_workOutVolume_85 rfl (lv_at hl 4 rfl) ?_
          refine lv_iload S.1 S.2.1 dX3_workOutVolume_86 (lv_at hl 1 rfl) ?_
          refine lv_iload S.1 S.2.1 dX3_workOutVolume_88 (lv_at hl 0 rfl) ?_
          refine lv_iconst (v := 0) S.1 S.2.1 dX3_workOutVolume_90 (by decide) ?_
          refine kv_sP (As := [.int a, .int b, .int (nI k), .int (nI i), .int 0]) (rest := [.int (nI ((48 + 4 * k) + i)), .ref r]) S (kc_CI_encipherSectorWord l D a b (nI k) i 0  (by omega)) (kn_cS S kn_89 kn_90 kn_5 kn_91 kd_X0_encipherSectorWord rfl rfl ⟨Nat.le_of_ble_eq_true rfl, Nat.le_of_ble_eq_true rfl⟩) hB rfl hl.1 rfl (Nat.le_of_ble_eq_true rfl) dX3_workOutVolume_91 ⟨Nat.zero_le _, Nat.zero_le _⟩ (fun H locs hB => ?_)
          refine kv_iast S hB 3 0 rfl rfl ((48 + 4 * k) + i) rfl (by omega) (by decide) dX3_workOutVolume_94 (fun H locs hB => ?_)
          have hB : kv_B N D [(cA, .int)] A s (vo_W h d w r cA σ (upd g2 ((48 + 4 * k) + i) (kp_hide a b (nI k) i 0)) dv dk pk) H locs := hB
          refine lv_iinc (k := 0) (v := nI (i + 1)) S.1 S.2.1 dX3_workOutVolume_95 hl rfl (nI_1 i) (by decide) rfl (fun ls hl => ?_)
          have hl : lv_has ls 8 [(7, .int (nI (i + 1))), (6, .int (nI k)), (0, .ref h), (1, .int a), (2, .int b)] := hl
          refine lv_goto (tgt := 66) S.1 S.2.1 dX3_workOutVolume_98 (by decide) ?_
          exact ih66 (i + 1) (upd g2 ((48 + 4 * k) + i) (kp_hide a b (nI k) i 0)) _ _ _ (by omega) (fun j hj => by by_cases q : j = 48 + 4 * k + i <;> first | (subst q; rw [pk_us, kp_vol_sec a b pw sd (by omega) (by omega)]) | (rw [pk_un q]; exact hG2 j (by omega))) (lv_sub hl [0, 1, 2, 3, 4] rfl) hB
      exact loop66 4 0 gg _ _ _ (rfl) (fun j hj => hG j (by omega)) (lv_sub hl [0, 1, 2, 3, 4] rfl) hB
  exact loop56 8 0 (kp_wo (upd (upd (fun _ => 0) 2 x_1) 1 (kp_dg a b x_1)) (4 + 8 * 0) a b pw sd) _ _ _ (rfl) (by rw [ex_1]; exact fun j hj => kp_vol0 a b pw sd hj) (lv_sub hl [0, 2, 3, 4] rfl) hB

abbrev kr_VO_putVolume : Room := { frames := 1, cells := 0, slots := 0, locals := 22 }
set_option maxRecDepth 100000 in
set_option maxHeartbeats 4000000 in
theorem kc_VO_putVolume (l : Launch) (N : State → Prop) (hN : kv_Mv N) (D : va_G) (cA : ClassId) (h d w r : Nat) (σ : kp_S) (g : Nat → Int32) (dv dk pk : Int32) : kv_I N l yX3_putVolume wsX3_putVolume kr_VO_putVolume D [(cA, .int)] [.ref h] (vo_W h d w r cA σ g dv dk pk) ((kp_run ((0, 0) :: kp_fm 79 1 g) σ).1) (vo_W h d w r cA ((kp_run ((0, 0) :: kp_fm 79 1 g) σ).2) g dv dk pk) := by
  refine kv_openI (cc := cX3_putVolume) (maxL := 2) (rt := .boolean) (by decide) rfl (kp_run_z _ _) (Nat.le_of_ble_eq_true rfl) ?_
  intro p e s m args below meth c A H locs ls Q S hl hB K
  have hl : lv_has ls 2 [(0, .ref h)] := hl
  refine lv_aload_n S.1 S.2.1 dX3_putVolume_0 rfl (lv_at hl 0 rfl) ?_
  refine kv_get (C := RX3) (T := TX3) (M := 5) (ci := 1) S hB (kn_c kn_iX3) 0 rfl rfl 0 (by decide) (List.mem_cons_of_mem _ kn_29) rfl rfl dX3_putVolume_1 ?_
  refine lv_iconst (v := 0) S.1 S.2.1 dX3_putVolume_4 (by decide) ?_
  refine lv_iconst (v := 0) S.1 S.2.1 dX3_putVolume_5 (by decide) ?_
  refine kv_vI (As := [.int 0, .int 0]) (rest := []) hN S (kc_DI_put l N hN D cA h d w r σ g dv dk pk 0 0  (by omega)) (kn_cV (C := RX1) S kn_99 kn_100 kn_101 kn_2 kn_102 rfl kd_X1_put rfl rfl ⟨Nat.le_of_ble_eq_true rfl, Nat.le_of_ble_eq_true rfl⟩) hB 1 rfl rfl rfl hl.1 rfl (Nat.le_of_ble_eq_true rfl) dX3_putVolume_6 ⟨Nat.zero_le _, Nat.zero_le _⟩ (fun H locs hB => ?_)
  have hB : kv_B N D [(cA, .int)] A s (vo_W h d w r cA ((kp_run [(0, 0)] σ).2) g dv dk pk) H locs := hB
  refine lv_if_ne (tgt := 14) S.1 S.2.1 dX3_putVolume_9 (by decide) (fun h_9 => ?_) (fun h_9 => ?_)
  · skip
    refine lv_iconst (v := 1) S.1 S.2.1 dX3_putVolume_14 (by decide) ?_
    refine lv_istore_n S.1 S.2.1 dX3_putVolume_15 rfl hl (by decide) rfl (fun ls hl => ?_)
    have hl : lv_has ls 2 [(1, .int 1), (0, .ref h)] := hl
    have loop16 : ∀ (n : Nat) (j : Nat) (τ : kp_S) (H : Heap) (locs : List Loc) (ls : Array Slot), (j + n = 80) → (kp_run (kp_fm n j g) τ = kp_run ((0, 0) :: kp_fm 79 1 g) σ) → lv_has ls 2 [(1, .int (nI j)), (0, .ref h)] → kv_B N D [(cA, .int)] A s (vo_W h d w r cA τ g dv dk pk) H locs → W p l e kr_VO_putVolume s m args below meth c H locs 0 0 Q (F0 m 16 ls []) := by
      intro n
      induction n with
      | zero =>
        intro j τ H locs ls hj hT hl hB
        have hT0 : kp_run [(0, 1396855379)] τ = kp_run ((0, 0) :: kp_fm 79 1 g) σ := hT
        refine lv_iload_n S.1 S.2.1 dX3_putVolume_16 rfl (lv_at hl 0 rfl) ?_
        refine lv_bipush (v := 80) S.1 S.2.1 dX3_putVolume_17 (by decide) ?_
        refine kv_bge (x := j) (y := 80) (tgt := 47) S (by omega) (by omega) dX3_putVolume_19 (by decide) (fun h_19 => ?_) (fun h => absurd h (by omega))
        refine lv_aload_n S.1 S.2.1 dX3_putVolume_47 rfl (lv_at hl 1 rfl) ?_
        refine kv_get (C := RX3) (T := TX3) (M := 5) (ci := 1) S hB (kn_c kn_iX3) 0 rfl rfl 0 (by decide) (List.mem_cons_of_mem _ kn_29) rfl rfl dX3_putVolume_48 ?_
        refine lv_iconst (v := 0) S.1 S.2.1 dX3_putVolume_51 (by decide) ?_
        refine lv_ldc (v := 1396855379) S.1 S.2.1 S.2.2.2.1 (S.2.2.2.2 _ (List.mem_cons_of_mem _ kn_103)) dX3_putVolume_52 ?_
        refine kv_vI (As := [.int 0, .int 1396855379]) (rest := []) hN S (kc_DI_put l N hN D cA h d w r τ g dv dk pk 0 1396855379  (by omega)) (kn_cV (C := RX1) S kn_99 kn_100 kn_101 kn_2 kn_102 rfl kd_X1_put rfl rfl ⟨Nat.le_of_ble_eq_true rfl, Nat.le_of_ble_eq_true rfl⟩) hB 1 rfl rfl rfl hl.1 rfl (Nat.le_of_ble_eq_true rfl) dX3_putVolume_54 ⟨Nat.zero_le _, Nat.zero_le _⟩ (fun H locs hB => ?_)
        have hB : kv_B N D [(cA, .int)] A s (vo_W h d w r cA ((kp_run [(0, 1396855379)] τ).2) g dv dk pk) H locs := hB
        exact K _ _ _ _ _ _ hB (by rw [hT0]) (by rw [hT0]) dX3_putVolume_57
      | succ n ih16 =>
        intro j τ H locs ls hj hT hl hB
        have hT0 : kp_run ((j, g j) :: kp_fm n (j + 1) g) τ = kp_run ((0, 0) :: kp_fm 79 1 g) σ := hT
        refine lv_iload_n S.1 S.2.1 dX3_putVolume_16 rfl (lv_at hl 0 rfl) ?_
        refine lv_bipush (v := 80) S.1 S.2.1 dX3_putVolume_17 (by decide) ?_
        refine kv_bge (x := j) (y := 80) (tgt := 47) S (by omega) (by omega) dX3_putVolume_19 (by decide) (fun h => absurd h (by omega)) (fun h_19 => ?_)
        refine lv_aload_n S.1 S.2.1 dX3_putVolume_22 rfl (lv_at hl 1 rfl) ?_
        refine kv_get (C := RX3) (T := TX3) (M := 5) (ci := 1) S hB (kn_c kn_iX3) 0 rfl rfl 0 (by decide) (List.mem_cons_of_mem _ kn_29) rfl rfl dX3_putVolume_23 ?_
        refine lv_iload_n S.1 S.2.1 dX3_putVolume_26 rfl (lv_at hl 0 rfl) ?_
        refine lv_aload_n S.1 S.2.1 dX3_putVolume_27 rfl (lv_at hl 1 rfl) ?_
        refine kv_get (C := RX3) (T := TX3) (M := 5) (ci := 1) S hB (kn_c kn_iX3) 0 rfl rfl 1 (by decide) (List.mem_cons_of_mem _ kn_30) rfl rfl dX3_putVolume_28 ?_
        refine lv_iload_n S.1 S.2.1 dX3_putVolume_31 rfl (lv_at hl 0 rfl) ?_
        refine kv_iald S hB 3 0 rfl rfl j rfl (by omega) (by decide) dX3_putVolume_32 ?_
        refine kv_vI (As := [.int (nI j), .int (g j)]) (rest := []) hN S (kc_DI_put l N hN D cA h d w r τ g dv dk pk j (g j)  (by omega)) (kn_cV (C := RX1) S kn_99 kn_100 kn_101 kn_2 kn_102 rfl kd_X1_put rfl rfl ⟨Nat.le_of_ble_eq_true rfl, Nat.le_of_ble_eq_true rfl⟩) hB 1 rfl rfl rfl hl.1 rfl (Nat.le_of_ble_eq_true rfl) dX3_putVolume_33 ⟨Nat.zero_le _, Nat.zero_le _⟩ (fun H locs hB => ?_)
        have hB : kv_B N D [(cA, .int)] A s (vo_W h d w r cA ((kp_run [(j, g j)] τ).2) g dv dk pk) H locs := hB
        refine lv_if_ne (tgt := 41) S.1 S.2.1 dX3_putVolume_36 (by decide) (fun h_36 => ?_) (fun h_36 => ?_)
        · skip
          refine lv_iinc (k := 0) (v := nI (j + 1)) S.1 S.2.1 dX3_putVolume_41 hl rfl (nI_1 j) (by decide) rfl (fun ls hl => ?_)
          have hl : lv_has ls 2 [(1, .int (nI (j + 1))), (0, .ref h)] := hl
          refine lv_goto (tgt := 16) S.1 S.2.1 dX3_putVolume_44 (by decide) ?_
          exact ih16 (j + 1) ((kp_run [(j, g j)] τ).2) _ _ _ (by omega) (kp_stepf (F := fun _ => kp_fm n (j + 1) g) h_36 hT0) (lv_sub hl [0, 1] rfl) hB
        · skip
          refine lv_iconst (v := 0) S.1 S.2.1 dX3_putVolume_39 (by decide) ?_
          exact K _ _ _ _ _ _ hB (by rw [← kp_stop h_36 hT0]; exact h_36.symm) (by rw [kp_stop h_36 hT0]) dX3_putVolume_40
    exact loop16 79 1 ((kp_run [(0, 0)] σ).2) _ _ _ (rfl) (kp_stepf (F := fun _ => kp_fm 79 1 g) h_9 rfl) (lv_sub hl [0, 1] rfl) hB
  · skip
    refine lv_iconst (v := 0) S.1 S.2.1 dX3_putVolume_12 (by decide) ?_
    exact K _ _ _ _ _ _ hB (by rw [← kp_stop (T := kp_run ((0, 0) :: kp_fm 79 1 g) σ) h_9 rfl]; exact h_9.symm) (by rw [kp_stop (T := kp_run ((0, 0) :: kp_fm 79 1 g) σ) h_9 rfl]) dX3_putVolume_13

abbrev kr_VO_fillSlot : Room := { frames := 5, cells := 0, slots := 0, locals := 124 }
set_option maxRecDepth 100000 in
set_option maxHeartbeats 4000000 in
theorem kc_VO_fillSlot (l : Launch) (N : State → Prop) (hN : kv_Mv N) (D : va_G) (cA : ClassId) (h d w r : Nat) (σ : kp_S) (g : Nat → Int32) (dv dk pk : Int32) (k : Nat) (pw : Int32) (sd : Int32) (hk : k < 4) : kv_I N l yX3_fillSlot wsX3_fillSlot kr_VO_fillSlot D [(cA, .int)] [.ref h, .int (nI k), .int pw, .int sd] (vo_W h d w r cA σ g dv dk pk) ((kp_run (kp_ch 8 0 8 (4 + 8 * k) (kp_wo g 0 dk pk pw sd) σ.1) σ).1) (vo_W h d w r cA ((kp_run (kp_ch 8 0 8 (4 + 8 * k) (kp_wo g 0 dk pk pw sd) σ.1) σ).2) (kp_wo g 0 dk pk pw sd) dv dk pk) := by
  refine kv_openI (cc := cX3_fillSlot) (maxL := 4) (rt := .boolean) (by decide) rfl (kp_run_z _ _) (Nat.le_of_ble_eq_true rfl) ?_
  intro p e s m args below meth c A H locs ls Q S hl hB K
  have hl : lv_has ls 4 [(0, .ref h), (1, .int (nI k)), (2, .int pw), (3, .int sd)] := hl
  refine lv_aload_n S.1 S.2.1 dX3_fillSlot_0 rfl (lv_at hl 0 rfl) ?_
  refine kv_get (C := RX3) (T := TX3) (M := 5) (ci := 1) S hB (kn_c kn_iX3) 0 rfl rfl 1 (by decide) (List.mem_cons_of_mem _ kn_30) rfl rfl dX3_fillSlot_1 ?_
  refine lv_iconst (v := 0) S.1 S.2.1 dX3_fillSlot_4 (by decide) ?_
  refine lv_aload_n S.1 S.2.1 dX3_fillSlot_5 rfl (lv_at hl 0 rfl) ?_
  refine kv_get (C := RX3) (T := TX3) (M := 5) (ci := 1) S hB (kn_c kn_iX3) 0 rfl rfl 3 (by decide) (List.mem_cons_of_mem _ kn_32) rfl rfl dX3_fillSlot_6 ?_
  refine lv_aload_n S.1 S.2.1 dX3_fillSlot_9 rfl (lv_at hl 0 rfl) ?_
  refine kv_get (C := RX3) (T := TX3) (M := 5) (ci := 1) S hB (kn_c kn_iX3) 0 rfl rfl 4 (by decide) (List.mem_cons_of_mem _ kn_33) rfl rfl dX3_fillSlot_10 ?_
  refine lv_iload_n S.1 S.2.1 dX3_fillSlot_13 rfl (lv_at hl 2 rfl) ?_
  refine lv_iload_n S.1 S.2.1 dX3_fillSlot_14 rfl (lv_at hl 3 rfl) ?_
  refine kv_sV (As := [.ref r, .int 0, .int dk, .int pk, .int pw, .int sd]) (rest := []) hN S (kc_SL_workOut l N hN D cA h d w r σ g dv dk pk 0 dk pk pw sd  (by omega)) (kn_cS S kn_66 kn_67 kn_6 kn_68 kd_X2_workOut rfl rfl ⟨Nat.le_of_ble_eq_true rfl, Nat.le_of_ble_eq_true rfl⟩) hB rfl hl.1 rfl (Nat.le_of_ble_eq_true rfl) dX3_fillSlot_15 ⟨Nat.zero_le _, Nat.zero_le _⟩ (fun H locs hB => ?_)
  have hB : kv_B N D [(cA, .int)] A s (vo_W h d w r cA σ (kp_wo g 0 dk pk pw sd) dv dk pk) H locs := hB
  refine lv_aload_n S.1 S.2.1 dX3_fillSlot_18 rfl (lv_at hl 0 rfl) ?_
  refine kv_get (C := RX3) (T := TX3) (M := 5) (ci := 1) S hB (kn_c kn_iX3) 0 rfl rfl 0 (by decide) (List.mem_cons_of_mem _ kn_29) rfl rfl dX3_fillSlot_19 ?_
  refine lv_iload_n S.1 S.2.1 dX3_fillSlot_22 rfl (lv_at hl 1 rfl) ?_
  refine kv_sP (As := [.int (nI k)]) (rest := [.ref d]) S (kc_VO_slotPlace l D k  ) (kn_cS S kn_63 kn_64 kn_1 kn_65 kd_X3_slotPlace rfl rfl ⟨Nat.le_of_ble_eq_true rfl, Nat.le_of_ble_eq_true rfl⟩) hB rfl hl.1 rfl (Nat.le_of_ble_eq_true rfl) dX3_fillSlot_23 ⟨Nat.zero_le _, Nat.zero_le _⟩ (fun H locs hB => ?_)
  refine lv_bipush (v := 8) S.1 S.2.1 dX3_fillSlot_26 (by decide) ?_
  refine lv_aload_n S.1 S.2.1 dX3_fillSlot_28 rfl (lv_at hl 0 rfl) ?_
  refine kv_get (C := RX3) (T := TX3) (M := 5) (ci := 1) S hB (kn_c kn_iX3) 0 rfl rfl 1 (by decide) (List.mem_cons_of_mem _ kn_30) rfl rfl dX3_fillSlot_29 ?_
  refine kv_vI (As := [.int (nI (4 + 8 * k)), .int 8, .ref r]) (rest := []) hN S (kc_DI_replaceByJournal l N hN D cA h d w r σ (kp_wo g 0 dk pk pw sd) dv dk pk (4 + 8 * k) 8  (by omega) (by omega)) (kn_cV (C := RX1) S kn_177 kn_178 kn_179 kn_2 kn_180 rfl kd_X1_replaceByJournal rfl rfl ⟨Nat.le_of_ble_eq_true rfl, Nat.le_of_ble_eq_true rfl⟩) hB 1 rfl rfl rfl hl.1 rfl (Nat.le_of_ble_eq_true rfl) dX3_fillSlot_32 ⟨Nat.zero_le _, Nat.zero_le _⟩ (fun H locs hB => ?_)
  have hB : kv_B N D [(cA, .int)] A s (vo_W h d w r cA ((kp_run (kp_ch 8 0 8 (4 + 8 * k) (kp_wo g 0 dk pk pw sd) σ.1) σ).2) (kp_wo g 0 dk pk pw sd) dv dk pk) H locs := hB
  exact K _ _ _ _ _ _ hB (rfl) (rfl) dX3_fillSlot_35

abbrev kr_VO_clearSlot : Room := { frames := 4, cells := 0, slots := 0, locals := 90 }
set_option maxRecDepth 100000 in
set_option maxHeartbeats 4000000 in
theorem kc_VO_clearSlot (l : Launch) (N : State → Prop) (hN : kv_Mv N) (D : va_G) (cA : ClassId) (h d w r : Nat) (σ : kp_S) (g : Nat → Int32) (dv dk pk : Int32) (k : Nat) (hk : k < 4) : kv_I N l yX3_clearSlot wsX3_clearSlot kr_VO_clearSlot D [(cA, .int)] [.ref h, .int (nI k)] (vo_W h d w r cA σ g dv dk pk) ((kp_run (kp_ch 8 0 8 (4 + 8 * k) (fun _ => 0) σ.1) σ).1) (vo_W h d w r cA ((kp_run (kp_ch 8 0 8 (4 + 8 * k) (fun _ => 0) σ.1) σ).2) (fun _ => 0) dv dk pk) := by
  refine kv_openI (cc := cX3_clearSlot) (maxL := 2) (rt := .boolean) (by decide) rfl (kp_run_z _ _) (Nat.le_of_ble_eq_true rfl) ?_
  intro p e s m args below meth c A H locs ls Q S hl hB K
  have hl : lv_has ls 2 [(0, .ref h), (1, .int (nI k))] := hl
  refine lv_aload_n S.1 S.2.1 dX3_clearSlot_0 rfl (lv_at hl 0 rfl) ?_
  refine kv_get (C := RX3) (T := TX3) (M := 5) (ci := 1) S hB (kn_c kn_iX3) 0 rfl rfl 1 (by decide) (List.mem_cons_of_mem _ kn_30) rfl rfl dX3_clearSlot_1 ?_
  refine lv_iconst (v := 0) S.1 S.2.1 dX3_clearSlot_4 (by decide) ?_
  refine kv_sV (As := [.ref r, .int 0]) (rest := []) hN S (kc_AR_fill l N hN D cA h d w r σ g dv dk pk 0  ) (kn_cS S kn_50 kn_51 kn_4 kn_52 kd_J7_fill rfl rfl ⟨Nat.le_of_ble_eq_true rfl, Nat.le_of_ble_eq_true rfl⟩) hB rfl hl.1 rfl (Nat.le_of_ble_eq_true rfl) dX3_clearSlot_5 ⟨Nat.zero_le _, Nat.zero_le _⟩ (fun H locs hB => ?_)
  have hB : kv_B N D [(cA, .int)] A s (vo_W h d w r cA σ (fun _ => 0) dv dk pk) H locs := hB
  refine lv_aload_n S.1 S.2.1 dX3_clearSlot_8 rfl (lv_at hl 0 rfl) ?_
  refine kv_get (C := RX3) (T := TX3) (M := 5) (ci := 1) S hB (kn_c kn_iX3) 0 rfl rfl 0 (by decide) (List.mem_cons_of_mem _ kn_29) rfl rfl dX3_clearSlot_9 ?_
  refine lv_iload_n S.1 S.2.1 dX3_clearSlot_12 rfl (lv_at hl 1 rfl) ?_
  refine kv_sP (As := [.int (nI k)]) (rest := [.ref d]) S (kc_VO_slotPlace l D k  ) (kn_cS S kn_63 kn_64 kn_1 kn_65 kd_X3_slotPlace rfl rfl ⟨Nat.le_of_ble_eq_true rfl, Nat.le_of_ble_eq_true rfl⟩) hB rfl hl.1 rfl (Nat.le_of_ble_eq_true rfl) dX3_clearSlot_13 ⟨Nat.zero_le _, Nat.zero_le _⟩ (fun H locs hB => ?_)
  refine lv_bipush (v := 8) S.1 S.2.1 dX3_clearSlot_16 (by decide) ?_
  refine lv_aload_n S.1 S.2.1 dX3_clearSlot_18 rfl (lv_at hl 0 rfl) ?_
  refine kv_get (C := RX3) (T := TX3) (M := 5) (ci := 1) S hB (kn_c kn_iX3) 0 rfl rfl 1 (by decide) (List.mem_cons_of_mem _ kn_30) rfl rfl dX3_clearSlot_19 ?_
  refine kv_vI (As := [.int (nI (4 + 8 * k)), .int 8, .ref r]) (rest := []) hN S (kc_DI_replaceByJournal l N hN D cA h d w r σ (fun _ => 0) dv dk pk (4 + 8 * k) 8  (by omega) (by omega)) (kn_cV (C := RX1) S kn_177 kn_178 kn_179 kn_2 kn_180 rfl kd_X1_replaceByJournal rfl rfl ⟨Nat.le_of_ble_eq_true rfl, Nat.le_of_ble_eq_true rfl⟩) hB 1 rfl rfl rfl hl.1 rfl (Nat.le_of_ble_eq_true rfl) dX3_clearSlot_22 ⟨Nat.zero_le _, Nat.zero_le _⟩ (fun H locs hB => ?_)
  have hB : kv_B N D [(cA, .int)] A s (vo_W h d w r cA ((kp_run (kp_ch 8 0 8 (4 + 8 * k) (fun _ => 0) σ.1) σ).2) (fun _ => 0) dv dk pk) H locs := hB
  exact K _ _ _ _ _ _ hB (rfl) (rfl) dX3_clearSlot_25

abbrev kr_VO_opensWith : Room := { frames := 4, cells := 0, slots := 0, locals := 97 }
set_option maxRecDepth 100000 in
set_option maxHeartbeats 4000000 in
theorem kc_VO_opensWith (l : Launch) (N : State → Prop) (hN : kv_Mv N) (D : va_G) (cA : ClassId) (h d w r : Nat) (σ : kp_S) (g : Nat → Int32) (dv dk pk : Int32) (k : Nat) (pw : Int32) (hk : k < 4) : kv_I N l yX3_opensWith wsX3_opensWith kr_VO_opensWith D [(cA, .int)] [.ref h, .int (nI k), .int pw] (vo_W h d w r cA σ g dv dk pk) (kp_om σ.1 k pw) (vo_W h d w r cA σ g (if kp_om σ.1 k pw = 0 then dv else 2) (if kp_om σ.1 k pw = 0 then dk else kp_oh σ.1 (4 + 8 * k) pw 0) (if kp_om σ.1 k pw = 0 then pk else kp_oh σ.1 (4 + 8 * k) pw 1)) := by
  refine kv_openI (cc := cX3_opensWith) (maxL := 6) (rt := .boolean) (by decide) rfl (kp_om_z _ _ _) (Nat.le_of_ble_eq_true rfl) ?_
  intro p e s m args below meth c A H locs ls Q S hl hB K
  have hl : lv_has ls 6 [(0, .ref h), (1, .int (nI k)), (2, .int pw)] := hl
  refine lv_aload_n S.1 S.2.1 dX3_opensWith_0 rfl (lv_at hl 0 rfl) ?_
  refine kv_get (C := RX3) (T := TX3) (M := 5) (ci := 1) S hB (kn_c kn_iX3) 0 rfl rfl 0 (by decide) (List.mem_cons_of_mem _ kn_29) rfl rfl dX3_opensWith_1 ?_
  refine lv_iload_n S.1 S.2.1 dX3_opensWith_4 rfl (lv_at hl 1 rfl) ?_
  refine kv_sP (As := [.int (nI k)]) (rest := [.ref d]) S (kc_VO_slotPlace l D k  ) (kn_cS S kn_63 kn_64 kn_1 kn_65 kd_X3_slotPlace rfl rfl ⟨Nat.le_of_ble_eq_true rfl, Nat.le_of_ble_eq_true rfl⟩) hB rfl hl.1 rfl (Nat.le_of_ble_eq_true rfl) dX3_opensWith_5 ⟨Nat.zero_le _, Nat.zero_le _⟩ (fun H locs hB => ?_)
  refine lv_iconst (v := 0) S.1 S.2.1 dX3_opensWith_8 (by decide) ?_
  refine lv_iload_n S.1 S.2.1 dX3_opensWith_9 rfl (lv_at hl 2 rfl) ?_
  refine kv_sI (As := [.ref d, .int (nI (4 + 8 * k)), .int 0, .int pw]) (rest := []) hN S (kc_SL_openHalf l N hN D cA h d w r σ g dv dk pk (4 + 8 * k) 0 pw  (by omega) (by omega)) (kn_cS S kn_153 kn_154 kn_6 kn_155 kd_X2_openHalf rfl rfl ⟨Nat.le_of_ble_eq_true rfl, Nat.le_of_ble_eq_true rfl⟩) hB rfl hl.1 rfl (Nat.le_of_ble_eq_true rfl) dX3_opensWith_10 ⟨Nat.zero_le _, Nat.zero_le _⟩ (fun H locs hB => ?_)
  refine lv_topi (fun x_1 ex_1 => ?_)
  refine lv_istore_n S.1 S.2.1 dX3_opensWith_13 rfl hl (by decide) rfl (fun ls hl => ?_)
  have hl : lv_has ls 6 [(3, .int x_1), (0, .ref h), (1, .int (nI k)), (2, .int pw)] := hl
  refine lv_aload_n S.1 S.2.1 dX3_opensWith_14 rfl (lv_at hl 1 rfl) ?_
  refine kv_get (C := RX3) (T := TX3) (M := 5) (ci := 1) S hB (kn_c kn_iX3) 0 rfl rfl 0 (by decide) (List.mem_cons_of_mem _ kn_29) rfl rfl dX3_opensWith_15 ?_
  refine lv_iload_n S.1 S.2.1 dX3_opensWith_18 rfl (lv_at hl 2 rfl) ?_
  refine kv_sP (As := [.int (nI k)]) (rest := [.ref d]) S (kc_VO_slotPlace l D k  ) (kn_cS S kn_63 kn_64 kn_1 kn_65 kd_X3_slotPlace rfl rfl ⟨Nat.le_of_ble_eq_true rfl, Nat.le_of_ble_eq_true rfl⟩) hB rfl hl.1 rfl (Nat.le_of_ble_eq_true rfl) dX3_opensWith_19 ⟨Nat.zero_le _, Nat.zero_le _⟩ (fun H locs hB => ?_)
  refine lv_iconst (v := 1) S.1 S.2.1 dX3_opensWith_22 (by decide) ?_
  refine lv_iload_n S.1 S.2.1 dX3_opensWith_23 rfl (lv_at hl 3 rfl) ?_
  refine kv_sI (As := [.ref d, .int (nI (4 + 8 * k)), .int 1, .int pw]) (rest := []) hN S (kc_SL_openHalf l N hN D cA h d w r σ g dv dk pk (4 + 8 * k) 1 pw  (by omega) (by omega)) (kn_cS S kn_153 kn_154 kn_6 kn_155 kd_X2_openHalf rfl rfl ⟨Nat.le_of_ble_eq_true rfl, Nat.le_of_ble_eq_true rfl⟩) hB rfl hl.1 rfl (Nat.le_of_ble_eq_true rfl) dX3_opensWith_24 ⟨Nat.zero_le _, Nat.zero_le _⟩ (fun H locs hB => ?_)
  refine lv_topi (fun x_2 ex_2 => ?_)
  refine lv_istore S.1 S.2.1 dX3_opensWith_27 hl (by decide) rfl (fun ls hl => ?_)
  have hl : lv_has ls 6 [(4, .int x_2), (3, .int x_1), (0, .ref h), (1, .int (nI k)), (2, .int pw)] := hl
  refine lv_aload_n S.1 S.2.1 dX3_opensWith_29 rfl (lv_at hl 2 rfl) ?_
  refine kv_get (C := RX3) (T := TX3) (M := 5) (ci := 1) S hB (kn_c kn_iX3) 0 rfl rfl 0 (by decide) (List.mem_cons_of_mem _ kn_29) rfl rfl dX3_opensWith_30 ?_
  refine lv_iconst (v := 2) S.1 S.2.1 dX3_opensWith_33 (by decide) ?_
  refine kv_vI (As := [.int 2]) (rest := []) hN S (kc_DI_wordAtN l N hN D cA h d w r σ g dv dk pk 2  (by omega)) (kn_cV (C := RX1) S kn_114 kn_115 kn_116 kn_2 kn_117 rfl kd_X1_wordAt rfl rfl ⟨Nat.le_of_ble_eq_true rfl, Nat.le_of_ble_eq_true rfl⟩) hB 1 rfl rfl rfl hl.1 rfl (Nat.le_of_ble_eq_true rfl) dX3_opensWith_34 ⟨Nat.zero_le _, Nat.zero_le _⟩ (fun H locs hB => ?_)
  refine lv_topi (fun x_3 ex_3 => ?_)
  refine lv_istore S.1 S.2.1 dX3_opensWith_37 hl (by decide) rfl (fun ls hl => ?_)
  have hl : lv_has ls 6 [(5, .int x_3), (4, .int x_2), (3, .int x_1), (0, .ref h), (1, .int (nI k)), (2, .int pw)] := hl
  refine lv_iload_n S.1 S.2.1 dX3_opensWith_39 rfl (lv_at hl 2 rfl) ?_
  refine lv_iload S.1 S.2.1 dX3_opensWith_40 (lv_at hl 1 rfl) ?_
  refine lv_iload S.1 S.2.1 dX3_opensWith_42 (lv_at hl 0 rfl) ?_
  refine kv_sP (As := [.int x_1, .int x_2, .int x_3]) (rest := []) S (kc_CI_digest l D x_1 x_2 x_3  ) (kn_cS S kn_59 kn_60 kn_5 kn_61 kd_X0_digest rfl rfl ⟨Nat.le_of_ble_eq_true rfl, Nat.le_of_ble_eq_true rfl⟩) hB rfl hl.1 rfl (Nat.le_of_ble_eq_true rfl) dX3_opensWith_44 ⟨Nat.zero_le _, Nat.zero_le _⟩ (fun H locs hB => ?_)
  refine lv_aload_n S.1 S.2.1 dX3_opensWith_47 rfl (lv_at hl 3 rfl) ?_
  refine kv_get (C := RX3) (T := TX3) (M := 5) (ci := 1) S hB (kn_c kn_iX3) 0 rfl rfl 0 (by decide) (List.mem_cons_of_mem _ kn_29) rfl rfl dX3_opensWith_48 ?_
  refine lv_iconst (v := 1) S.1 S.2.1 dX3_opensWith_51 (by decide) ?_
  refine kv_vI (As := [.int 1]) (rest := [.int (kp_dg x_1 x_2 x_3)]) hN S (kc_DI_wordAtN l N hN D cA h d w r σ g dv dk pk 1  (by omega)) (kn_cV (C := RX1) S kn_114 kn_115 kn_116 kn_2 kn_117 rfl kd_X1_wordAt rfl rfl ⟨Nat.le_of_ble_eq_true rfl, Nat.le_of_ble_eq_true rfl⟩) hB 1 rfl rfl rfl hl.1 rfl (Nat.le_of_ble_eq_true rfl) dX3_opensWith_52 ⟨Nat.zero_le _, Nat.zero_le _⟩ (fun H locs hB => ?_)
  refine lv_icmp_eq (tgt := 60) S.1 S.2.1 dX3_opensWith_55 (by decide) (fun h_55 => ?_) (fun h_55 => ?_)
  · skip
    have hq : kp_om σ.1 k pw = 1 := by subst_vars; rw [kp_om, if_pos h_55]
    refine lv_aload_n S.1 S.2.1 dX3_opensWith_60 rfl (lv_at hl 3 rfl) ?_
    refine lv_iconst (v := 2) S.1 S.2.1 dX3_opensWith_61 (by decide) ?_
    refine kv_put (C := RX3) (T := TX3) (M := 5) (ci := 1) (v := 2) S hB (kn_c kn_iX3) tyX3 tyX3_ok nmX3 0 rfl rfl 2 (by decide) (List.mem_cons_of_mem _ kn_31) rfl rfl rfl (Nat.le_of_ble_eq_true rfl) dX3_opensWith_62 (fun H locs hB => ?_)
    have hB : kv_B N D [(cA, .int)] A s (vo_W h d w r cA σ g 2 dk pk) H locs := hB
    refine lv_aload_n S.1 S.2.1 dX3_opensWith_65 rfl (lv_at hl 3 rfl) ?_
    refine lv_iload_n S.1 S.2.1 dX3_opensWith_66 rfl (lv_at hl 2 rfl) ?_
    refine kv_put (C := RX3) (T := TX3) (M := 5) (ci := 1) (v := x_1) S hB (kn_c kn_iX3) tyX3 tyX3_ok nmX3 0 rfl rfl 3 (by decide) (List.mem_cons_of_mem _ kn_32) rfl rfl rfl (Nat.le_of_ble_eq_true rfl) dX3_opensWith_67 (fun H locs hB => ?_)
    have hB : kv_B N D [(cA, .int)] A s (vo_W h d w r cA σ g 2 x_1 pk) H locs := hB
    refine lv_aload_n S.1 S.2.1 dX3_opensWith_70 rfl (lv_at hl 3 rfl) ?_
    refine lv_iload S.1 S.2.1 dX3_opensWith_71 (lv_at hl 1 rfl) ?_
    refine kv_put (C := RX3) (T := TX3) (M := 5) (ci := 1) (v := x_2) S hB (kn_c kn_iX3) tyX3 tyX3_ok nmX3 0 rfl rfl 4 (by decide) (List.mem_cons_of_mem _ kn_33) rfl rfl rfl (Nat.le_of_ble_eq_true rfl) dX3_opensWith_73 (fun H locs hB => ?_)
    have hB : kv_B N D [(cA, .int)] A s (vo_W h d w r cA σ g 2 x_1 x_2) H locs := hB
    refine lv_iconst (v := 1) S.1 S.2.1 dX3_opensWith_76 (by decide) ?_
    exact K _ _ _ _ _ _ hB (hq.symm) (by subst_vars; rw [hq]; rfl) dX3_opensWith_77
  · skip
    have hq : kp_om σ.1 k pw = 0 := by subst_vars; rw [kp_om, if_neg h_55]
    refine lv_iconst (v := 0) S.1 S.2.1 dX3_opensWith_58 (by decide) ?_
    exact K _ _ _ _ _ _ hB (hq.symm) (by rw [hq]; rfl) dX3_opensWith_59

abbrev kr_VO_format : Room := { frames := 6, cells := 0, slots := 0, locals := 151 }
set_option maxRecDepth 100000 in
set_option maxHeartbeats 4000000 in
theorem kc_VO_format (l : Launch) (N : State → Prop) (hN : kv_Mv N) (D : va_G) (cA : ClassId) (h d w r : Nat) (σ : kp_S) (g : Nat → Int32) (dv dk pk : Int32) (a : Int32) (b : Int32) (pw : Int32) (sd : Int32) : kv_I N l yX3_format wsX3_format kr_VO_format D [(cA, .int)] [.ref h, .int a, .int b, .int pw, .int sd] (vo_W h d w r cA σ g dv dk pk) ((kp_x_format (σ, g, dv, dk, pk) a b pw sd).1) (vo_T h d w r cA (kp_x_format (σ, g, dv, dk, pk) a b pw sd).2) := by
  refine kv_openI (cc := cX3_format) (maxL := 5) (rt := .int) (by decide) rfl (rfl) (Nat.le_of_ble_eq_true rfl) ?_
  intro p e s m args below meth c A H locs ls Q S hl hB K
  have hl : lv_has ls 5 [(0, .ref h), (1, .int a), (2, .int b), (3, .int pw), (4, .int sd)] := hl
  refine lv_aload_n S.1 S.2.1 dX3_format_0 rfl (lv_at hl 0 rfl) ?_
  refine lv_iload_n S.1 S.2.1 dX3_format_1 rfl (lv_at hl 1 rfl) ?_
  refine lv_iload_n S.1 S.2.1 dX3_format_2 rfl (lv_at hl 2 rfl) ?_
  refine lv_iload_n S.1 S.2.1 dX3_format_3 rfl (lv_at hl 3 rfl) ?_
  refine lv_iload S.1 S.2.1 dX3_format_4 (lv_at hl 4 rfl) ?_
  refine kv_vV (As := [.int a, .int b, .int pw, .int sd]) (rest := []) hN S (kc_VO_workOutVolume l N hN D cA h d w r σ g dv dk pk a b pw sd  ) (kn_cV (C := RX3) S kn_47 kn_48 kn_392 kn_1 kn_49 rfl kd_X3_workOutVolume rfl rfl ⟨Nat.le_of_ble_eq_true rfl, Nat.le_of_ble_eq_true rfl⟩) hB 0 rfl rfl rfl hl.1 rfl (Nat.le_of_ble_eq_true rfl) dX3_format_6 ⟨Nat.zero_le _, Nat.zero_le _⟩ (fun H locs hB => ?_)
  have hB : kv_B N D [(cA, .int)] A s (vo_W h d w r cA σ (kp_vol a b pw sd) dv dk pk) H locs := hB
  refine lv_aload_n S.1 S.2.1 dX3_format_9 rfl (lv_at hl 0 rfl) ?_
  refine kv_vI (As := []) (rest := []) hN S (kc_VO_putVolume l N hN D cA h d w r σ (kp_vol a b pw sd) dv dk pk   ) (kn_cV (C := RX3) S kn_96 kn_97 kn_393 kn_1 kn_98 rfl kd_X3_putVolume rfl rfl ⟨Nat.le_of_ble_eq_true rfl, Nat.le_of_ble_eq_true rfl⟩) hB 0 rfl rfl rfl hl.1 rfl (Nat.le_of_ble_eq_true rfl) dX3_format_10 ⟨Nat.zero_le _, Nat.zero_le _⟩ (fun H locs hB => ?_)
  have hB : kv_B N D [(cA, .int)] A s (vo_W h d w r cA ((kp_run ((0, 0) :: kp_fm 79 1 (kp_vol a b pw sd)) σ).2) (kp_vol a b pw sd) dv dk pk) H locs := hB
  refine lv_if_ne (tgt := 21) S.1 S.2.1 dX3_format_13 (by decide) (fun h_13 => ?_) (fun h_13 => ?_)
  · skip
    refine lv_aload_n S.1 S.2.1 dX3_format_21 rfl (lv_at hl 0 rfl) ?_
    refine lv_iconst (v := 1) S.1 S.2.1 dX3_format_22 (by decide) ?_
    refine kv_vV (As := [.int 1]) (rest := []) hN S (kc_VO_holdNoKeys l N hN D cA h d w r ((kp_run ((0, 0) :: kp_fm 79 1 (kp_vol a b pw sd)) σ).2) (kp_vol a b pw sd) dv dk pk 1  ) (kn_cV (C := RX3) S kn_107 kn_108 kn_395 kn_1 kn_109 rfl kd_X3_holdNoKeys rfl rfl ⟨Nat.le_of_ble_eq_true rfl, Nat.le_of_ble_eq_true rfl⟩) hB 0 rfl rfl rfl hl.1 rfl (Nat.le_of_ble_eq_true rfl) dX3_format_23 ⟨Nat.zero_le _, Nat.zero_le _⟩ (fun H locs hB => ?_)
    have hB : kv_B N D [(cA, .int)] A s (vo_W h d w r cA ((kp_run ((0, 0) :: kp_fm 79 1 (kp_vol a b pw sd)) σ).2) (kp_vol a b pw sd) 1 0 0) H locs := hB
    refine lv_iconst (v := 0) S.1 S.2.1 dX3_format_26 (by decide) ?_
    exact K _ _ _ _ _ _ hB (by rw [kp_x_format, kp_fin, if_neg h_13]) (by rw [kp_x_format, kp_fin, if_neg h_13]) dX3_format_27
  · skip
    refine lv_aload_n S.1 S.2.1 dX3_format_16 rfl (lv_at hl 0 rfl) ?_
    refine kv_vI (As := []) (rest := []) hN S (kc_VO_powerLost l N hN D cA h d w r ((kp_run ((0, 0) :: kp_fm 79 1 (kp_vol a b pw sd)) σ).2) (kp_vol a b pw sd) dv dk pk   ) (kn_cV (C := RX3) S kn_104 kn_105 kn_394 kn_1 kn_106 rfl kd_X3_powerLost rfl rfl ⟨Nat.le_of_ble_eq_true rfl, Nat.le_of_ble_eq_true rfl⟩) hB 0 rfl rfl rfl hl.1 rfl (Nat.le_of_ble_eq_true rfl) dX3_format_17 ⟨Nat.zero_le _, Nat.zero_le _⟩ (fun H locs hB => ?_)
    have hB : kv_B N D [(cA, .int)] A s (vo_W h d w r cA ((kp_run ((0, 0) :: kp_fm 79 1 (kp_vol a b pw sd)) σ).2) (kp_vol a b pw sd) 0 0 0) H locs := hB
    exact K _ _ _ _ _ _ hB (by rw [kp_x_format, kp_fin, if_pos h_13]) (by rw [kp_x_format, kp_fin, if_pos h_13]) dX3_format_20

abbrev kr_VO_mount : Room := { frames := 4, cells := 0, slots := 0, locals := 86 }
set_option maxRecDepth 100000 in
set_option maxHeartbeats 4000000 in
theorem kc_VO_mount (l : Launch) (N : State → Prop) (hN : kv_Mv N) (D : va_G) (cA : ClassId) (h d w r : Nat) (σ : kp_S) (g : Nat → Int32) (dv dk pk : Int32) (q : Nat) (n0 : Nat) (hJ : σ.1 36 = 1 → kp_J σ.1 q n0) : kv_I N l yX3_mount wsX3_mount kr_VO_mount D [(cA, .int)] [.ref h] (vo_W h d w r cA σ g dv dk pk) ((kp_x_mount (σ, g, dv, dk, pk) q n0).1) (vo_T h d w r cA (kp_x_mount (σ, g, dv, dk, pk) q n0).2) := by
  refine kv_openI (cc := cX3_mount) (maxL := 1) (rt := .int) (by decide) rfl (rfl) (Nat.le_of_ble_eq_true rfl) ?_
  intro p e s m args below meth c A H locs ls Q S hl hB K
  have hl : lv_has ls 1 [(0, .ref h)] := hl
  refine lv_aload_n S.1 S.2.1 dX3_mount_0 rfl (lv_at hl 0 rfl) ?_
  refine kv_get (C := RX3) (T := TX3) (M := 5) (ci := 1) S hB (kn_c kn_iX3) 0 rfl rfl 0 (by decide) (List.mem_cons_of_mem _ kn_29) rfl rfl dX3_mount_1 ?_
  refine lv_iconst (v := 0) S.1 S.2.1 dX3_mount_4 (by decide) ?_
  refine kv_vI (As := [.int 0]) (rest := []) hN S (kc_DI_wordAtN l N hN D cA h d w r σ g dv dk pk 0  (by omega)) (kn_cV (C := RX1) S kn_114 kn_115 kn_116 kn_2 kn_117 rfl kd_X1_wordAt rfl rfl ⟨Nat.le_of_ble_eq_true rfl, Nat.le_of_ble_eq_true rfl⟩) hB 1 rfl rfl rfl hl.1 rfl (Nat.le_of_ble_eq_true rfl) dX3_mount_5 ⟨Nat.zero_le _, Nat.zero_le _⟩ (fun H locs hB => ?_)
  refine lv_ldc (v := 1396855379) S.1 S.2.1 S.2.2.2.1 (S.2.2.2.2 _ (List.mem_cons_of_mem _ kn_103)) dX3_mount_8 ?_
  refine lv_icmp_eq (tgt := 21) S.1 S.2.1 dX3_mount_10 (by decide) (fun h_10 => ?_) (fun h_10 => ?_)
  · skip
    refine lv_aload_n S.1 S.2.1 dX3_mount_21 rfl (lv_at hl 0 rfl) ?_
    refine kv_get (C := RX3) (T := TX3) (M := 5) (ci := 1) S hB (kn_c kn_iX3) 0 rfl rfl 0 (by decide) (List.mem_cons_of_mem _ kn_29) rfl rfl dX3_mount_22 ?_
    refine kv_vI (As := []) (rest := []) hN S (kc_DI_settleJournal l N hN D cA h d w r σ g dv dk pk  q n0 (hJ)) (kn_cV (C := RX1) S kn_118 kn_119 kn_120 kn_2 kn_121 rfl kd_X1_settleJournal rfl rfl ⟨Nat.le_of_ble_eq_true rfl, Nat.le_of_ble_eq_true rfl⟩) hB 1 rfl rfl rfl hl.1 rfl (Nat.le_of_ble_eq_true rfl) dX3_mount_25 ⟨Nat.zero_le _, Nat.zero_le _⟩ (fun H locs hB => ?_)
    have hB : kv_B N D [(cA, .int)] A s (vo_W h d w r cA ((kp_run (kp_se q n0 σ.1) σ).2) g dv dk pk) H locs := hB
    refine lv_if_ne (tgt := 36) S.1 S.2.1 dX3_mount_28 (by decide) (fun h_28 => ?_) (fun h_28 => ?_)
    · skip
      refine lv_aload_n S.1 S.2.1 dX3_mount_36 rfl (lv_at hl 0 rfl) ?_
      refine lv_iconst (v := 1) S.1 S.2.1 dX3_mount_37 (by decide) ?_
      refine kv_vV (As := [.int 1]) (rest := []) hN S (kc_VO_holdNoKeys l N hN D cA h d w r ((kp_run (kp_se q n0 σ.1) σ).2) g dv dk pk 1  ) (kn_cV (C := RX3) S kn_107 kn_108 kn_395 kn_1 kn_109 rfl kd_X3_holdNoKeys rfl rfl ⟨Nat.le_of_ble_eq_true rfl, Nat.le_of_ble_eq_true rfl⟩) hB 0 rfl rfl rfl hl.1 rfl (Nat.le_of_ble_eq_true rfl) dX3_mount_38 ⟨Nat.zero_le _, Nat.zero_le _⟩ (fun H locs hB => ?_)
      have hB : kv_B N D [(cA, .int)] A s (vo_W h d w r cA ((kp_run (kp_se q n0 σ.1) σ).2) g 1 0 0) H locs := hB
      refine lv_aload_n S.1 S.2.1 dX3_mount_41 rfl (lv_at hl 0 rfl) ?_
      refine kv_vI (As := []) (rest := []) hN S (kc_VO_activeSlots l N hN D cA h d w r ((kp_run (kp_se q n0 σ.1) σ).2) g 1 0 0   ) (kn_cV (C := RX3) S kn_130 kn_131 kn_398 kn_1 kn_132 rfl kd_X3_activeSlots rfl rfl ⟨Nat.le_of_ble_eq_true rfl, Nat.le_of_ble_eq_true rfl⟩) hB 0 rfl rfl rfl hl.1 rfl (Nat.le_of_ble_eq_true rfl) dX3_mount_42 ⟨Nat.zero_le _, Nat.zero_le _⟩ (fun H locs hB => ?_)
      exact K _ _ _ _ _ _ hB (by rw [kp_x_mount, if_pos h_10, if_neg h_28]) (by rw [kp_x_mount, if_pos h_10, if_neg h_28]) dX3_mount_45
    · skip
      refine lv_aload_n S.1 S.2.1 dX3_mount_31 rfl (lv_at hl 0 rfl) ?_
      refine kv_vI (As := []) (rest := []) hN S (kc_VO_powerLost l N hN D cA h d w r ((kp_run (kp_se q n0 σ.1) σ).2) g dv dk pk   ) (kn_cV (C := RX3) S kn_104 kn_105 kn_394 kn_1 kn_106 rfl kd_X3_powerLost rfl rfl ⟨Nat.le_of_ble_eq_true rfl, Nat.le_of_ble_eq_true rfl⟩) hB 0 rfl rfl rfl hl.1 rfl (Nat.le_of_ble_eq_true rfl) dX3_mount_32 ⟨Nat.zero_le _, Nat.zero_le _⟩ (fun H locs hB => ?_)
      have hB : kv_B N D [(cA, .int)] A s (vo_W h d w r cA ((kp_run (kp_se q n0 σ.1) σ).2) g 0 0 0) H locs := hB
      exact K _ _ _ _ _ _ hB (by rw [kp_x_mount, if_pos h_10, if_pos h_28]) (by rw [kp_x_mount, if_pos h_10, if_pos h_28]) dX3_mount_35
  · skip
    refine lv_aload_n S.1 S.2.1 dX3_mount_13 rfl (lv_at hl 0 rfl) ?_
    refine lv_iconst (v := 0) S.1 S.2.1 dX3_mount_14 (by decide) ?_
    refine kv_vV (As := [.int 0]) (rest := []) hN S (kc_VO_holdNoKeys l N hN D cA h d w r σ g dv dk pk 0  ) (kn_cV (C := RX3) S kn_107 kn_108 kn_395 kn_1 kn_109 rfl kd_X3_holdNoKeys rfl rfl ⟨Nat.le_of_ble_eq_true rfl, Nat.le_of_ble_eq_true rfl⟩) hB 0 rfl rfl rfl hl.1 rfl (Nat.le_of_ble_eq_true rfl) dX3_mount_15 ⟨Nat.zero_le _, Nat.zero_le _⟩ (fun H locs hB => ?_)
    have hB : kv_B N D [(cA, .int)] A s (vo_W h d w r cA σ g 0 0 0) H locs := hB
    refine lv_bipush (v := (-3)) S.1 S.2.1 dX3_mount_18 (by decide) ?_
    exact K _ _ _ _ _ _ hB (by rw [kp_x_mount, if_neg h_10]) (by rw [kp_x_mount, if_neg h_10]) dX3_mount_20

abbrev kr_VO_unlock : Room := { frames := 5, cells := 0, slots := 0, locals := 122 }
set_option maxRecDepth 100000 in
set_option maxHeartbeats 4000000 in
theorem kc_VO_unlock (l : Launch) (N : State → Prop) (hN : kv_Mv N) (D : va_G) (cA : ClassId) (h d w r : Nat) (σ : kp_S) (g : Nat → Int32) (dv dk pk : Int32) (pw : Int32) : kv_I N l yX3_unlock wsX3_unlock kr_VO_unlock D [(cA, .int)] [.ref h, .int pw] (vo_W h d w r cA σ g dv dk pk) ((kp_x_unlock (σ, g, dv, dk, pk) pw).1) (vo_T h d w r cA (kp_x_unlock (σ, g, dv, dk, pk) pw).2) := by
  refine kv_openI (cc := cX3_unlock) (maxL := 3) (rt := .int) (by decide) rfl (rfl) (Nat.le_of_ble_eq_true rfl) ?_
  intro p e s m args below meth c A H locs ls Q S hl hB K
  have hl : lv_has ls 3 [(0, .ref h), (1, .int pw)] := hl
  refine lv_aload_n S.1 S.2.1 dX3_unlock_0 rfl (lv_at hl 0 rfl) ?_
  refine kv_get (C := RX3) (T := TX3) (M := 5) (ci := 1) S hB (kn_c kn_iX3) 0 rfl rfl 2 (by decide) (List.mem_cons_of_mem _ kn_31) rfl rfl dX3_unlock_1 ?_
  refine lv_if_ne (tgt := 10) S.1 S.2.1 dX3_unlock_4 (by decide) (fun h_4 => ?_) (fun h_4 => ?_)
  · skip
    refine lv_iconst (v := 0) S.1 S.2.1 dX3_unlock_10 (by decide) ?_
    refine lv_istore_n S.1 S.2.1 dX3_unlock_11 rfl hl (by decide) rfl (fun ls hl => ?_)
    have hl : lv_has ls 3 [(2, .int 0), (0, .ref h), (1, .int pw)] := hl
    have loop12 : ∀ (n : Nat) (k : Nat) (H : Heap) (locs : List Loc) (ls : Array Slot), (k + n = 4) → (kp_un σ.1 pw (dv, dk, pk) n k = kp_un σ.1 pw (dv, dk, pk) 4 0) → lv_has ls 3 [(2, .int (nI k)), (0, .ref h), (1, .int pw)] → kv_B N D [(cA, .int)] A s (vo_W h d w r cA σ g dv dk pk) H locs → W p l e kr_VO_unlock s m args below meth c H locs 0 0 Q (F0 m 12 ls []) := by
      intro n
      induction n with
      | zero =>
        intro k H locs ls hk hT hl hB
        refine lv_iload_n S.1 S.2.1 dX3_unlock_12 rfl (lv_at hl 0 rfl) ?_
        refine lv_iconst (v := 4) S.1 S.2.1 dX3_unlock_13 (by decide) ?_
        refine kv_bge (x := k) (y := 4) (tgt := 42) S (by omega) (by omega) dX3_unlock_14 (by decide) (fun h_14 => ?_) (fun h => absurd h (by omega))
        refine lv_bipush (v := (-9)) S.1 S.2.1 dX3_unlock_42 (by decide) ?_
        exact K _ _ _ _ _ _ hB (by rw [kp_x_unlock, if_neg h_4, ← hT]; rfl) (by rw [kp_x_unlock, if_neg h_4, ← hT]; rfl) dX3_unlock_44
      | succ n ih12 =>
        intro k H locs ls hk hT hl hB
        refine lv_iload_n S.1 S.2.1 dX3_unlock_12 rfl (lv_at hl 0 rfl) ?_
        refine lv_iconst (v := 4) S.1 S.2.1 dX3_unlock_13 (by decide) ?_
        refine kv_bge (x := k) (y := 4) (tgt := 42) S (by omega) (by omega) dX3_unlock_14 (by decide) (fun h => absurd h (by omega)) (fun h_14 => ?_)
        refine lv_aload_n S.1 S.2.1 dX3_unlock_17 rfl (lv_at hl 1 rfl) ?_
        refine lv_iload_n S.1 S.2.1 dX3_unlock_18 rfl (lv_at hl 0 rfl) ?_
        refine kv_vI (As := [.int (nI k)]) (rest := []) hN S (kc_VO_isActive l N hN D cA h d w r σ g dv dk pk k  (by omega)) (kn_cV (C := RX3) S kn_137 kn_138 kn_399 kn_1 kn_139 rfl kd_X3_isActive rfl rfl ⟨Nat.le_of_ble_eq_true rfl, Nat.le_of_ble_eq_true rfl⟩) hB 0 rfl rfl rfl hl.1 rfl (Nat.le_of_ble_eq_true rfl) dX3_unlock_19 ⟨Nat.zero_le _, Nat.zero_le _⟩ (fun H locs hB => ?_)
        refine lv_if_eq (tgt := 36) S.1 S.2.1 dX3_unlock_22 (by decide) (fun h_22 => ?_) (fun h_22 => ?_)
        · skip
          refine lv_iinc (k := 0) (v := nI (k + 1)) S.1 S.2.1 dX3_unlock_36 hl rfl (nI_1 k) (by decide) rfl (fun ls hl => ?_)
          have hl : lv_has ls 3 [(2, .int (nI (k + 1))), (0, .ref h), (1, .int pw)] := hl
          refine lv_goto (tgt := 12) S.1 S.2.1 dX3_unlock_39 (by decide) ?_
          exact ih12 (k + 1) _ _ _ (by omega) (by first | rw [← hT, kp_un, if_pos h_22] | rw [← hT, kp_un, if_neg h_22, if_pos h_31]) (lv_sub hl [0, 1, 2] rfl) hB
        · skip
          refine lv_aload_n S.1 S.2.1 dX3_unlock_25 rfl (lv_at hl 1 rfl) ?_
          refine lv_iload_n S.1 S.2.1 dX3_unlock_26 rfl (lv_at hl 0 rfl) ?_
          refine lv_iload_n S.1 S.2.1 dX3_unlock_27 rfl (lv_at hl 2 rfl) ?_
          refine kv_vI (As := [.int (nI k), .int pw]) (rest := []) hN S (kc_VO_opensWith l N hN D cA h d w r σ g dv dk pk k pw  (by omega)) (kn_cV (C := RX3) S kn_150 kn_151 kn_400 kn_1 kn_152 rfl kd_X3_opensWith rfl rfl ⟨Nat.le_of_ble_eq_true rfl, Nat.le_of_ble_eq_true rfl⟩) hB 0 rfl rfl rfl hl.1 rfl (Nat.le_of_ble_eq_true rfl) dX3_unlock_28 ⟨Nat.zero_le _, Nat.zero_le _⟩ (fun H locs hB => ?_)
          have hB : kv_B N D [(cA, .int)] A s (vo_W h d w r cA σ g (if kp_om σ.1 k pw = 0 then dv else 2) (if kp_om σ.1 k pw = 0 then dk else kp_oh σ.1 (4 + 8 * k) pw 0) (if kp_om σ.1 k pw = 0 then pk else kp_oh σ.1 (4 + 8 * k) pw 1)) H locs := hB
          refine lv_if_eq (tgt := 36) S.1 S.2.1 dX3_unlock_31 (by decide) (fun h_31 => ?_) (fun h_31 => ?_)
          · skip
            simp only [if_pos h_31] at hB
            have hB : kv_B N D [(cA, .int)] A s (vo_W h d w r cA σ g dv dk pk) H locs := hB
            refine lv_iinc (k := 0) (v := nI (k + 1)) S.1 S.2.1 dX3_unlock_36 hl rfl (nI_1 k) (by decide) rfl (fun ls hl => ?_)
            have hl : lv_has ls 3 [(2, .int (nI (k + 1))), (0, .ref h), (1, .int pw)] := hl
            refine lv_goto (tgt := 12) S.1 S.2.1 dX3_unlock_39 (by decide) ?_
            exact ih12 (k + 1) _ _ _ (by omega) (by first | rw [← hT, kp_un, if_pos h_22] | rw [← hT, kp_un, if_neg h_22, if_pos h_31]) (lv_sub hl [0, 1, 2] rfl) hB
          · skip
            simp only [if_neg h_31] at hB
            have hT1 : (nI k, 2, kp_oh σ.1 (4 + 8 * k) pw 0, kp_oh σ.1 (4 + 8 * k) pw 1) = kp_un σ.1 pw (dv, dk, pk) 4 0 := by rw [← hT, kp_un, if_neg h_22, if_neg h_31]
            refine lv_iload_n S.1 S.2.1 dX3_unlock_34 rfl (lv_at hl 0 rfl) ?_
            exact K _ _ _ _ _ _ hB (by rw [kp_x_unlock, if_neg h_4, ← hT1]) (by rw [kp_x_unlock, if_neg h_4, ← hT1]) dX3_unlock_35
    exact loop12 4 0 _ _ _ (rfl) (rfl) (lv_sub hl [0, 1, 2] rfl) hB
  · skip
    refine lv_bipush (v := (-2)) S.1 S.2.1 dX3_unlock_7 (by decide) ?_
    exact K _ _ _ _ _ _ hB (by rw [kp_x_unlock, if_pos h_4]) (by rw [kp_x_unlock, if_pos h_4]) dX3_unlock_9

abbrev kr_VO_lock : Room := { frames := 1, cells := 0, slots := 0, locals := 21 }
set_option maxRecDepth 100000 in
set_option maxHeartbeats 4000000 in
theorem kc_VO_lock (l : Launch) (N : State → Prop) (hN : kv_Mv N) (D : va_G) (cA : ClassId) (h d w r : Nat) (σ : kp_S) (g : Nat → Int32) (dv dk pk : Int32) : kv_I N l yX3_lock wsX3_lock kr_VO_lock D [(cA, .int)] [.ref h] (vo_W h d w r cA σ g dv dk pk) ((kp_x_lock (σ, g, dv, dk, pk)).1) (vo_T h d w r cA (kp_x_lock (σ, g, dv, dk, pk)).2) := by
  refine kv_openI (cc := cX3_lock) (maxL := 2) (rt := .int) (by decide) rfl (rfl) (Nat.le_of_ble_eq_true rfl) ?_
  intro p e s m args below meth c A H locs ls Q S hl hB K
  have hl : lv_has ls 2 [(0, .ref h)] := hl
  refine lv_aload_n S.1 S.2.1 dX3_lock_0 rfl (lv_at hl 0 rfl) ?_
  refine kv_get (C := RX3) (T := TX3) (M := 5) (ci := 1) S hB (kn_c kn_iX3) 0 rfl rfl 2 (by decide) (List.mem_cons_of_mem _ kn_31) rfl rfl dX3_lock_1 ?_
  refine lv_if_ne (tgt := 10) S.1 S.2.1 dX3_lock_4 (by decide) (fun h_4 => ?_) (fun h_4 => ?_)
  · skip
    refine lv_aload_n S.1 S.2.1 dX3_lock_10 rfl (lv_at hl 0 rfl) ?_
    refine kv_get (C := RX3) (T := TX3) (M := 5) (ci := 1) S hB (kn_c kn_iX3) 0 rfl rfl 2 (by decide) (List.mem_cons_of_mem _ kn_31) rfl rfl dX3_lock_11 ?_
    refine lv_iconst (v := 2) S.1 S.2.1 dX3_lock_14 (by decide) ?_
    refine lv_icmp_ne (tgt := 22) S.1 S.2.1 dX3_lock_15 (by decide) (fun h_15 => ?_) (fun h_15 => ?_)
    · skip
      refine lv_iconst (v := 0) S.1 S.2.1 dX3_lock_22 (by decide) ?_
      refine lv_istore_n S.1 S.2.1 dX3_lock_23 rfl hl (by decide) rfl (fun ls hl => ?_)
      have hl : lv_has ls 2 [(1, .int 0), (0, .ref h)] := hl
      refine lv_aload_n S.1 S.2.1 dX3_lock_24 rfl (lv_at hl 1 rfl) ?_
      refine lv_iconst (v := 1) S.1 S.2.1 dX3_lock_25 (by decide) ?_
      refine kv_vV (As := [.int 1]) (rest := []) hN S (kc_VO_holdNoKeys l N hN D cA h d w r σ g dv dk pk 1  ) (kn_cV (C := RX3) S kn_107 kn_108 kn_395 kn_1 kn_109 rfl kd_X3_holdNoKeys rfl rfl ⟨Nat.le_of_ble_eq_true rfl, Nat.le_of_ble_eq_true rfl⟩) hB 0 rfl rfl rfl hl.1 rfl (Nat.le_of_ble_eq_true rfl) dX3_lock_26 ⟨Nat.zero_le _, Nat.zero_le _⟩ (fun H locs hB => ?_)
      have hB : kv_B N D [(cA, .int)] A s (vo_W h d w r cA σ g 1 0 0) H locs := hB
      refine lv_iload_n S.1 S.2.1 dX3_lock_29 rfl (lv_at hl 0 rfl) ?_
      exact K _ _ _ _ _ _ hB (by first | rw [kp_x_lock, if_neg h_4, if_pos h_15] | rw [kp_x_lock, if_neg h_4, if_neg h_15]) (by rw [kp_x_lock, if_neg h_4]) dX3_lock_30
    · skip
      refine lv_iconst (v := 1) S.1 S.2.1 dX3_lock_18 (by decide) ?_
      refine lv_goto (tgt := 23) S.1 S.2.1 dX3_lock_19 (by decide) ?_
      refine lv_istore_n S.1 S.2.1 dX3_lock_23 rfl hl (by decide) rfl (fun ls hl => ?_)
      have hl : lv_has ls 2 [(1, .int 1), (0, .ref h)] := hl
      refine lv_aload_n S.1 S.2.1 dX3_lock_24 rfl (lv_at hl 1 rfl) ?_
      refine lv_iconst (v := 1) S.1 S.2.1 dX3_lock_25 (by decide) ?_
      refine kv_vV (As := [.int 1]) (rest := []) hN S (kc_VO_holdNoKeys l N hN D cA h d w r σ g dv dk pk 1  ) (kn_cV (C := RX3) S kn_107 kn_108 kn_395 kn_1 kn_109 rfl kd_X3_holdNoKeys rfl rfl ⟨Nat.le_of_ble_eq_true rfl, Nat.le_of_ble_eq_true rfl⟩) hB 0 rfl rfl rfl hl.1 rfl (Nat.le_of_ble_eq_true rfl) dX3_lock_26 ⟨Nat.zero_le _, Nat.zero_le _⟩ (fun H locs hB => ?_)
      have hB : kv_B N D [(cA, .int)] A s (vo_W h d w r cA σ g 1 0 0) H locs := hB
      refine lv_iload_n S.1 S.2.1 dX3_lock_29 rfl (lv_at hl 0 rfl) ?_
      exact K _ _ _ _ _ _ hB (by first | rw [kp_x_lock, if_neg h_4, if_pos h_15] | rw [kp_x_lock, if_neg h_4, if_neg h_15]) (by rw [kp_x_lock, if_neg h_4]) dX3_lock_30
  · skip
    refine lv_bipush (v := (-2)) S.1 S.2.1 dX3_lock_7 (by decide) ?_
    exact K _ _ _ _ _ _ hB (by rw [kp_x_lock, if_pos h_4]) (by rw [kp_x_lock, if_pos h_4]) dX3_lock_9

abbrev kr_VO_add : Room := { frames := 6, cells := 0, slots := 0, locals := 147 }
set_option maxRecDepth 100000 in
set_option maxHeartbeats 4000000 in
theorem kc_VO_add (l : Launch) (N : State → Prop) (hN : kv_Mv N) (D : va_G) (cA : ClassId) (h d w r : Nat) (σ : kp_S) (g : Nat → Int32) (dv dk pk : Int32) (pw : Int32) (sd : Int32) : kv_I N l yX3_add wsX3_add kr_VO_add D [(cA, .int)] [.ref h, .int pw, .int sd] (vo_W h d w r cA σ g dv dk pk) ((kp_x_add (σ, g, dv, dk, pk) pw sd).1) (vo_T h d w r cA (kp_x_add (σ, g, dv, dk, pk) pw sd).2) := by
  refine kv_openI (cc := cX3_add) (maxL := 5) (rt := .int) (by decide) rfl (rfl) (Nat.le_of_ble_eq_true rfl) ?_
  intro p e s m args below meth c A H locs ls Q S hl hB K
  have hl : lv_has ls 5 [(0, .ref h), (1, .int pw), (2, .int sd)] := hl
  have hlf := kp_lf_le σ.1 4 0
  refine lv_aload_n S.1 S.2.1 dX3_add_0 rfl (lv_at hl 0 rfl) ?_
  refine kv_vI (As := []) (rest := []) hN S (kc_VO_refusalUnlessOpen l N hN D cA h d w r σ g dv dk pk   ) (kn_cV (C := RX3) S kn_168 kn_169 kn_401 kn_1 kn_170 rfl kd_X3_refusalUnlessOpen rfl rfl ⟨Nat.le_of_ble_eq_true rfl, Nat.le_of_ble_eq_true rfl⟩) hB 0 rfl rfl rfl hl.1 rfl (Nat.le_of_ble_eq_true rfl) dX3_add_1 ⟨Nat.zero_le _, Nat.zero_le _⟩ (fun H locs hB => ?_)
  refine lv_topi (fun x_1 ex_1 => ?_)
  refine lv_istore_n S.1 S.2.1 dX3_add_4 rfl hl (by decide) rfl (fun ls hl => ?_)
  have hl : lv_has ls 5 [(3, .int x_1), (0, .ref h), (1, .int pw), (2, .int sd)] := hl
  refine lv_iload_n S.1 S.2.1 dX3_add_5 rfl (lv_at hl 0 rfl) ?_
  refine lv_if_eq (tgt := 11) S.1 S.2.1 dX3_add_6 (by decide) (fun h_6 => ?_) (fun h_6 => ?_)
  · skip
    have h_6 : kp_ro dv = 0 := by rw [← ex_1]; exact h_6
    refine lv_aload_n S.1 S.2.1 dX3_add_11 rfl (lv_at hl 1 rfl) ?_
    refine kv_vI (As := []) (rest := []) hN S (kc_VO_leastFreeSlot l N hN D cA h d w r σ g dv dk pk   ) (kn_cV (C := RX3) S kn_171 kn_172 kn_402 kn_1 kn_173 rfl kd_X3_leastFreeSlot rfl rfl ⟨Nat.le_of_ble_eq_true rfl, Nat.le_of_ble_eq_true rfl⟩) hB 0 rfl rfl rfl hl.1 rfl (Nat.le_of_ble_eq_true rfl) dX3_add_12 ⟨Nat.zero_le _, Nat.zero_le _⟩ (fun H locs hB => ?_)
    refine lv_istore S.1 S.2.1 dX3_add_15 hl (by decide) rfl (fun ls hl => ?_)
    have hl : lv_has ls 5 [(4, .int (nI (kp_lf σ.1 4 0))), (3, .int x_1), (0, .ref h), (1, .int pw), (2, .int sd)] := hl
    refine lv_iload S.1 S.2.1 dX3_add_17 (lv_at hl 0 rfl) ?_
    refine lv_iconst (v := 4) S.1 S.2.1 dX3_add_19 (by decide) ?_
    refine kv_bne (x := kp_lf σ.1 4 0) (y := 4) (tgt := 26) S (by omega) (by omega) dX3_add_20 (by decide) (fun h_20 => ?_) (fun h_20 => ?_)
    · skip
      refine lv_aload_n S.1 S.2.1 dX3_add_26 rfl (lv_at hl 2 rfl) ?_
      refine lv_iload S.1 S.2.1 dX3_add_27 (lv_at hl 0 rfl) ?_
      refine lv_iload_n S.1 S.2.1 dX3_add_29 rfl (lv_at hl 3 rfl) ?_
      refine lv_iload_n S.1 S.2.1 dX3_add_30 rfl (lv_at hl 4 rfl) ?_
      refine kv_vI (As := [.int (nI (kp_lf σ.1 4 0)), .int pw, .int sd]) (rest := []) hN S (kc_VO_fillSlot l N hN D cA h d w r σ g dv dk pk (kp_lf σ.1 4 0) pw sd  (by omega)) (kn_cV (C := RX3) S kn_174 kn_175 kn_403 kn_1 kn_176 rfl kd_X3_fillSlot rfl rfl ⟨Nat.le_of_ble_eq_true rfl, Nat.le_of_ble_eq_true rfl⟩) hB 0 rfl rfl rfl hl.1 rfl (Nat.le_of_ble_eq_true rfl) dX3_add_31 ⟨Nat.zero_le _, Nat.zero_le _⟩ (fun H locs hB => ?_)
      have hB : kv_B N D [(cA, .int)] A s (vo_W h d w r cA ((kp_run (kp_ch 8 0 8 (4 + 8 * (kp_lf σ.1 4 0)) (kp_wo g 0 dk pk pw sd) σ.1) σ).2) (kp_wo g 0 dk pk pw sd) dv dk pk) H locs := hB
      refine lv_if_eq (tgt := 42) S.1 S.2.1 dX3_add_34 (by decide) (fun h_34 => ?_) (fun h_34 => ?_)
      · skip
        refine lv_aload_n S.1 S.2.1 dX3_add_42 rfl (lv_at hl 2 rfl) ?_
        refine kv_vI (As := []) (rest := []) hN S (kc_VO_powerLost l N hN D cA h d w r ((kp_run (kp_ch 8 0 8 (4 + 8 * (kp_lf σ.1 4 0)) (kp_wo g 0 dk pk pw sd) σ.1) σ).2) (kp_wo g 0 dk pk pw sd) dv dk pk   ) (kn_cV (C := RX3) S kn_104 kn_105 kn_394 kn_1 kn_106 rfl kd_X3_powerLost rfl rfl ⟨Nat.le_of_ble_eq_true rfl, Nat.le_of_ble_eq_true rfl⟩) hB 0 rfl rfl rfl hl.1 rfl (Nat.le_of_ble_eq_true rfl) dX3_add_43 ⟨Nat.zero_le _, Nat.zero_le _⟩ (fun H locs hB => ?_)
        have hB : kv_B N D [(cA, .int)] A s (vo_W h d w r cA ((kp_run (kp_ch 8 0 8 (4 + 8 * (kp_lf σ.1 4 0)) (kp_wo g 0 dk pk pw sd) σ.1) σ).2) (kp_wo g 0 dk pk pw sd) 0 0 0) H locs := hB
        exact K _ _ _ _ _ _ hB (by first | rw [kp_x_add, if_pos h_6, if_neg h_20, kp_fin, if_pos h_34] | rw [kp_x_add, if_pos h_6, if_neg h_20, kp_fin, if_neg h_34]) (by first | rw [kp_x_add, if_pos h_6, if_neg h_20, kp_fin, if_pos h_34] | rw [kp_x_add, if_pos h_6, if_neg h_20, kp_fin, if_neg h_34]) dX3_add_46
      · skip
        refine lv_iload S.1 S.2.1 dX3_add_37 (lv_at hl 0 rfl) ?_
        refine lv_goto (tgt := 46) S.1 S.2.1 dX3_add_39 (by decide) ?_
        exact K _ _ _ _ _ _ hB (by first | rw [kp_x_add, if_pos h_6, if_neg h_20, kp_fin, if_pos h_34] | rw [kp_x_add, if_pos h_6, if_neg h_20, kp_fin, if_neg h_34]) (by first | rw [kp_x_add, if_pos h_6, if_neg h_20, kp_fin, if_pos h_34] | rw [kp_x_add, if_pos h_6, if_neg h_20, kp_fin, if_neg h_34]) dX3_add_46
    · skip
      refine lv_bipush (v := (-7)) S.1 S.2.1 dX3_add_23 (by decide) ?_
      exact K _ _ _ _ _ _ hB (by rw [kp_x_add, if_pos h_6, if_pos h_20]) (by rw [kp_x_add, if_pos h_6, if_pos h_20]) dX3_add_25
  · skip
    have h_6 : ¬ kp_ro dv = 0 := by rw [← ex_1]; exact h_6
    refine lv_iload_n S.1 S.2.1 dX3_add_9 rfl (lv_at hl 0 rfl) ?_
    exact K _ _ _ _ _ _ hB (by rw [kp_x_add, if_neg h_6, ex_1]) (by rw [kp_x_add, if_neg h_6]) dX3_add_10

abbrev kr_VO_change : Room := { frames := 6, cells := 0, slots := 0, locals := 147 }
set_option maxRecDepth 100000 in
set_option maxHeartbeats 4000000 in
theorem kc_VO_change (l : Launch) (N : State → Prop) (hN : kv_Mv N) (D : va_G) (cA : ClassId) (h d w r : Nat) (σ : kp_S) (g : Nat → Int32) (dv dk pk : Int32) (x : Int32) (pw : Int32) (sd : Int32) : kv_I N l yX3_change wsX3_change kr_VO_change D [(cA, .int)] [.ref h, .int x, .int pw, .int sd] (vo_W h d w r cA σ g dv dk pk) ((kp_x_change (σ, g, dv, dk, pk) x pw sd).1) (vo_T h d w r cA (kp_x_change (σ, g, dv, dk, pk) x pw sd).2) := by
  refine kv_openI (cc := cX3_change) (maxL := 5) (rt := .int) (by decide) rfl (rfl) (Nat.le_of_ble_eq_true rfl) ?_
  intro p e s m args below meth c A H locs ls Q S hl hB K
  have hl : lv_has ls 5 [(0, .ref h), (1, .int x), (2, .int pw), (3, .int sd)] := hl
  refine lv_aload_n S.1 S.2.1 dX3_change_0 rfl (lv_at hl 0 rfl) ?_
  refine lv_iload_n S.1 S.2.1 dX3_change_1 rfl (lv_at hl 1 rfl) ?_
  refine kv_vI (As := [.int x]) (rest := []) hN S (kc_VO_refusalOfSlot l N hN D cA h d w r σ g dv dk pk x  ) (kn_cV (C := RX3) S kn_185 kn_186 kn_404 kn_1 kn_187 rfl kd_X3_refusalOfSlot rfl rfl ⟨Nat.le_of_ble_eq_true rfl, Nat.le_of_ble_eq_true rfl⟩) hB 0 rfl rfl rfl hl.1 rfl (Nat.le_of_ble_eq_true rfl) dX3_change_2 ⟨Nat.zero_le _, Nat.zero_le _⟩ (fun H locs hB => ?_)
  refine lv_topi (fun x_1 ex_1 => ?_)
  refine lv_istore S.1 S.2.1 dX3_change_5 hl (by decide) rfl (fun ls hl => ?_)
  have hl : lv_has ls 5 [(4, .int x_1), (0, .ref h), (1, .int x), (2, .int pw), (3, .int sd)] := hl
  refine lv_iload S.1 S.2.1 dX3_change_7 (lv_at hl 0 rfl) ?_
  refine lv_if_eq (tgt := 15) S.1 S.2.1 dX3_change_9 (by decide) (fun h_9 => ?_) (fun h_9 => ?_)
  · skip
    have h_R : kp_rs σ.1 dv x = 0 := by rw [← ex_1]; exact h_9
    obtain ⟨k, hk, rfl⟩ := kp_rs_k h_R
    refine lv_aload_n S.1 S.2.1 dX3_change_15 rfl (lv_at hl 1 rfl) ?_
    refine lv_iload_n S.1 S.2.1 dX3_change_16 rfl (lv_at hl 2 rfl) ?_
    refine lv_iload_n S.1 S.2.1 dX3_change_17 rfl (lv_at hl 3 rfl) ?_
    refine lv_iload_n S.1 S.2.1 dX3_change_18 rfl (lv_at hl 4 rfl) ?_
    refine kv_vI (As := [.int (nI k), .int pw, .int sd]) (rest := []) hN S (kc_VO_fillSlot l N hN D cA h d w r σ g dv dk pk k pw sd  (by omega)) (kn_cV (C := RX3) S kn_174 kn_175 kn_403 kn_1 kn_176 rfl kd_X3_fillSlot rfl rfl ⟨Nat.le_of_ble_eq_true rfl, Nat.le_of_ble_eq_true rfl⟩) hB 0 rfl rfl rfl hl.1 rfl (Nat.le_of_ble_eq_true rfl) dX3_change_19 ⟨Nat.zero_le _, Nat.zero_le _⟩ (fun H locs hB => ?_)
    have hB : kv_B N D [(cA, .int)] A s (vo_W h d w r cA ((kp_run (kp_ch 8 0 8 (4 + 8 * k) (kp_wo g 0 dk pk pw sd) σ.1) σ).2) (kp_wo g 0 dk pk pw sd) dv dk pk) H locs := hB
    refine lv_if_eq (tgt := 29) S.1 S.2.1 dX3_change_22 (by decide) (fun h_22 => ?_) (fun h_22 => ?_)
    · skip
      refine lv_aload_n S.1 S.2.1 dX3_change_29 rfl (lv_at hl 1 rfl) ?_
      refine kv_vI (As := []) (rest := []) hN S (kc_VO_powerLost l N hN D cA h d w r ((kp_run (kp_ch 8 0 8 (4 + 8 * k) (kp_wo g 0 dk pk pw sd) σ.1) σ).2) (kp_wo g 0 dk pk pw sd) dv dk pk   ) (kn_cV (C := RX3) S kn_104 kn_105 kn_394 kn_1 kn_106 rfl kd_X3_powerLost rfl rfl ⟨Nat.le_of_ble_eq_true rfl, Nat.le_of_ble_eq_true rfl⟩) hB 0 rfl rfl rfl hl.1 rfl (Nat.le_of_ble_eq_true rfl) dX3_change_30 ⟨Nat.zero_le _, Nat.zero_le _⟩ (fun H locs hB => ?_)
      have hB : kv_B N D [(cA, .int)] A s (vo_W h d w r cA ((kp_run (kp_ch 8 0 8 (4 + 8 * k) (kp_wo g 0 dk pk pw sd) σ.1) σ).2) (kp_wo g 0 dk pk pw sd) 0 0 0) H locs := hB
      exact K _ _ _ _ _ _ hB (by first | rw [kp_x_change, if_pos h_R, nI_clamp (by omega), kp_fin, if_pos h_22] | rw [kp_x_change, if_pos h_R, nI_clamp (by omega), kp_fin, if_neg h_22]) (by first | rw [kp_x_change, if_pos h_R, nI_clamp (by omega), kp_fin, if_pos h_22] | rw [kp_x_change, if_pos h_R, nI_clamp (by omega), kp_fin, if_neg h_22]) dX3_change_33
    · skip
      refine lv_iconst (v := 0) S.1 S.2.1 dX3_change_25 (by decide) ?_
      refine lv_goto (tgt := 33) S.1 S.2.1 dX3_change_26 (by decide) ?_
      exact K _ _ _ _ _ _ hB (by first | rw [kp_x_change, if_pos h_R, nI_clamp (by omega), kp_fin, if_pos h_22] | rw [kp_x_change, if_pos h_R, nI_clamp (by omega), kp_fin, if_neg h_22]) (by first | rw [kp_x_change, if_pos h_R, nI_clamp (by omega), kp_fin, if_pos h_22] | rw [kp_x_change, if_pos h_R, nI_clamp (by omega), kp_fin, if_neg h_22]) dX3_change_33
  · skip
    have h_R : ¬ kp_rs σ.1 dv x = 0 := by rw [← ex_1]; exact h_9
    refine lv_iload S.1 S.2.1 dX3_change_12 (lv_at hl 0 rfl) ?_
    exact K _ _ _ _ _ _ hB (by rw [kp_x_change, if_neg h_R, ex_1]) (by rw [kp_x_change, if_neg h_R]) dX3_change_14

abbrev kr_VO_revoke : Room := { frames := 5, cells := 0, slots := 0, locals := 111 }
set_option maxRecDepth 100000 in
set_option maxHeartbeats 4000000 in
theorem kc_VO_revoke (l : Launch) (N : State → Prop) (hN : kv_Mv N) (D : va_G) (cA : ClassId) (h d w r : Nat) (σ : kp_S) (g : Nat → Int32) (dv dk pk : Int32) (x : Int32) : kv_I N l yX3_revoke wsX3_revoke kr_VO_revoke D [(cA, .int)] [.ref h, .int x] (vo_W h d w r cA σ g dv dk pk) ((kp_x_revoke (σ, g, dv, dk, pk) x).1) (vo_T h d w r cA (kp_x_revoke (σ, g, dv, dk, pk) x).2) := by
  refine kv_openI (cc := cX3_revoke) (maxL := 3) (rt := .int) (by decide) rfl (rfl) (Nat.le_of_ble_eq_true rfl) ?_
  intro p e s m args below meth c A H locs ls Q S hl hB K
  have hl : lv_has ls 3 [(0, .ref h), (1, .int x)] := hl
  refine lv_aload_n S.1 S.2.1 dX3_revoke_0 rfl (lv_at hl 0 rfl) ?_
  refine lv_iload_n S.1 S.2.1 dX3_revoke_1 rfl (lv_at hl 1 rfl) ?_
  refine kv_vI (As := [.int x]) (rest := []) hN S (kc_VO_refusalOfSlot l N hN D cA h d w r σ g dv dk pk x  ) (kn_cV (C := RX3) S kn_185 kn_186 kn_404 kn_1 kn_187 rfl kd_X3_refusalOfSlot rfl rfl ⟨Nat.le_of_ble_eq_true rfl, Nat.le_of_ble_eq_true rfl⟩) hB 0 rfl rfl rfl hl.1 rfl (Nat.le_of_ble_eq_true rfl) dX3_revoke_2 ⟨Nat.zero_le _, Nat.zero_le _⟩ (fun H locs hB => ?_)
  refine lv_topi (fun x_1 ex_1 => ?_)
  refine lv_istore_n S.1 S.2.1 dX3_revoke_5 rfl hl (by decide) rfl (fun ls hl => ?_)
  have hl : lv_has ls 3 [(2, .int x_1), (0, .ref h), (1, .int x)] := hl
  refine lv_iload_n S.1 S.2.1 dX3_revoke_6 rfl (lv_at hl 0 rfl) ?_
  refine lv_if_eq (tgt := 12) S.1 S.2.1 dX3_revoke_7 (by decide) (fun h_7 => ?_) (fun h_7 => ?_)
  · skip
    have h_R : kp_rs σ.1 dv x = 0 := by rw [← ex_1]; exact h_7
    obtain ⟨k, hk, rfl⟩ := kp_rs_k h_R
    refine lv_aload_n S.1 S.2.1 dX3_revoke_12 rfl (lv_at hl 1 rfl) ?_
    refine kv_vI (As := []) (rest := []) hN S (kc_VO_activeSlots l N hN D cA h d w r σ g dv dk pk   ) (kn_cV (C := RX3) S kn_130 kn_131 kn_398 kn_1 kn_132 rfl kd_X3_activeSlots rfl rfl ⟨Nat.le_of_ble_eq_true rfl, Nat.le_of_ble_eq_true rfl⟩) hB 0 rfl rfl rfl hl.1 rfl (Nat.le_of_ble_eq_true rfl) dX3_revoke_13 ⟨Nat.zero_le _, Nat.zero_le _⟩ (fun H locs hB => ?_)
    refine lv_iconst (v := 1) S.1 S.2.1 dX3_revoke_16 (by decide) ?_
    refine lv_icmp_ne (tgt := 23) S.1 S.2.1 dX3_revoke_17 (by decide) (fun h_17 => ?_) (fun h_17 => ?_)
    · skip
      refine lv_aload_n S.1 S.2.1 dX3_revoke_23 rfl (lv_at hl 1 rfl) ?_
      refine lv_iload_n S.1 S.2.1 dX3_revoke_24 rfl (lv_at hl 2 rfl) ?_
      refine kv_vI (As := [.int (nI k)]) (rest := []) hN S (kc_VO_clearSlot l N hN D cA h d w r σ g dv dk pk k  (by omega)) (kn_cV (C := RX3) S kn_192 kn_193 kn_405 kn_1 kn_194 rfl kd_X3_clearSlot rfl rfl ⟨Nat.le_of_ble_eq_true rfl, Nat.le_of_ble_eq_true rfl⟩) hB 0 rfl rfl rfl hl.1 rfl (Nat.le_of_ble_eq_true rfl) dX3_revoke_25 ⟨Nat.zero_le _, Nat.zero_le _⟩ (fun H locs hB => ?_)
      have hB : kv_B N D [(cA, .int)] A s (vo_W h d w r cA ((kp_run (kp_ch 8 0 8 (4 + 8 * k) (fun _ => 0) σ.1) σ).2) (fun _ => 0) dv dk pk) H locs := hB
      refine lv_if_eq (tgt := 35) S.1 S.2.1 dX3_revoke_28 (by decide) (fun h_28 => ?_) (fun h_28 => ?_)
      · skip
        refine lv_aload_n S.1 S.2.1 dX3_revoke_35 rfl (lv_at hl 1 rfl) ?_
        refine kv_vI (As := []) (rest := []) hN S (kc_VO_powerLost l N hN D cA h d w r ((kp_run (kp_ch 8 0 8 (4 + 8 * k) (fun _ => 0) σ.1) σ).2) (fun _ => 0) dv dk pk   ) (kn_cV (C := RX3) S kn_104 kn_105 kn_394 kn_1 kn_106 rfl kd_X3_powerLost rfl rfl ⟨Nat.le_of_ble_eq_true rfl, Nat.le_of_ble_eq_true rfl⟩) hB 0 rfl rfl rfl hl.1 rfl (Nat.le_of_ble_eq_true rfl) dX3_revoke_36 ⟨Nat.zero_le _, Nat.zero_le _⟩ (fun H locs hB => ?_)
        have hB : kv_B N D [(cA, .int)] A s (vo_W h d w r cA ((kp_run (kp_ch 8 0 8 (4 + 8 * k) (fun _ => 0) σ.1) σ).2) (fun _ => 0) 0 0 0) H locs := hB
        exact K _ _ _ _ _ _ hB (by first | rw [kp_x_revoke, if_pos h_R, if_neg h_17, nI_clamp (by omega), kp_fin, if_pos h_28] | rw [kp_x_revoke, if_pos h_R, if_neg h_17, nI_clamp (by omega), kp_fin, if_neg h_28]) (by first | rw [kp_x_revoke, if_pos h_R, if_neg h_17, nI_clamp (by omega), kp_fin, if_pos h_28] | rw [kp_x_revoke, if_pos h_R, if_neg h_17, nI_clamp (by omega), kp_fin, if_neg h_28]) dX3_revoke_39
      · skip
        refine lv_iconst (v := 0) S.1 S.2.1 dX3_revoke_31 (by decide) ?_
        refine lv_goto (tgt := 39) S.1 S.2.1 dX3_revoke_32 (by decide) ?_
        exact K _ _ _ _ _ _ hB (by first | rw [kp_x_revoke, if_pos h_R, if_neg h_17, nI_clamp (by omega), kp_fin, if_pos h_28] | rw [kp_x_revoke, if_pos h_R, if_neg h_17, nI_clamp (by omega), kp_fin, if_neg h_28]) (by first | rw [kp_x_revoke, if_pos h_R, if_neg h_17, nI_clamp (by omega), kp_fin, if_pos h_28] | rw [kp_x_revoke, if_pos h_R, if_neg h_17, nI_clamp (by omega), kp_fin, if_neg h_28]) dX3_revoke_39
    · skip
      refine lv_bipush (v := (-8)) S.1 S.2.1 dX3_revoke_20 (by decide) ?_
      exact K _ _ _ _ _ _ hB (by rw [kp_x_revoke, if_pos h_R, if_pos h_17]) (by rw [kp_x_revoke, if_pos h_R, if_pos h_17]) dX3_revoke_22
  · skip
    have h_R : ¬ kp_rs σ.1 dv x = 0 := by rw [← ex_1]; exact h_7
    refine lv_iload_n S.1 S.2.1 dX3_revoke_10 rfl (lv_at hl 0 rfl) ?_
    exact K _ _ _ _ _ _ hB (by rw [kp_x_revoke, if_neg h_R, ex_1]) (by rw [kp_x_revoke, if_neg h_R]) dX3_revoke_11

abbrev kr_VO_write : Room := { frames := 6, cells := 0, slots := 0, locals := 141 }
set_option maxRecDepth 100000 in
set_option maxHeartbeats 4000000 in
theorem kc_VO_write (l : Launch) (N : State → Prop) (hN : kv_Mv N) (D : va_G) (cA : ClassId) (h d w r : Nat) (σ : kp_S) (g : Nat → Int32) (dv dk pk : Int32) (x : Int32) (y : Int32) (t : Int32) : kv_I N l yX3_write wsX3_write kr_VO_write D [(cA, .int)] [.ref h, .int x, .int y, .int t] (vo_W h d w r cA σ g dv dk pk) ((kp_x_write (σ, g, dv, dk, pk) x y t).1) (vo_T h d w r cA (kp_x_write (σ, g, dv, dk, pk) x y t).2) := by
  refine kv_openI (cc := cX3_write) (maxL := 7) (rt := .int) (by decide) rfl (rfl) (Nat.le_of_ble_eq_true rfl) ?_
  intro p e s m args below meth c A H locs ls Q S hl hB K
  have hl : lv_has ls 7 [(0, .ref h), (1, .int x), (2, .int y), (3, .int t)] := hl
  refine lv_aload_n S.1 S.2.1 dX3_write_0 rfl (lv_at hl 0 rfl) ?_
  refine lv_iload_n S.1 S.2.1 dX3_write_1 rfl (lv_at hl 1 rfl) ?_
  refine lv_iload_n S.1 S.2.1 dX3_write_2 rfl (lv_at hl 2 rfl) ?_
  refine kv_vI (As := [.int x, .int y]) (rest := []) hN S (kc_VO_refusalOfWord l N hN D cA h d w r σ g dv dk pk x y  ) (kn_cV (C := RX3) S kn_199 kn_200 kn_406 kn_1 kn_201 rfl kd_X3_refusalOfWord rfl rfl ⟨Nat.le_of_ble_eq_true rfl, Nat.le_of_ble_eq_true rfl⟩) hB 0 rfl rfl rfl hl.1 rfl (Nat.le_of_ble_eq_true rfl) dX3_write_3 ⟨Nat.zero_le _, Nat.zero_le _⟩ (fun H locs hB => ?_)
  refine lv_topi (fun x_1 ex_1 => ?_)
  refine lv_istore S.1 S.2.1 dX3_write_6 hl (by decide) rfl (fun ls hl => ?_)
  have hl : lv_has ls 7 [(4, .int x_1), (0, .ref h), (1, .int x), (2, .int y), (3, .int t)] := hl
  refine lv_iload S.1 S.2.1 dX3_write_8 (lv_at hl 0 rfl) ?_
  refine lv_if_eq (tgt := 16) S.1 S.2.1 dX3_write_10 (by decide) (fun h_10 => ?_) (fun h_10 => ?_)
  · skip
    have h_R : kp_rw dv x y = 0 := by rw [← ex_1]; exact h_10
    obtain ⟨z, hz, i, hi, rfl, rfl⟩ := kp_rw_k h_R
    refine lv_iconst (v := 0) S.1 S.2.1 dX3_write_16 (by decide) ?_
    refine lv_istore S.1 S.2.1 dX3_write_17 hl (by decide) rfl (fun ls hl => ?_)
    have hl : lv_has ls 7 [(5, .int 0), (4, .int x_1), (0, .ref h), (1, .int (nI z)), (2, .int (nI i)), (3, .int t)] := hl
    have loop19 : ∀ (n : Nat) (j : Nat) (gg : Nat → Int32) (H : Heap) (locs : List Loc) (ls : Array Slot), (j + n = 4) → (kp_wl σ.1 dk pk z i t n j gg = kp_wl σ.1 dk pk z i t 4 0 g) → lv_has ls 7 [(5, .int (nI j)), (0, .ref h), (1, .int (nI z)), (2, .int (nI i)), (3, .int t)] → kv_B N D [(cA, .int)] A s (vo_W h d w r cA σ gg dv dk pk) H locs → W p l e kr_VO_write s m args below meth c H locs 0 0 Q (F0 m 19 ls []) := by
      intro n
      induction n with
      | zero =>
        intro j gg H locs ls hj hT hl hB
        refine lv_iload S.1 S.2.1 dX3_write_19 (lv_at hl 0 rfl) ?_
        refine lv_iconst (v := 4) S.1 S.2.1 dX3_write_21 (by decide) ?_
        refine kv_bge (x := j) (y := 4) (tgt := 73) S (by omega) (by omega) dX3_write_22 (by decide) (fun h_22 => ?_) (fun h => absurd h (by omega))
        have hT0 : gg = kp_wl σ.1 dk pk z i t 4 0 g := hT
        subst hT0
        refine lv_aload_n S.1 S.2.1 dX3_write_73 rfl (lv_at hl 1 rfl) ?_
        refine kv_get (C := RX3) (T := TX3) (M := 5) (ci := 1) S hB (kn_c kn_iX3) 0 rfl rfl 0 (by decide) (List.mem_cons_of_mem _ kn_29) rfl rfl dX3_write_74 ?_
        refine lv_iload_n S.1 S.2.1 dX3_write_77 rfl (lv_at hl 2 rfl) ?_
        refine kv_sP (As := [.int (nI z)]) (rest := [.ref d]) S (kc_VO_sectorPlace l D z  ) (kn_cS S kn_86 kn_87 kn_1 kn_88 kd_X3_sectorPlace rfl rfl ⟨Nat.le_of_ble_eq_true rfl, Nat.le_of_ble_eq_true rfl⟩) hB rfl hl.1 rfl (Nat.le_of_ble_eq_true rfl) dX3_write_78 ⟨Nat.zero_le _, Nat.zero_le _⟩ (fun H locs hB => ?_)
        refine lv_iconst (v := 4) S.1 S.2.1 dX3_write_81 (by decide) ?_
        refine lv_aload_n S.1 S.2.1 dX3_write_82 rfl (lv_at hl 1 rfl) ?_
        refine kv_get (C := RX3) (T := TX3) (M := 5) (ci := 1) S hB (kn_c kn_iX3) 0 rfl rfl 1 (by decide) (List.mem_cons_of_mem _ kn_30) rfl rfl dX3_write_83 ?_
        refine kv_vI (As := [.int (nI (48 + 4 * z)), .int 4, .ref r]) (rest := []) hN S (kc_DI_replaceByJournal l N hN D cA h d w r σ (kp_wl σ.1 dk pk z i t 4 0 g) dv dk pk (48 + 4 * z) 4  (by omega) (by omega)) (kn_cV (C := RX1) S kn_177 kn_178 kn_179 kn_2 kn_180 rfl kd_X1_replaceByJournal rfl rfl ⟨Nat.le_of_ble_eq_true rfl, Nat.le_of_ble_eq_true rfl⟩) hB 1 rfl rfl rfl hl.1 rfl (Nat.le_of_ble_eq_true rfl) dX3_write_86 ⟨Nat.zero_le _, Nat.zero_le _⟩ (fun H locs hB => ?_)
        have hB : kv_B N D [(cA, .int)] A s (vo_W h d w r cA ((kp_run (kp_ch 4 0 4 (48 + 4 * z) (kp_wl σ.1 dk pk z i t 4 0 g) σ.1) σ).2) (kp_wl σ.1 dk pk z i t 4 0 g) dv dk pk) H locs := hB
        refine lv_if_eq (tgt := 96) S.1 S.2.1 dX3_write_89 (by decide) (fun h_89 => ?_) (fun h_89 => ?_)
        · skip
          refine lv_aload_n S.1 S.2.1 dX3_write_96 rfl (lv_at hl 1 rfl) ?_
          refine kv_vI (As := []) (rest := []) hN S (kc_VO_powerLost l N hN D cA h d w r ((kp_run (kp_ch 4 0 4 (48 + 4 * z) (kp_wl σ.1 dk pk z i t 4 0 g) σ.1) σ).2) (kp_wl σ.1 dk pk z i t 4 0 g) dv dk pk   ) (kn_cV (C := RX3) S kn_104 kn_105 kn_394 kn_1 kn_106 rfl kd_X3_powerLost rfl rfl ⟨Nat.le_of_ble_eq_true rfl, Nat.le_of_ble_eq_true rfl⟩) hB 0 rfl rfl rfl hl.1 rfl (Nat.le_of_ble_eq_true rfl) dX3_write_97 ⟨Nat.zero_le _, Nat.zero_le _⟩ (fun H locs hB => ?_)
          have hB : kv_B N D [(cA, .int)] A s (vo_W h d w r cA ((kp_run (kp_ch 4 0 4 (48 + 4 * z) (kp_wl σ.1 dk pk z i t 4 0 g) σ.1) σ).2) (kp_wl σ.1 dk pk z i t 4 0 g) 0 0 0) H locs := hB
          exact K _ _ _ _ _ _ hB (by first | rw [kp_x_write, if_pos h_R, nI_clamp (by omega), nI_clamp (by omega), kp_fin, if_pos h_89] | rw [kp_x_write, if_pos h_R, nI_clamp (by omega), nI_clamp (by omega), kp_fin, if_neg h_89]) (by first | rw [kp_x_write, if_pos h_R, nI_clamp (by omega), nI_clamp (by omega), kp_fin, if_pos h_89] | rw [kp_x_write, if_pos h_R, nI_clamp (by omega), nI_clamp (by omega), kp_fin, if_neg h_89]) dX3_write_100
        · skip
          refine lv_iconst (v := 0) S.1 S.2.1 dX3_write_92 (by decide) ?_
          refine lv_goto (tgt := 100) S.1 S.2.1 dX3_write_93 (by decide) ?_
          exact K _ _ _ _ _ _ hB (by first | rw [kp_x_write, if_pos h_R, nI_clamp (by omega), nI_clamp (by omega), kp_fin, if_pos h_89] | rw [kp_x_write, if_pos h_R, nI_clamp (by omega), nI_clamp (by omega), kp_fin, if_neg h_89]) (by first | rw [kp_x_write, if_pos h_R, nI_clamp (by omega), nI_clamp (by omega), kp_fin, if_pos h_89] | rw [kp_x_write, if_pos h_R, nI_clamp (by omega), nI_clamp (by omega), kp_fin, if_neg h_89]) dX3_write_100
      | succ n ih19 =>
        intro j gg H locs ls hj hT hl hB
        refine lv_iload S.1 S.2.1 dX3_write_19 (lv_at hl 0 rfl) ?_
        refine lv_iconst (v := 4) S.1 S.2.1 dX3_write_21 (by decide) ?_
        refine kv_bge (x := j) (y := 4) (tgt := 73) S (by omega) (by omega) dX3_write_22 (by decide) (fun h => absurd h (by omega)) (fun h_22 => ?_)
        refine lv_iload S.1 S.2.1 dX3_write_25 (lv_at hl 0 rfl) ?_
        refine lv_iload_n S.1 S.2.1 dX3_write_27 rfl (lv_at hl 3 rfl) ?_
        refine kv_bne (x := j) (y := i) (tgt := 35) S (by omega) (by omega) dX3_write_28 (by decide) (fun h_28 => ?_) (fun h_28 => ?_)
        · skip
          refine lv_aload_n S.1 S.2.1 dX3_write_35 rfl (lv_at hl 1 rfl) ?_
          refine lv_iload_n S.1 S.2.1 dX3_write_36 rfl (lv_at hl 2 rfl) ?_
          refine lv_iload S.1 S.2.1 dX3_write_37 (lv_at hl 0 rfl) ?_
          refine kv_vI (As := [.int (nI z), .int (nI j)]) (rest := []) hN S (kc_VO_plainWord l N hN D cA h d w r σ gg dv dk pk z j  (by omega) (by omega)) (kn_cV (C := RX3) S kn_202 kn_203 kn_407 kn_1 kn_204 rfl kd_X3_plainWord rfl rfl ⟨Nat.le_of_ble_eq_true rfl, Nat.le_of_ble_eq_true rfl⟩) hB 0 rfl rfl rfl hl.1 rfl (Nat.le_of_ble_eq_true rfl) dX3_write_39 ⟨Nat.zero_le _, Nat.zero_le _⟩ (fun H locs hB => ?_)
          refine lv_topi (fun x_2 ex_2 => ?_)
          refine lv_istore S.1 S.2.1 dX3_write_42 hl (by decide) rfl (fun ls hl => ?_)
          have hl : lv_has ls 7 [(6, .int x_2), (5, .int (nI j)), (0, .ref h), (1, .int (nI z)), (2, .int (nI i)), (3, .int t)] := hl
          refine lv_aload_n S.1 S.2.1 dX3_write_44 rfl (lv_at hl 2 rfl) ?_
          refine kv_get (C := RX3) (T := TX3) (M := 5) (ci := 1) S hB (kn_c kn_iX3) 0 rfl rfl 1 (by decide) (List.mem_cons_of_mem _ kn_30) rfl rfl dX3_write_45 ?_
          refine lv_iload S.1 S.2.1 dX3_write_48 (lv_at hl 1 rfl) ?_
          refine lv_aload_n S.1 S.2.1 dX3_write_50 rfl (lv_at hl 2 rfl) ?_
          refine kv_get (C := RX3) (T := TX3) (M := 5) (ci := 1) S hB (kn_c kn_iX3) 0 rfl rfl 3 (by decide) (List.mem_cons_of_mem _ kn_32) rfl rfl dX3_write_51 ?_
          refine lv_aload_n S.1 S.2.1 dX3_write_54 rfl (lv_at hl 2 rfl) ?_
          refine kv_get (C := RX3) (T := TX3) (M := 5) (ci := 1) S hB (kn_c kn_iX3) 0 rfl rfl 4 (by decide) (List.mem_cons_of_mem _ kn_33) rfl rfl dX3_write_55 ?_
          refine lv_iload_n S.1 S.2.1 dX3_write_58 rfl (lv_at hl 3 rfl) ?_
          refine lv_iload S.1 S.2.1 dX3_write_59 (lv_at hl 1 rfl) ?_
          refine lv_iload S.1 S.2.1 dX3_write_61 (lv_at hl 0 rfl) ?_
          refine kv_sP (As := [.int dk, .int pk, .int (nI z), .int (nI j), .int x_2]) (rest := [.int (nI j), .ref r]) S (kc_CI_encipherSectorWord l D dk pk (nI z) j x_2  (by omega)) (kn_cS S kn_89 kn_90 kn_5 kn_91 kd_X0_encipherSectorWord rfl rfl ⟨Nat.le_of_ble_eq_true rfl, Nat.le_of_ble_eq_true rfl⟩) hB rfl hl.1 rfl (Nat.le_of_ble_eq_true rfl) dX3_write_63 ⟨Nat.zero_le _, Nat.zero_le _⟩ (fun H locs hB => ?_)
          refine kv_iast S hB 3 0 rfl rfl j rfl (by omega) (by decide) dX3_write_66 (fun H locs hB => ?_)
          have hB : kv_B N D [(cA, .int)] A s (vo_W h d w r cA σ (upd gg j (kp_hide dk pk (nI z) j x_2)) dv dk pk) H locs := hB
          refine lv_iinc (k := 1) (v := nI (j + 1)) S.1 S.2.1 dX3_write_67 hl rfl (nI_1 j) (by decide) rfl (fun ls hl => ?_)
          have hl : lv_has ls 7 [(5, .int (nI (j + 1))), (6, .int x_2), (0, .ref h), (1, .int (nI z)), (2, .int (nI i)), (3, .int t)] := hl
          refine lv_goto (tgt := 19) S.1 S.2.1 dX3_write_70 (by decide) ?_
          exact ih19 (j + 1) (upd gg j (kp_hide dk pk (nI z) j x_2)) _ _ _ (by omega) (by subst_vars; rw [← hT, kp_wl]; first | rw [if_pos rfl] | rw [if_neg h_28]) (lv_sub hl [0, 2, 3, 4, 5] rfl) hB
        · skip
          refine lv_iload_n S.1 S.2.1 dX3_write_31 rfl (lv_at hl 4 rfl) ?_
          refine lv_goto (tgt := 42) S.1 S.2.1 dX3_write_32 (by decide) ?_
          refine lv_istore S.1 S.2.1 dX3_write_42 hl (by decide) rfl (fun ls hl => ?_)
          have hl : lv_has ls 7 [(6, .int t), (5, .int (nI j)), (0, .ref h), (1, .int (nI z)), (2, .int (nI i)), (3, .int t)] := hl
          refine lv_aload_n S.1 S.2.1 dX3_write_44 rfl (lv_at hl 2 rfl) ?_
          refine kv_get (C := RX3) (T := TX3) (M := 5) (ci := 1) S hB (kn_c kn_iX3) 0 rfl rfl 1 (by decide) (List.mem_cons_of_mem _ kn_30) rfl rfl dX3_write_45 ?_
          refine lv_iload S.1 S.2.1 dX3_write_48 (lv_at hl 1 rfl) ?_
          refine lv_aload_n S.1 S.2.1 dX3_write_50 rfl (lv_at hl 2 rfl) ?_
          refine kv_get (C := RX3) (T := TX3) (M := 5) (ci := 1) S hB (kn_c kn_iX3) 0 rfl rfl 3 (by decide) (List.mem_cons_of_mem _ kn_32) rfl rfl dX3_write_51 ?_
          refine lv_aload_n S.1 S.2.1 dX3_write_54 rfl (lv_at hl 2 rfl) ?_
          refine kv_get (C := RX3) (T := TX3) (M := 5) (ci := 1) S hB (kn_c kn_iX3) 0 rfl rfl 4 (by decide) (List.mem_cons_of_mem _ kn_33) rfl rfl dX3_write_55 ?_
          refine lv_iload_n S.1 S.2.1 dX3_write_58 rfl (lv_at hl 3 rfl) ?_
          refine lv_iload S.1 S.2.1 dX3_write_59 (lv_at hl 1 rfl) ?_
          refine lv_iload S.1 S.2.1 dX3_write_61 (lv_at hl 0 rfl) ?_
          refine kv_sP (As := [.int dk, .int pk, .int (nI z), .int (nI j), .int t]) (rest := [.int (nI j), .ref r]) S (kc_CI_encipherSectorWord l D dk pk (nI z) j t  (by omega)) (kn_cS S kn_89 kn_90 kn_5 kn_91 kd_X0_encipherSectorWord rfl rfl ⟨Nat.le_of_ble_eq_true rfl, Nat.le_of_ble_eq_true rfl⟩) hB rfl hl.1 rfl (Nat.le_of_ble_eq_true rfl) dX3_write_63 ⟨Nat.zero_le _, Nat.zero_le _⟩ (fun H locs hB => ?_)
          refine kv_iast S hB 3 0 rfl rfl j rfl (by omega) (by decide) dX3_write_66 (fun H locs hB => ?_)
          have hB : kv_B N D [(cA, .int)] A s (vo_W h d w r cA σ (upd gg j (kp_hide dk pk (nI z) j t)) dv dk pk) H locs := hB
          refine lv_iinc (k := 1) (v := nI (j + 1)) S.1 S.2.1 dX3_write_67 hl rfl (nI_1 j) (by decide) rfl (fun ls hl => ?_)
          have hl : lv_has ls 7 [(5, .int (nI (j + 1))), (6, .int t), (0, .ref h), (1, .int (nI z)), (2, .int (nI i)), (3, .int t)] := hl
          refine lv_goto (tgt := 19) S.1 S.2.1 dX3_write_70 (by decide) ?_
          exact ih19 (j + 1) (upd gg j (kp_hide dk pk (nI z) j t)) _ _ _ (by omega) (by subst_vars; rw [← hT, kp_wl]; first | rw [if_pos rfl] | rw [if_neg h_28]) (lv_sub hl [0, 2, 3, 4, 5] rfl) hB
    exact loop19 4 0 g _ _ _ (rfl) (rfl) (lv_sub hl [0, 2, 3, 4, 5] rfl) hB
  · skip
    have h_R : ¬ kp_rw dv x y = 0 := by rw [← ex_1]; exact h_10
    refine lv_iload S.1 S.2.1 dX3_write_13 (lv_at hl 0 rfl) ?_
    exact K _ _ _ _ _ _ hB (by rw [kp_x_write, if_neg h_R, ex_1]) (by rw [kp_x_write, if_neg h_R]) dX3_write_15

abbrev kr_VO_read : Room := { frames := 6, cells := 0, slots := 0, locals := 141 }
set_option maxRecDepth 100000 in
set_option maxHeartbeats 4000000 in
theorem kc_VO_read (l : Launch) (N : State → Prop) (hN : kv_Mv N) (D : va_G) (cA : ClassId) (h d w r : Nat) (σ : kp_S) (g : Nat → Int32) (dv dk pk : Int32) (x : Int32) (y : Int32) : kv_L N l yX3_read wsX3_read kr_VO_read D [(cA, .int)] [.ref h, .int x, .int y] (vo_W h d w r cA σ g dv dk pk) (kp_x_read (σ, g, dv, dk, pk) x y) (vo_W h d w r cA σ g dv dk pk) := by
  refine kv_openL (cc := cX3_read) (maxL := 4) (by decide) rfl (Nat.le_of_ble_eq_true rfl) ?_
  intro p e s m args below meth c A H locs ls Q S hl hB K
  have hl : lv_has ls 4 [(0, .ref h), (1, .int x), (2, .int y)] := hl
  refine lv_aload_n S.1 S.2.1 dX3_read_0 rfl (lv_at hl 0 rfl) ?_
  refine lv_iload_n S.1 S.2.1 dX3_read_1 rfl (lv_at hl 1 rfl) ?_
  refine lv_iload_n S.1 S.2.1 dX3_read_2 rfl (lv_at hl 2 rfl) ?_
  refine kv_vI (As := [.int x, .int y]) (rest := []) hN S (kc_VO_refusalOfWord l N hN D cA h d w r σ g dv dk pk x y  ) (kn_cV (C := RX3) S kn_199 kn_200 kn_406 kn_1 kn_201 rfl kd_X3_refusalOfWord rfl rfl ⟨Nat.le_of_ble_eq_true rfl, Nat.le_of_ble_eq_true rfl⟩) hB 0 rfl rfl rfl hl.1 rfl (Nat.le_of_ble_eq_true rfl) dX3_read_3 ⟨Nat.zero_le _, Nat.zero_le _⟩ (fun H locs hB => ?_)
  refine lv_topi (fun x_1 ex_1 => ?_)
  refine lv_istore_n S.1 S.2.1 dX3_read_6 rfl hl (by decide) rfl (fun ls hl => ?_)
  have hl : lv_has ls 4 [(3, .int x_1), (0, .ref h), (1, .int x), (2, .int y)] := hl
  refine lv_iload_n S.1 S.2.1 dX3_read_7 rfl (lv_at hl 0 rfl) ?_
  refine lv_if_eq (tgt := 14) S.1 S.2.1 dX3_read_8 (by decide) (fun h_8 => ?_) (fun h_8 => ?_)
  · skip
    have h_R : kp_rw dv x y = 0 := by rw [← ex_1]; exact h_8
    obtain ⟨z, hz, i, hi, rfl, rfl⟩ := kp_rw_k h_R
    refine lv_aload_n S.1 S.2.1 dX3_read_14 rfl (lv_at hl 1 rfl) ?_
    refine lv_iload_n S.1 S.2.1 dX3_read_15 rfl (lv_at hl 2 rfl) ?_
    refine lv_iload_n S.1 S.2.1 dX3_read_16 rfl (lv_at hl 3 rfl) ?_
    refine kv_vI (As := [.int (nI z), .int (nI i)]) (rest := []) hN S (kc_VO_plainWord l N hN D cA h d w r σ g dv dk pk z i  (by omega) (by omega)) (kn_cV (C := RX3) S kn_202 kn_203 kn_407 kn_1 kn_204 rfl kd_X3_plainWord rfl rfl ⟨Nat.le_of_ble_eq_true rfl, Nat.le_of_ble_eq_true rfl⟩) hB 0 rfl rfl rfl hl.1 rfl (Nat.le_of_ble_eq_true rfl) dX3_read_17 ⟨Nat.zero_le _, Nat.zero_le _⟩ (fun H locs hB => ?_)
    refine lv_i2l (v := (kp_show dk pk (nI z) i (σ.1 (48 + 4 * z + i))).toInt64) S.1 S.2.1 dX3_read_20 rfl ?_
    refine lv_ldc2 (v := 4294967295) S.1 S.2.1 S.2.2.2.1 (S.2.2.2.2 _ (List.mem_cons_of_mem _ kn_213)) dX3_read_21 ?_
    refine lv_land S.1 S.2.1 dX3_read_24 ?_
    exact K _ _ _ _ _ _ hB (by rw [kp_x_read, if_pos h_R, nI_clamp (by omega), nI_clamp (by omega)]) (rfl) dX3_read_25
  · skip
    have h_R : ¬ kp_rw dv x y = 0 := by rw [← ex_1]; exact h_8
    refine lv_iload_n S.1 S.2.1 dX3_read_11 rfl (lv_at hl 0 rfl) ?_
    refine lv_i2l (v := x_1.toInt64) S.1 S.2.1 dX3_read_12 rfl ?_
    exact K _ _ _ _ _ _ hB (by rw [kp_x_read, if_neg h_R, ex_1]) (rfl) dX3_read_13

abbrev kr_VO_state : Room := { frames := 0, cells := 0, slots := 0, locals := 0 }
set_option maxRecDepth 100000 in
set_option maxHeartbeats 4000000 in
theorem kc_VO_state (l : Launch) (N : State → Prop) (hN : kv_Mv N) (D : va_G) (cA : ClassId) (h d w r : Nat) (σ : kp_S) (g : Nat → Int32) (dv dk pk : Int32) : kv_I N l yX3_state wsX3_state kr_VO_state D [(cA, .int)] [.ref h] (vo_W h d w r cA σ g dv dk pk) dv (vo_W h d w r cA σ g dv dk pk) := by
  refine kv_openI (cc := cX3_state) (maxL := 1) (rt := .int) (by decide) rfl (rfl) (Nat.le_of_ble_eq_true rfl) ?_
  intro p e s m args below meth c A H locs ls Q S hl hB K
  have hl : lv_has ls 1 [(0, .ref h)] := hl
  refine lv_aload_n S.1 S.2.1 dX3_state_0 rfl (lv_at hl 0 rfl) ?_
  refine kv_get (C := RX3) (T := TX3) (M := 5) (ci := 1) S hB (kn_c kn_iX3) 0 rfl rfl 2 (by decide) (List.mem_cons_of_mem _ kn_31) rfl rfl dX3_state_1 ?_
  exact K _ _ _ _ _ _ hB (rfl) (rfl) dX3_state_4

abbrev kr_VO_peek : Room := { frames := 1, cells := 0, slots := 0, locals := 21 }
set_option maxRecDepth 100000 in
set_option maxHeartbeats 4000000 in
theorem kc_VO_peek (l : Launch) (N : State → Prop) (hN : kv_Mv N) (D : va_G) (cA : ClassId) (h d w r : Nat) (σ : kp_S) (g : Nat → Int32) (dv dk pk : Int32) (x : Int32) : kv_I N l yX3_peek wsX3_peek kr_VO_peek D [(cA, .int)] [.ref h, .int x] (vo_W h d w r cA σ g dv dk pk) (kp_at σ.1 x) (vo_W h d w r cA σ g dv dk pk) := by
  refine kv_openI (cc := cX3_peek) (maxL := 2) (rt := .int) (by decide) rfl (rfl) (Nat.le_of_ble_eq_true rfl) ?_
  intro p e s m args below meth c A H locs ls Q S hl hB K
  have hl : lv_has ls 2 [(0, .ref h), (1, .int x)] := hl
  refine lv_aload_n S.1 S.2.1 dX3_peek_0 rfl (lv_at hl 0 rfl) ?_
  refine kv_get (C := RX3) (T := TX3) (M := 5) (ci := 1) S hB (kn_c kn_iX3) 0 rfl rfl 0 (by decide) (List.mem_cons_of_mem _ kn_29) rfl rfl dX3_peek_1 ?_
  refine lv_iload_n S.1 S.2.1 dX3_peek_4 rfl (lv_at hl 1 rfl) ?_
  refine kv_vI (As := [.int x]) (rest := []) hN S (kc_DI_wordAt l N hN D cA h d w r σ g dv dk pk x  ) (kn_cV (C := RX1) S kn_114 kn_115 kn_116 kn_2 kn_117 rfl kd_X1_wordAt rfl rfl ⟨Nat.le_of_ble_eq_true rfl, Nat.le_of_ble_eq_true rfl⟩) hB 1 rfl rfl rfl hl.1 rfl (Nat.le_of_ble_eq_true rfl) dX3_peek_5 ⟨Nat.zero_le _, Nat.zero_le _⟩ (fun H locs hB => ?_)
  exact K _ _ _ _ _ _ hB (rfl) (rfl) dX3_peek_8

abbrev kr_VO_cut : Room := { frames := 0, cells := 0, slots := 0, locals := 0 }
set_option maxRecDepth 100000 in
set_option maxHeartbeats 4000000 in
theorem kc_VO_cut (l : Launch) (D : va_G) (cA : ClassId) (h d w r : Nat) (σ : kp_S) (g : Nat → Int32) (dv dk pk : Int32) (x : Int32) : kv_I kv_N l yX3_cut wsX3_cut kr_VO_cut D [(cA, .int)] [.ref h, .int x] (vo_W h d w r cA σ g dv dk pk) ((kp_x_cut (σ, g, dv, dk, pk) x).1) (vo_T h d w r cA (kp_x_cut (σ, g, dv, dk, pk) x).2) := by
  refine kv_openI (cc := cX3_cut) (maxL := 2) (rt := .boolean) (by decide) rfl (kp_x_cut_z _ _) (Nat.le_of_ble_eq_true rfl) ?_
  intro p e s m args below meth c A H locs ls Q S hl hB K
  have hl : lv_has ls 2 [(0, .ref h), (1, .int x)] := hl
  refine lv_iload_n S.1 S.2.1 dX3_cut_0 rfl (lv_at hl 1 rfl) ?_
  refine lv_iconst (v := (-1)) S.1 S.2.1 dX3_cut_1 (by decide) ?_
  refine lv_icmp_ge (tgt := 7) S.1 S.2.1 dX3_cut_2 (by decide) (fun h_2 => ?_) (fun h_2 => ?_)
  · skip
    refine lv_aload_n S.1 S.2.1 dX3_cut_7 rfl (lv_at hl 0 rfl) ?_
    refine kv_get (C := RX3) (T := TX3) (M := 5) (ci := 1) S hB (kn_c kn_iX3) 0 rfl rfl 0 (by decide) (List.mem_cons_of_mem _ kn_29) rfl rfl dX3_cut_8 ?_
    refine lv_iload_n S.1 S.2.1 dX3_cut_11 rfl (lv_at hl 1 rfl) ?_
    refine kv_putn (C := RX1) (T := TX1) (M := 3) (ci := 0) (v := x) S hB (kn_c kn_iX1) tyX1 tyX1_ok nmX1 1 rfl rfl 2 (by decide) hB.2.2.2.2.2.1 rfl rfl rfl (Nat.le_of_ble_eq_true rfl) dX3_cut_12 (fun H locs hB => ?_)
    have hB : kv_B kv_N D [(cA, .int)] A s (vo_W h d w r cA (σ.1, σ.2.1, x) g dv dk pk) H locs := hB
    refine lv_iconst (v := 1) S.1 S.2.1 dX3_cut_15 (by decide) ?_
    exact K _ _ _ _ _ _ hB (by rw [kp_x_cut, if_pos h_2]) (by rw [kp_x_cut, if_pos h_2]) dX3_cut_16
  · skip
    refine lv_iconst (v := 0) S.1 S.2.1 dX3_cut_5 (by decide) ?_
    exact K _ _ _ _ _ _ hB (by rw [kp_x_cut, if_neg h_2]) (by rw [kp_x_cut, if_neg h_2]) dX3_cut_6

abbrev kr_VO_writes : Room := { frames := 0, cells := 0, slots := 0, locals := 0 }
set_option maxRecDepth 100000 in
set_option maxHeartbeats 4000000 in
theorem kc_VO_writes (l : Launch) (D : va_G) (cA : ClassId) (h d w r : Nat) (σ : kp_S) (g : Nat → Int32) (dv dk pk : Int32) : kv_I kv_N l yX3_writes wsX3_writes kr_VO_writes D [(cA, .int)] [.ref h] (vo_W h d w r cA σ g dv dk pk) σ.2.1 (vo_W h d w r cA σ g dv dk pk) := by
  refine kv_openI (cc := cX3_writes) (maxL := 1) (rt := .int) (by decide) rfl (rfl) (Nat.le_of_ble_eq_true rfl) ?_
  intro p e s m args below meth c A H locs ls Q S hl hB K
  have hl : lv_has ls 1 [(0, .ref h)] := hl
  refine lv_aload_n S.1 S.2.1 dX3_writes_0 rfl (lv_at hl 0 rfl) ?_
  refine kv_get (C := RX3) (T := TX3) (M := 5) (ci := 1) S hB (kn_c kn_iX3) 0 rfl rfl 0 (by decide) (List.mem_cons_of_mem _ kn_29) rfl rfl dX3_writes_1 ?_
  refine kv_getn (C := RX1) (T := TX1) (M := 3) (ci := 0) S hB (kn_c kn_iX1) 1 rfl rfl 1 (by decide) hB.2.2.2.2.2.2 rfl rfl dX3_writes_4 ?_
  exact K _ _ _ _ _ _ hB (rfl) (rfl) dX3_writes_7
