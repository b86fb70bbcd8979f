abbrev kr_AR_fill : Room := { frames := 0, cells := 0, slots := 0, locals := 0 }
set_option maxRecDepth 100000 in
set_option maxHeartbeats 4000000 in
theorem kc_AR_fill (l : Launch) (N : State → Prop) (hN : kv_Mv N) (D : va_G) (cA : ClassId) (h d w r : Nat) (σ : kp_S) (g : Nat → Int32) (dv dk pk : Int32) (x : Int32) : kv_V N l yJ7_fill wsJ7_fill kr_AR_fill D [(cA, .int)] [.ref r, .int x] (vo_W h d w r cA σ g dv dk pk)  (vo_W h d w r cA σ (fun _ => x) dv dk pk) := by
  refine kv_openV (cc := cJ7_fill) (maxL := 4) (by decide) rfl (Nat.le_of_ble_eq_true rfl) ?_
  intro p e s m args below meth c A H locs ls Q S hl hB K
  have hl : lv_has ls 4 [(0, .ref r), (1, .int x)] := hl
  refine lv_iconst (v := 0) S.1 S.2.1 dJ7_fill_0 (by decide) ?_
  refine lv_istore_n S.1 S.2.1 dJ7_fill_1 rfl hl (by decide) rfl (fun ls hl => ?_)
  have hl : lv_has ls 4 [(2, .int 0), (0, .ref r), (1, .int x)] := hl
  refine lv_aload_n S.1 S.2.1 dJ7_fill_2 rfl (lv_at hl 1 rfl) ?_
  refine kv_alen S hB 3 0 rfl rfl dJ7_fill_3 ?_
  refine lv_istore_n S.1 S.2.1 dJ7_fill_4 rfl hl (by decide) rfl (fun ls hl => ?_)
  have hl : lv_has ls 4 [(3, .int 80), (2, .int 0), (0, .ref r), (1, .int x)] := hl
  have loop5 : ∀ (n : Nat) (j : Nat) (gg : Nat → Int32) (H : Heap) (locs : List Loc) (ls : Array Slot), (j + n = 80) → (∀ i, i < j → gg i = x) → lv_has ls 4 [(2, .int (nI j)), (3, .int 80), (0, .ref r), (1, .int x)] → kv_B N D [(cA, .int)] A s (vo_W h d w r cA σ gg dv dk pk) H locs → W p l e kr_AR_fill s m args below meth c H locs 0 0 Q (F0 m 5 ls []) := by
    intro n
    induction n with
    | zero =>
      intro j gg H locs ls hj hG hl hB
      refine lv_iload_n S.1 S.2.1 dJ7_fill_5 rfl (lv_at hl 0 rfl) ?_
      refine lv_iload_n S.1 S.2.1 dJ7_fill_6 rfl (lv_at hl 1 rfl) ?_
      refine kv_bge (x := j) (y := 80) (tgt := 20) S (by omega) (by omega) dJ7_fill_7 (by decide) (fun h_7 => ?_) (fun h => absurd h (by omega))
      have hB := kv_arr 3 rfl (fun _ => x) (fun i hi => hG i (by omega)) hB
      exact K _ _ _ _ _ hB (rfl) dJ7_fill_20
    | succ n ih5 =>
      intro j gg H locs ls hj hG hl hB
      refine lv_iload_n S.1 S.2.1 dJ7_fill_5 rfl (lv_at hl 0 rfl) ?_
      refine lv_iload_n S.1 S.2.1 dJ7_fill_6 rfl (lv_at hl 1 rfl) ?_
      refine kv_bge (x := j) (y := 80) (tgt := 20) S (by omega) (by omega) dJ7_fill_7 (by decide) (fun h => absurd h (by omega)) (fun h_7 => ?_)
      refine lv_aload_n S.1 S.2.1 dJ7_fill_10 rfl (lv_at hl 2 rfl) ?_
      refine lv_iload_n S.1 S.2.1 dJ7_fill_11 rfl (lv_at hl 0 rfl) ?_
      refine lv_iload_n S.1 S.2.1 dJ7_fill_12 rfl (lv_at hl 3 rfl) ?_
      refine kv_iast S hB 3 0 rfl rfl j rfl (by omega) (by decide) dJ7_fill_13 (fun H locs hB => ?_)
      have hB : kv_B N D [(cA, .int)] A s (vo_W h d w r cA σ (upd gg j x) dv dk pk) H locs := hB
      refine lv_iinc (k := 0) (v := nI (j + 1)) S.1 S.2.1 dJ7_fill_14 hl rfl (nI_1 j) (by decide) rfl (fun ls hl => ?_)
      have hl : lv_has ls 4 [(2, .int (nI (j + 1))), (3, .int 80), (0, .ref r), (1, .int x)] := hl
      refine lv_goto (tgt := 5) S.1 S.2.1 dJ7_fill_17 (by decide) ?_
      exact ih5 (j + 1) (upd gg j x) _ _ _ (by omega) (fun i hi => by by_cases q : i = j <;> first | (subst q; exact pk_us) | (rw [pk_un q]; exact hG i (by omega))) (lv_sub hl [0, 1, 2, 3] rfl) hB
  exact loop5 80 0 g _ _ _ (rfl) (fun i hi => absurd hi (Nat.not_lt_zero i)) (lv_sub hl [1, 0, 2, 3] rfl) hB

abbrev kr_IN_bitCount : Room := { frames := 0, cells := 0, slots := 0, locals := 0 }
set_option maxRecDepth 100000 in
set_option maxHeartbeats 4000000 in
theorem kc_IN_bitCount (l : Launch) (D : va_G) (x : Int32) : kv_I (fun _ => True) l yJ6_bitCount wsJ6_bitCount kr_IN_bitCount D [] [.int x] [] (kp_bc x) [] := by
  refine kv_openI (cc := cJ6_bitCount) (maxL := 1) (rt := .int) (by decide) rfl (rfl) (Nat.le_of_ble_eq_true rfl) ?_
  intro p e s m args below meth c A H locs ls Q S hl hB K
  have hl : lv_has ls 1 [(0, .int x)] := hl
  refine lv_iload_n S.1 S.2.1 dJ6_bitCount_0 rfl (lv_at hl 0 rfl) ?_
  refine lv_iload_n S.1 S.2.1 dJ6_bitCount_1 rfl (lv_at hl 0 rfl) ?_
  refine lv_iconst (v := 1) S.1 S.2.1 dJ6_bitCount_2 (by decide) ?_
  refine lv_iushr (v := kv_us x 1) S.1 S.2.1 dJ6_bitCount_3 rfl ?_
  refine lv_ldcw (v := 1431655765) S.1 S.2.1 S.2.2.2.1 (S.2.2.2.2 _ (List.mem_cons_of_mem _ kn_143)) dJ6_bitCount_4 ?_
  refine lv_iand S.1 S.2.1 dJ6_bitCount_7 ?_
  refine lv_isub S.1 S.2.1 dJ6_bitCount_8 ?_
  refine lv_topi (fun x_1 ex_1 => ?_)
  refine lv_istore_n S.1 S.2.1 dJ6_bitCount_9 rfl hl (by decide) rfl (fun ls hl => ?_)
  have hl : lv_has ls 1 [(0, .int x_1)] := hl
  refine lv_iload_n S.1 S.2.1 dJ6_bitCount_10 rfl (lv_at hl 0 rfl) ?_
  refine lv_ldcw (v := 858993459) S.1 S.2.1 S.2.2.2.1 (S.2.2.2.2 _ (List.mem_cons_of_mem _ kn_144)) dJ6_bitCount_11 ?_
  refine lv_iand S.1 S.2.1 dJ6_bitCount_14 ?_
  refine lv_iload_n S.1 S.2.1 dJ6_bitCount_15 rfl (lv_at hl 0 rfl) ?_
  refine lv_iconst (v := 2) S.1 S.2.1 dJ6_bitCount_16 (by decide) ?_
  refine lv_iushr (v := kv_us x_1 2) S.1 S.2.1 dJ6_bitCount_17 rfl ?_
  refine lv_ldcw (v := 858993459) S.1 S.2.1 S.2.2.2.1 (S.2.2.2.2 _ (List.mem_cons_of_mem _ kn_144)) dJ6_bitCount_18 ?_
  refine lv_iand S.1 S.2.1 dJ6_bitCount_21 ?_
  refine lv_iadd S.1 S.2.1 dJ6_bitCount_22 ?_
  refine lv_topi (fun x_2 ex_2 => ?_)
  refine lv_istore_n S.1 S.2.1 dJ6_bitCount_23 rfl hl (by decide) rfl (fun ls hl => ?_)
  have hl : lv_has ls 1 [(0, .int x_2)] := hl
  refine lv_iload_n S.1 S.2.1 dJ6_bitCount_24 rfl (lv_at hl 0 rfl) ?_
  refine lv_iload_n S.1 S.2.1 dJ6_bitCount_25 rfl (lv_at hl 0 rfl) ?_
  refine lv_iconst (v := 4) S.1 S.2.1 dJ6_bitCount_26 (by decide) ?_
  refine lv_iushr (v := kv_us x_2 4) S.1 S.2.1 dJ6_bitCount_27 rfl ?_
  refine lv_iadd S.1 S.2.1 dJ6_bitCount_28 ?_
  refine lv_ldcw (v := 252645135) S.1 S.2.1 S.2.2.2.1 (S.2.2.2.2 _ (List.mem_cons_of_mem _ kn_145)) dJ6_bitCount_29 ?_
  refine lv_iand S.1 S.2.1 dJ6_bitCount_32 ?_
  refine lv_topi (fun x_3 ex_3 => ?_)
  refine lv_istore_n S.1 S.2.1 dJ6_bitCount_33 rfl hl (by decide) rfl (fun ls hl => ?_)
  have hl : lv_has ls 1 [(0, .int x_3)] := hl
  refine lv_iload_n S.1 S.2.1 dJ6_bitCount_34 rfl (lv_at hl 0 rfl) ?_
  refine lv_iload_n S.1 S.2.1 dJ6_bitCount_35 rfl (lv_at hl 0 rfl) ?_
  refine lv_bipush (v := 8) S.1 S.2.1 dJ6_bitCount_36 (by decide) ?_
  refine lv_iushr (v := kv_us x_3 8) S.1 S.2.1 dJ6_bitCount_38 rfl ?_
  refine lv_iadd S.1 S.2.1 dJ6_bitCount_39 ?_
  refine lv_topi (fun x_4 ex_4 => ?_)
  refine lv_istore_n S.1 S.2.1 dJ6_bitCount_40 rfl hl (by decide) rfl (fun ls hl => ?_)
  have hl : lv_has ls 1 [(0, .int x_4)] := hl
  refine lv_iload_n S.1 S.2.1 dJ6_bitCount_41 rfl (lv_at hl 0 rfl) ?_
  refine lv_iload_n S.1 S.2.1 dJ6_bitCount_42 rfl (lv_at hl 0 rfl) ?_
  refine lv_bipush (v := 16) S.1 S.2.1 dJ6_bitCount_43 (by decide) ?_
  refine lv_iushr (v := kv_us x_4 16) S.1 S.2.1 dJ6_bitCount_45 rfl ?_
  refine lv_iadd S.1 S.2.1 dJ6_bitCount_46 ?_
  refine lv_topi (fun x_5 ex_5 => ?_)
  refine lv_istore_n S.1 S.2.1 dJ6_bitCount_47 rfl hl (by decide) rfl (fun ls hl => ?_)
  have hl : lv_has ls 1 [(0, .int x_5)] := hl
  refine lv_iload_n S.1 S.2.1 dJ6_bitCount_48 rfl (lv_at hl 0 rfl) ?_
  refine lv_bipush (v := 63) S.1 S.2.1 dJ6_bitCount_49 (by decide) ?_
  refine lv_iand S.1 S.2.1 dJ6_bitCount_51 ?_
  exact K _ _ _ _ _ _ hB (by subst_vars; rfl) (rfl) dJ6_bitCount_52
