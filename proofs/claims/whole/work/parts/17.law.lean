set_option maxRecDepth 100000 in
set_option maxHeartbeats 16000000 in
theorem kl_loop {p : Program} {e : Env} {s : State} {m : MethodId} {below : List Frame} {meth : Method} {c : Code} (l : Launch) {b L : Nat} {xs : Nat → Int32} (hL : L ≤ 2560) (S : CallFix p m c code 4 s #[Value.ref b] (Cond.initialized RL :: kn_T) RL) (hr : meth.sig.returnType = ret) (hlocks : meth.locks = false) (hX : va_X b L xs s s.heap) (hbl : b < s.heap.size) (D : va_G) (cA : ClassId) (h d w r o a1 a2 a3 a4 a5 a6 : Nat) (A : Nat → Prop) (hA : A = fun q => s.heap.size ≤ q) : ∀ (n i : Nat) (v : kp_V) (u : kp_U) (H : Heap) (locs : List Loc) (ls : Array Slot), L < i + n → i ≤ L → kp_Re v u → lv_has ls 4 [(3, .int (nI i)), (2, .ref o), (1, .ref h), (0, .ref b)] → kv_B kv_N D [(cA, .int)] A s (vo_T h d w r cA v ++ mo_T o a1 a2 a3 a4 a5 a6 cA u) H locs → W p l e room_1 s m #[Value.ref b] below meth c H locs 11 556 (lw_Z below #[Value.ref b] s) (F0 m 18 ls []) := by
  have hbA : ¬ A b := by rw [hA]; exact Nat.not_le.mpr hbl
  intro n
  induction n with
  | zero =>
    intro i v u H locs ls hn hi hR hl hB
    omega
  | succ n ih =>
    intro i v u H locs ls hn hi hR hl hB
    refine lv_iload_n S.1 S.2.1 dL_law_18 rfl (lv_at hl 0 rfl) ?_
    refine lv_aload_n S.1 S.2.1 dL_law_19 rfl (lv_at hl 3 rfl) ?_
    refine kv_slen S hX hbl hbA hB dL_law_20 ?_
    refine lv_iconst (v := 5) S.1 S.2.1 dL_law_21 (by decide) ?_
    refine lv_isub S.1 S.2.1 dL_law_22 ?_
    refine lv_icmp_gt (tgt := 473) S.1 S.2.1 dL_law_23 (by decide) (fun _ => ?_) (fun h23 => ?_)
    · refine lv_iconst (v := 1) S.1 S.2.1 dL_law_473 (by decide) ?_
      refine va_forget (fun q hq => by have z := hB.2.2.2.1.2.2 q hq; rw [hA] at z; exact z) ?_
      refine W.widen (k := 11) (n := 556) (Nat.le_of_ble_eq_true rfl) (Nat.le_of_ble_eq_true rfl) ?_
      exact lw_ret S.1 S.2.1 hr hlocks dL_law_474
    · have h5 : i + 5 ≤ L := kv_l5 (by omega) (by omega) h23
      have kback : ∀ (v : kp_V) (u : kp_U) (H : Heap) (locs : List Loc) (ls : Array Slot), kp_Re v u → lv_has ls 4 [(3, .int (nI i)), (2, .ref o), (1, .ref h), (0, .ref b)] → kv_B kv_N D [(cA, .int)] A s (vo_T h d w r cA v ++ mo_T o a1 a2 a3 a4 a5 a6 cA u) H locs → W p l e room_1 s m #[Value.ref b] below meth c H locs 11 556 (lw_Z below #[Value.ref b] s) (F0 m 467 ls []) := by
        intro v u H locs ls hR hl hB
        refine lv_iinc (k := 0) (v := nI (i + 5)) S.1 S.2.1 dL_law_467 hl rfl (nI_add i 5) (by decide) rfl (fun ls hl => ?_)
        refine lv_goto (tgt := 18) S.1 S.2.1 dL_law_470 (by decide) ?_
        exact ih (i + 5) v u H locs ls (by omega) (by omega) hR hl hB
      refine lv_aload_n S.1 S.2.1 dL_law_26 rfl (lv_at hl 3 rfl) ?_
      refine lv_iload_n S.1 S.2.1 dL_law_27 rfl (lv_at hl 0 rfl) ?_
      refine kv_sld S hX hbl hbA hB i (by omega) (by omega) dL_law_28 ?_
      refine lv_bipush (v := 15) S.1 S.2.1 dL_law_29 (by decide) ?_
      refine lv_iand S.1 S.2.1 dL_law_31 ?_
      obtain ⟨j, hj, ej⟩ := pk_andE (xs i) (m := 15) 4 (by decide)
      refine kv_top ej ?_
      rcases (show j = 0 ∨ j = 1 ∨ j = 2 ∨ j = 3 ∨ j = 4 ∨ j = 5 ∨ j = 6 ∨ j = 7 ∨ j = 8 ∨ j = 9 ∨ j = 10 ∨ j = 11 ∨ j = 12 ∨ j = 13 ∨ j = 14 ∨ j = 15 by omega) with rfl | rfl | rfl | rfl | rfl | rfl | rfl | rfl | rfl | rfl | rfl | rfl | rfl | rfl | rfl | rfl
      · refine lv_tableIn (tgt := 104) S.1 S.2.1 dL_law_32 (by decide) (by decide) rfl (by decide) ?_
        refine lv_aload_n S.1 S.2.1 dL_law_104 rfl (lv_at hl 2 rfl) ?_
        refine lv_aload_n S.1 S.2.1 dL_law_105 rfl (lv_at hl 3 rfl) ?_
        refine lv_iload_n S.1 S.2.1 dL_law_106 rfl (lv_at hl 0 rfl) ?_
        refine lv_iconst (v := 1) S.1 S.2.1 dL_law_107 (by decide) ?_
        refine lv_iadd S.1 S.2.1 dL_law_108 ?_
        refine kv_top (y := nI (i + 1)) (nI_add i 1) ?_
        refine kv_sld S hX hbl hbA hB (i + 1) (by omega) (by omega) dL_law_109 ?_
        refine kv_gI (As := [.int (xs (i + 1))]) (rest := []) (wr := mo_T o a1 a2 a3 a4 a5 a6 cA u) kv_NM S (kc_VO_cut l D cA h d w r v.1 v.2.1 v.2.2.1 v.2.2.2.1 v.2.2.2.2 (xs (i + 1))) (kn_cV (C := RX3) S kn_39 kn_40 kn_41 kn_1 kn_42 rfl kd_X3_cut rfl rfl ⟨Nat.le_of_ble_eq_true rfl, Nat.le_of_ble_eq_true rfl⟩) hB [0, 1, 2, 3] [4, 5, 6, 7, 8, 9, 10] rfl rfl (by decide) (by decide) (by decide) 0 rfl rfl rfl hl.1 rfl (Nat.le_of_ble_eq_true rfl) dL_law_110 ⟨Nat.le_of_ble_eq_true rfl, Nat.le_of_ble_eq_true rfl⟩ (fun H locs hB => ?_)
        have hB : kv_B kv_N D [(cA, .int)] A s (mo_T o a1 a2 a3 a4 a5 a6 cA u ++ vo_T h d w r cA ((kp_x_cut v (xs (i + 1))).2)) H locs := hB
        refine lv_aload_n S.1 S.2.1 dL_law_113 rfl (lv_at hl 1 rfl) ?_
        refine lv_aload_n S.1 S.2.1 dL_law_114 rfl (lv_at hl 3 rfl) ?_
        refine lv_iload_n S.1 S.2.1 dL_law_115 rfl (lv_at hl 0 rfl) ?_
        refine lv_iconst (v := 1) S.1 S.2.1 dL_law_116 (by decide) ?_
        refine lv_iadd S.1 S.2.1 dL_law_117 ?_
        refine kv_top (y := nI (i + 1)) (nI_add i 1) ?_
        refine kv_sld S hX hbl hbA hB (i + 1) (by omega) (by omega) dL_law_118 ?_
        refine kv_gI (As := [.int (xs (i + 1))]) (rest := [.int ((kp_x_cut v (xs (i + 1))).1)]) (wr := vo_T h d w r cA ((kp_x_cut v (xs (i + 1))).2)) kv_NM S (kc_MO_cut l kv_N kv_NM D cA o a1 a2 a3 a4 a5 a6 u.1 u.2.1 u.2.2.1 u.2.2.2.1 u.2.2.2.2.1 u.2.2.2.2.2.1 u.2.2.2.2.2.2.1 u.2.2.2.2.2.2.2.1 u.2.2.2.2.2.2.2.2 (xs (i + 1)) ) (kn_cV (C := RX4) S kn_261 kn_262 kn_263 kn_3 kn_264 rfl kd_X4_cut rfl rfl ⟨Nat.le_of_ble_eq_true rfl, Nat.le_of_ble_eq_true rfl⟩) hB [0, 1, 2, 3, 4, 5, 6] [7, 8, 9, 10] rfl rfl (by decide) (by decide) (by decide) 0 rfl rfl rfl hl.1 rfl (Nat.le_of_ble_eq_true rfl) dL_law_119 ⟨Nat.le_of_ble_eq_true rfl, Nat.le_of_ble_eq_true rfl⟩ (fun H locs hB => ?_)
        have hB : kv_B kv_N D [(cA, .int)] A s (vo_T h d w r cA ((kp_x_cut v (xs (i + 1))).2) ++ mo_T o a1 a2 a3 a4 a5 a6 cA ((kp_y_cut u (xs (i + 1))).2)) H locs := hB
        refine lv_icmp_eq (tgt := 467) S.1 S.2.1 dL_law_122 (by decide) (fun _ => ?_) (fun qq => absurd (kp_Re_cut hR (xs (i + 1))).1 qq)
        exact kback _ _ _ _ _ (kp_Re_cut hR (xs (i + 1))).2 (lv_sub hl [0, 1, 2, 3] rfl) hB
      · refine lv_tableIn (tgt := 127) S.1 S.2.1 dL_law_32 (by decide) (by decide) rfl (by decide) ?_
        refine lv_aload_n S.1 S.2.1 dL_law_127 rfl (lv_at hl 2 rfl) ?_
        refine lv_aload_n S.1 S.2.1 dL_law_128 rfl (lv_at hl 3 rfl) ?_
        refine lv_iload_n S.1 S.2.1 dL_law_129 rfl (lv_at hl 0 rfl) ?_
        refine lv_iconst (v := 1) S.1 S.2.1 dL_law_130 (by decide) ?_
        refine lv_iadd S.1 S.2.1 dL_law_131 ?_
        refine kv_top (y := nI (i + 1)) (nI_add i 1) ?_
        refine kv_sld S hX hbl hbA hB (i + 1) (by omega) (by omega) dL_law_132 ?_
        refine lv_aload_n S.1 S.2.1 dL_law_133 rfl (lv_at hl 3 rfl) ?_
        refine lv_iload_n S.1 S.2.1 dL_law_134 rfl (lv_at hl 0 rfl) ?_
        refine lv_iconst (v := 2) S.1 S.2.1 dL_law_135 (by decide) ?_
        refine lv_iadd S.1 S.2.1 dL_law_136 ?_
        refine kv_top (y := nI (i + 2)) (nI_add i 2) ?_
        refine kv_sld S hX hbl hbA hB (i + 2) (by omega) (by omega) dL_law_137 ?_
        refine lv_aload_n S.1 S.2.1 dL_law_138 rfl (lv_at hl 3 rfl) ?_
        refine lv_iload_n S.1 S.2.1 dL_law_139 rfl (lv_at hl 0 rfl) ?_
        refine lv_iconst (v := 3) S.1 S.2.1 dL_law_140 (by decide) ?_
        refine lv_iadd S.1 S.2.1 dL_law_141 ?_
        refine kv_top (y := nI (i + 3)) (nI_add i 3) ?_
        refine kv_sld S hX hbl hbA hB (i + 3) (by omega) (by omega) dL_law_142 ?_
        refine lv_aload_n S.1 S.2.1 dL_law_143 rfl (lv_at hl 3 rfl) ?_
        refine lv_iload_n S.1 S.2.1 dL_law_144 rfl (lv_at hl 0 rfl) ?_
        refine lv_iconst (v := 4) S.1 S.2.1 dL_law_145 (by decide) ?_
        refine lv_iadd S.1 S.2.1 dL_law_146 ?_
        refine kv_top (y := nI (i + 4)) (nI_add i 4) ?_
        refine kv_sld S hX hbl hbA hB (i + 4) (by omega) (by omega) dL_law_147 ?_
        refine kv_gI (As := [.int (xs (i + 1)), .int (xs (i + 2)), .int (xs (i + 3)), .int (xs (i + 4))]) (rest := []) (wr := mo_T o a1 a2 a3 a4 a5 a6 cA u) kv_NM S (kc_VO_format l kv_N kv_NM D cA h d w r v.1 v.2.1 v.2.2.1 v.2.2.2.1 v.2.2.2.2 (xs (i + 1)) (xs (i + 2)) (xs (i + 3)) (xs (i + 4)) ) (kn_cV (C := RX3) S kn_43 kn_44 kn_45 kn_1 kn_46 rfl kd_X3_format rfl rfl ⟨Nat.le_of_ble_eq_true rfl, Nat.le_of_ble_eq_true rfl⟩) hB [0, 1, 2, 3] [4, 5, 6, 7, 8, 9, 10] rfl rfl (by decide) (by decide) (by decide) 0 rfl rfl rfl hl.1 rfl (Nat.le_of_ble_eq_true rfl) dL_law_148 ⟨Nat.le_of_ble_eq_true rfl, Nat.le_of_ble_eq_true rfl⟩ (fun H locs hB => ?_)
        have hB : kv_B kv_N D [(cA, .int)] A s (mo_T o a1 a2 a3 a4 a5 a6 cA u ++ vo_T h d w r cA ((kp_x_format v (xs (i + 1)) (xs (i + 2)) (xs (i + 3)) (xs (i + 4))).2)) H locs := hB
        refine lv_aload_n S.1 S.2.1 dL_law_151 rfl (lv_at hl 1 rfl) ?_
        refine lv_aload_n S.1 S.2.1 dL_law_152 rfl (lv_at hl 3 rfl) ?_
        refine lv_iload_n S.1 S.2.1 dL_law_153 rfl (lv_at hl 0 rfl) ?_
        refine lv_iconst (v := 1) S.1 S.2.1 dL_law_154 (by decide) ?_
        refine lv_iadd S.1 S.2.1 dL_law_155 ?_
        refine kv_top (y := nI (i + 1)) (nI_add i 1) ?_
        refine kv_sld S hX hbl hbA hB (i + 1) (by omega) (by omega) dL_law_156 ?_
        refine lv_aload_n S.1 S.2.1 dL_law_157 rfl (lv_at hl 3 rfl) ?_
        refine lv_iload_n S.1 S.2.1 dL_law_158 rfl (lv_at hl 0 rfl) ?_
        refine lv_iconst (v := 2) S.1 S.2.1 dL_law_159 (by decide) ?_
        refine lv_iadd S.1 S.2.1 dL_law_160 ?_
        refine kv_top (y := nI (i + 2)) (nI_add i 2) ?_
        refine kv_sld S hX hbl hbA hB (i + 2) (by omega) (by omega) dL_law_161 ?_
        refine lv_aload_n S.1 S.2.1 dL_law_162 rfl (lv_at hl 3 rfl) ?_
        refine lv_iload_n S.1 S.2.1 dL_law_163 rfl (lv_at hl 0 rfl) ?_
        refine lv_iconst (v := 3) S.1 S.2.1 dL_law_164 (by decide) ?_
        refine lv_iadd S.1 S.2.1 dL_law_165 ?_
        refine kv_top (y := nI (i + 3)) (nI_add i 3) ?_
        refine kv_sld S hX hbl hbA hB (i + 3) (by omega) (by omega) dL_law_166 ?_
        refine lv_aload_n S.1 S.2.1 dL_law_167 rfl (lv_at hl 3 rfl) ?_
        refine lv_iload_n S.1 S.2.1 dL_law_168 rfl (lv_at hl 0 rfl) ?_
        refine lv_iconst (v := 4) S.1 S.2.1 dL_law_169 (by decide) ?_
        refine lv_iadd S.1 S.2.1 dL_law_170 ?_
        refine kv_top (y := nI (i + 4)) (nI_add i 4) ?_
        refine kv_sld S hX hbl hbA hB (i + 4) (by omega) (by omega) dL_law_171 ?_
        refine kv_gI (As := [.int (xs (i + 1)), .int (xs (i + 2)), .int (xs (i + 3)), .int (xs (i + 4))]) (rest := [.int ((kp_x_format v (xs (i + 1)) (xs (i + 2)) (xs (i + 3)) (xs (i + 4))).1)]) (wr := vo_T h d w r cA ((kp_x_format v (xs (i + 1)) (xs (i + 2)) (xs (i + 3)) (xs (i + 4))).2)) kv_NM S (kc_MO_format l kv_N kv_NM D cA o a1 a2 a3 a4 a5 a6 u.1 u.2.1 u.2.2.1 u.2.2.2.1 u.2.2.2.2.1 u.2.2.2.2.2.1 u.2.2.2.2.2.2.1 u.2.2.2.2.2.2.2.1 u.2.2.2.2.2.2.2.2 (xs (i + 1)) (xs (i + 2)) (xs (i + 3)) (xs (i + 4)) ) (kn_cV (C := RX4) S kn_265 kn_266 kn_267 kn_3 kn_268 rfl kd_X4_format rfl rfl ⟨Nat.le_of_ble_eq_true rfl, Nat.le_of_ble_eq_true rfl⟩) hB [0, 1, 2, 3, 4, 5, 6] [7, 8, 9, 10] rfl rfl (by decide) (by decide) (by decide) 0 rfl rfl rfl hl.1 rfl (Nat.le_of_ble_eq_true rfl) dL_law_172 ⟨Nat.le_of_ble_eq_true rfl, Nat.le_of_ble_eq_true rfl⟩ (fun H locs hB => ?_)
        have hB : kv_B kv_N D [(cA, .int)] A s (vo_T h d w r cA ((kp_x_format v (xs (i + 1)) (xs (i + 2)) (xs (i + 3)) (xs (i + 4))).2) ++ mo_T o a1 a2 a3 a4 a5 a6 cA ((kp_y_format u (xs (i + 1)) (xs (i + 2)) (xs (i + 3)) (xs (i + 4))).2)) H locs := hB
        refine lv_icmp_eq (tgt := 467) S.1 S.2.1 dL_law_175 (by decide) (fun _ => ?_) (fun qq => absurd (kp_Re_format hR (xs (i + 1)) (xs (i + 2)) (xs (i + 3)) (xs (i + 4))).1 qq)
        exact kback _ _ _ _ _ (kp_Re_format hR (xs (i + 1)) (xs (i + 2)) (xs (i + 3)) (xs (i + 4))).2 (lv_sub hl [0, 1, 2, 3] rfl) hB
      · refine lv_tableIn (tgt := 180) S.1 S.2.1 dL_law_32 (by decide) (by decide) rfl (by decide) ?_
        obtain ⟨q, n0, hJ⟩ := kp_in_q hR.2.2.2.2
        refine lv_aload_n S.1 S.2.1 dL_law_180 rfl (lv_at hl 2 rfl) ?_
        refine kv_gI (As := []) (rest := []) (wr := mo_T o a1 a2 a3 a4 a5 a6 cA u) kv_NM S (kc_VO_mount l kv_N kv_NM D cA h d w r v.1 v.2.1 v.2.2.1 v.2.2.2.1 v.2.2.2.2 q n0 (fun z => by rw [hR.1]; exact (hJ (by rw [← hR.1]; exact z)).1)) (kn_cV (C := RX3) S kn_110 kn_111 kn_112 kn_1 kn_113 rfl kd_X3_mount rfl rfl ⟨Nat.le_of_ble_eq_true rfl, Nat.le_of_ble_eq_true rfl⟩) hB [0, 1, 2, 3] [4, 5, 6, 7, 8, 9, 10] rfl rfl (by decide) (by decide) (by decide) 0 rfl rfl rfl hl.1 rfl (Nat.le_of_ble_eq_true rfl) dL_law_181 ⟨Nat.le_of_ble_eq_true rfl, Nat.le_of_ble_eq_true rfl⟩ (fun H locs hB => ?_)
        have hB : kv_B kv_N D [(cA, .int)] A s (mo_T o a1 a2 a3 a4 a5 a6 cA u ++ vo_T h d w r cA ((kp_x_mount v q n0).2)) H locs := hB
        refine lv_aload_n S.1 S.2.1 dL_law_184 rfl (lv_at hl 1 rfl) ?_
        refine kv_gI (As := []) (rest := [.int ((kp_x_mount v q n0).1)]) (wr := vo_T h d w r cA ((kp_x_mount v q n0).2)) kv_NM S (kc_MO_mount l kv_N kv_NM D cA o a1 a2 a3 a4 a5 a6 u.1 u.2.1 u.2.2.1 u.2.2.2.1 u.2.2.2.2.1 u.2.2.2.2.2.1 u.2.2.2.2.2.2.1 u.2.2.2.2.2.2.2.1 u.2.2.2.2.2.2.2.2   q n0 (fun z => (hJ z).1)) (kn_cV (C := RX4) S kn_310 kn_311 kn_312 kn_3 kn_313 rfl kd_X4_mount rfl rfl ⟨Nat.le_of_ble_eq_true rfl, Nat.le_of_ble_eq_true rfl⟩) hB [0, 1, 2, 3, 4, 5, 6] [7, 8, 9, 10] rfl rfl (by decide) (by decide) (by decide) 0 rfl rfl rfl hl.1 rfl (Nat.le_of_ble_eq_true rfl) dL_law_185 ⟨Nat.le_of_ble_eq_true rfl, Nat.le_of_ble_eq_true rfl⟩ (fun H locs hB => ?_)
        have hB : kv_B kv_N D [(cA, .int)] A s (vo_T h d w r cA ((kp_x_mount v q n0).2) ++ mo_T o a1 a2 a3 a4 a5 a6 cA ((kp_y_mount u q n0).2)) H locs := hB
        refine lv_icmp_eq (tgt := 467) S.1 S.2.1 dL_law_188 (by decide) (fun _ => ?_) (fun qq => absurd (kp_Re_mount hR q n0 hJ).1 qq)
        exact kback _ _ _ _ _ (kp_Re_mount hR q n0 hJ).2 (lv_sub hl [0, 1, 2, 3] rfl) hB
      · refine lv_tableIn (tgt := 193) S.1 S.2.1 dL_law_32 (by decide) (by decide) rfl (by decide) ?_
        refine lv_aload_n S.1 S.2.1 dL_law_193 rfl (lv_at hl 2 rfl) ?_
        refine lv_aload_n S.1 S.2.1 dL_law_194 rfl (lv_at hl 3 rfl) ?_
        refine lv_iload_n S.1 S.2.1 dL_law_195 rfl (lv_at hl 0 rfl) ?_
        refine lv_iconst (v := 1) S.1 S.2.1 dL_law_196 (by decide) ?_
        refine lv_iadd S.1 S.2.1 dL_law_197 ?_
        refine kv_top (y := nI (i + 1)) (nI_add i 1) ?_
        refine kv_sld S hX hbl hbA hB (i + 1) (by omega) (by omega) dL_law_198 ?_
        refine kv_gI (As := [.int (xs (i + 1))]) (rest := []) (wr := mo_T o a1 a2 a3 a4 a5 a6 cA u) kv_NM S (kc_VO_unlock l kv_N kv_NM D cA h d w r v.1 v.2.1 v.2.2.1 v.2.2.2.1 v.2.2.2.2 (xs (i + 1)) ) (kn_cV (C := RX3) S kn_146 kn_147 kn_148 kn_1 kn_149 rfl kd_X3_unlock rfl rfl ⟨Nat.le_of_ble_eq_true rfl, Nat.le_of_ble_eq_true rfl⟩) hB [0, 1, 2, 3] [4, 5, 6, 7, 8, 9, 10] rfl rfl (by decide) (by decide) (by decide) 0 rfl rfl rfl hl.1 rfl (Nat.le_of_ble_eq_true rfl) dL_law_199 ⟨Nat.le_of_ble_eq_true rfl, Nat.le_of_ble_eq_true rfl⟩ (fun H locs hB => ?_)
        have hB : kv_B kv_N D [(cA, .int)] A s (mo_T o a1 a2 a3 a4 a5 a6 cA u ++ vo_T h d w r cA ((kp_x_unlock v (xs (i + 1))).2)) H locs := hB
        refine lv_aload_n S.1 S.2.1 dL_law_202 rfl (lv_at hl 1 rfl) ?_
        refine lv_aload_n S.1 S.2.1 dL_law_203 rfl (lv_at hl 3 rfl) ?_
        refine lv_iload_n S.1 S.2.1 dL_law_204 rfl (lv_at hl 0 rfl) ?_
        refine lv_iconst (v := 1) S.1 S.2.1 dL_law_205 (by decide) ?_
        refine lv_iadd S.1 S.2.1 dL_law_206 ?_
        refine kv_top (y := nI (i + 1)) (nI_add i 1) ?_
        refine kv_sld S hX hbl hbA hB (i + 1) (by omega) (by omega) dL_law_207 ?_
        refine kv_gI (As := [.int (xs (i + 1))]) (rest := [.int ((kp_x_unlock v (xs (i + 1))).1)]) (wr := vo_T h d w r cA ((kp_x_unlock v (xs (i + 1))).2)) kv_NM S (kc_MO_unlock l kv_N kv_NM D cA o a1 a2 a3 a4 a5 a6 u.1 u.2.1 u.2.2.1 u.2.2.2.1 u.2.2.2.2.1 u.2.2.2.2.2.1 u.2.2.2.2.2.2.1 u.2.2.2.2.2.2.2.1 u.2.2.2.2.2.2.2.2 (xs (i + 1)) ) (kn_cV (C := RX4) S kn_326 kn_327 kn_328 kn_3 kn_329 rfl kd_X4_unlock rfl rfl ⟨Nat.le_of_ble_eq_true rfl, Nat.le_of_ble_eq_true rfl⟩) hB [0, 1, 2, 3, 4, 5, 6] [7, 8, 9, 10] rfl rfl (by decide) (by decide) (by decide) 0 rfl rfl rfl hl.1 rfl (Nat.le_of_ble_eq_true rfl) dL_law_208 ⟨Nat.le_of_ble_eq_true rfl, Nat.le_of_ble_eq_true rfl⟩ (fun H locs hB => ?_)
        have hB : kv_B kv_N D [(cA, .int)] A s (vo_T h d w r cA ((kp_x_unlock v (xs (i + 1))).2) ++ mo_T o a1 a2 a3 a4 a5 a6 cA ((kp_y_unlock u (xs (i + 1))).2)) H locs := hB
        refine lv_icmp_eq (tgt := 467) S.1 S.2.1 dL_law_211 (by decide) (fun _ => ?_) (fun qq => absurd (kp_Re_unlock hR (xs (i + 1))).1 qq)
        exact kback _ _ _ _ _ (kp_Re_unlock hR (xs (i + 1))).2 (lv_sub hl [0, 1, 2, 3] rfl) hB
      · refine lv_tableIn (tgt := 216) S.1 S.2.1 dL_law_32 (by decide) (by decide) rfl (by decide) ?_
        refine lv_aload_n S.1 S.2.1 dL_law_216 rfl (lv_at hl 2 rfl) ?_
        refine kv_gI (As := []) (rest := []) (wr := mo_T o a1 a2 a3 a4 a5 a6 cA u) kv_NM S (kc_VO_lock l kv_N kv_NM D cA h d w r v.1 v.2.1 v.2.2.1 v.2.2.2.1 v.2.2.2.2  ) (kn_cV (C := RX3) S kn_160 kn_161 kn_162 kn_1 kn_163 rfl kd_X3_lock rfl rfl ⟨Nat.le_of_ble_eq_true rfl, Nat.le_of_ble_eq_true rfl⟩) hB [0, 1, 2, 3] [4, 5, 6, 7, 8, 9, 10] rfl rfl (by decide) (by decide) (by decide) 0 rfl rfl rfl hl.1 rfl (Nat.le_of_ble_eq_true rfl) dL_law_217 ⟨Nat.le_of_ble_eq_true rfl, Nat.le_of_ble_eq_true rfl⟩ (fun H locs hB => ?_)
        have hB : kv_B kv_N D [(cA, .int)] A s (mo_T o a1 a2 a3 a4 a5 a6 cA u ++ vo_T h d w r cA ((kp_x_lock v).2)) H locs := hB
        refine lv_aload_n S.1 S.2.1 dL_law_220 rfl (lv_at hl 1 rfl) ?_
        refine kv_gI (As := []) (rest := [.int ((kp_x_lock v).1)]) (wr := vo_T h d w r cA ((kp_x_lock v).2)) kv_NM S (kc_MO_lock l kv_N kv_NM D cA o a1 a2 a3 a4 a5 a6 u.1 u.2.1 u.2.2.1 u.2.2.2.1 u.2.2.2.2.1 u.2.2.2.2.2.1 u.2.2.2.2.2.2.1 u.2.2.2.2.2.2.2.1 u.2.2.2.2.2.2.2.2  ) (kn_cV (C := RX4) S kn_336 kn_337 kn_338 kn_3 kn_339 rfl kd_X4_lock rfl rfl ⟨Nat.le_of_ble_eq_true rfl, Nat.le_of_ble_eq_true rfl⟩) hB [0, 1, 2, 3, 4, 5, 6] [7, 8, 9, 10] rfl rfl (by decide) (by decide) (by decide) 0 rfl rfl rfl hl.1 rfl (Nat.le_of_ble_eq_true rfl) dL_law_221 ⟨Nat.le_of_ble_eq_true rfl, Nat.le_of_ble_eq_true rfl⟩ (fun H locs hB => ?_)
        have hB : kv_B kv_N D [(cA, .int)] A s (vo_T h d w r cA ((kp_x_lock v).2) ++ mo_T o a1 a2 a3 a4 a5 a6 cA ((kp_y_lock u).2)) H locs := hB
        refine lv_icmp_eq (tgt := 467) S.1 S.2.1 dL_law_224 (by decide) (fun _ => ?_) (fun qq => absurd (kp_Re_lock hR).1 qq)
        exact kback _ _ _ _ _ (kp_Re_lock hR).2 (lv_sub hl [0, 1, 2, 3] rfl) hB
      · refine lv_tableIn (tgt := 229) S.1 S.2.1 dL_law_32 (by decide) (by decide) rfl (by decide) ?_
        refine lv_aload_n S.1 S.2.1 dL_law_229 rfl (lv_at hl 2 rfl) ?_
        refine lv_aload_n S.1 S.2.1 dL_law_230 rfl (lv_at hl 3 rfl) ?_
        refine lv_iload_n S.1 S.2.1 dL_law_231 rfl (lv_at hl 0 rfl) ?_
        refine lv_iconst (v := 1) S.1 S.2.1 dL_law_232 (by decide) ?_
        refine lv_iadd S.1 S.2.1 dL_law_233 ?_
        refine kv_top (y := nI (i + 1)) (nI_add i 1) ?_
        refine kv_sld S hX hbl hbA hB (i + 1) (by omega) (by omega) dL_law_234 ?_
        refine lv_aload_n S.1 S.2.1 dL_law_235 rfl (lv_at hl 3 rfl) ?_
        refine lv_iload_n S.1 S.2.1 dL_law_236 rfl (lv_at hl 0 rfl) ?_
        refine lv_iconst (v := 2) S.1 S.2.1 dL_law_237 (by decide) ?_
        refine lv_iadd S.1 S.2.1 dL_law_238 ?_
        refine kv_top (y := nI (i + 2)) (nI_add i 2) ?_
        refine kv_sld S hX hbl hbA hB (i + 2) (by omega) (by omega) dL_law_239 ?_
        refine kv_gI (As := [.int (xs (i + 1)), .int (xs (i + 2))]) (rest := []) (wr := mo_T o a1 a2 a3 a4 a5 a6 cA u) kv_NM S (kc_VO_add l kv_N kv_NM D cA h d w r v.1 v.2.1 v.2.2.1 v.2.2.2.1 v.2.2.2.2 (xs (i + 1)) (xs (i + 2)) ) (kn_cV (C := RX3) S kn_164 kn_165 kn_166 kn_1 kn_167 rfl kd_X3_add rfl rfl ⟨Nat.le_of_ble_eq_true rfl, Nat.le_of_ble_eq_true rfl⟩) hB [0, 1, 2, 3] [4, 5, 6, 7, 8, 9, 10] rfl rfl (by decide) (by decide) (by decide) 0 rfl rfl rfl hl.1 rfl (Nat.le_of_ble_eq_true rfl) dL_law_240 ⟨Nat.le_of_ble_eq_true rfl, Nat.le_of_ble_eq_true rfl⟩ (fun H locs hB => ?_)
        have hB : kv_B kv_N D [(cA, .int)] A s (mo_T o a1 a2 a3 a4 a5 a6 cA u ++ vo_T h d w r cA ((kp_x_add v (xs (i + 1)) (xs (i + 2))).2)) H locs := hB
        refine lv_aload_n S.1 S.2.1 dL_law_243 rfl (lv_at hl 1 rfl) ?_
        refine lv_aload_n S.1 S.2.1 dL_law_244 rfl (lv_at hl 3 rfl) ?_
        refine lv_iload_n S.1 S.2.1 dL_law_245 rfl (lv_at hl 0 rfl) ?_
        refine lv_iconst (v := 1) S.1 S.2.1 dL_law_246 (by decide) ?_
        refine lv_iadd S.1 S.2.1 dL_law_247 ?_
        refine kv_top (y := nI (i + 1)) (nI_add i 1) ?_
        refine kv_sld S hX hbl hbA hB (i + 1) (by omega) (by omega) dL_law_248 ?_
        refine lv_aload_n S.1 S.2.1 dL_law_249 rfl (lv_at hl 3 rfl) ?_
        refine lv_iload_n S.1 S.2.1 dL_law_250 rfl (lv_at hl 0 rfl) ?_
        refine lv_iconst (v := 2) S.1 S.2.1 dL_law_251 (by decide) ?_
        refine lv_iadd S.1 S.2.1 dL_law_252 ?_
        refine kv_top (y := nI (i + 2)) (nI_add i 2) ?_
        refine kv_sld S hX hbl hbA hB (i + 2) (by omega) (by omega) dL_law_253 ?_
        refine kv_gI (As := [.int (xs (i + 1)), .int (xs (i + 2))]) (rest := [.int ((kp_x_add v (xs (i + 1)) (xs (i + 2))).1)]) (wr := vo_T h d w r cA ((kp_x_add v (xs (i + 1)) (xs (i + 2))).2)) kv_NM S (kc_MO_add l kv_N kv_NM D cA o a1 a2 a3 a4 a5 a6 u.1 u.2.1 u.2.2.1 u.2.2.2.1 u.2.2.2.2.1 u.2.2.2.2.2.1 u.2.2.2.2.2.2.1 u.2.2.2.2.2.2.2.1 u.2.2.2.2.2.2.2.2 (xs (i + 1)) (xs (i + 2)) ) (kn_cV (C := RX4) S kn_340 kn_341 kn_342 kn_3 kn_343 rfl kd_X4_add rfl rfl ⟨Nat.le_of_ble_eq_true rfl, Nat.le_of_ble_eq_true rfl⟩) hB [0, 1, 2, 3, 4, 5, 6] [7, 8, 9, 10] rfl rfl (by decide) (by decide) (by decide) 0 rfl rfl rfl hl.1 rfl (Nat.le_of_ble_eq_true rfl) dL_law_254 ⟨Nat.le_of_ble_eq_true rfl, Nat.le_of_ble_eq_true rfl⟩ (fun H locs hB => ?_)
        have hB : kv_B kv_N D [(cA, .int)] A s (vo_T h d w r cA ((kp_x_add v (xs (i + 1)) (xs (i + 2))).2) ++ mo_T o a1 a2 a3 a4 a5 a6 cA ((kp_y_add u (xs (i + 1)) (xs (i + 2))).2)) H locs := hB
        refine lv_icmp_eq (tgt := 467) S.1 S.2.1 dL_law_257 (by decide) (fun _ => ?_) (fun qq => absurd (kp_Re_add hR (xs (i + 1)) (xs (i + 2))).1 qq)
        exact kback _ _ _ _ _ (kp_Re_add hR (xs (i + 1)) (xs (i + 2))).2 (lv_sub hl [0, 1, 2, 3] rfl) hB
      · refine lv_tableIn (tgt := 262) S.1 S.2.1 dL_law_32 (by decide) (by decide) rfl (by decide) ?_
        refine lv_aload_n S.1 S.2.1 dL_law_262 rfl (lv_at hl 2 rfl) ?_
        refine lv_aload_n S.1 S.2.1 dL_law_263 rfl (lv_at hl 3 rfl) ?_
        refine lv_iload_n S.1 S.2.1 dL_law_264 rfl (lv_at hl 0 rfl) ?_
        refine lv_iconst (v := 1) S.1 S.2.1 dL_law_265 (by decide) ?_
        refine lv_iadd S.1 S.2.1 dL_law_266 ?_
        refine kv_top (y := nI (i + 1)) (nI_add i 1) ?_
        refine kv_sld S hX hbl hbA hB (i + 1) (by omega) (by omega) dL_law_267 ?_
        refine lv_aload_n S.1 S.2.1 dL_law_268 rfl (lv_at hl 3 rfl) ?_
        refine lv_iload_n S.1 S.2.1 dL_law_269 rfl (lv_at hl 0 rfl) ?_
        refine lv_iconst (v := 2) S.1 S.2.1 dL_law_270 (by decide) ?_
        refine lv_iadd S.1 S.2.1 dL_law_271 ?_
        refine kv_top (y := nI (i + 2)) (nI_add i 2) ?_
        refine kv_sld S hX hbl hbA hB (i + 2) (by omega) (by omega) dL_law_272 ?_
        refine lv_aload_n S.1 S.2.1 dL_law_273 rfl (lv_at hl 3 rfl) ?_
        refine lv_iload_n S.1 S.2.1 dL_law_274 rfl (lv_at hl 0 rfl) ?_
        refine lv_iconst (v := 3) S.1 S.2.1 dL_law_275 (by decide) ?_
        refine lv_iadd S.1 S.2.1 dL_law_276 ?_
        refine kv_top (y := nI (i + 3)) (nI_add i 3) ?_
        refine kv_sld S hX hbl hbA hB (i + 3) (by omega) (by omega) dL_law_277 ?_
        refine kv_gI (As := [.int (xs (i + 1)), .int (xs (i + 2)), .int (xs (i + 3))]) (rest := []) (wr := mo_T o a1 a2 a3 a4 a5 a6 cA u) kv_NM S (kc_VO_change l kv_N kv_NM D cA h d w r v.1 v.2.1 v.2.2.1 v.2.2.2.1 v.2.2.2.2 (xs (i + 1)) (xs (i + 2)) (xs (i + 3)) ) (kn_cV (C := RX3) S kn_181 kn_182 kn_183 kn_1 kn_184 rfl kd_X3_change rfl rfl ⟨Nat.le_of_ble_eq_true rfl, Nat.le_of_ble_eq_true rfl⟩) hB [0, 1, 2, 3] [4, 5, 6, 7, 8, 9, 10] rfl rfl (by decide) (by decide) (by decide) 0 rfl rfl rfl hl.1 rfl (Nat.le_of_ble_eq_true rfl) dL_law_278 ⟨Nat.le_of_ble_eq_true rfl, Nat.le_of_ble_eq_true rfl⟩ (fun H locs hB => ?_)
        have hB : kv_B kv_N D [(cA, .int)] A s (mo_T o a1 a2 a3 a4 a5 a6 cA u ++ vo_T h d w r cA ((kp_x_change v (xs (i + 1)) (xs (i + 2)) (xs (i + 3))).2)) H locs := hB
        refine lv_aload_n S.1 S.2.1 dL_law_281 rfl (lv_at hl 1 rfl) ?_
        refine lv_aload_n S.1 S.2.1 dL_law_282 rfl (lv_at hl 3 rfl) ?_
        refine lv_iload_n S.1 S.2.1 dL_law_283 rfl (lv_at hl 0 rfl) ?_
        refine lv_iconst (v := 1) S.1 S.2.1 dL_law_284 (by decide) ?_
        refine lv_iadd S.1 S.2.1 dL_law_285 ?_
        refine kv_top (y := nI (i + 1)) (nI_add i 1) ?_
        refine kv_sld S hX hbl hbA hB (i + 1) (by omega) (by omega) dL_law_286 ?_
        refine lv_aload_n S.1 S.2.1 dL_law_287 rfl (lv_at hl 3 rfl) ?_
        refine lv_iload_n S.1 S.2.1 dL_law_288 rfl (lv_at hl 0 rfl) ?_
        refine lv_iconst (v := 2) S.1 S.2.1 dL_law_289 (by decide) ?_
        refine lv_iadd S.1 S.2.1 dL_law_290 ?_
        refine kv_top (y := nI (i + 2)) (nI_add i 2) ?_
        refine kv_sld S hX hbl hbA hB (i + 2) (by omega) (by omega) dL_law_291 ?_
        refine lv_aload_n S.1 S.2.1 dL_law_292 rfl (lv_at hl 3 rfl) ?_
        refine lv_iload_n S.1 S.2.1 dL_law_293 rfl (lv_at hl 0 rfl) ?_
        refine lv_iconst (v := 3) S.1 S.2.1 dL_law_294 (by decide) ?_
        refine lv_iadd S.1 S.2.1 dL_law_295 ?_
        refine kv_top (y := nI (i + 3)) (nI_add i 3) ?_
        refine kv_sld S hX hbl hbA hB (i + 3) (by omega) (by omega) dL_law_296 ?_
        refine kv_gI (As := [.int (xs (i + 1)), .int (xs (i + 2)), .int (xs (i + 3))]) (rest := [.int ((kp_x_change v (xs (i + 1)) (xs (i + 2)) (xs (i + 3))).1)]) (wr := vo_T h d w r cA ((kp_x_change v (xs (i + 1)) (xs (i + 2)) (xs (i + 3))).2)) kv_NM S (kc_MO_change l kv_N kv_NM D cA o a1 a2 a3 a4 a5 a6 u.1 u.2.1 u.2.2.1 u.2.2.2.1 u.2.2.2.2.1 u.2.2.2.2.2.1 u.2.2.2.2.2.2.1 u.2.2.2.2.2.2.2.1 u.2.2.2.2.2.2.2.2 (xs (i + 1)) (xs (i + 2)) (xs (i + 3)) ) (kn_cV (C := RX4) S kn_350 kn_351 kn_352 kn_3 kn_353 rfl kd_X4_change rfl rfl ⟨Nat.le_of_ble_eq_true rfl, Nat.le_of_ble_eq_true rfl⟩) hB [0, 1, 2, 3, 4, 5, 6] [7, 8, 9, 10] rfl rfl (by decide) (by decide) (by decide) 0 rfl rfl rfl hl.1 rfl (Nat.le_of_ble_eq_true rfl) dL_law_297 ⟨Nat.le_of_ble_eq_true rfl, Nat.le_of_ble_eq_true rfl⟩ (fun H locs hB => ?_)
        have hB : kv_B kv_N D [(cA, .int)] A s (vo_T h d w r cA ((kp_x_change v (xs (i + 1)) (xs (i + 2)) (xs (i + 3))).2) ++ mo_T o a1 a2 a3 a4 a5 a6 cA ((kp_y_change u (xs (i + 1)) (xs (i + 2)) (xs (i + 3))).2)) H locs := hB
        refine lv_icmp_eq (tgt := 467) S.1 S.2.1 dL_law_300 (by decide) (fun _ => ?_) (fun qq => absurd (kp_Re_change hR (xs (i + 1)) (xs (i + 2)) (xs (i + 3))).1 qq)
        exact kback _ _ _ _ _ (kp_Re_change hR (xs (i + 1)) (xs (i + 2)) (xs (i + 3))).2 (lv_sub hl [0, 1, 2, 3] rfl) hB
      · refine lv_tableIn (tgt := 305) S.1 S.2.1 dL_law_32 (by decide) (by decide) rfl (by decide) ?_
        refine lv_aload_n S.1 S.2.1 dL_law_305 rfl (lv_at hl 2 rfl) ?_
        refine lv_aload_n S.1 S.2.1 dL_law_306 rfl (lv_at hl 3 rfl) ?_
        refine lv_iload_n S.1 S.2.1 dL_law_307 rfl (lv_at hl 0 rfl) ?_
        refine lv_iconst (v := 1) S.1 S.2.1 dL_law_308 (by decide) ?_
        refine lv_iadd S.1 S.2.1 dL_law_309 ?_
        refine kv_top (y := nI (i + 1)) (nI_add i 1) ?_
        refine kv_sld S hX hbl hbA hB (i + 1) (by omega) (by omega) dL_law_310 ?_
        refine kv_gI (As := [.int (xs (i + 1))]) (rest := []) (wr := mo_T o a1 a2 a3 a4 a5 a6 cA u) kv_NM S (kc_VO_revoke l kv_N kv_NM D cA h d w r v.1 v.2.1 v.2.2.1 v.2.2.2.1 v.2.2.2.2 (xs (i + 1)) ) (kn_cV (C := RX3) S kn_188 kn_189 kn_190 kn_1 kn_191 rfl kd_X3_revoke rfl rfl ⟨Nat.le_of_ble_eq_true rfl, Nat.le_of_ble_eq_true rfl⟩) hB [0, 1, 2, 3] [4, 5, 6, 7, 8, 9, 10] rfl rfl (by decide) (by decide) (by decide) 0 rfl rfl rfl hl.1 rfl (Nat.le_of_ble_eq_true rfl) dL_law_311 ⟨Nat.le_of_ble_eq_true rfl, Nat.le_of_ble_eq_true rfl⟩ (fun H locs hB => ?_)
        have hB : kv_B kv_N D [(cA, .int)] A s (mo_T o a1 a2 a3 a4 a5 a6 cA u ++ vo_T h d w r cA ((kp_x_revoke v (xs (i + 1))).2)) H locs := hB
        refine lv_aload_n S.1 S.2.1 dL_law_314 rfl (lv_at hl 1 rfl) ?_
        refine lv_aload_n S.1 S.2.1 dL_law_315 rfl (lv_at hl 3 rfl) ?_
        refine lv_iload_n S.1 S.2.1 dL_law_316 rfl (lv_at hl 0 rfl) ?_
        refine lv_iconst (v := 1) S.1 S.2.1 dL_law_317 (by decide) ?_
        refine lv_iadd S.1 S.2.1 dL_law_318 ?_
        refine kv_top (y := nI (i + 1)) (nI_add i 1) ?_
        refine kv_sld S hX hbl hbA hB (i + 1) (by omega) (by omega) dL_law_319 ?_
        refine kv_gI (As := [.int (xs (i + 1))]) (rest := [.int ((kp_x_revoke v (xs (i + 1))).1)]) (wr := vo_T h d w r cA ((kp_x_revoke v (xs (i + 1))).2)) kv_NM S (kc_MO_revoke l kv_N kv_NM D cA o a1 a2 a3 a4 a5 a6 u.1 u.2.1 u.2.2.1 u.2.2.2.1 u.2.2.2.2.1 u.2.2.2.2.2.1 u.2.2.2.2.2.2.1 u.2.2.2.2.2.2.2.1 u.2.2.2.2.2.2.2.2 (xs (i + 1)) ) (kn_cV (C := RX4) S kn_357 kn_358 kn_359 kn_3 kn_360 rfl kd_X4_revoke rfl rfl ⟨Nat.le_of_ble_eq_true rfl, Nat.le_of_ble_eq_true rfl⟩) hB [0, 1, 2, 3, 4, 5, 6] [7, 8, 9, 10] rfl rfl (by decide) (by decide) (by decide) 0 rfl rfl rfl hl.1 rfl (Nat.le_of_ble_eq_true rfl) dL_law_320 ⟨Nat.le_of_ble_eq_true rfl, Nat.le_of_ble_eq_true rfl⟩ (fun H locs hB => ?_)
        have hB : kv_B kv_N D [(cA, .int)] A s (vo_T h d w r cA ((kp_x_revoke v (xs (i + 1))).2) ++ mo_T o a1 a2 a3 a4 a5 a6 cA ((kp_y_revoke u (xs (i + 1))).2)) H locs := hB
        refine lv_icmp_eq (tgt := 467) S.1 S.2.1 dL_law_323 (by decide) (fun _ => ?_) (fun qq => absurd (kp_Re_revoke hR (xs (i + 1))).1 qq)
        exact kback _ _ _ _ _ (kp_Re_revoke hR (xs (i + 1))).2 (lv_sub hl [0, 1, 2, 3] rfl) hB
      · refine lv_tableIn (tgt := 328) S.1 S.2.1 dL_law_32 (by decide) (by decide) rfl (by decide) ?_
        refine lv_aload_n S.1 S.2.1 dL_law_328 rfl (lv_at hl 2 rfl) ?_
        refine lv_aload_n S.1 S.2.1 dL_law_329 rfl (lv_at hl 3 rfl) ?_
        refine lv_iload_n S.1 S.2.1 dL_law_330 rfl (lv_at hl 0 rfl) ?_
        refine lv_iconst (v := 1) S.1 S.2.1 dL_law_331 (by decide) ?_
        refine lv_iadd S.1 S.2.1 dL_law_332 ?_
        refine kv_top (y := nI (i + 1)) (nI_add i 1) ?_
        refine kv_sld S hX hbl hbA hB (i + 1) (by omega) (by omega) dL_law_333 ?_
        refine lv_aload_n S.1 S.2.1 dL_law_334 rfl (lv_at hl 3 rfl) ?_
        refine lv_iload_n S.1 S.2.1 dL_law_335 rfl (lv_at hl 0 rfl) ?_
        refine lv_iconst (v := 2) S.1 S.2.1 dL_law_336 (by decide) ?_
        refine lv_iadd S.1 S.2.1 dL_law_337 ?_
        refine kv_top (y := nI (i + 2)) (nI_add i 2) ?_
        refine kv_sld S hX hbl hbA hB (i + 2) (by omega) (by omega) dL_law_338 ?_
        refine lv_aload_n S.1 S.2.1 dL_law_339 rfl (lv_at hl 3 rfl) ?_
        refine lv_iload_n S.1 S.2.1 dL_law_340 rfl (lv_at hl 0 rfl) ?_
        refine lv_iconst (v := 3) S.1 S.2.1 dL_law_341 (by decide) ?_
        refine lv_iadd S.1 S.2.1 dL_law_342 ?_
        refine kv_top (y := nI (i + 3)) (nI_add i 3) ?_
        refine kv_sld S hX hbl hbA hB (i + 3) (by omega) (by omega) dL_law_343 ?_
        refine kv_gI (As := [.int (xs (i + 1)), .int (xs (i + 2)), .int (xs (i + 3))]) (rest := []) (wr := mo_T o a1 a2 a3 a4 a5 a6 cA u) kv_NM S (kc_VO_write l kv_N kv_NM D cA h d w r v.1 v.2.1 v.2.2.1 v.2.2.2.1 v.2.2.2.2 (xs (i + 1)) (xs (i + 2)) (xs (i + 3)) ) (kn_cV (C := RX3) S kn_195 kn_196 kn_197 kn_1 kn_198 rfl kd_X3_write rfl rfl ⟨Nat.le_of_ble_eq_true rfl, Nat.le_of_ble_eq_true rfl⟩) hB [0, 1, 2, 3] [4, 5, 6, 7, 8, 9, 10] rfl rfl (by decide) (by decide) (by decide) 0 rfl rfl rfl hl.1 rfl (Nat.le_of_ble_eq_true rfl) dL_law_344 ⟨Nat.le_of_ble_eq_true rfl, Nat.le_of_ble_eq_true rfl⟩ (fun H locs hB => ?_)
        have hB : kv_B kv_N D [(cA, .int)] A s (mo_T o a1 a2 a3 a4 a5 a6 cA u ++ vo_T h d w r cA ((kp_x_write v (xs (i + 1)) (xs (i + 2)) (xs (i + 3))).2)) H locs := hB
        refine lv_aload_n S.1 S.2.1 dL_law_347 rfl (lv_at hl 1 rfl) ?_
        refine lv_aload_n S.1 S.2.1 dL_law_348 rfl (lv_at hl 3 rfl) ?_
        refine lv_iload_n S.1 S.2.1 dL_law_349 rfl (lv_at hl 0 rfl) ?_
        refine lv_iconst (v := 1) S.1 S.2.1 dL_law_350 (by decide) ?_
        refine lv_iadd S.1 S.2.1 dL_law_351 ?_
        refine kv_top (y := nI (i + 1)) (nI_add i 1) ?_
        refine kv_sld S hX hbl hbA hB (i + 1) (by omega) (by omega) dL_law_352 ?_
        refine lv_aload_n S.1 S.2.1 dL_law_353 rfl (lv_at hl 3 rfl) ?_
        refine lv_iload_n S.1 S.2.1 dL_law_354 rfl (lv_at hl 0 rfl) ?_
        refine lv_iconst (v := 2) S.1 S.2.1 dL_law_355 (by decide) ?_
        refine lv_iadd S.1 S.2.1 dL_law_356 ?_
        refine kv_top (y := nI (i + 2)) (nI_add i 2) ?_
        refine kv_sld S hX hbl hbA hB (i + 2) (by omega) (by omega) dL_law_357 ?_
        refine lv_aload_n S.1 S.2.1 dL_law_358 rfl (lv_at hl 3 rfl) ?_
        refine lv_iload_n S.1 S.2.1 dL_law_359 rfl (lv_at hl 0 rfl) ?_
        refine lv_iconst (v := 3) S.1 S.2.1 dL_law_360 (by decide) ?_
        refine lv_iadd S.1 S.2.1 dL_law_361 ?_
        refine kv_top (y := nI (i + 3)) (nI_add i 3) ?_
        refine kv_sld S hX hbl hbA hB (i + 3) (by omega) (by omega) dL_law_362 ?_
        refine kv_gI (As := [.int (xs (i + 1)), .int (xs (i + 2)), .int (xs (i + 3))]) (rest := [.int ((kp_x_write v (xs (i + 1)) (xs (i + 2)) (xs (i + 3))).1)]) (wr := vo_T h d w r cA ((kp_x_write v (xs (i + 1)) (xs (i + 2)) (xs (i + 3))).2)) kv_NM S (kc_MO_write l kv_N kv_NM D cA o a1 a2 a3 a4 a5 a6 u.1 u.2.1 u.2.2.1 u.2.2.2.1 u.2.2.2.2.1 u.2.2.2.2.2.1 u.2.2.2.2.2.2.1 u.2.2.2.2.2.2.2.1 u.2.2.2.2.2.2.2.2 (xs (i + 1)) (xs (i + 2)) (xs (i + 3)) ) (kn_cV (C := RX4) S kn_361 kn_362 kn_363 kn_3 kn_364 rfl kd_X4_write rfl rfl ⟨Nat.le_of_ble_eq_true rfl, Nat.le_of_ble_eq_true rfl⟩) hB [0, 1, 2, 3, 4, 5, 6] [7, 8, 9, 10] rfl rfl (by decide) (by decide) (by decide) 0 rfl rfl rfl hl.1 rfl (Nat.le_of_ble_eq_true rfl) dL_law_363 ⟨Nat.le_of_ble_eq_true rfl, Nat.le_of_ble_eq_true rfl⟩ (fun H locs hB => ?_)
        have hB : kv_B kv_N D [(cA, .int)] A s (vo_T h d w r cA ((kp_x_write v (xs (i + 1)) (xs (i + 2)) (xs (i + 3))).2) ++ mo_T o a1 a2 a3 a4 a5 a6 cA ((kp_y_write u (xs (i + 1)) (xs (i + 2)) (xs (i + 3))).2)) H locs := hB
        refine lv_icmp_eq (tgt := 467) S.1 S.2.1 dL_law_366 (by decide) (fun _ => ?_) (fun qq => absurd (kp_Re_write hR (xs (i + 1)) (xs (i + 2)) (xs (i + 3))).1 qq)
        exact kback _ _ _ _ _ (kp_Re_write hR (xs (i + 1)) (xs (i + 2)) (xs (i + 3))).2 (lv_sub hl [0, 1, 2, 3] rfl) hB
      · refine lv_tableIn (tgt := 371) S.1 S.2.1 dL_law_32 (by decide) (by decide) rfl (by decide) ?_
        refine lv_aload_n S.1 S.2.1 dL_law_371 rfl (lv_at hl 2 rfl) ?_
        refine lv_aload_n S.1 S.2.1 dL_law_372 rfl (lv_at hl 3 rfl) ?_
        refine lv_iload_n S.1 S.2.1 dL_law_373 rfl (lv_at hl 0 rfl) ?_
        refine lv_iconst (v := 1) S.1 S.2.1 dL_law_374 (by decide) ?_
        refine lv_iadd S.1 S.2.1 dL_law_375 ?_
        refine kv_top (y := nI (i + 1)) (nI_add i 1) ?_
        refine kv_sld S hX hbl hbA hB (i + 1) (by omega) (by omega) dL_law_376 ?_
        refine lv_aload_n S.1 S.2.1 dL_law_377 rfl (lv_at hl 3 rfl) ?_
        refine lv_iload_n S.1 S.2.1 dL_law_378 rfl (lv_at hl 0 rfl) ?_
        refine lv_iconst (v := 2) S.1 S.2.1 dL_law_379 (by decide) ?_
        refine lv_iadd S.1 S.2.1 dL_law_380 ?_
        refine kv_top (y := nI (i + 2)) (nI_add i 2) ?_
        refine kv_sld S hX hbl hbA hB (i + 2) (by omega) (by omega) dL_law_381 ?_
        refine kv_gL (As := [.int (xs (i + 1)), .int (xs (i + 2))]) (rest := []) (wr := mo_T o a1 a2 a3 a4 a5 a6 cA u) kv_NM S (kc_VO_read l kv_N kv_NM D cA h d w r v.1 v.2.1 v.2.2.1 v.2.2.2.1 v.2.2.2.2 (xs (i + 1)) (xs (i + 2)) ) (kn_cV (C := RX3) S kn_209 kn_210 kn_211 kn_1 kn_212 rfl kd_X3_read rfl rfl ⟨Nat.le_of_ble_eq_true rfl, Nat.le_of_ble_eq_true rfl⟩) hB [0, 1, 2, 3] [4, 5, 6, 7, 8, 9, 10] rfl rfl (by decide) (by decide) (by decide) 0 rfl rfl rfl hl.1 rfl (Nat.le_of_ble_eq_true rfl) dL_law_382 ⟨Nat.le_of_ble_eq_true rfl, Nat.le_of_ble_eq_true rfl⟩ (fun H locs hB => ?_)
        have hB : kv_B kv_N D [(cA, .int)] A s (mo_T o a1 a2 a3 a4 a5 a6 cA u ++ vo_T h d w r cA v) H locs := hB
        refine lv_aload_n S.1 S.2.1 dL_law_385 rfl (lv_at hl 1 rfl) ?_
        refine lv_aload_n S.1 S.2.1 dL_law_386 rfl (lv_at hl 3 rfl) ?_
        refine lv_iload_n S.1 S.2.1 dL_law_387 rfl (lv_at hl 0 rfl) ?_
        refine lv_iconst (v := 1) S.1 S.2.1 dL_law_388 (by decide) ?_
        refine lv_iadd S.1 S.2.1 dL_law_389 ?_
        refine kv_top (y := nI (i + 1)) (nI_add i 1) ?_
        refine kv_sld S hX hbl hbA hB (i + 1) (by omega) (by omega) dL_law_390 ?_
        refine lv_aload_n S.1 S.2.1 dL_law_391 rfl (lv_at hl 3 rfl) ?_
        refine lv_iload_n S.1 S.2.1 dL_law_392 rfl (lv_at hl 0 rfl) ?_
        refine lv_iconst (v := 2) S.1 S.2.1 dL_law_393 (by decide) ?_
        refine lv_iadd S.1 S.2.1 dL_law_394 ?_
        refine kv_top (y := nI (i + 2)) (nI_add i 2) ?_
        refine kv_sld S hX hbl hbA hB (i + 2) (by omega) (by omega) dL_law_395 ?_
        refine kv_gL (As := [.int (xs (i + 1)), .int (xs (i + 2))]) (rest := [.long (kp_x_read v (xs (i + 1)) (xs (i + 2)))]) (wr := vo_T h d w r cA v) kv_NM S (kc_MO_read l kv_N kv_NM D cA o a1 a2 a3 a4 a5 a6 u.1 u.2.1 u.2.2.1 u.2.2.2.1 u.2.2.2.2.1 u.2.2.2.2.2.1 u.2.2.2.2.2.2.1 u.2.2.2.2.2.2.2.1 u.2.2.2.2.2.2.2.2 (xs (i + 1)) (xs (i + 2)) ) (kn_cV (C := RX4) S kn_371 kn_372 kn_373 kn_3 kn_374 rfl kd_X4_read rfl rfl ⟨Nat.le_of_ble_eq_true rfl, Nat.le_of_ble_eq_true rfl⟩) hB [0, 1, 2, 3, 4, 5, 6] [7, 8, 9, 10] rfl rfl (by decide) (by decide) (by decide) 0 rfl rfl rfl hl.1 rfl (Nat.le_of_ble_eq_true rfl) dL_law_396 ⟨Nat.le_of_ble_eq_true rfl, Nat.le_of_ble_eq_true rfl⟩ (fun H locs hB => ?_)
        have hB : kv_B kv_N D [(cA, .int)] A s (vo_T h d w r cA v ++ mo_T o a1 a2 a3 a4 a5 a6 cA u) H locs := hB
        refine W.lcmp S.1 S.2.1 dL_law_399 ?_
        refine lv_if_eq (tgt := 467) S.1 S.2.1 dL_law_400 (by decide) (fun _ => ?_) (fun qq => absurd (kv_lc (kp_Re_read hR (xs (i + 1)) (xs (i + 2)))) qq)
        exact kback _ _ _ _ _ hR (lv_sub hl [0, 1, 2, 3] rfl) hB
      · refine lv_tableIn (tgt := 405) S.1 S.2.1 dL_law_32 (by decide) (by decide) rfl (by decide) ?_
        refine lv_aload_n S.1 S.2.1 dL_law_405 rfl (lv_at hl 2 rfl) ?_
        refine kv_gI (As := []) (rest := []) (wr := mo_T o a1 a2 a3 a4 a5 a6 cA u) kv_NM S (kc_VO_state l kv_N kv_NM D cA h d w r v.1 v.2.1 v.2.2.1 v.2.2.2.1 v.2.2.2.2  ) (kn_cV (C := RX3) S kn_214 kn_215 kn_216 kn_1 kn_217 rfl kd_X3_state rfl rfl ⟨Nat.le_of_ble_eq_true rfl, Nat.le_of_ble_eq_true rfl⟩) hB [0, 1, 2, 3] [4, 5, 6, 7, 8, 9, 10] rfl rfl (by decide) (by decide) (by decide) 0 rfl rfl rfl hl.1 rfl (Nat.le_of_ble_eq_true rfl) dL_law_406 ⟨Nat.le_of_ble_eq_true rfl, Nat.le_of_ble_eq_true rfl⟩ (fun H locs hB => ?_)
        have hB : kv_B kv_N D [(cA, .int)] A s (mo_T o a1 a2 a3 a4 a5 a6 cA u ++ vo_T h d w r cA v) H locs := hB
        refine lv_aload_n S.1 S.2.1 dL_law_409 rfl (lv_at hl 1 rfl) ?_
        refine kv_gI (As := []) (rest := [.int v.2.2.1]) (wr := vo_T h d w r cA v) kv_NM S (kc_MO_state l kv_N kv_NM D cA o a1 a2 a3 a4 a5 a6 u.1 u.2.1 u.2.2.1 u.2.2.2.1 u.2.2.2.2.1 u.2.2.2.2.2.1 u.2.2.2.2.2.2.1 u.2.2.2.2.2.2.2.1 u.2.2.2.2.2.2.2.2  ) (kn_cV (C := RX4) S kn_376 kn_377 kn_378 kn_3 kn_379 rfl kd_X4_state rfl rfl ⟨Nat.le_of_ble_eq_true rfl, Nat.le_of_ble_eq_true rfl⟩) hB [0, 1, 2, 3, 4, 5, 6] [7, 8, 9, 10] rfl rfl (by decide) (by decide) (by decide) 0 rfl rfl rfl hl.1 rfl (Nat.le_of_ble_eq_true rfl) dL_law_410 ⟨Nat.le_of_ble_eq_true rfl, Nat.le_of_ble_eq_true rfl⟩ (fun H locs hB => ?_)
        have hB : kv_B kv_N D [(cA, .int)] A s (vo_T h d w r cA v ++ mo_T o a1 a2 a3 a4 a5 a6 cA u) H locs := hB
        refine lv_icmp_eq (tgt := 467) S.1 S.2.1 dL_law_413 (by decide) (fun _ => ?_) (fun qq => absurd hR.2.1 qq)
        exact kback _ _ _ _ _ hR (lv_sub hl [0, 1, 2, 3] rfl) hB
      · refine lv_tableIn (tgt := 418) S.1 S.2.1 dL_law_32 (by decide) (by decide) rfl (by decide) ?_
        refine lv_aload_n S.1 S.2.1 dL_law_418 rfl (lv_at hl 2 rfl) ?_
        refine kv_gI (As := []) (rest := []) (wr := mo_T o a1 a2 a3 a4 a5 a6 cA u) kv_NM S (kc_VO_slots l kv_N kv_NM D cA h d w r v.1 v.2.1 v.2.2.1 v.2.2.2.1 v.2.2.2.2  ) (kn_cV (C := RX3) S kn_218 kn_134 kn_135 kn_1 kn_136 rfl kd_X3_slots rfl rfl ⟨Nat.le_of_ble_eq_true rfl, Nat.le_of_ble_eq_true rfl⟩) hB [0, 1, 2, 3] [4, 5, 6, 7, 8, 9, 10] rfl rfl (by decide) (by decide) (by decide) 0 rfl rfl rfl hl.1 rfl (Nat.le_of_ble_eq_true rfl) dL_law_419 ⟨Nat.le_of_ble_eq_true rfl, Nat.le_of_ble_eq_true rfl⟩ (fun H locs hB => ?_)
        have hB : kv_B kv_N D [(cA, .int)] A s (mo_T o a1 a2 a3 a4 a5 a6 cA u ++ vo_T h d w r cA v) H locs := hB
        refine lv_aload_n S.1 S.2.1 dL_law_422 rfl (lv_at hl 1 rfl) ?_
        refine kv_gI (As := []) (rest := [.int (kp_sm v.1.1 4 0 0)]) (wr := vo_T h d w r cA v) kv_NM S (kc_MO_slots l kv_N kv_NM D cA o a1 a2 a3 a4 a5 a6 u.1 u.2.1 u.2.2.1 u.2.2.2.1 u.2.2.2.2.1 u.2.2.2.2.2.1 u.2.2.2.2.2.2.1 u.2.2.2.2.2.2.2.1 u.2.2.2.2.2.2.2.2  ) (kn_cV (C := RX4) S kn_380 kn_381 kn_382 kn_3 kn_383 rfl kd_X4_slots rfl rfl ⟨Nat.le_of_ble_eq_true rfl, Nat.le_of_ble_eq_true rfl⟩) hB [0, 1, 2, 3, 4, 5, 6] [7, 8, 9, 10] rfl rfl (by decide) (by decide) (by decide) 0 rfl rfl rfl hl.1 rfl (Nat.le_of_ble_eq_true rfl) dL_law_423 ⟨Nat.le_of_ble_eq_true rfl, Nat.le_of_ble_eq_true rfl⟩ (fun H locs hB => ?_)
        have hB : kv_B kv_N D [(cA, .int)] A s (vo_T h d w r cA v ++ mo_T o a1 a2 a3 a4 a5 a6 cA u) H locs := hB
        refine lv_icmp_eq (tgt := 467) S.1 S.2.1 dL_law_426 (by decide) (fun _ => ?_) (fun qq => absurd (by rw [hR.1]) qq)
        exact kback _ _ _ _ _ hR (lv_sub hl [0, 1, 2, 3] rfl) hB
      · refine lv_tableIn (tgt := 431) S.1 S.2.1 dL_law_32 (by decide) (by decide) rfl (by decide) ?_
        refine lv_aload_n S.1 S.2.1 dL_law_431 rfl (lv_at hl 2 rfl) ?_
        refine lv_aload_n S.1 S.2.1 dL_law_432 rfl (lv_at hl 3 rfl) ?_
        refine lv_iload_n S.1 S.2.1 dL_law_433 rfl (lv_at hl 0 rfl) ?_
        refine lv_iconst (v := 1) S.1 S.2.1 dL_law_434 (by decide) ?_
        refine lv_iadd S.1 S.2.1 dL_law_435 ?_
        refine kv_top (y := nI (i + 1)) (nI_add i 1) ?_
        refine kv_sld S hX hbl hbA hB (i + 1) (by omega) (by omega) dL_law_436 ?_
        refine kv_gI (As := [.int (xs (i + 1))]) (rest := []) (wr := mo_T o a1 a2 a3 a4 a5 a6 cA u) kv_NM S (kc_VO_peek l kv_N kv_NM D cA h d w r v.1 v.2.1 v.2.2.1 v.2.2.2.1 v.2.2.2.2 (xs (i + 1)) ) (kn_cV (C := RX3) S kn_219 kn_220 kn_221 kn_1 kn_222 rfl kd_X3_peek rfl rfl ⟨Nat.le_of_ble_eq_true rfl, Nat.le_of_ble_eq_true rfl⟩) hB [0, 1, 2, 3] [4, 5, 6, 7, 8, 9, 10] rfl rfl (by decide) (by decide) (by decide) 0 rfl rfl rfl hl.1 rfl (Nat.le_of_ble_eq_true rfl) dL_law_437 ⟨Nat.le_of_ble_eq_true rfl, Nat.le_of_ble_eq_true rfl⟩ (fun H locs hB => ?_)
        have hB : kv_B kv_N D [(cA, .int)] A s (mo_T o a1 a2 a3 a4 a5 a6 cA u ++ vo_T h d w r cA v) H locs := hB
        refine lv_aload_n S.1 S.2.1 dL_law_440 rfl (lv_at hl 1 rfl) ?_
        refine lv_aload_n S.1 S.2.1 dL_law_441 rfl (lv_at hl 3 rfl) ?_
        refine lv_iload_n S.1 S.2.1 dL_law_442 rfl (lv_at hl 0 rfl) ?_
        refine lv_iconst (v := 1) S.1 S.2.1 dL_law_443 (by decide) ?_
        refine lv_iadd S.1 S.2.1 dL_law_444 ?_
        refine kv_top (y := nI (i + 1)) (nI_add i 1) ?_
        refine kv_sld S hX hbl hbA hB (i + 1) (by omega) (by omega) dL_law_445 ?_
        refine kv_gI (As := [.int (xs (i + 1))]) (rest := [.int (kp_at v.1.1 (xs (i + 1)))]) (wr := vo_T h d w r cA v) kv_NM S (kc_MO_peek l kv_N kv_NM D cA o a1 a2 a3 a4 a5 a6 u.1 u.2.1 u.2.2.1 u.2.2.2.1 u.2.2.2.2.1 u.2.2.2.2.2.1 u.2.2.2.2.2.2.1 u.2.2.2.2.2.2.2.1 u.2.2.2.2.2.2.2.2 (xs (i + 1)) ) (kn_cV (C := RX4) S kn_384 kn_385 kn_386 kn_3 kn_387 rfl kd_X4_peek rfl rfl ⟨Nat.le_of_ble_eq_true rfl, Nat.le_of_ble_eq_true rfl⟩) hB [0, 1, 2, 3, 4, 5, 6] [7, 8, 9, 10] rfl rfl (by decide) (by decide) (by decide) 0 rfl rfl rfl hl.1 rfl (Nat.le_of_ble_eq_true rfl) dL_law_446 ⟨Nat.le_of_ble_eq_true rfl, Nat.le_of_ble_eq_true rfl⟩ (fun H locs hB => ?_)
        have hB : kv_B kv_N D [(cA, .int)] A s (vo_T h d w r cA v ++ mo_T o a1 a2 a3 a4 a5 a6 cA u) H locs := hB
        refine lv_icmp_eq (tgt := 467) S.1 S.2.1 dL_law_449 (by decide) (fun _ => ?_) (fun qq => absurd (by rw [hR.1]) qq)
        exact kback _ _ _ _ _ hR (lv_sub hl [0, 1, 2, 3] rfl) hB
      · refine lv_tableIn (tgt := 454) S.1 S.2.1 dL_law_32 (by decide) (by decide) rfl (by decide) ?_
        refine lv_aload_n S.1 S.2.1 dL_law_454 rfl (lv_at hl 2 rfl) ?_
        refine kv_gI (As := []) (rest := []) (wr := mo_T o a1 a2 a3 a4 a5 a6 cA u) kv_NM S (kc_VO_writes l D cA h d w r v.1 v.2.1 v.2.2.1 v.2.2.2.1 v.2.2.2.2 ) (kn_cV (C := RX3) S kn_223 kn_224 kn_225 kn_1 kn_226 rfl kd_X3_writes rfl rfl ⟨Nat.le_of_ble_eq_true rfl, Nat.le_of_ble_eq_true rfl⟩) hB [0, 1, 2, 3] [4, 5, 6, 7, 8, 9, 10] rfl rfl (by decide) (by decide) (by decide) 0 rfl rfl rfl hl.1 rfl (Nat.le_of_ble_eq_true rfl) dL_law_455 ⟨Nat.le_of_ble_eq_true rfl, Nat.le_of_ble_eq_true rfl⟩ (fun H locs hB => ?_)
        have hB : kv_B kv_N D [(cA, .int)] A s (mo_T o a1 a2 a3 a4 a5 a6 cA u ++ vo_T h d w r cA v) H locs := hB
        refine lv_aload_n S.1 S.2.1 dL_law_458 rfl (lv_at hl 1 rfl) ?_
        refine kv_gI (As := []) (rest := [.int v.1.2.1]) (wr := vo_T h d w r cA v) kv_NM S (kc_MO_writes l kv_N kv_NM D cA o a1 a2 a3 a4 a5 a6 u.1 u.2.1 u.2.2.1 u.2.2.2.1 u.2.2.2.2.1 u.2.2.2.2.2.1 u.2.2.2.2.2.2.1 u.2.2.2.2.2.2.2.1 u.2.2.2.2.2.2.2.2  ) (kn_cV (C := RX4) S kn_388 kn_389 kn_390 kn_3 kn_391 rfl kd_X4_writes rfl rfl ⟨Nat.le_of_ble_eq_true rfl, Nat.le_of_ble_eq_true rfl⟩) hB [0, 1, 2, 3, 4, 5, 6] [7, 8, 9, 10] rfl rfl (by decide) (by decide) (by decide) 0 rfl rfl rfl hl.1 rfl (Nat.le_of_ble_eq_true rfl) dL_law_459 ⟨Nat.le_of_ble_eq_true rfl, Nat.le_of_ble_eq_true rfl⟩ (fun H locs hB => ?_)
        have hB : kv_B kv_N D [(cA, .int)] A s (vo_T h d w r cA v ++ mo_T o a1 a2 a3 a4 a5 a6 cA u) H locs := hB
        refine lv_icmp_eq (tgt := 467) S.1 S.2.1 dL_law_462 (by decide) (fun _ => ?_) (fun qq => absurd (by rw [hR.1]) qq)
        exact kback _ _ _ _ _ hR (lv_sub hl [0, 1, 2, 3] rfl) hB
      · refine lv_tableOut (tgt := 467) S.1 S.2.1 dL_law_32 (by decide) (by decide) ?_
        exact kback v u H locs ls hR hl hB
      · refine lv_tableOut (tgt := 467) S.1 S.2.1 dL_law_32 (by decide) (by decide) ?_
        exact kback v u H locs ls hR hl hB
set_option maxRecDepth 100000 in
set_option maxHeartbeats 16000000 in
/-- from the entry, for every script of at most 2560 ints, the law comes to its end with true -/
theorem whole_start {p : Program} {e : Env} {s : State} {m : MethodId} {below : List Frame} {meth : Method} {c : Code} (l : Launch) {b L : Nat} {xs : Nat → Int32} (hL : L ≤ 2560) (C0 : lw_At p s m meth c b L xs) : W p l e room_1 s m #[Value.ref b] below meth c s.heap [] 0 0 (lw_Z below #[Value.ref b] s) (entryFrame m ([Value.ref b] : List Value).toArray 4) := by
  obtain ⟨hx, hb, hr, hml, hown, hts0, hX, hbl, hlocks, hgv⟩ := C0
  have hts : ∀ w ∈ (Cond.initialized RL :: kn_T), w.before #[Value.ref b] s = true := fun w h => (List.mem_cons.mp h).elim (fun q => by subst q; exact hts0 _ (kn_b _ kn_0)) (fun q => hts0 w (kn_b w q))
  have S : CallFix p m c code 4 s #[Value.ref b] (Cond.initialized RL :: kn_T) RL := ⟨hx, hb, hml, hown, hts⟩
  have hNs : kv_N s := ⟨va_Nw.of rfl (hts0 _ (by decide +kernel)), va_Nw.of rfl (hts0 _ (by decide +kernel))⟩
  obtain ⟨c0, i0, k0⟩ := u_known (C := RX1) (T := TX1) (N := 3) (n := 3) hts (kn_c kn_iX1) (hts _ (List.mem_cons_of_mem _ kn_17))
  obtain ⟨c1, i1, k1⟩ := u_known (C := RX3) (T := TX3) (N := 5) (n := 5) hts (kn_c kn_iX3) (hts _ (List.mem_cons_of_mem _ kn_9))
  obtain ⟨c2, i2, k2⟩ := u_known (C := RX4) (T := TX4) (N := 14) (n := 14) hts (kn_c kn_iX4) (hts _ (List.mem_cons_of_mem _ kn_228))
  obtain ⟨D, hD⟩ : ∃ D : va_G, D = (fun k => match k with | 0 => c0 | 1 => c1 | _ => c2, fun k => match k with | 0 => i0 | 1 => i1 | _ => i2) := ⟨_, rfl⟩
  have hK : va_K D vwCl [] s := by
    subst hD
    refine ⟨fun c q hq => ?_, fun k q hk => by simp at hk⟩
    rcases c with _ | _ | _ | c
    · cases hq; exact k0
    · cases hq; exact k1
    · cases hq; exact k2
    · exact absurd hq (by simp)
  obtain ⟨A, hA⟩ : ∃ A : Nat → Prop, A = fun q => s.heap.size ≤ q := ⟨_, rfl⟩
  have hB : kv_B kv_N D [] A s [] s.heap [] := ⟨fun k q hk => by simp at hk, ⟨fun i j p q hk => by simp at hk, fun k q hk => by simp at hk⟩, hK, va_S.rf, fun q hq => by rw [hA]; exact hq, hNs⟩
  have hl := lv_entry ([.ref b]) (n := 4) (Nat.le_of_ble_eq_true rfl)
  rw [lg_entry_eq]
  generalize (lg_sl ([.ref b]) ++ List.replicate (4 - (lg_sl ([.ref b])).length) Slot.unset).toArray = ls at hl ⊢
  have hl : lv_has ls 4 [(0, .ref b)] := hl
  refine kv_newo (C := RX3) (T := TX3) (M := 5) (ci := 1) (fs := [.null, .null, .int 0, .int 0, .int 0]) S hB (kn_c kn_iX3) tyX3 tyX3_ok (List.mem_cons_of_mem _ kn_8) (List.mem_cons_of_mem _ kn_9) (List.mem_cons_of_mem _ kn_1) rfl (by decide) (Nat.le_of_ble_eq_true rfl) (Nat.le_of_ble_eq_true rfl) dL_law_0 (fun h H hB => ?_)
  refine lv_dup S.1 S.2.1 dL_law_3 rfl ?_
  refine kv_init (rest := [.ref h]) (wr := []) S (kc_VO_init l D h) (kn_cI S kn_10 kn_11 kn_1 kn_12 rfl kd_X3_init rfl rfl ⟨Nat.le_of_ble_eq_true rfl, Nat.le_of_ble_eq_true rfl⟩) hB [0] [] rfl rfl (by decide) (by decide) (by decide) hl.1 (Nat.le_of_ble_eq_true rfl) dL_law_4 ⟨(Nat.le_of_ble_eq_true rfl), (Nat.le_of_ble_eq_true rfl)⟩ (fun z H locs hB => ?_)
  obtain ⟨d, w, r, cA⟩ := z
  have hB : kv_B kv_N D [(cA, .int)] A s (vo_T h d w r cA kp_v0) H locs := hB
  refine lv_astore_n S.1 S.2.1 dL_law_7 rfl hl (by decide) rfl (fun ls hl => ?_)
  have hl : lv_has ls 4 [(1, .ref h), (0, .ref b)] := hl
  refine kv_newo (C := RX4) (T := TX4) (M := 14) (ci := 2) (fs := [.null, .int 0, .int 0, .int 0, .int 0, .int 0, .int 0, .null, .null, .null, .null, .null, .int 0, .int 0]) S hB (kn_c kn_iX4) tyX4 tyX4_ok (List.mem_cons_of_mem _ kn_227) (List.mem_cons_of_mem _ kn_228) (List.mem_cons_of_mem _ kn_3) rfl (by decide) (Nat.le_of_ble_eq_true rfl) (Nat.le_of_ble_eq_true rfl) dL_law_8 (fun o H hB => ?_)
  refine lv_dup S.1 S.2.1 dL_law_11 rfl ?_
  refine kv_init (rest := [.ref o]) (wr := vo_T h d w r cA kp_v0) S (kc_MO_init l D o) (kn_cI S kn_229 kn_230 kn_3 kn_231 rfl kd_X4_init rfl rfl ⟨Nat.le_of_ble_eq_true rfl, Nat.le_of_ble_eq_true rfl⟩) hB [4] [0, 1, 2, 3] rfl rfl (by decide) (by decide) (by decide) hl.1 (Nat.le_of_ble_eq_true rfl) dL_law_12 ⟨(Nat.le_of_ble_eq_true rfl), (Nat.le_of_ble_eq_true rfl)⟩ (fun z H locs hB => ?_)
  obtain ⟨⟨a1, a2, a3, a4, a5, a6⟩, cB⟩ := z
  have hcc : cA = cB := kv_same (i := 0) (j := 1) hB rfl rfl
  subst hcc
  have hB := kv_tys (tys' := [(cA, .int)]) [0] rfl hB
  have hB : kv_B kv_N D [(cA, .int)] A s (vo_T h d w r cA kp_v0 ++ mo_T o a1 a2 a3 a4 a5 a6 cA kp_u0) H locs := hB
  refine lv_astore_n S.1 S.2.1 dL_law_15 rfl hl (by decide) rfl (fun ls hl => ?_)
  have hl : lv_has ls 4 [(2, .ref o), (1, .ref h), (0, .ref b)] := hl
  refine lv_iconst (v := 0) S.1 S.2.1 dL_law_16 (by decide) ?_
  refine lv_istore_n S.1 S.2.1 dL_law_17 rfl hl (by decide) rfl (fun ls hl => ?_)
  have hl : lv_has ls 4 [(3, .int (nI 0)), (2, .ref o), (1, .ref h), (0, .ref b)] := hl
  exact kl_loop l hL S hr hlocks hX hbl D cA h d w r o a1 a2 a3 a4 a5 a6 A hA (L + 1) 0 kp_v0 kp_u0 H locs ls (by omega) (Nat.zero_le _) kp_Re_0 hl hB
