/-! Volume and reference side by side. -/
def kp_Jv (f : Nat → Int32) (q n : Nat) : Prop := kp_J f q n ∧ ((4 ≤ q ∧ q + n ≤ 36) ∨ 48 ≤ q)
def kp_in (f : Nat → Int32) : Prop := f 36 = 1 → ∃ q n : Nat, kp_Jv f q n
/-- a plan keeps the journal's word good at every write -/
def kp_pi : List (Nat × Int32) → (Nat → Int32) → Prop
  | [], f => kp_in f
  | q :: xs, f => kp_in f ∧ kp_pi xs (upd f q.1 q.2)
theorem kp_pi_in : ∀ (xs : List (Nat × Int32)) (f : Nat → Int32), kp_pi xs f → kp_in f
  | [], _, h => h
  | _ :: _, _, h => h.1
theorem kp_pi_run : ∀ (xs : List (Nat × Int32)) (σ : kp_S), kp_pi xs σ.1 → kp_in (kp_run xs σ).2.1
  | [], _, h => h
  | q :: xs, σ, h => by
    unfold kp_run
    by_cases hz : σ.2.2 = 0
    · rw [if_pos hz]; exact h.1
    · rw [if_neg hz]; exact kp_pi_run xs (kp_put σ q.1 q.2) h.2
theorem kp_in_keep {f : Nat → Int32} {p : Nat} {x : Int32} (h : kp_in f) (h6 : p ≠ 36) (h7 : p ≠ 37) : kp_in (upd f p x) := by
  intro h1
  rw [pk_un (Ne.symm h6)] at h1
  obtain ⟨q, n, ⟨h2, h3⟩, h4⟩ := h h1
  exact ⟨q, n, ⟨by rw [pk_un (Ne.symm h7)]; exact h2, h3⟩, h4⟩
theorem kp_in_no {f : Nat → Int32} (h : ¬ f 36 = 1) : kp_in f := fun q => absurd q h
theorem kp_cl_pi : ∀ (n j : Nat) (f : Nat → Int32), 37 ≤ j → ¬ f 36 = 1 → kp_pi (kp_cl n j f) f
  | 0, _, _, _, h => kp_in_no h
  | n + 1, j, f, hj, h => by
    unfold kp_cl
    by_cases hf : f j = 0
    · rw [if_pos hf]; exact kp_cl_pi n (j + 1) f (by omega) h
    · rw [if_neg hf]
      exact ⟨kp_in_no h, kp_cl_pi n (j + 1) _ (by omega) (by rw [pk_un (by omega)]; exact h)⟩
theorem kp_fi_pi : ∀ (n i q : Nat) (f : Nat → Int32), kp_in f → ((4 ≤ q ∧ q + i + n ≤ 36) ∨ 48 ≤ q) → kp_pi (kp_fi n i q f) f
  | 0, _, _, f, h, _ => ⟨h, kp_cl_pi 9 37 _ (by decide) (by rw [pk_us]; decide)⟩
  | n + 1, i, q, f, h, hr => ⟨h, kp_fi_pi n (i + 1) q _ (kp_in_keep h (by omega) (by omega)) (by omega)⟩
theorem kp_ch_pi : ∀ (n i N q : Nat) (g f : Nat → Int32), kp_in f → ((4 ≤ q ∧ q + N ≤ 36) ∨ 48 ≤ q) → q + N ≤ 80 → N ≤ 8 → kp_pi (kp_ch n i N q g f) f
  | 0, _, N, q, _, f, h, hr, h1, h2 => by
    have hJ : kp_Jv (upd f 37 (nI (q + 256 * N))) q N := ⟨⟨pk_us, h1, h2⟩, hr⟩
    have hJ2 : kp_Jv (upd (upd f 37 (nI (q + 256 * N))) 36 1) q N := ⟨⟨by rw [pk_un (by decide)]; exact pk_us, h1, h2⟩, hr⟩
    exact ⟨h, fun _ => ⟨q, N, hJ⟩, kp_fi_pi N 0 q _ (fun _ => ⟨q, N, hJ2⟩) (by omega)⟩
  | n + 1, i, N, q, g, f, h, hr, h1, h2 => ⟨h, kp_ch_pi n (i + 1) N q g _ (kp_in_keep h (by omega) (by omega)) hr h1 h2⟩
theorem kp_fm_pi2 : ∀ (n j : Nat) (g f : Nat → Int32), 37 ≤ j → ¬ f 36 = 1 → kp_pi (kp_fm n j g) f
  | 0, _, _, f, _, h => ⟨kp_in_no h, kp_in_no (by rw [pk_un (by decide)]; exact h)⟩
  | n + 1, j, g, f, hj, h => ⟨kp_in_no h, kp_fm_pi2 n (j + 1) g _ (by omega) (by rw [pk_un (by omega)]; exact h)⟩
theorem kp_fm_pi : ∀ (n j : Nat) (g f : Nat → Int32), j + n = 80 → j ≤ 36 → g 36 = 0 → kp_in f → kp_pi (kp_fm n j g) f
  | 0, j, _, _, h, h1, _, _ => by omega
  | n + 1, j, g, f, hj, h1, hg, h => by
    refine ⟨h, ?_⟩
    by_cases e : j = 36
    · subst e
      exact kp_fm_pi2 n 37 g _ (by decide) (by rw [pk_us, hg]; decide)
    · exact kp_fm_pi n (j + 1) g _ (by omega) (by omega) hg (kp_in_keep h (by omega) (by omega))
theorem kp_vol_36 (a b pw sd : Int32) : kp_vol a b pw sd 36 = 0 := by
  rw [kp_vol, if_neg (by decide), if_neg (by decide), if_neg (by decide), if_neg (by decide)]
theorem kp_vol_0 (a b pw sd : Int32) : kp_vol a b pw sd 0 = 0 := by
  rw [kp_vol, if_neg (by decide), if_neg (by decide), if_neg (by decide), if_neg (by decide)]
/-- the words that a change reads of the new ones -/
theorem kp_ch_congr : ∀ (n i N q : Nat) (g g' f : Nat → Int32), (∀ j, i ≤ j → j < i + n → g j = g' j) → kp_ch n i N q g f = kp_ch n i N q g' f
  | 0, _, _, _, _, _, _, _ => rfl
  | n + 1, i, N, q, g, g', f, h => by
    have e := h i (Nat.le_refl i) (by omega)
    show (38 + i, g i) :: kp_ch n (i + 1) N q g (upd f (38 + i) (g i)) = (38 + i, g' i) :: kp_ch n (i + 1) N q g' (upd f (38 + i) (g' i))
    rw [e, kp_ch_congr n (i + 1) N q g g' _ (fun j h1 h2 => h j (by omega) (by omega))]
theorem kp_wl_eq (f : Nat → Int32) (dk pk : Int32) (z i : Nat) (v : Int32) : ∀ (n j : Nat) (g g' : Nat → Int32) (k : Nat), (g k = g' k ∨ (j ≤ k ∧ k < j + n)) → kp_wl f dk pk z i v n j g k = kp_wl f dk pk z i v n j g' k
  | 0, j, g, g', k, h => by
    rcases h with h | h
    · exact h
    · omega
  | n + 1, j, g, g', k, h => by
    show kp_wl f dk pk z i v n (j + 1) _ k = kp_wl f dk pk z i v n (j + 1) _ k
    refine kp_wl_eq f dk pk z i v n (j + 1) _ _ k ?_
    by_cases e : k = j
    · subst e; exact Or.inl (by rw [pk_us, pk_us])
    · rcases h with h | h
      · exact Or.inl (by rw [pk_un e, pk_un e]; exact h)
      · exact Or.inr (by omega)
/-- the tie -/
def kp_Re (v : kp_V) (u : kp_U) : Prop := v.1 = u.1 ∧ v.2.2.1 = u.2.1 ∧ (u.2.1 = 2 → v.2.2.2 = (u.2.2.1, u.2.2.2.1)) ∧ (u.2.1 = 0 ∨ u.2.1 = 1 ∨ u.2.1 = 2) ∧ kp_in u.1.1
theorem kp_ro_2 {dv : Int32} (h : dv = 0 ∨ dv = 1 ∨ dv = 2) (h0 : kp_ro dv = 0) : dv = 2 := by
  rcases h with rfl | rfl | rfl
  · exact absurd h0 (by decide)
  · exact absurd h0 (by decide)
  · rfl
theorem kp_Re_cut {v : kp_V} {u : kp_U} (h : kp_Re v u) (x : Int32) : (kp_x_cut v x).1 = (kp_y_cut u x).1 ∧ kp_Re (kp_x_cut v x).2 (kp_y_cut u x).2 := by
  obtain ⟨σ, g, dv, dk, pk⟩ := v
  obtain ⟨σ', dv', ka, kb, r⟩ := u
  obtain ⟨h1, h2, h3, h4, h5⟩ := h
  dsimp only at h1 h2 h3 h4 h5
  subst h1; subst h2
  unfold kp_x_cut kp_y_cut
  by_cases hx : (-1 : Int32) ≤ x
  · rw [if_pos hx, if_pos hx]; exact ⟨rfl, rfl, rfl, h3, h4, h5⟩
  · rw [if_neg hx, if_neg hx]; exact ⟨rfl, rfl, rfl, h3, h4, h5⟩
/-- behind a run of writes -/
theorem kp_Re_fin {R : Int32 × kp_S} {ok dv dk pk ka kb : Int32} {G fr st : Nat → Int32} {μ : kp_P} {oa ob : Int32} (hR : kp_in R.2.1) (hd : dv = 0 ∨ dv = 1 ∨ dv = 2) (hk : dv = 2 → (dk, pk) = (ka, kb)) :
    (kp_fin ok R G dv dk pk).1 = (kp_yf ok R dv ka kb μ fr st oa ob).1 ∧ kp_Re (kp_fin ok R G dv dk pk).2 (kp_yf ok R dv ka kb μ fr st oa ob).2 := by
  unfold kp_fin kp_yf
  by_cases h : R.1 = 0
  · rw [if_pos h, if_pos h]
    exact ⟨rfl, rfl, rfl, fun q => absurd q (show ¬ (0 : Int32) = 2 by decide), Or.inl rfl, hR⟩
  · rw [if_neg h, if_neg h]
    exact ⟨rfl, rfl, rfl, hk, hd, hR⟩
theorem kp_Re_add {v : kp_V} {u : kp_U} (h : kp_Re v u) (pw sd : Int32) : (kp_x_add v pw sd).1 = (kp_y_add u pw sd).1 ∧ kp_Re (kp_x_add v pw sd).2 (kp_y_add u pw sd).2 := by
  obtain ⟨σ, g, dv, dk, pk⟩ := v
  obtain ⟨σ', dv', ka, kb, μ, fr, st, oa, ob⟩ := u
  obtain ⟨h1, h2, h3, h4, h5⟩ := h
  dsimp only at h1 h2 h3 h4 h5
  subst h1; subst h2
  unfold kp_x_add kp_y_add
  dsimp only
  by_cases h0 : kp_ro dv = 0
  · rw [if_pos h0, if_pos h0]
    have hk := h3 (kp_ro_2 h4 h0)
    cases hk
    by_cases hl : kp_lf σ.1 4 0 = 4
    · rw [if_pos hl, if_pos hl]; exact ⟨rfl, rfl, rfl, h3, h4, h5⟩
    · rw [if_neg hl, if_neg hl]
      have hle := kp_lf_le σ.1 4 0
      have e := kp_ch_congr 8 0 8 (4 + 8 * kp_lf σ.1 4 0) (kp_wo g 0 dk pk pw sd) (kp_sl pw sd dk pk) σ.1 (fun j _ hj => by
        have q := kp_wo_in g 0 dk pk pw sd (j := j) (by omega)
        rw [Nat.zero_add] at q
        exact q)
      rw [e]
      exact kp_Re_fin (kp_pi_run _ _ (kp_ch_pi 8 0 8 _ _ _ h5 (by omega) (by omega) (by decide))) h4 h3
  · rw [if_neg h0, if_neg h0]; exact ⟨rfl, rfl, rfl, h3, h4, h5⟩
theorem kp_rs_2 {f : Nat → Int32} {dv x : Int32} (h : kp_rs f dv x = 0) : kp_ro dv = 0 := by
  unfold kp_rs at h
  by_cases h0 : kp_ro dv = 0
  · exact h0
  · rw [if_neg h0] at h; exact h
theorem kp_rw_2 {dv x y : Int32} (h : kp_rw dv x y = 0) : kp_ro dv = 0 := by
  unfold kp_rw at h
  by_cases h0 : kp_ro dv = 0
  · exact h0
  · rw [if_neg h0] at h; exact h
theorem kp_Re_change {v : kp_V} {u : kp_U} (h : kp_Re v u) (x pw sd : Int32) : (kp_x_change v x pw sd).1 = (kp_y_change u x pw sd).1 ∧ kp_Re (kp_x_change v x pw sd).2 (kp_y_change u x pw sd).2 := by
  obtain ⟨σ, g, dv, dk, pk⟩ := v
  obtain ⟨σ', dv', ka, kb, μ, fr, st, oa, ob⟩ := u
  obtain ⟨h1, h2, h3, h4, h5⟩ := h
  dsimp only at h1 h2 h3 h4 h5
  subst h1; subst h2
  unfold kp_x_change kp_y_change
  dsimp only
  by_cases h0 : kp_rs σ.1 dv x = 0
  · rw [if_pos h0, if_pos h0]
    have hk := h3 (kp_ro_2 h4 (kp_rs_2 h0))
    cases hk
    obtain ⟨k, hk4, rfl⟩ := kp_rs_k h0
    rw [nI_clamp (by omega)]
    have e := kp_ch_congr 8 0 8 (4 + 8 * k) (kp_wo g 0 dk pk pw sd) (kp_sl pw sd dk pk) σ.1 (fun j _ hj => by
        have q := kp_wo_in g 0 dk pk pw sd (j := j) (by omega)
        rw [Nat.zero_add] at q
        exact q)
    rw [e]
    exact kp_Re_fin (kp_pi_run _ _ (kp_ch_pi 8 0 8 _ _ _ h5 (by omega) (by omega) (by decide))) h4 h3
  · rw [if_neg h0, if_neg h0]; exact ⟨rfl, rfl, rfl, h3, h4, h5⟩
theorem kp_Re_revoke {v : kp_V} {u : kp_U} (h : kp_Re v u) (x : Int32) : (kp_x_revoke v x).1 = (kp_y_revoke u x).1 ∧ kp_Re (kp_x_revoke v x).2 (kp_y_revoke u x).2 := by
  obtain ⟨σ, g, dv, dk, pk⟩ := v
  obtain ⟨σ', dv', ka, kb, μ, fr, st, oa, ob⟩ := u
  obtain ⟨h1, h2, h3, h4, h5⟩ := h
  dsimp only at h1 h2 h3 h4 h5
  subst h1; subst h2
  unfold kp_x_revoke kp_y_revoke
  dsimp only
  by_cases h0 : kp_rs σ.1 dv x = 0
  · rw [if_pos h0, if_pos h0, kp_bc_sm]
    by_cases hc : kp_cn σ.1 4 0 0 = 1
    · rw [if_pos hc, if_pos hc]; exact ⟨rfl, rfl, rfl, h3, h4, h5⟩
    · rw [if_neg hc, if_neg hc]
      obtain ⟨k, hk4, rfl⟩ := kp_rs_k h0
      rw [nI_clamp (by omega)]
      exact kp_Re_fin (kp_pi_run _ _ (kp_ch_pi 8 0 8 _ _ _ h5 (by omega) (by omega) (by decide))) h4 h3
  · rw [if_neg h0, if_neg h0]; exact ⟨rfl, rfl, rfl, h3, h4, h5⟩
theorem kp_Re_write {v : kp_V} {u : kp_U} (h : kp_Re v u) (x y t : Int32) : (kp_x_write v x y t).1 = (kp_y_write u x y t).1 ∧ kp_Re (kp_x_write v x y t).2 (kp_y_write u x y t).2 := by
  obtain ⟨σ, g, dv, dk, pk⟩ := v
  obtain ⟨σ', dv', ka, kb, μ, fr, st, oa, ob⟩ := u
  obtain ⟨h1, h2, h3, h4, h5⟩ := h
  dsimp only at h1 h2 h3 h4 h5
  subst h1; subst h2
  unfold kp_x_write kp_y_write
  dsimp only
  by_cases h0 : kp_rw dv x y = 0
  · rw [if_pos h0, if_pos h0]
    have hk := h3 (kp_ro_2 h4 (kp_rw_2 h0))
    cases hk
    obtain ⟨z, hz, i, hi, rfl, rfl⟩ := kp_rw_k h0
    rw [nI_clamp (by omega), nI_clamp (by omega)]
    have e := kp_ch_congr 4 0 4 (48 + 4 * z) (kp_wl σ.1 dk pk z i t 4 0 g) (kp_wl σ.1 dk pk z i t 4 0 fr) σ.1 (fun j h1 h2 => kp_wl_eq _ _ _ _ _ _ 4 0 g fr j (Or.inr ⟨h1, h2⟩))
    rw [e]
    exact kp_Re_fin (kp_pi_run _ _ (kp_ch_pi 4 0 4 _ _ _ h5 (by omega) (by omega) (by decide))) h4 h3
  · rw [if_neg h0, if_neg h0]; exact ⟨rfl, rfl, rfl, h3, h4, h5⟩
theorem kp_Re_format {v : kp_V} {u : kp_U} (h : kp_Re v u) (a b pw sd : Int32) : (kp_x_format v a b pw sd).1 = (kp_y_format u a b pw sd).1 ∧ kp_Re (kp_x_format v a b pw sd).2 (kp_y_format u a b pw sd).2 := by
  obtain ⟨σ, g, dv, dk, pk⟩ := v
  obtain ⟨σ', dv', ka, kb, μ, fr, st, oa, ob⟩ := u
  obtain ⟨h1, h2, h3, h4, h5⟩ := h
  dsimp only at h1 h2 h3 h4 h5
  subst h1; subst h2
  unfold kp_x_format kp_y_format
  dsimp only
  have e : ((0, 0) :: kp_fm 79 1 (kp_vol a b pw sd) : List (Nat × Int32)) = kp_fm 80 0 (kp_vol a b pw sd) := by
    show _ = (0, kp_vol a b pw sd 0) :: kp_fm 79 1 (kp_vol a b pw sd)
    rw [kp_vol_0]
  rw [e]
  exact kp_Re_fin (kp_pi_run _ _ (kp_fm_pi 80 0 _ _ rfl (by decide) (kp_vol_36 a b pw sd) h5)) (Or.inr (Or.inl rfl)) (fun q => absurd q (by decide))
theorem kp_Re_mount {v : kp_V} {u : kp_U} (h : kp_Re v u) (q n : Nat) (hJ : u.1.1 36 = 1 → kp_Jv u.1.1 q n) : (kp_x_mount v q n).1 = (kp_y_mount u q n).1 ∧ kp_Re (kp_x_mount v q n).2 (kp_y_mount u q n).2 := by
  obtain ⟨σ, g, dv, dk, pk⟩ := v
  obtain ⟨σ', dv', ka, kb, μ, fr, st, oa, ob⟩ := u
  obtain ⟨h1, h2, h3, h4, h5⟩ := h
  dsimp only at h1 h2 h3 h4 h5 hJ
  subst h1; subst h2
  unfold kp_x_mount kp_y_mount
  dsimp only
  by_cases h0 : σ.1 0 = 1396855379
  · rw [if_pos h0, if_pos h0, kp_bc_sm]
    have hp : kp_pi (kp_se q n σ.1) σ.1 := by
      unfold kp_se
      by_cases h6 : σ.1 36 = 1
      · rw [if_pos h6]
        obtain ⟨-, hr⟩ := hJ h6
        exact kp_fi_pi n 0 q σ.1 h5 (by omega)
      · rw [if_neg h6]; exact kp_cl_pi 9 37 σ.1 (by decide) h6
    exact kp_Re_fin (G := g) (dk := 0) (pk := 0) (kp_pi_run _ _ hp) (Or.inr (Or.inl rfl)) (fun q => absurd q (by decide))
  · rw [if_neg h0, if_neg h0]; exact ⟨rfl, rfl, rfl, fun q => absurd q (show ¬ (0 : Int32) = 2 by decide), Or.inl rfl, h5⟩
theorem kp_un_mu (f : Nat → Int32) (pw dv dk pk ka kb : Int32) : ∀ (n k : Nat) (st : Nat → Int32) (oa ob : Int32),
    (kp_un f pw (dv, dk, pk) n k).1 = (kp_mu f pw n k (dv, ka, kb, st, oa, ob)).1 ∧
    (((kp_un f pw (dv, dk, pk) n k).2 = (dv, dk, pk) ∧ (kp_mu f pw n k (dv, ka, kb, st, oa, ob)).2.1 = dv ∧ (kp_mu f pw n k (dv, ka, kb, st, oa, ob)).2.2.1 = ka ∧ (kp_mu f pw n k (dv, ka, kb, st, oa, ob)).2.2.2.1 = kb) ∨
     ((kp_un f pw (dv, dk, pk) n k).2 = (2, (kp_mu f pw n k (dv, ka, kb, st, oa, ob)).2.2.1, (kp_mu f pw n k (dv, ka, kb, st, oa, ob)).2.2.2.1) ∧ (kp_mu f pw n k (dv, ka, kb, st, oa, ob)).2.1 = 2))
  | 0, k, st, oa, ob => ⟨rfl, Or.inl ⟨rfl, rfl, rfl, rfl⟩⟩
  | n + 1, k, st, oa, ob => by
    have ih := kp_un_mu f pw dv dk pk ka kb n (k + 1) (kp_so f (4 + 8 * k) pw) (kp_oh f (4 + 8 * k) pw 0) (kp_oh f (4 + 8 * k) pw 1)
    unfold kp_un kp_mu
    by_cases h0 : kp_ac f k = 0
    · have e : kp_op f k pw = 0 := by rw [kp_op, if_pos h0]
      rw [if_pos h0, if_pos e]; exact ih
    · have e : kp_op f k pw = kp_om f k pw := by rw [kp_op, if_neg h0]
      rw [if_neg h0, e]
      by_cases h1 : kp_om f k pw = 0
      · rw [if_pos h1, if_pos h1]; exact ih
      · rw [if_neg h1, if_neg h1]; exact ⟨rfl, Or.inr ⟨rfl, rfl⟩⟩
theorem kp_Re_unlock {v : kp_V} {u : kp_U} (h : kp_Re v u) (pw : Int32) : (kp_x_unlock v pw).1 = (kp_y_unlock u pw).1 ∧ kp_Re (kp_x_unlock v pw).2 (kp_y_unlock u pw).2 := by
  obtain ⟨σ, g, dv, dk, pk⟩ := v
  obtain ⟨σ', dv', ka, kb, μ, fr, st, oa, ob⟩ := u
  obtain ⟨h1, h2, h3, h4, h5⟩ := h
  dsimp only at h1 h2 h3 h4 h5
  subst h1; subst h2
  unfold kp_x_unlock kp_y_unlock kp_mq
  dsimp only
  by_cases h0 : dv = 0
  · rw [if_pos h0, if_pos h0]; exact ⟨rfl, rfl, rfl, h3, h4, h5⟩
  · rw [if_neg h0, if_neg h0]
    obtain ⟨e1, e2⟩ := kp_un_mu σ.1 pw dv dk pk ka kb 4 0 st oa ob
    refine ⟨e1, rfl, ?_⟩
    rcases e2 with ⟨e2, e3, e4, e5⟩ | ⟨e2, e3⟩
    · refine ⟨?_, ?_, ?_, h5⟩
      · show (kp_un σ.1 pw (dv, dk, pk) 4 0).2.1 = _
        rw [e2]; exact e3.symm
      · intro q
        show (kp_un σ.1 pw (dv, dk, pk) 4 0).2.2 = _
        rw [e2]
        show (dk, pk) = ((kp_mu σ.1 pw 4 0 (dv, ka, kb, st, oa, ob)).2.2.1, (kp_mu σ.1 pw 4 0 (dv, ka, kb, st, oa, ob)).2.2.2.1)
        rw [e4, e5]
        exact h3 (e3.symm.trans q)
      · show (kp_mu σ.1 pw 4 0 (dv, ka, kb, st, oa, ob)).2.1 = 0 ∨ (kp_mu σ.1 pw 4 0 (dv, ka, kb, st, oa, ob)).2.1 = 1 ∨ (kp_mu σ.1 pw 4 0 (dv, ka, kb, st, oa, ob)).2.1 = 2
        rw [e3]; exact h4
    · refine ⟨?_, ?_, ?_, h5⟩
      · show (kp_un σ.1 pw (dv, dk, pk) 4 0).2.1 = _
        rw [e2]; exact e3.symm
      · intro q
        show (kp_un σ.1 pw (dv, dk, pk) 4 0).2.2 = _
        rw [e2]
      · exact Or.inr (Or.inr e3)
theorem kp_Re_lock {v : kp_V} {u : kp_U} (h : kp_Re v u) : (kp_x_lock v).1 = (kp_y_lock u).1 ∧ kp_Re (kp_x_lock v).2 (kp_y_lock u).2 := by
  obtain ⟨σ, g, dv, dk, pk⟩ := v
  obtain ⟨σ', dv', ka, kb, r⟩ := u
  obtain ⟨h1, h2, h3, h4, h5⟩ := h
  dsimp only at h1 h2 h3 h4 h5
  subst h1; subst h2
  unfold kp_x_lock kp_y_lock
  dsimp only
  rcases h4 with rfl | rfl | rfl
  · rw [if_pos rfl, if_pos rfl]; exact ⟨rfl, rfl, rfl, h3, Or.inl rfl, h5⟩
  · have e1 : ¬ (1 : Int32) = 0 := by decide
    have e2 : ¬ (1 : Int32) = 2 := by decide
    rw [if_neg e1, if_neg e1, if_neg e2]
    exact ⟨show (0 : Int32) = 1 - 1 by decide, rfl, rfl, fun q => absurd q e2, Or.inr (Or.inl rfl), h5⟩
  · have e1 : ¬ (2 : Int32) = 0 := by decide
    have e2 : ¬ (1 : Int32) = 2 := by decide
    rw [if_neg e1, if_neg e1, if_pos rfl]
    exact ⟨show (1 : Int32) = 2 - 1 by decide, rfl, rfl, fun q => absurd q e2, Or.inr (Or.inl rfl), h5⟩
theorem kp_msb (x : Int32) : 0 ≤ x ↔ x.toBitVec.msb = false := by
  rw [Int32.le_iff_toInt_le]
  have e0 : (0 : Int32).toInt = 0 := by decide
  have e1 : x.toInt = x.toBitVec.toInt := rfl
  rw [e0, e1, BitVec.toInt_eq_msb_cond]
  have hlt := x.toBitVec.isLt
  by_cases h : x.toBitVec.msb = true
  · rw [if_pos h, h]
    constructor
    · intro q
      exfalso
      have : (x.toBitVec.toNat : Int) < 2 ^ 32 := by exact_mod_cast hlt
      omega
    · intro q; cases q
  · rw [if_neg h]
    constructor
    · intro _
      cases hm : x.toBitVec.msb
      · rfl
      · exact absurd hm h
    · intro _
      exact Int.natCast_nonneg _
theorem kp_rd (x : Int32) : x.toInt64 &&& 4294967295 = kp_y_wd x := by
  apply Int64.toBitVec_inj.mp
  apply BitVec.eq_of_toNat_eq
  have hlt := x.toBitVec.isLt
  have e1 : (x.toInt64 &&& 4294967295).toBitVec.toNat = x.toInt64.toBitVec.toNat % 2 ^ 32 := by
    rw [Int64.toBitVec_and, BitVec.toNat_and]
    exact Nat.and_two_pow_sub_one_eq_mod _ 32
  have e2 : x.toInt64.toBitVec.toNat = x.toBitVec.toNat + if x.toBitVec.msb then 2 ^ 64 - 2 ^ 32 else 0 := by
    show (x.toBitVec.signExtend 64).toNat = _
    rw [BitVec.toNat_signExtend, BitVec.toNat_setWidth, Nat.mod_eq_of_lt (by omega)]
  unfold kp_y_wd
  by_cases h : 0 ≤ x
  · have hm := (kp_msb x).mp h
    rw [if_pos h, e1, e2, hm, if_neg (by decide)]
    omega
  · have hm : x.toBitVec.msb = true := by
      cases q : x.toBitVec.msb
      · exact absurd ((kp_msb x).mpr q) h
      · rfl
    rw [if_neg h, e1, Int64.toBitVec_add, BitVec.toNat_add, e2, hm, if_pos rfl]
    show (x.toBitVec.toNat + (2 ^ 64 - 2 ^ 32)) % 2 ^ 32 = (x.toBitVec.toNat + (2 ^ 64 - 2 ^ 32) + 4294967296) % 2 ^ 64
    omega
theorem kp_Re_read {v : kp_V} {u : kp_U} (h : kp_Re v u) (x y : Int32) : kp_x_read v x y = kp_y_read u x y := by
  obtain ⟨σ, g, dv, dk, pk⟩ := v
  obtain ⟨σ', dv', ka, kb, r⟩ := u
  obtain ⟨h1, h2, h3, h4, h5⟩ := h
  dsimp only at h1 h2 h3 h4 h5
  subst h1; subst h2
  unfold kp_x_read kp_y_read
  dsimp only
  by_cases h0 : kp_rw dv x y = 0
  · rw [if_pos h0, if_pos h0]
    have hk := h3 (kp_ro_2 h4 (kp_rw_2 h0))
    cases hk
    exact kp_rd _
  · rw [if_neg h0, if_neg h0]
theorem kp_in_q {f : Nat → Int32} (h : kp_in f) : ∃ q n : Nat, f 36 = 1 → kp_Jv f q n := by
  by_cases h1 : f 36 = 1
  · obtain ⟨q, n, hq⟩ := h h1
    exact ⟨q, n, fun _ => hq⟩
  · exact ⟨0, 0, fun z => absurd z h1⟩
def kp_v0 : kp_V := ((fun _ => 0, 0, -1), fun _ => 0, 0, 0, 0)
def kp_u0 : kp_U := ((fun _ => 0, 0, -1), 0, 0, 0, (fun _ => 0, fun _ => 0, 0, fun _ => 0), fun _ => 0, fun _ => 0, 0, 0)
theorem kp_Re_0 : kp_Re kp_v0 kp_u0 := ⟨rfl, rfl, fun h => absurd h (by decide), Or.inl rfl, fun h => absurd h (by decide)⟩
