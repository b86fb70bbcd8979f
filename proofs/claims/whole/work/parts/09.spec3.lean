/-! The reference's calls, as functions of its state. -/
abbrev mo_W (o a1 a2 a3 a4 a5 a6 : Nat) (cA : ClassId) (σ : kp_S) (dv ka kb : Int32) (μ : kp_P) (fr st : Nat → Int32) (oa ob : Int32) : va_W :=
  [(o, .inr (2, [.ref a1, .int σ.2.2, .int σ.2.1, .int dv, .int ka, .int kb, .int (nI μ.2.2.1), .ref a2, .ref a3, .ref a4, .ref a5, .ref a6, .int oa, .int ob])), (a1, .inl (cA, 80, .inl σ.1)), (a2, .inl (cA, 100, .inl μ.1)), (a3, .inl (cA, 100, .inl μ.2.1)), (a4, .inl (cA, 80, .inl μ.2.2.2)), (a5, .inl (cA, 8, .inl fr)), (a6, .inl (cA, 6, .inl st))]
/-- the stripes of a new slot, of an opened one -/
def kp_ms (sd a b : Int32) : Nat → Int32
  | 0 => kp_H sd 1
  | 1 => kp_H sd 2
  | 2 => kp_H sd 3
  | 3 => kp_H sd 4
  | 4 => kp_M (kp_H sd 1) (kp_H sd 3) 0 ^^^ a
  | _ => kp_M (kp_H sd 2) (kp_H sd 4) 1 ^^^ b
def kp_so (f : Nat → Int32) (q : Nat) (pw : Int32) (j : Nat) : Int32 := kp_st f q pw (nI (j % 2)) j
def kp_op (f : Nat → Int32) (k : Nat) (pw : Int32) : Int32 := if kp_ac f k = 0 then 0 else kp_om f k pw
theorem kp_op_z (f : Nat → Int32) (k : Nat) (pw : Int32) : narrow .boolean (.int (kp_op f k pw)) = .int (kp_op f k pw) := by
  unfold kp_op
  by_cases h : kp_ac f k = 0
  · rw [if_pos h]; decide
  · rw [if_neg h]; exact kp_om_z f k pw
theorem kp_c6 {P : Nat → Prop} (h0 : P 0) (h1 : P 1) (h2 : P 2) (h3 : P 3) (h4 : P 4) (h5 : P 5) : ∀ j, j < 6 → P j := by
  intro j hj
  rcases (show j = 0 ∨ j = 1 ∨ j = 2 ∨ j = 3 ∨ j = 4 ∨ j = 5 by omega) with rfl | rfl | rfl | rfl | rfl | rfl <;> assumption
theorem kp_c8 {P : Nat → Prop} (h0 : P 0) (h1 : P 1) (h2 : P 2) (h3 : P 3) (h4 : P 4) (h5 : P 5) (h6 : P 6) (h7 : P 7) : ∀ j, j < 8 → P j := by
  intro j hj
  rcases (show j = 0 ∨ j = 1 ∨ j = 2 ∨ j = 3 ∨ j = 4 ∨ j = 5 ∨ j = 6 ∨ j = 7 by omega) with rfl | rfl | rfl | rfl | rfl | rfl | rfl | rfl <;> assumption
/-- a plan is stored -/
def kp_sd (xs : List (Nat × Int32)) (μ : kp_P) : Prop := μ.2.2.1 = xs.length ∧ xs.length ≤ 100 ∧ ∀ (k : Nat) (q : Nat × Int32), xs[k]? = some q → μ.1 k = nI q.1 ∧ μ.2.1 k = q.2 ∧ q.1 < 80
theorem kp_ps_n : ∀ (xs : List (Nat × Int32)) (μ : kp_P), (kp_ps xs μ).2.2.1 = μ.2.2.1 + xs.length
  | [], μ => rfl
  | q :: xs, μ => by
    show (kp_ps xs (kp_p1 μ q.1 q.2)).2.2.1 = _
    rw [kp_ps_n xs]
    show μ.2.2.1 + 1 + xs.length = _
    rw [List.length_cons]
    omega
theorem kp_ps_old : ∀ (xs : List (Nat × Int32)) (μ : kp_P) (k : Nat), k < μ.2.2.1 → (kp_ps xs μ).1 k = μ.1 k ∧ (kp_ps xs μ).2.1 k = μ.2.1 k
  | [], μ, k, h => ⟨rfl, rfl⟩
  | q :: xs, μ, k, h => by
    have h1 := kp_ps_old xs (kp_p1 μ q.1 q.2) k (Nat.lt_succ_of_lt h)
    have h2 : k ≠ μ.2.2.1 := by omega
    exact ⟨h1.1.trans (pk_un h2), h1.2.trans (pk_un h2)⟩
theorem kp_ps_at : ∀ (xs : List (Nat × Int32)) (μ : kp_P) (k : Nat) (q : Nat × Int32), xs[k]? = some q → (kp_ps xs μ).1 (μ.2.2.1 + k) = nI q.1 ∧ (kp_ps xs μ).2.1 (μ.2.2.1 + k) = q.2
  | [], μ, k, q, h => by simp at h
  | r :: xs, μ, 0, q, h => by
    have e : r = q := by simpa using h
    subst e
    have h1 := kp_ps_old xs (kp_p1 μ r.1 r.2) μ.2.2.1 (Nat.lt_succ_self _)
    exact ⟨h1.1.trans pk_us, h1.2.trans pk_us⟩
  | r :: xs, μ, k + 1, q, h => by
    have h1 := kp_ps_at xs (kp_p1 μ r.1 r.2) k q (by simpa using h)
    have e : (kp_p1 μ r.1 r.2).2.2.1 + k = μ.2.2.1 + (k + 1) := by
      show μ.2.2.1 + 1 + k = _
      omega
    rw [e] at h1
    exact h1
theorem kp_ps_sd (xs : List (Nat × Int32)) (P V S : Nat → Int32) (hl : xs.length ≤ 100) (hb : ∀ q ∈ xs, q.1 < 80) : kp_sd xs (kp_ps xs (P, V, 0, S)) := by
  refine ⟨(kp_ps_n xs _).trans (Nat.zero_add _), hl, fun k q hq => ?_⟩
  have h := kp_ps_at xs (P, V, 0, S) k q hq
  have e : 0 + k = k := Nat.zero_add k
  simp only [e] at h
  exact ⟨h.1, h.2, hb q (List.mem_of_getElem? hq)⟩
theorem kp_cl_len : ∀ (n j : Nat) (f : Nat → Int32), (kp_cl n j f).length ≤ n
  | 0, _, _ => Nat.le_refl _
  | n + 1, j, f => by
    unfold kp_cl
    by_cases h : f j = 0
    · rw [if_pos h]; exact Nat.le_succ_of_le (kp_cl_len n (j + 1) f)
    · rw [if_neg h]; exact Nat.succ_le_succ (kp_cl_len n (j + 1) _)
theorem kp_cl_in : ∀ (n j : Nat) (f : Nat → Int32), j + n ≤ 80 → ∀ q ∈ kp_cl n j f, q.1 < 80
  | 0, _, _, _, q, hq => by cases hq
  | n + 1, j, f, hb, q, hq => by
    unfold kp_cl at hq
    by_cases h : f j = 0
    · rw [if_pos h] at hq; exact kp_cl_in n (j + 1) f (by omega) q hq
    · rw [if_neg h] at hq
      rcases List.mem_cons.mp hq with rfl | hq
      · show j < 80; omega
      · exact kp_cl_in n (j + 1) _ (by omega) q hq
theorem kp_fi_len : ∀ (n i q : Nat) (f : Nat → Int32), (kp_fi n i q f).length ≤ n + 10
  | 0, _, _, f => by
    have := kp_cl_len 9 37 (upd f 36 0)
    show (kp_cl 9 37 (upd f 36 0)).length + 1 ≤ _
    omega
  | n + 1, i, q, f => by
    have := kp_fi_len n (i + 1) q (upd f (q + i) (f (38 + i)))
    show (kp_fi n (i + 1) q _).length + 1 ≤ _
    omega
theorem kp_fi_in : ∀ (n i q : Nat) (f : Nat → Int32), q + i + n ≤ 80 → ∀ x ∈ kp_fi n i q f, x.1 < 80
  | 0, _, _, f, _, x, hx => by
    rcases List.mem_cons.mp hx with rfl | hx
    · decide
    · exact kp_cl_in 9 37 _ (by decide) x hx
  | n + 1, i, q, f, hb, x, hx => by
    rcases List.mem_cons.mp hx with rfl | hx
    · show q + i < 80; omega
    · exact kp_fi_in n (i + 1) q _ (by omega) x hx
theorem kp_ch_len : ∀ (n i N q : Nat) (g f : Nat → Int32), (kp_ch n i N q g f).length ≤ n + N + 12
  | 0, _, N, q, _, f => by
    have := kp_fi_len N 0 q (upd (upd f 37 (nI (q + 256 * N))) 36 1)
    show (kp_fi N 0 q _).length + 1 + 1 ≤ _
    omega
  | n + 1, i, N, q, g, f => by
    have := kp_ch_len n (i + 1) N q g (upd f (38 + i) (g i))
    show (kp_ch n (i + 1) N q g _).length + 1 ≤ _
    omega
theorem kp_ch_in : ∀ (n i N q : Nat) (g f : Nat → Int32), q + N ≤ 80 → i + n ≤ 8 → ∀ x ∈ kp_ch n i N q g f, x.1 < 80
  | 0, _, N, q, _, f, hq, _, x, hx => by
    rcases List.mem_cons.mp hx with rfl | hx
    · show 37 < 80; decide
    · rcases List.mem_cons.mp hx with rfl | hx
      · show 36 < 80; decide
      · exact kp_fi_in N 0 q _ (by omega) x hx
  | n + 1, i, N, q, g, f, hq, hn, x, hx => by
    rcases List.mem_cons.mp hx with rfl | hx
    · show 38 + i < 80; omega
    · exact kp_ch_in n (i + 1) N q g _ hq (by omega) x hx
theorem kp_fm_len : ∀ (n j : Nat) (g : Nat → Int32), (kp_fm n j g).length = n + 1
  | 0, _, _ => rfl
  | n + 1, j, g => by
    show (kp_fm n (j + 1) g).length + 1 = _
    rw [kp_fm_len]
theorem kp_fm_in : ∀ (n j : Nat) (g : Nat → Int32), j + n ≤ 80 → ∀ x ∈ kp_fm n j g, x.1 < 80
  | 0, _, _, _, x, hx => by
    rcases List.mem_cons.mp hx with rfl | hx
    · show 0 < 80; decide
    · cases hx
  | n + 1, j, g, hb, x, hx => by
    rcases List.mem_cons.mp hx with rfl | hx
    · show j < 80; omega
    · exact kp_fm_in n (j + 1) g (by omega) x hx
theorem kp_upd_self (f : Nat → Int32) (j : Nat) : upd f j (f j) = f := by
  funext i
  by_cases h : i = j
  · subst h; exact pk_us
  · exact pk_un h
/-- unlock from slot k on -/
def kp_mu (f : Nat → Int32) (pw : Int32) : Nat → Nat → Int32 × Int32 × Int32 × (Nat → Int32) × Int32 × Int32 → Int32 × Int32 × Int32 × Int32 × (Nat → Int32) × Int32 × Int32
  | 0, _, q => (-9, q)
  | n + 1, k, q => if kp_op f k pw = 0 then kp_mu f pw n (k + 1) (q.1, q.2.1, q.2.2.1, kp_so f (4 + 8 * k) pw, kp_oh f (4 + 8 * k) pw 0, kp_oh f (4 + 8 * k) pw 1)
    else (nI k, 2, kp_oh f (4 + 8 * k) pw 0, kp_oh f (4 + 8 * k) pw 1, kp_so f (4 + 8 * k) pw, kp_oh f (4 + 8 * k) pw 0, kp_oh f (4 + 8 * k) pw 1)
abbrev kp_U : Type := kp_S × Int32 × Int32 × Int32 × kp_P × (Nat → Int32) × (Nat → Int32) × Int32 × Int32
abbrev mo_T (o a1 a2 a3 a4 a5 a6 : Nat) (cA : ClassId) (u : kp_U) : va_W := mo_W o a1 a2 a3 a4 a5 a6 cA u.1 u.2.1 u.2.2.1 u.2.2.2.1 u.2.2.2.2.1 u.2.2.2.2.2.1 u.2.2.2.2.2.2.1 u.2.2.2.2.2.2.2.1 u.2.2.2.2.2.2.2.2
theorem kp_ro_3 (dv : Int32) : kp_ro dv = 0 ∨ kp_ro dv = -2 ∨ kp_ro dv = -4 := by
  unfold kp_ro
  by_cases h : dv = 0
  · rw [if_pos h]; exact Or.inr (Or.inl rfl)
  · rw [if_neg h]
    by_cases h1 : dv = 1
    · rw [if_pos h1]; exact Or.inr (Or.inr rfl)
    · rw [if_neg h1]; exact Or.inl rfl
theorem kp_ro_ge {dv : Int32} (h : 0 ≤ kp_ro dv) : kp_ro dv = 0 := by
  rcases kp_ro_3 dv with q | q | q
  · exact q
  · rw [q] at h; exact absurd h (by decide)
  · rw [q] at h; exact absurd h (by decide)
theorem kp_ro_lt {dv : Int32} (h : ¬ 0 ≤ kp_ro dv) : ¬ kp_ro dv = 0 := fun q => h (by rw [q]; decide)
theorem kp_rs_ge {f : Nat → Int32} {dv x : Int32} (h : 0 ≤ kp_rs f dv x) : kp_rs f dv x = 0 := by
  unfold kp_rs at h ⊢
  by_cases h0 : kp_ro dv = 0
  · rw [if_pos h0] at h ⊢
    by_cases h1 : x < 0
    · rw [if_pos h1] at h; exact absurd h (by decide)
    · rw [if_neg h1] at h ⊢
      by_cases h2 : x < 4
      · rw [if_pos h2] at h ⊢
        by_cases h3 : kp_ac f x.toNatClampNeg = 0
        · rw [if_pos h3] at h; exact absurd h (by decide)
        · rw [if_neg h3]
      · rw [if_neg h2] at h; exact absurd h (by decide)
  · rw [if_neg h0] at h ⊢; exact kp_ro_ge h
theorem kp_rs_lt {f : Nat → Int32} {dv x : Int32} (h : ¬ 0 ≤ kp_rs f dv x) : ¬ kp_rs f dv x = 0 := fun q => h (by rw [q]; decide)
theorem kp_rw_ge {dv x y : Int32} (h : 0 ≤ kp_rw dv x y) : kp_rw dv x y = 0 := by
  unfold kp_rw at h ⊢
  by_cases h0 : kp_ro dv = 0
  · rw [if_pos h0] at h ⊢
    by_cases h1 : x < 0
    · rw [if_pos h1] at h; exact absurd h (by decide)
    · rw [if_neg h1] at h ⊢
      by_cases h2 : (8 : Int32) ≤ x
      · rw [if_pos h2] at h; exact absurd h (by decide)
      · rw [if_neg h2] at h ⊢
        by_cases h3 : y < 0
        · rw [if_pos h3] at h; exact absurd h (by decide)
        · rw [if_neg h3] at h ⊢
          by_cases h4 : (4 : Int32) ≤ y
          · rw [if_pos h4] at h; exact absurd h (by decide)
          · rw [if_neg h4]
  · rw [if_neg h0] at h ⊢; exact kp_ro_ge h
theorem kp_rw_lt {dv x y : Int32} (h : ¬ 0 ≤ kp_rw dv x y) : ¬ kp_rw dv x y = 0 := fun q => h (by rw [q]; decide)
theorem kp_le3 {x : Int32} : x ≤ 3 ↔ x < 4 := by
  rw [Int32.le_iff_toInt_le, Int32.lt_iff_toInt_lt]
  have e3 : (3 : Int32).toInt = 3 := by decide
  have e4 : (4 : Int32).toInt = 4 := by decide
  omega
theorem kp_gt7 {x : Int32} : 7 < x ↔ 8 ≤ x := by
  rw [Int32.le_iff_toInt_le, Int32.lt_iff_toInt_lt]
  have e3 : (7 : Int32).toInt = 7 := by decide
  have e4 : (8 : Int32).toInt = 8 := by decide
  omega
theorem kp_le79 {x : Int32} : x ≤ 79 ↔ ¬ (80 : Int32) ≤ x := by
  rw [Int32.le_iff_toInt_le, Int32.le_iff_toInt_le]
  have e3 : (79 : Int32).toInt = 79 := by decide
  have e4 : (80 : Int32).toInt = 80 := by decide
  omega
theorem kp_le3n {x : Int32} : x ≤ 3 ↔ ¬ (4 : Int32) ≤ x := by
  rw [kp_le3, Int32.not_le]
def kp_yf (ok : Int32) (R : Int32 × kp_S) (dv ka kb : Int32) (μ : kp_P) (fr st : Nat → Int32) (oa ob : Int32) : Int32 × kp_U :=
  if R.1 = 0 then (-1, R.2, 0, ka, kb, μ, fr, st, oa, ob) else (ok, R.2, dv, ka, kb, μ, fr, st, oa, ob)
/-- a change by the journal: place, number, new words; the stripes behind it -/
def kp_yc (ok : Int32) (u : kp_U) (q n : Nat) (fr st : Nat → Int32) : Int32 × kp_U :=
  kp_yf ok (kp_run (kp_ch n 0 n q fr u.1.1) u.1) u.2.1 u.2.2.1 u.2.2.2.1 (kp_ps (kp_ch n 0 n q fr u.1.1) (u.2.2.2.2.1.1, u.2.2.2.2.1.2.1, 0, u.1.1)) fr st u.2.2.2.2.2.2.2.1 u.2.2.2.2.2.2.2.2
def kp_y_add (u : kp_U) (pw sd : Int32) : Int32 × kp_U :=
  if kp_ro u.2.1 = 0 then
    if kp_lf u.1.1 4 0 = 4 then (-7, u)
    else kp_yc (nI (kp_lf u.1.1 4 0)) u (4 + 8 * kp_lf u.1.1 4 0) 8 (kp_sl pw sd u.2.2.1 u.2.2.2.1) (kp_ms sd u.2.2.1 u.2.2.2.1)
  else (kp_ro u.2.1, u)
def kp_y_change (u : kp_U) (x pw sd : Int32) : Int32 × kp_U :=
  if kp_rs u.1.1 u.2.1 x = 0 then kp_yc 0 u (4 + 8 * x.toNatClampNeg) 8 (kp_sl pw sd u.2.2.1 u.2.2.2.1) (kp_ms sd u.2.2.1 u.2.2.2.1)
  else (kp_rs u.1.1 u.2.1 x, u)
def kp_y_revoke (u : kp_U) (x : Int32) : Int32 × kp_U :=
  if kp_rs u.1.1 u.2.1 x = 0 then
    if kp_cn u.1.1 4 0 0 = 1 then (-8, u)
    else kp_yc 0 u (4 + 8 * x.toNatClampNeg) 8 (fun _ => 0) u.2.2.2.2.2.2.1
  else (kp_rs u.1.1 u.2.1 x, u)
def kp_y_write (u : kp_U) (x y t : Int32) : Int32 × kp_U :=
  if kp_rw u.2.1 x y = 0 then kp_yc 0 u (48 + 4 * x.toNatClampNeg) 4 (kp_wl u.1.1 u.2.2.1 u.2.2.2.1 x.toNatClampNeg y.toNatClampNeg t 4 0 u.2.2.2.2.2.1) u.2.2.2.2.2.2.1
  else (kp_rw u.2.1 x y, u)
def kp_y_wd (x : Int32) : Int64 := if 0 ≤ x then x.toInt64 else x.toInt64 + 4294967296
def kp_y_read (u : kp_U) (x y : Int32) : Int64 :=
  if kp_rw u.2.1 x y = 0 then kp_y_wd (kp_show u.2.2.1 u.2.2.2.1 x y.toNatClampNeg (u.1.1 (48 + 4 * x.toNatClampNeg + y.toNatClampNeg)))
  else (kp_rw u.2.1 x y).toInt64
def kp_y_format (u : kp_U) (a b pw sd : Int32) : Int32 × kp_U :=
  kp_yf 0 (kp_run (kp_fm 80 0 (kp_vol a b pw sd)) u.1) 1 u.2.2.1 u.2.2.2.1 (kp_ps (kp_fm 80 0 (kp_vol a b pw sd)) (u.2.2.2.2.1.1, u.2.2.2.2.1.2.1, 0, kp_vol a b pw sd)) (kp_sl pw sd a b) (kp_ms sd a b) u.2.2.2.2.2.2.2.1 u.2.2.2.2.2.2.2.2
def kp_y_mount (u : kp_U) (q n : Nat) : Int32 × kp_U :=
  if u.1.1 0 = 1396855379 then
    kp_yf (kp_cn (kp_run (kp_se q n u.1.1) u.1).2.1 4 0 0) (kp_run (kp_se q n u.1.1) u.1) 1 u.2.2.1 u.2.2.2.1 (kp_ps (kp_se q n u.1.1) (u.2.2.2.2.1.1, u.2.2.2.2.1.2.1, 0, u.1.1)) u.2.2.2.2.2.1 u.2.2.2.2.2.2.1 u.2.2.2.2.2.2.2.1 u.2.2.2.2.2.2.2.2
  else (-3, u.1, 0, u.2.2)
def kp_mq (u : kp_U) (pw : Int32) : Int32 × Int32 × Int32 × Int32 × (Nat → Int32) × Int32 × Int32 := kp_mu u.1.1 pw 4 0 (u.2.1, u.2.2.1, u.2.2.2.1, u.2.2.2.2.2.2)
def kp_y_unlock (u : kp_U) (pw : Int32) : Int32 × kp_U :=
  if u.2.1 = 0 then (-2, u) else ((kp_mq u pw).1, u.1, (kp_mq u pw).2.1, (kp_mq u pw).2.2.1, (kp_mq u pw).2.2.2.1, u.2.2.2.2.1, u.2.2.2.2.2.1, (kp_mq u pw).2.2.2.2)
def kp_y_lock (u : kp_U) : Int32 × kp_U := if u.2.1 = 0 then (-2, u) else (u.2.1 - 1, u.1, 1, u.2.2)
def kp_y_cut (u : kp_U) (x : Int32) : Int32 × kp_U := if (-1 : Int32) ≤ x then (1, (u.1.1, u.1.2.1, x), u.2) else (0, u)
theorem kp_y_cut_z (u : kp_U) (x : Int32) : narrow .boolean (.int (kp_y_cut u x).1) = .int (kp_y_cut u x).1 := by
  unfold kp_y_cut
  by_cases h : (-1 : Int32) ≤ x
  · rw [if_pos h]; show narrow .boolean (.int 1) = .int 1; decide
  · rw [if_neg h]; show narrow .boolean (.int 0) = .int 0; decide
theorem kp_se_sd {f : Nat → Int32} {q n : Nat} (hJ : f 36 = 1 → kp_J f q n) (P V S : Nat → Int32) : kp_sd (kp_se q n f) (kp_ps (kp_se q n f) (P, V, 0, S)) := by
  unfold kp_se
  by_cases h : f 36 = 1
  · rw [if_pos h]
    obtain ⟨-, h1, h2⟩ := hJ h
    exact kp_ps_sd _ _ _ _ (Nat.le_trans (kp_fi_len n 0 q f) (by omega)) (kp_fi_in n 0 q f (by omega))
  · rw [if_neg h]
    exact kp_ps_sd _ _ _ _ (Nat.le_trans (kp_cl_len 9 37 f) (by decide)) (kp_cl_in 9 37 f (by decide))
theorem kp_vol1 (a b pw sd : Int32) {j : Nat} (h1 : j < 48) (h2 : j < 4 + 0 ∨ 12 ≤ j) : upd (upd (fun _ => 0) 1 (kp_dg a b (kp_H sd 5))) 2 (kp_H sd 5) j = kp_vol a b pw sd j := by
  rw [kp_vol]
  by_cases e1 : j = 1
  · subst e1; rw [if_pos rfl, pk_un (by decide)]; exact pk_us
  · rw [if_neg e1]
    by_cases e2 : j = 2
    · subst e2; rw [if_pos rfl]; exact pk_us
    · rw [if_neg e2, pk_un e2, pk_un e1, if_neg (by omega), if_neg (by omega)]
theorem kp_vol_sl (a b pw sd : Int32) {i : Nat} (h : i < 8) : kp_vol a b pw sd (4 + i) = kp_sl pw sd a b i := by
  rw [kp_vol, if_neg (by omega), if_neg (by omega), if_pos (by omega)]
  have e : 4 + i - 4 = i := by omega
  rw [e]
theorem kp_vol_h (a b pw sd : Int32) {i : Nat} (h : i < 32) : kp_vol a b pw sd (48 + i) = kp_hide a b (nI (i / 4)) (i % 4) 0 := by
  rw [kp_vol, if_neg (by omega), if_neg (by omega), if_neg (by omega), if_pos (by omega)]
  have e : 48 + i - 48 = i := by omega
  rw [e]
