/-! What the volume and the reference compute, as functions. -/
def kp_H (a b : Int32) : Int32 :=
  let x0 := (a ^^^ 1517746329) * 916191069 + b
  let x1 := x0 ^^^ kv_us x0 15
  let x2 := x1 * 1406938949
  x2 ^^^ kv_us x2 13
def kp_R (k j r : Int32) : Int32 := kp_H (kp_H k j) r &&& 65535
def kp_es (k j : Int32) (q : Int32 × Int32) : Int32 × Int32 := (q.2, q.1 ^^^ kp_R k j q.2)
def kp_ds (k j : Int32) (q : Int32 × Int32) : Int32 × Int32 := (q.2 ^^^ kp_R k j q.1, q.1)
def kp_jn (q : Int32 × Int32) : Int32 := (q.1 <<< ((16 : Int32) &&& 31)) ||| q.2
def kp_E (k x : Int32) : Int32 := kp_jn (kp_es k 3 (kp_es k 2 (kp_es k 1 (kp_es k 0 (kv_us x 16, x &&& 65535)))))
def kp_D (k x : Int32) : Int32 := kp_jn (kp_ds k 0 (kp_ds k 1 (kp_ds k 2 (kp_ds k 3 (kv_us x 16, x &&& 65535)))))
def kp_ks (p : Int32) (q : Int32 × Int32) : Int32 × Int32 := (kp_H p q.1, q.2 ^^^ kp_H p q.1)
def kp_K (p z i : Int32) : Int32 := (kp_ks p (kp_ks p (kp_ks p (kp_ks p (kp_ks p (kp_ks p (kp_ks p (kp_H (kp_H p z) i, kp_H (kp_H p z) i)))))))).2
def kp_dg (a b z : Int32) : Int32 := kp_H (kp_H a z) b
def kp_M (x y n : Int32) : Int32 := kp_H (kp_H x (n + 1) ^^^ y) (n + 1)
def kp_t1 (t : Int32) : Int32 := (t <<< ((1 : Int32) &&& 31)) ^^^ (if t < 0 then 141 else 0)
def kp_ts : Nat → Int32 → Int32
  | 0, t => t
  | n + 1, t => kp_ts n (kp_t1 t)
def kp_T (b s : Int32) (n : Nat) : Int32 := kp_ts n (kp_E b s)
def kp_hide (a b s : Int32) (n : Nat) (w : Int32) : Int32 := kp_E a (w ^^^ kp_T b s n) ^^^ kp_T b s n
def kp_show (a b s : Int32) (n : Nat) (w : Int32) : Int32 := kp_D a (w ^^^ kp_T b s n) ^^^ kp_T b s n
/-- the eight words of a slot -/
def kp_sl (p sd a b : Int32) : Nat → Int32
  | 0 => 1
  | 1 => kp_H sd 0
  | 2 => kp_E (kp_K p (kp_H sd 0) 0) (kp_H sd 1)
  | 3 => kp_E (kp_K p (kp_H sd 0) 1) (kp_H sd 2)
  | 4 => kp_E (kp_K p (kp_H sd 0) 0) (kp_H sd 3)
  | 5 => kp_E (kp_K p (kp_H sd 0) 1) (kp_H sd 4)
  | 6 => kp_E (kp_K p (kp_H sd 0) 0) (kp_M (kp_H sd 1) (kp_H sd 3) 0 ^^^ a)
  | 7 => kp_E (kp_K p (kp_H sd 0) 1) (kp_M (kp_H sd 2) (kp_H sd 4) 1 ^^^ b)
  | _ => 0
/-- half a slot, opened; f: the words of the disk, q: the slot's first place -/
def kp_st (f : Nat → Int32) (q : Nat) (p : Int32) (n : Int32) (i : Nat) : Int32 := kp_D (kp_K p (f (q + 1)) n) (f (q + 2 + i))
def kp_oh (f : Nat → Int32) (q : Nat) (p : Int32) (h : Nat) : Int32 := kp_M (kp_st f q p (nI h) h) (kp_st f q p (nI h) (h + 2)) (nI h) ^^^ kp_st f q p (nI h) (h + 4)
/-- the whole volume as format lays it, but for the mark -/
def kp_vol (a b p sd : Int32) (j : Nat) : Int32 :=
  if j = 1 then kp_dg a b (kp_H sd 5) else if j = 2 then kp_H sd 5 else if 4 ≤ j ∧ j < 12 then kp_sl p sd a b (j - 4)
  else if 48 ≤ j ∧ j < 80 then kp_hide a b (nI ((j - 48) / 4)) ((j - 48) % 4) 0 else 0
/-- the disk: words, writes done, writes left -/
abbrev kp_S : Type := (Nat → Int32) × Int32 × Int32
def kp_put (σ : kp_S) (p : Nat) (x : Int32) : kp_S := (upd σ.1 p x, σ.2.1 + 1, if σ.2.2 ≤ 0 then σ.2.2 else σ.2.2 - 1)
def kp_cut (σ : kp_S) : kp_S := (σ.1, σ.2.1, -1)
def kp_run : List (Nat × Int32) → kp_S → Int32 × kp_S
  | [], σ => (1, σ)
  | q :: xs, σ => if σ.2.2 = 0 then (0, kp_cut σ) else kp_run xs (kp_put σ q.1 q.2)
theorem kp_run_01 : ∀ (xs : List (Nat × Int32)) (σ : kp_S), (kp_run xs σ).1 = 0 ∨ (kp_run xs σ).1 = 1
  | [], σ => Or.inr rfl
  | q :: xs, σ => by
    unfold kp_run
    by_cases h : σ.2.2 = 0
    · rw [if_pos h]; exact Or.inl rfl
    · rw [if_neg h]; exact kp_run_01 xs _
theorem kp_run_z (xs : List (Nat × Int32)) (σ : kp_S) : narrow .boolean (.int (kp_run xs σ).1) = .int (kp_run xs σ).1 := by
  rcases kp_run_01 xs σ with h | h <;> rw [h] <;> decide
theorem kp_run_s (q : Nat × Int32) (xs : List (Nat × Int32)) (σ : kp_S) (h : (kp_run [q] σ).1 = 0) : kp_run (q :: xs) σ = kp_run [q] σ := by
  by_cases hz : σ.2.2 = 0
  · simp [kp_run, hz]
  · simp [kp_run, hz] at h
theorem kp_run_g (q : Nat × Int32) (xs : List (Nat × Int32)) (σ : kp_S) (h : ¬ (kp_run [q] σ).1 = 0) : kp_run (q :: xs) σ = kp_run xs (kp_run [q] σ).2 := by
  by_cases hz : σ.2.2 = 0
  · simp [kp_run, hz] at h
  · simp [kp_run, hz]
theorem kp_run_1 (q : Nat × Int32) (σ : kp_S) (h : ¬ (kp_run [q] σ).1 = 0) : (kp_run [q] σ).2 = kp_put σ q.1 q.2 := by
  by_cases hz : σ.2.2 = 0
  · simp [kp_run, hz] at h
  · simp [kp_run, hz]
theorem kp_run_app (xs ys : List (Nat × Int32)) : ∀ σ : kp_S, kp_run (xs ++ ys) σ = if (kp_run xs σ).1 = 0 then kp_run xs σ else kp_run ys (kp_run xs σ).2 := by
  induction xs with
  | nil => intro σ; simp [kp_run]
  | cons q xs ih =>
    intro σ
    by_cases hz : σ.2.2 = 0
    · simp [kp_run, hz]
    · simp [kp_run, hz, ih]
/-- the journal's writes -/
def kp_cl : Nat → Nat → (Nat → Int32) → List (Nat × Int32)
  | 0, _, _ => []
  | n + 1, j, f => if f j = 0 then kp_cl n (j + 1) f else (j, 0) :: kp_cl n (j + 1) (upd f j 0)
def kp_fi : Nat → Nat → Nat → (Nat → Int32) → List (Nat × Int32)
  | 0, _, _, f => (36, 0) :: kp_cl 9 37 (upd f 36 0)
  | n + 1, i, q, f => (q + i, f (38 + i)) :: kp_fi n (i + 1) q (upd f (q + i) (f (38 + i)))
def kp_ch : Nat → Nat → Nat → Nat → (Nat → Int32) → (Nat → Int32) → List (Nat × Int32)
  | 0, _, N, q, _, f => (37, nI (q + 256 * N)) :: (36, 1) :: kp_fi N 0 q (upd (upd f 37 (nI (q + 256 * N))) 36 1)
  | n + 1, i, N, q, g, f => (38 + i, g i) :: kp_ch n (i + 1) N q g (upd f (38 + i) (g i))
def kp_fm : Nat → Nat → (Nat → Int32) → List (Nat × Int32)
  | 0, _, _ => [(0, 1396855379)]
  | n + 1, j, g => (j, g j) :: kp_fm n (j + 1) g
/-- a word that the journal's place 37 holds: where to, how many -/
def kp_J (f : Nat → Int32) (q n : Nat) : Prop := f 37 = nI (q + 256 * n) ∧ q + n ≤ 80 ∧ n ≤ 8
theorem kp_J_and {q n : Nat} (h : q + n ≤ 80) (h8 : n ≤ 8) : nI (q + 256 * n) &&& 255 = nI q := by
  rw [pk_andN (by omega) 8 (by decide)]
  congr 1
  omega
theorem kp_J_shr {q n : Nat} (h : q + n ≤ 80) (h8 : n ≤ 8) : kv_us (nI (q + 256 * n)) 8 = nI n := by
  unfold kv_us
  rw [pk_ushrN (by omega) 8 8 (by decide)]
  congr 1
  omega
/-- the slots: which are active -/
def kp_ac (f : Nat → Int32) (k : Nat) : Int32 := if f (4 + 8 * k) = 1 then 1 else 0
theorem kp_ac_z (f : Nat → Int32) (k : Nat) : narrow .boolean (.int (kp_ac f k)) = .int (kp_ac f k) := by
  unfold kp_ac
  by_cases h : f (4 + 8 * k) = 1
  · rw [if_pos h]; decide
  · rw [if_neg h]; decide
/-- the reference's plan: places, words, how many, the disk as it will be -/
abbrev kp_P : Type := (Nat → Int32) × (Nat → Int32) × Nat × (Nat → Int32)
def kp_p1 (μ : kp_P) (p : Nat) (x : Int32) : kp_P := (upd μ.1 μ.2.2.1 (nI p), upd μ.2.1 μ.2.2.1 x, μ.2.2.1 + 1, upd μ.2.2.2 p x)
def kp_ps : List (Nat × Int32) → kp_P → kp_P
  | [], μ => μ
  | q :: xs, μ => kp_ps xs (kp_p1 μ q.1 q.2)
def kp_at (f : Nat → Int32) (x : Int32) : Int32 := if x < 0 then 0 else if 80 ≤ x then 0 else f x.toNatClampNeg
theorem kp_ix {x : Int32} (h1 : ¬ x < 0) (h2 : ¬ (80 : Int32) ≤ x) : ∃ j : Nat, j < 80 ∧ x = nI j := by
  rcases pk_ix x (n := 80) (by decide) with h | h | h
  · exact absurd h h1
  · exact absurd h h2
  · exact h
theorem kp_at_n (f : Nat → Int32) {j : Nat} (hj : j < 80) : kp_at f (nI j) = f j := by
  rw [kp_at, if_neg (nI_pos (by omega)), if_neg (show ¬ (80 : Int32) ≤ nI j from nI_ge hj (by decide)), nI_clamp (by omega)]
theorem kp_run_nz {xs : List (Nat × Int32)} {σ : kp_S} (h : ¬ (kp_run xs σ).1 = 0) : (kp_run xs σ).1 = 1 := by
  rcases kp_run_01 xs σ with q | q
  · exact absurd q h
  · exact q
theorem kp_stepf {F : (Nat → Int32) → List (Nat × Int32)} {q : Nat × Int32} {τ : kp_S} {T : Int32 × kp_S} (h : ¬ (kp_run [q] τ).1 = 0) (hT : kp_run (q :: F (upd τ.1 q.1 q.2)) τ = T) : kp_run (F (kp_run [q] τ).2.1) (kp_run [q] τ).2 = T := by
  rw [← hT, kp_run_g q (F (upd τ.1 q.1 q.2)) τ h, kp_run_1 q τ h]
  rfl
theorem kp_stop {q : Nat × Int32} {xs : List (Nat × Int32)} {τ : kp_S} {T : Int32 × kp_S} (h : (kp_run [q] τ).1 = 0) (hT : kp_run (q :: xs) τ = T) : kp_run [q] τ = T := by
  rw [← hT, kp_run_s q xs τ h]
def kp_se (q n : Nat) (f : Nat → Int32) : List (Nat × Int32) := if f 36 = 1 then kp_fi n 0 q f else kp_cl 9 37 f
def kp_wh (g : Nat → Int32) (q hf : Nat) (x pw sd : Int32) : Nat → Int32 :=
  upd (upd (upd g (q + 2 + hf) (kp_E (kp_K pw (g (q + 1)) (nI hf)) (kp_H sd (nI (hf + 1))))) (q + 2 + hf + 2) (kp_E (kp_K pw (g (q + 1)) (nI hf)) (kp_H sd (nI (hf + 3))))) (q + 2 + hf + 4) (kp_E (kp_K pw (g (q + 1)) (nI hf)) (kp_M (kp_H sd (nI (hf + 1))) (kp_H sd (nI (hf + 3))) (nI hf) ^^^ x))
def kp_wo (g : Nat → Int32) (q : Nat) (a b pw sd : Int32) : Nat → Int32 := kp_wh (kp_wh (upd (upd g q 1) (q + 1) (kp_H sd 0)) q 0 a pw sd) q 1 b pw sd
/-- the volume's world -/
abbrev vo_W (h d w r : Nat) (cA : ClassId) (σ : kp_S) (g : Nat → Int32) (dv dk pk : Int32) : va_W :=
  [(h, .inr (1, [.ref d, .ref r, .int dv, .int dk, .int pk])), (d, .inr (0, [.ref w, .int σ.2.1, .int σ.2.2])), (w, .inl (cA, 80, .inl σ.1)), (r, .inl (cA, 80, .inl g))]
