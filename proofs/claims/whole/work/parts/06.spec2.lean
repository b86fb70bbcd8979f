/-! The volume's calls, as functions of its state. -/
abbrev kp_V : Type := kp_S × (Nat → Int32) × Int32 × Int32 × Int32
abbrev vo_T (h d w r : Nat) (cA : ClassId) (v : kp_V) : va_W := vo_W h d w r cA v.1 v.2.1 v.2.2.1 v.2.2.2.1 v.2.2.2.2
def kp_ro (dv : Int32) : Int32 := if dv = 0 then (-2) else if dv = 1 then (-4) else 0
def kp_rs (f : Nat → Int32) (dv x : Int32) : Int32 := if kp_ro dv = 0 then (if x < 0 then (-5) else if x < 4 then (if kp_ac f x.toNatClampNeg = 0 then (-6) else 0) else (-5)) else kp_ro dv
def kp_rw (dv x y : Int32) : Int32 := if kp_ro dv = 0 then (if x < 0 then (-5) else if 8 ≤ x then (-5) else if y < 0 then (-5) else if 4 ≤ y then (-5) else 0) else kp_ro dv
theorem kp_ix4 {x : Int32} (h1 : ¬ x < 0) (h2 : x < 4) : ∃ j : Nat, j < 4 ∧ x = nI j := by
  rcases pk_ix x (n := 4) (by decide) with h | h | h
  · exact absurd h h1
  · exact absurd h2 (Int32.not_lt.mpr h)
  · exact h
theorem kp_ixn {x : Int32} (n : Nat) (hn : n < 2 ^ 31) {y : Int32} (hy : y = nI n) (h1 : ¬ x < 0) (h2 : ¬ y ≤ x) : ∃ j : Nat, j < n ∧ x = nI j := by
  subst hy
  rcases pk_ix x (n := n) hn with h | h | h
  · exact absurd h h1
  · exact absurd h h2
  · exact h
/-- which slots are active: the sum, the number, the least that is not -/
def kp_sm (f : Nat → Int32) : Nat → Nat → Int32 → Int32
  | 0, _, acc => acc
  | n + 1, k, acc => kp_sm f n (k + 1) (acc + if kp_ac f k = 0 then 0 else (1 : Int32) <<< (nI k &&& 31))
def kp_cn (f : Nat → Int32) : Nat → Nat → Int32 → Int32
  | 0, _, acc => acc
  | n + 1, k, acc => kp_cn f n (k + 1) (acc + if kp_ac f k = 0 then 0 else 1)
def kp_lf (f : Nat → Int32) : Nat → Nat → Nat
  | 0, k => k
  | n + 1, k => if kp_ac f k = 0 then k else kp_lf f n (k + 1)
theorem kp_lf_le (f : Nat → Int32) : ∀ n k, kp_lf f n k ≤ k + n
  | 0, k => Nat.le_refl _
  | n + 1, k => by
    unfold kp_lf
    by_cases h : kp_ac f k = 0
    · rw [if_pos h]; omega
    · rw [if_neg h]; have := kp_lf_le f n (k + 1); omega
def kp_b1 (i : Int32) : Int32 := i - (kv_us i 1 &&& 1431655765)
def kp_b2 (i : Int32) : Int32 := (i &&& 858993459) + (kv_us i 2 &&& 858993459)
def kp_b3 (i : Int32) : Int32 := (i + kv_us i 4) &&& 252645135
def kp_b4 (i : Int32) : Int32 := i + kv_us i 8
def kp_b5 (i : Int32) : Int32 := i + kv_us i 16
def kp_bc (i : Int32) : Int32 := kp_b5 (kp_b4 (kp_b3 (kp_b2 (kp_b1 i)))) &&& 63
theorem kp_ac_01 (f : Nat → Int32) (k : Nat) : kp_ac f k = 0 ∨ kp_ac f k = 1 := by
  unfold kp_ac
  by_cases h : f (4 + 8 * k) = 1
  · rw [if_pos h]; exact Or.inr rfl
  · rw [if_neg h]; exact Or.inl rfl
theorem kp_bc_sm (f : Nat → Int32) : kp_bc (kp_sm f 4 0 0) = kp_cn f 4 0 0 := by
  simp only [kp_sm, kp_cn]
  rcases kp_ac_01 f 0 with h0 | h0 <;> rcases kp_ac_01 f (0 + 1) with h1 | h1 <;> rcases kp_ac_01 f (0 + 1 + 1) with h2 | h2 <;> rcases kp_ac_01 f (0 + 1 + 1 + 1) with h3 | h3 <;> rw [h0, h1, h2, h3] <;> decide
/-- a slot opens with the passphrase -/
def kp_om (f : Nat → Int32) (k : Nat) (pw : Int32) : Int32 := if kp_dg (kp_oh f (4 + 8 * k) pw 0) (kp_oh f (4 + 8 * k) pw 1) (f 2) = f 1 then 1 else 0
theorem kp_om_z (f : Nat → Int32) (k : Nat) (pw : Int32) : narrow .boolean (.int (kp_om f k pw)) = .int (kp_om f k pw) := by
  unfold kp_om
  by_cases h : kp_dg (kp_oh f (4 + 8 * k) pw 0) (kp_oh f (4 + 8 * k) pw 1) (f 2) = f 1
  · rw [if_pos h]; decide
  · rw [if_neg h]; decide
/-- unlock from slot k on: the answer, the device, the keys -/
def kp_un (f : Nat → Int32) (pw : Int32) (q : Int32 × Int32 × Int32) : Nat → Nat → Int32 × Int32 × Int32 × Int32
  | 0, _ => (-9, q)
  | n + 1, k => if kp_ac f k = 0 then kp_un f pw q n (k + 1) else if kp_om f k pw = 0 then kp_un f pw q n (k + 1) else (nI k, 2, kp_oh f (4 + 8 * k) pw 0, kp_oh f (4 + 8 * k) pw 1)
/-- write's new words -/
def kp_wl (f : Nat → Int32) (dk pk : Int32) (z i : Nat) (v : Int32) : Nat → Nat → (Nat → Int32) → Nat → Int32
  | 0, _, g => g
  | n + 1, j, g => kp_wl f dk pk z i v n (j + 1) (upd g j (kp_hide dk pk (nI z) j (if j = i then v else kp_show dk pk (nI z) j (f (48 + 4 * z + j)))))
def kp_fin (ok : Int32) (R : Int32 × kp_S) (G : Nat → Int32) (dv dk pk : Int32) : Int32 × kp_V := if R.1 = 0 then (-1, R.2, G, 0, 0, 0) else (ok, R.2, G, dv, dk, pk)
def kp_x_add (v : kp_V) (pw sd : Int32) : Int32 × kp_V :=
  if kp_ro v.2.2.1 = 0 then
    if kp_lf v.1.1 4 0 = 4 then (-7, v)
    else kp_fin (nI (kp_lf v.1.1 4 0)) (kp_run (kp_ch 8 0 8 (4 + 8 * kp_lf v.1.1 4 0) (kp_wo v.2.1 0 v.2.2.2.1 v.2.2.2.2 pw sd) v.1.1) v.1) (kp_wo v.2.1 0 v.2.2.2.1 v.2.2.2.2 pw sd) v.2.2.1 v.2.2.2.1 v.2.2.2.2
  else (kp_ro v.2.2.1, v)
def kp_x_change (v : kp_V) (x pw sd : Int32) : Int32 × kp_V :=
  if kp_rs v.1.1 v.2.2.1 x = 0 then
    kp_fin 0 (kp_run (kp_ch 8 0 8 (4 + 8 * x.toNatClampNeg) (kp_wo v.2.1 0 v.2.2.2.1 v.2.2.2.2 pw sd) v.1.1) v.1) (kp_wo v.2.1 0 v.2.2.2.1 v.2.2.2.2 pw sd) v.2.2.1 v.2.2.2.1 v.2.2.2.2
  else (kp_rs v.1.1 v.2.2.1 x, v)
def kp_x_revoke (v : kp_V) (x : Int32) : Int32 × kp_V :=
  if kp_rs v.1.1 v.2.2.1 x = 0 then
    if kp_bc (kp_sm v.1.1 4 0 0) = 1 then (-8, v)
    else kp_fin 0 (kp_run (kp_ch 8 0 8 (4 + 8 * x.toNatClampNeg) (fun _ => 0) v.1.1) v.1) (fun _ => 0) v.2.2.1 v.2.2.2.1 v.2.2.2.2
  else (kp_rs v.1.1 v.2.2.1 x, v)
def kp_x_write (v : kp_V) (x y t : Int32) : Int32 × kp_V :=
  if kp_rw v.2.2.1 x y = 0 then
    kp_fin 0 (kp_run (kp_ch 4 0 4 (48 + 4 * x.toNatClampNeg) (kp_wl v.1.1 v.2.2.2.1 v.2.2.2.2 x.toNatClampNeg y.toNatClampNeg t 4 0 v.2.1) v.1.1) v.1) (kp_wl v.1.1 v.2.2.2.1 v.2.2.2.2 x.toNatClampNeg y.toNatClampNeg t 4 0 v.2.1) v.2.2.1 v.2.2.2.1 v.2.2.2.2
  else (kp_rw v.2.2.1 x y, v)
def kp_x_read (v : kp_V) (x y : Int32) : Int64 :=
  if kp_rw v.2.2.1 x y = 0 then (kp_show v.2.2.2.1 v.2.2.2.2 x y.toNatClampNeg (v.1.1 (48 + 4 * x.toNatClampNeg + y.toNatClampNeg))).toInt64 &&& 4294967295
  else (kp_rw v.2.2.1 x y).toInt64
def kp_x_format (v : kp_V) (a b pw sd : Int32) : Int32 × kp_V :=
  kp_fin 0 (kp_run ((0, 0) :: kp_fm 79 1 (kp_vol a b pw sd)) v.1) (kp_vol a b pw sd) 1 0 0
def kp_x_mount (v : kp_V) (q n : Nat) : Int32 × kp_V :=
  if v.1.1 0 = 1396855379 then
    if (kp_run (kp_se q n v.1.1) v.1).1 = 0 then (-1, (kp_run (kp_se q n v.1.1) v.1).2, v.2.1, 0, 0, 0)
    else (kp_bc (kp_sm (kp_run (kp_se q n v.1.1) v.1).2.1 4 0 0), (kp_run (kp_se q n v.1.1) v.1).2, v.2.1, 1, 0, 0)
  else (-3, v.1, v.2.1, 0, 0, 0)
def kp_x_unlock (v : kp_V) (pw : Int32) : Int32 × kp_V :=
  if v.2.2.1 = 0 then (-2, v) else ((kp_un v.1.1 pw v.2.2 4 0).1, v.1, v.2.1, (kp_un v.1.1 pw v.2.2 4 0).2)
def kp_x_lock (v : kp_V) : Int32 × kp_V :=
  if v.2.2.1 = 0 then (-2, v) else (if v.2.2.1 = 2 then 1 else 0, v.1, v.2.1, 1, 0, 0)
def kp_x_cut (v : kp_V) (x : Int32) : Int32 × kp_V := if (-1 : Int32) ≤ x then (1, (v.1.1, v.1.2.1, x), v.2) else (0, v)
theorem kp_rs_k {f : Nat → Int32} {dv x : Int32} (h : kp_rs f dv x = 0) : ∃ k : Nat, k < 4 ∧ x = nI k := by
  unfold kp_rs at h
  by_cases h0 : kp_ro dv = 0
  · rw [if_pos h0] at h
    by_cases h1 : x < 0
    · rw [if_pos h1] at h; exact absurd h (by decide)
    · rw [if_neg h1] at h
      by_cases h2 : x < 4
      · exact kp_ix4 h1 h2
      · rw [if_neg h2] at h; exact absurd h (by decide)
  · rw [if_neg h0] at h; exact absurd h h0
theorem kp_rw_k {dv x y : Int32} (h : kp_rw dv x y = 0) : ∃ z : Nat, z < 8 ∧ ∃ i : Nat, i < 4 ∧ x = nI z ∧ y = nI i := by
  unfold kp_rw at h
  by_cases h0 : kp_ro dv = 0
  · rw [if_pos h0] at h
    by_cases h1 : x < 0
    · rw [if_pos h1] at h; exact absurd h (by decide)
    · rw [if_neg h1] at h
      by_cases h2 : (8 : Int32) ≤ x
      · rw [if_pos h2] at h; exact absurd h (by decide)
      · rw [if_neg h2] at h
        by_cases h3 : y < 0
        · rw [if_pos h3] at h; exact absurd h (by decide)
        · rw [if_neg h3] at h
          by_cases h4 : (4 : Int32) ≤ y
          · rw [if_pos h4] at h; exact absurd h (by decide)
          · obtain ⟨z, hz, e1⟩ := kp_ixn 8 (by decide) rfl h1 h2
            obtain ⟨i, hi, e2⟩ := kp_ixn 4 (by decide) rfl h3 h4
            exact ⟨z, hz, i, hi, e1, e2⟩
  · rw [if_neg h0] at h; exact absurd h h0
theorem kp_wo_in (g : Nat → Int32) (q : Nat) (a b pw sd : Int32) {j : Nat} (hj : j < 8) : kp_wo g q a b pw sd (q + j) = kp_sl pw sd a b j := by
  rcases (show j = 0 ∨ j = 1 ∨ j = 2 ∨ j = 3 ∨ j = 4 ∨ j = 5 ∨ j = 6 ∨ j = 7 by omega) with rfl | rfl | rfl | rfl | rfl | rfl | rfl | rfl <;>
    simp [kp_wo, kp_wh, upd, kp_sl, nI, Nat.add_assoc]
theorem kp_wo_out (g : Nat → Int32) (q : Nat) (a b pw sd : Int32) {j : Nat} (hj : j < q ∨ q + 8 ≤ j) : kp_wo g q a b pw sd j = g j := by
  unfold kp_wo kp_wh
  rw [pk_un (by omega), pk_un (by omega), pk_un (by omega), pk_un (by omega), pk_un (by omega), pk_un (by omega), pk_un (by omega), pk_un (by omega)]
theorem kp_vol0 (a b pw sd : Int32) {j : Nat} (hj : j < 48 + 4 * 0) : kp_wo (upd (upd (fun _ => 0) 2 (kp_H sd 5)) 1 (kp_dg a b (kp_H sd 5))) (4 + 8 * 0) a b pw sd j = kp_vol a b pw sd j := by
  by_cases h : 4 ≤ j ∧ j < 12
  · obtain ⟨i, rfl⟩ : ∃ i, j = (4 + 8 * 0) + i := ⟨j - 4, by omega⟩
    rw [kp_wo_in _ _ _ _ _ _ (by omega), kp_vol, if_neg (by omega), if_neg (by omega), if_pos (by omega)]
    congr 1
    omega
  · rw [kp_wo_out _ _ _ _ _ _ (by omega), kp_vol]
    by_cases h1 : j = 1
    · subst h1; rw [if_pos rfl]; exact pk_us
    · rw [if_neg h1, pk_un h1]
      by_cases h2 : j = 2
      · subst h2; rw [if_pos rfl]; exact pk_us
      · rw [if_neg h2, pk_un h2, if_neg h, if_neg (by omega)]
theorem kp_vol_sec (a b pw sd : Int32) {k i : Nat} (hk : k < 8) (hi : i < 4) : kp_vol a b pw sd (48 + 4 * k + i) = kp_hide a b (nI k) i 0 := by
  rw [kp_vol, if_neg (by omega), if_neg (by omega), if_neg (by omega), if_pos (by omega)]
  have e1 : (48 + 4 * k + i - 48) / 4 = k := by omega
  have e2 : (48 + 4 * k + i - 48) % 4 = i := by omega
  rw [e1, e2]
theorem kp_x_cut_z (v : kp_V) (x : Int32) : narrow .boolean (.int (kp_x_cut v x).1) = .int (kp_x_cut v x).1 := by
  unfold kp_x_cut
  by_cases h : (-1 : Int32) ≤ x
  · rw [if_pos h]; show narrow .boolean (.int 1) = .int 1; decide
  · rw [if_neg h]; show narrow .boolean (.int 0) = .int 0; decide
section KVM
variable {N : State → Prop} {p : Program} {l : Launch} {e : Env} {R : Room} {s : State} {m : MethodId} {args : Array Value} {below : List Frame} {meth : Method} {c : Code} {H : Heap} {locs : List Loc} {cells slots : Nat} {Q : State → Prop}
variable {cc : ByteArray} {pc : Nat} {ls : Array Slot} {rest : List Value} {D : va_G} {A : Nat → Prop} {a : Nat} {tys : List (ClassId × FieldType)} {ws : va_W} {nL : Nat} {Ts : List Cond} {own C host : String}
theorem kv_getn (S : CallFix p m c cc nL s args Ts own) (hB : kv_B N D tys A s ws H locs) {T : u_T} {M ci index : Nat} (hin : ∀ w ∈ u_ws C T M, w ∈ Ts) (q0 : Nat) {fs : List Value} (he : ws[q0]? = some (a, .inr (ci, fs))) (hc : vwCl[ci]? = some (C, T, M)) (k : Nat) (hk : k < M) (hlink : va_Nw (.fieldLinkNest own index C (T k).2.1 (T k).2.2.1 host) s) (hC : (T k).1 = C) {v : Value} (hv : fs[k]? = some v) (hdg : decode cc pc = .ok (.getfield index, 3))
    (kk : W p l e R s m args below meth c H locs cells slots Q (F0 m (pc + 3) ls (v :: rest))) : W p l e R s m args below meth c H locs cells slots Q (F0 m pc ls (.ref a :: rest)) :=
  va_getN S.1 S.2.1 S.2.2.2.2 hin S.2.2.2.1 hB.2.2.1 hB.1 q0 he hc k hk (va_Nw.use rfl hlink) (fun x h => by rw [hC] at h; exact h) hv hdg kk
theorem kv_putn (S : CallFix p m c cc nL s args Ts own) (hB : kv_B N D tys A s ws H locs) {T : u_T} {M ci index : Nat} (hin : ∀ w ∈ u_ws C T M, w ∈ Ts) (ty0 : Nat → FieldType) (hty : ∀ k, k < M → parseFieldDescriptor (T k).2.2.1 = some (ty0 k)) (hnm : ∀ a, a < M → ∀ b, b < M → a ≠ b → (T a).2.1 ≠ (T b).2.1) (q0 : Nat) {fs : List Value} (he : ws[q0]? = some (a, .inr (ci, fs))) (hc : vwCl[ci]? = some (C, T, M)) (k : Nat) (hk : k < M) (hlink : va_Nw (.fieldLinkNest own index C (T k).2.1 (T k).2.2.1 host) s) (hC : (T k).1 = C) (hfin : (T k).2.2.2 = false) {v : Int32} (hd : parseFieldDescriptor (T k).2.2.1 = some .int) (hl : k < fs.length)
    (hdg : decode cc pc = .ok (.putfield index, 3)) (kk : ∀ (H1 : Heap) (locs1 : List Loc), kv_B N D tys A s (ws.set q0 (a, .inr (ci, fs.set k (.int v)))) H1 locs1 → W p l e R s m args below meth c H1 locs1 cells slots Q (F0 m (pc + 3) ls rest)) : W p l e R s m args below meth c H locs cells slots Q (F0 m pc ls (.int v :: .ref a :: rest)) :=
  va_putN S.1 S.2.1 S.2.2.2.2 hin ty0 hty hnm S.2.2.2.1 hB.2.2.1 hB.1 hB.2.1 hB.2.2.2.1 q0 he hc k hk (va_Nw.use rfl hlink) (fun x h => by rw [hC] at h; exact h) hfin hd rfl rfl hl hdg (fun H1 locs1 h1 h2 h3 => kk H1 locs1 ⟨h1, h2, hB.2.2.1, h3, hB.2.2.2.2.1, hB.2.2.2.2.2⟩)
end KVM
def kv_N (U : State) : Prop := va_Nw (.fieldLinkNest RX3 24 "StripedKeyVolume$Disk" "writesLeft" "I" "StripedKeyVolume") U ∧ va_Nw (.fieldLinkNest RX3 106 "StripedKeyVolume$Disk" "writesDone" "I" "StripedKeyVolume") U
theorem kv_NM : kv_Mv kv_N := ⟨fun _ _ hW h => ⟨va_Nw.warmF hW h.1, va_Nw.warmF hW h.2⟩, fun _ _ hv h => ⟨va_Nw.same rfl hv h.1, va_Nw.same rfl hv h.2⟩⟩
