/-! The layer: contracts of methods that make no cells, in one form (a world in, a world out), and one row an instruction over them. -/
def kv_us (x y : Int32) : Int32 := (x.toUInt32 >>> (y.toUInt32 &&& Int32.toUInt32 31)).toInt32
def kv_B (N : State → Prop) (D : va_G) (tys : List (ClassId × FieldType)) (A : Nat → Prop) (s : State) (ws : va_W) (H : Heap) (locs : List Loc) : Prop :=
  va_P D vwCl ws H ∧ va_D A ws ∧ va_K D vwCl tys s ∧ va_S A s.heap H locs ∧ (∀ q : Nat, s.heap.size ≤ q → A q) ∧ N s
/-- what moves with the tables: a method's extra word -/
def kv_Mv (N : State → Prop) : Prop := (∀ u U : State, u.WarmedH U.vm → N u → N U) ∧ ∀ u U : State, u.vm = U.vm → N u → N U
def kv_pre (N : State → Prop) (D : va_G) (tys : List (ClassId × FieldType)) (avs : List Value) (ws : va_W) (sz : Nat) : Array Value → State → Prop :=
  va_Pc avs (fun U => U.heap.size = sz ∧ va_P D vwCl ws U.heap ∧ va_K D vwCl tys U ∧ va_D (fun _ => True) ws ∧ N U)
def kv_at (D : va_G) (ws w1 : va_W) (sz : Nat) (_ : Unit) (t : State) : Prop := va_P D vwCl w1 t.heap ∧ va_D (va_A ws sz) w1
def kv_I (N : State → Prop) (l : Launch) (y : MethodName) (wds : List Cond) (rm : Room) (D : va_G) (tys : List (ClassId × FieldType)) (avs : List Value) (ws : va_W) (ans : Int32) (w1 : va_W) : Prop :=
  ∀ sz : Nat, Met l y wds rm (kv_pre N D tys avs ws sz) (va_Qi (fun r (_ : Unit) => r = ans) (kv_at D ws w1 sz) (va_A ws sz)) 0 0 (va_A ws sz)
def kv_L (N : State → Prop) (l : Launch) (y : MethodName) (wds : List Cond) (rm : Room) (D : va_G) (tys : List (ClassId × FieldType)) (avs : List Value) (ws : va_W) (ans : Int64) (w1 : va_W) : Prop :=
  ∀ sz : Nat, Met l y wds rm (kv_pre N D tys avs ws sz) (va_Ql (fun r (_ : Unit) => r = ans) (kv_at D ws w1 sz) (va_A ws sz)) 0 0 (va_A ws sz)
def kv_V (N : State → Prop) (l : Launch) (y : MethodName) (wds : List Cond) (rm : Room) (D : va_G) (tys : List (ClassId × FieldType)) (avs : List Value) (ws : va_W) (w1 : va_W) : Prop :=
  ∀ sz : Nat, Met l y wds rm (kv_pre N D tys avs ws sz) (va_Qv (fun (_ : Unit) => True) (kv_at D ws w1 sz) (va_A ws sz)) 0 0 (va_A ws sz)
theorem kv_blind {N : State → Prop} (hN : kv_Mv N) {D : va_G} {tys : List (ClassId × FieldType)} {avs : List Value} {ws : va_W} {sz : Nat} : FrameBlind (kv_pre N D tys avs ws sz) := by
  intro a U g mk q
  obtain ⟨q0, q1, qP, qK, qD, qN⟩ := q
  exact ⟨q0, q1, qP, va_K.moved (u := U) (U := U.calling g mk a) (Vm.Alike.refl U.vm) qK, qD, hN.2 U _ rfl qN⟩
theorem kv_T : kv_Mv (fun _ => True) := ⟨fun _ _ _ _ => trivial, fun _ _ _ _ => trivial⟩
theorem kv_openI {N : State → Prop} {l : Launch} {y : MethodName} {wds wds' : List Cond} {rm : Room} {D : va_G} {tys : List (ClassId × FieldType)} {avs : List Value} {ws : va_W} {ans : Int32} {w1 : va_W} {cc : ByteArray} {maxL : Nat} {rt : FieldType}
    (hy : plainName y.cls = true) (hw : wds = Cond.code y cc maxL (some rt) :: wds') (hrt : narrow rt (.int ans) = .int ans) (hlen : (lg_sl avs).length ≤ maxL)
    (body : ∀ (p : Program) (e : Env) (s : State) (m : MethodId) (args : Array Value) (below : List Frame) (meth : Method) (c : Code) (A : Nat → Prop) (H : Heap) (locs : List Loc) (ls : Array Slot) (Q : State → Prop),
      CallFix p m c cc maxL s args wds y.cls → lv_has ls maxL (lv_args 0 avs) → kv_B N D tys A s ws H locs →
      (∀ (H : Heap) (locs : List Loc) (w : va_W) (v : Int32) (pc : Nat) (ls : Array Slot), kv_B N D tys A s w H locs → v = ans → w = w1 → decode cc pc = .ok (.ireturn, 1) → W p l e rm s m args below meth c H locs 0 0 Q (F0 m pc ls [.int v])) →
      W p l e rm s m args below meth c H locs 0 0 Q (F0 m 0 ls [])) :
    kv_I N l y wds rm D tys avs ws ans w1 := by
  intro sz
  refine Met.ofW (cc := cc) (maxL := maxL) (ret := some rt) hy hw ?_
  intro p e s m args below meth c s₁ B hml hv
  obtain ⟨rfl, hsz, hP, hK, hD0, hN⟩ := hv
  have hts := atoms_spec (ws := wds) B.pre
  have hown : s.vm.findClass y.cls = some m.cls := findClass_of_methodNamed B.named
  subst hsz
  have hl := lv_entry avs (n := maxL) hlen
  rw [lg_entry_eq]
  refine body p e s m _ below meth c (va_A ws s.heap.size) _ _ _ _ ⟨B.exec, B.bytes, hml, hown, hts⟩ hl ⟨hP, hD0.self, hK, va_S.rf, fun q h => Or.inr h, hN⟩ ?_
  intro H locs w v pc ls hB hv hw1 hd
  subst hv
  subst hw1
  exact W.zret B.exec B.bytes B.returns hrt (fun t ht hW => ⟨⟨v, (), rfl, rfl, by rw [ht]; exact hB.1, hB.2.1⟩, hB.2.2.2.1.F ht⟩) hB.2.2.2.1.2.2 hd B.notSynchronized
theorem kv_openL {N : State → Prop} {l : Launch} {y : MethodName} {wds wds' : List Cond} {rm : Room} {D : va_G} {tys : List (ClassId × FieldType)} {avs : List Value} {ws : va_W} {ans : Int64} {w1 : va_W} {cc : ByteArray} {maxL : Nat}
    (hy : plainName y.cls = true) (hw : wds = Cond.code y cc maxL (some .long) :: wds') (hlen : (lg_sl avs).length ≤ maxL)
    (body : ∀ (p : Program) (e : Env) (s : State) (m : MethodId) (args : Array Value) (below : List Frame) (meth : Method) (c : Code) (A : Nat → Prop) (H : Heap) (locs : List Loc) (ls : Array Slot) (Q : State → Prop),
      CallFix p m c cc maxL s args wds y.cls → lv_has ls maxL (lv_args 0 avs) → kv_B N D tys A s ws H locs →
      (∀ (H : Heap) (locs : List Loc) (w : va_W) (v : Int64) (pc : Nat) (ls : Array Slot), kv_B N D tys A s w H locs → v = ans → w = w1 → decode cc pc = .ok (.lreturn, 1) → W p l e rm s m args below meth c H locs 0 0 Q (F0 m pc ls [.long v])) →
      W p l e rm s m args below meth c H locs 0 0 Q (F0 m 0 ls [])) :
    kv_L N l y wds rm D tys avs ws ans w1 := by
  intro sz
  refine Met.ofW (cc := cc) (maxL := maxL) (ret := some .long) hy hw ?_
  intro p e s m args below meth c s₁ B hml hv
  obtain ⟨rfl, hsz, hP, hK, hD0, hN⟩ := hv
  have hts := atoms_spec (ws := wds) B.pre
  have hown : s.vm.findClass y.cls = some m.cls := findClass_of_methodNamed B.named
  subst hsz
  have hl := lv_entry avs (n := maxL) hlen
  rw [lg_entry_eq]
  refine body p e s m _ below meth c (va_A ws s.heap.size) _ _ _ _ ⟨B.exec, B.bytes, hml, hown, hts⟩ hl ⟨hP, hD0.self, hK, va_S.rf, fun q h => Or.inr h, hN⟩ ?_
  intro H locs w v pc ls hB hv hw1 hd
  subst hv
  subst hw1
  exact W.lret B.exec B.bytes B.returns (fun t ht hW => ⟨⟨v, (), rfl, rfl, by rw [ht]; exact hB.1, hB.2.1⟩, hB.2.2.2.1.F ht⟩) hB.2.2.2.1.2.2 hd B.notSynchronized
theorem kv_openV {N : State → Prop} {l : Launch} {y : MethodName} {wds wds' : List Cond} {rm : Room} {D : va_G} {tys : List (ClassId × FieldType)} {avs : List Value} {ws : va_W} {w1 : va_W} {cc : ByteArray} {maxL : Nat}
    (hy : plainName y.cls = true) (hw : wds = Cond.code y cc maxL none :: wds') (hlen : (lg_sl avs).length ≤ maxL)
    (body : ∀ (p : Program) (e : Env) (s : State) (m : MethodId) (args : Array Value) (below : List Frame) (meth : Method) (c : Code) (A : Nat → Prop) (H : Heap) (locs : List Loc) (ls : Array Slot) (Q : State → Prop),
      CallFix p m c cc maxL s args wds y.cls → lv_has ls maxL (lv_args 0 avs) → kv_B N D tys A s ws H locs →
      (∀ (H : Heap) (locs : List Loc) (w : va_W) (pc : Nat) (ls : Array Slot), kv_B N D tys A s w H locs → w = w1 → decode cc pc = .ok (.return_, 1) → W p l e rm s m args below meth c H locs 0 0 Q (F0 m pc ls [])) →
      W p l e rm s m args below meth c H locs 0 0 Q (F0 m 0 ls [])) :
    kv_V N l y wds rm D tys avs ws w1 := by
  intro sz
  refine Met.ofW (cc := cc) (maxL := maxL) (ret := none) hy hw ?_
  intro p e s m args below meth c s₁ B hml hv
  obtain ⟨rfl, hsz, hP, hK, hD0, hN⟩ := hv
  have hts := atoms_spec (ws := wds) B.pre
  have hown : s.vm.findClass y.cls = some m.cls := findClass_of_methodNamed B.named
  subst hsz
  have hl := lv_entry avs (n := maxL) hlen
  rw [lg_entry_eq]
  refine body p e s m _ below meth c (va_A ws s.heap.size) _ _ _ _ ⟨B.exec, B.bytes, hml, hown, hts⟩ hl ⟨hP, hD0.self, hK, va_S.rf, fun q h => Or.inr h, hN⟩ ?_
  intro H locs w pc ls hB hw1 hd
  subst hw1
  exact W.vret B.exec B.bytes B.returns (fun t ht hW => ⟨⟨(), rfl, trivial, by rw [ht]; exact hB.1, hB.2.1⟩, hB.2.2.2.1.F ht⟩) hB.2.2.2.1.2.2 hd B.notSynchronized
section KVR
variable {N : State → Prop} {p : Program} {l : Launch} {e : Env} {R : Room} {s : State} {m : MethodId} {args : Array Value} {below : List Frame} {meth : Method} {c : Code} {H : Heap} {locs : List Loc} {cells slots : Nat} {Q : State → Prop}
variable {cc : ByteArray} {pc : Nat} {ls : Array Slot} {rest st0 : List Value} {D : va_G} {A : Nat → Prop} {a : Nat} {tys : List (ClassId × FieldType)} {ws w1 : va_W} {nL : Nat} {Ts : List Cond} {own : String}
variable {y : MethodName} {bytes : ByteArray} {maxL n index : Nat} {ret : Option FieldType} {wds : List Cond} {rm : Room} {As : List Value} {C : String} {b : Nat} {ans : Int32}
/-- the value on top, otherwise written -/
theorem kv_top {x y : Int32} (h : x = y) (k : W p l e R s m args below meth c H locs cells slots Q (F0 m pc ls (.int y :: rest))) : W p l e R s m args below meth c H locs cells slots Q (F0 m pc ls (.int x :: rest)) := by
  subst h; exact k
theorem kv_get (S : CallFix p m c cc nL s args Ts own) (hB : kv_B N D tys A s ws H locs) {T : u_T} {M ci index : Nat} (hin : ∀ w ∈ u_ws C T M, w ∈ Ts) (q0 : Nat) {fs : List Value} (he : ws[q0]? = some (a, .inr (ci, fs))) (hc : vwCl[ci]? = some (C, T, M)) (k : Nat) (hk : k < M) (hlink : Cond.fieldLink own index C (T k).2.1 (T k).2.2.1 ∈ Ts) (hC : (T k).1 = C) {v : Value} (hv : fs[k]? = some v) (hdg : decode cc pc = .ok (.getfield index, 3))
    (kk : W p l e R s m args below meth c H locs cells slots Q (F0 m (pc + 3) ls (v :: rest))) : W p l e R s m args below meth c H locs cells slots Q (F0 m pc ls (.ref a :: rest)) :=
  va_get S.1 S.2.1 S.2.2.2.2 hin S.2.2.2.1 hB.2.2.1 hB.1 q0 he hc k hk (S.2.2.2.2 _ hlink) (fun x h => by rw [hC] at h; exact h) hv hdg kk
theorem kv_put (S : CallFix p m c cc nL s args Ts own) (hB : kv_B N D tys A s ws H locs) {T : u_T} {M ci index : Nat} (hin : ∀ w ∈ u_ws C T M, w ∈ Ts) (ty0 : Nat → FieldType) (hty : ∀ k, k < M → parseFieldDescriptor (T k).2.2.1 = some (ty0 k)) (hnm : ∀ a, a < M → ∀ b, b < M → a ≠ b → (T a).2.1 ≠ (T b).2.1) (q0 : Nat) {fs : List Value} (he : ws[q0]? = some (a, .inr (ci, fs))) (hc : vwCl[ci]? = some (C, T, M)) (k : Nat) (hk : k < M) (hlink : Cond.fieldLink own index C (T k).2.1 (T k).2.2.1 ∈ Ts) (hC : (T k).1 = C) (hfin : (T k).2.2.2 = false) {v : Int32} (hd : parseFieldDescriptor (T k).2.2.1 = some .int) (hl : k < fs.length)
    (hdg : decode cc pc = .ok (.putfield index, 3)) (kk : ∀ (H1 : Heap) (locs1 : List Loc), kv_B N D tys A s (ws.set q0 (a, .inr (ci, fs.set k (.int v)))) H1 locs1 → W p l e R s m args below meth c H1 locs1 cells slots Q (F0 m (pc + 3) ls rest)) : W p l e R s m args below meth c H locs cells slots Q (F0 m pc ls (.int v :: .ref a :: rest)) :=
  va_put S.1 S.2.1 S.2.2.2.2 hin ty0 hty hnm S.2.2.2.1 hB.2.2.1 hB.1 hB.2.1 hB.2.2.2.1 q0 he hc k hk (S.2.2.2.2 _ hlink) (fun x h => by rw [hC] at h; exact h) hfin hd rfl rfl hl hdg (fun H1 locs1 h1 h2 h3 => kk H1 locs1 ⟨h1, h2, hB.2.2.1, h3, hB.2.2.2.2.1, hB.2.2.2.2.2⟩)
theorem kv_iald (S : CallFix p m c cc nL s args Ts own) (hB : kv_B N D tys A s ws H locs) (q0 t0 : Nat) {cA : ClassId} {n : Nat} {f : Nat → Int32} (ha : ws[q0]? = some (a, .inl (cA, n, .inl f))) (ht : tys[t0]? = some (cA, .int)) {i : Int32} (j : Nat) (hi : i = nI j) (hj : j < n) (hn : n < 2 ^ 31) (hdg : decode cc pc = .ok (.iaload, 1))
    (kk : W p l e R s m args below meth c H locs cells slots Q (F0 m (pc + 1) ls (.int (f j) :: rest))) : W p l e R s m args below meth c H locs cells slots Q (F0 m pc ls (.int i :: .ref a :: rest)) := by
  subst hi
  refine va_iald S.1 S.2.1 hB.2.2.1 hB.1 q0 t0 ha ht (vp_in_nI hj hn) hdg ?_
  rw [nI_clamp (by omega)]
  exact kk
theorem kv_iast (S : CallFix p m c cc nL s args Ts own) (hB : kv_B N D tys A s ws H locs) (q0 t0 : Nat) {cA : ClassId} {n : Nat} {f : Nat → Int32} (ha : ws[q0]? = some (a, .inl (cA, n, .inl f))) (ht : tys[t0]? = some (cA, .int)) {i x : Int32} (j : Nat) (hi : i = nI j) (hj : j < n) (hn : n < 2 ^ 31) (hdg : decode cc pc = .ok (.iastore, 1))
    (kk : ∀ (H1 : Heap) (locs1 : List Loc), kv_B N D tys A s (ws.set q0 (a, .inl (cA, n, .inl (upd f j x)))) H1 locs1 → W p l e R s m args below meth c H1 locs1 cells slots Q (F0 m (pc + 1) ls rest)) : W p l e R s m args below meth c H locs cells slots Q (F0 m pc ls (.int x :: .int i :: .ref a :: rest)) := by
  subst hi
  refine va_iast S.1 S.2.1 hB.2.2.1 hB.1 hB.2.1 hB.2.2.2.1 q0 t0 ha ht (vp_in_nI hj hn) hdg (fun H1 locs1 h1 h2 h3 => ?_)
  rw [nI_clamp (by omega)] at h1 h2
  exact kk H1 locs1 ⟨h1, h2, hB.2.2.1, h3, hB.2.2.2.2.1, hB.2.2.2.2.2⟩
theorem kv_alen (S : CallFix p m c cc nL s args Ts own) (hB : kv_B N D tys A s ws H locs) (q0 t0 : Nat) {cA : ClassId} {n : Nat} {f : Nat → Int32} (ha : ws[q0]? = some (a, .inl (cA, n, .inl f))) (ht : tys[t0]? = some (cA, .int)) (hdg : decode cc pc = .ok (.arraylength, 1))
    (kk : W p l e R s m args below meth c H locs cells slots Q (F0 m (pc + 1) ls (.int (nI n) :: rest))) : W p l e R s m args below meth c H locs cells slots Q (F0 m pc ls (.ref a :: rest)) :=
  va_alen S.1 S.2.1 hB.2.2.1 hB.1 q0 t0 ha ht rfl hdg kk
/-- branches whose numbers are naturals -/
theorem kv_bge {x y : Nat} (S : CallFix p m c cc nL s args Ts own) (hx : x < 2 ^ 31) (hy : y < 2 ^ 31) {off : Int} {tgt : Nat} (hdg : decode cc pc = .ok (.if_icmp .ge off, 3)) (ht : (pc : Int) + off = (tgt : Int))
    (kt : y ≤ x → W p l e R s m args below meth c H locs cells slots Q (F0 m tgt ls rest)) (kf : x < y → W p l e R s m args below meth c H locs cells slots Q (F0 m (pc + 3) ls rest)) : W p l e R s m args below meth c H locs cells slots Q (F0 m pc ls (.int (nI y) :: .int (nI x) :: rest)) :=
  lv_icmp_ge S.1 S.2.1 hdg ht (fun h => kt ((nI_leI hy hx).mp h)) (fun h => kf (Nat.lt_of_not_le fun q => h ((nI_leI hy hx).mpr q)))
theorem kv_bgt {x y : Nat} (S : CallFix p m c cc nL s args Ts own) (hx : x < 2 ^ 31) (hy : y < 2 ^ 31) {off : Int} {tgt : Nat} (hdg : decode cc pc = .ok (.if_icmp .gt off, 3)) (ht : (pc : Int) + off = (tgt : Int))
    (kt : y < x → W p l e R s m args below meth c H locs cells slots Q (F0 m tgt ls rest)) (kf : x ≤ y → W p l e R s m args below meth c H locs cells slots Q (F0 m (pc + 3) ls rest)) : W p l e R s m args below meth c H locs cells slots Q (F0 m pc ls (.int (nI y) :: .int (nI x) :: rest)) :=
  lv_icmp_gt S.1 S.2.1 hdg ht (fun h => kt ((nI_ltI hy hx).mp h)) (fun h => kf (Nat.le_of_not_lt fun q => h ((nI_ltI hy hx).mpr q)))
theorem kv_ble {x y : Nat} (S : CallFix p m c cc nL s args Ts own) (hx : x < 2 ^ 31) (hy : y < 2 ^ 31) {off : Int} {tgt : Nat} (hdg : decode cc pc = .ok (.if_icmp .le off, 3)) (ht : (pc : Int) + off = (tgt : Int))
    (kt : x ≤ y → W p l e R s m args below meth c H locs cells slots Q (F0 m tgt ls rest)) (kf : y < x → W p l e R s m args below meth c H locs cells slots Q (F0 m (pc + 3) ls rest)) : W p l e R s m args below meth c H locs cells slots Q (F0 m pc ls (.int (nI y) :: .int (nI x) :: rest)) :=
  lv_icmp_le S.1 S.2.1 hdg ht (fun h => kt ((nI_leI hx hy).mp h)) (fun h => kf (Nat.lt_of_not_le fun q => h ((nI_leI hx hy).mpr q)))
theorem kv_blt {x y : Nat} (S : CallFix p m c cc nL s args Ts own) (hx : x < 2 ^ 31) (hy : y < 2 ^ 31) {off : Int} {tgt : Nat} (hdg : decode cc pc = .ok (.if_icmp .lt off, 3)) (ht : (pc : Int) + off = (tgt : Int))
    (kt : x < y → W p l e R s m args below meth c H locs cells slots Q (F0 m tgt ls rest)) (kf : y ≤ x → W p l e R s m args below meth c H locs cells slots Q (F0 m (pc + 3) ls rest)) : W p l e R s m args below meth c H locs cells slots Q (F0 m pc ls (.int (nI y) :: .int (nI x) :: rest)) :=
  lv_icmp_lt S.1 S.2.1 hdg ht (fun h => kt ((nI_ltI hx hy).mp h)) (fun h => kf (Nat.le_of_not_lt fun q => h ((nI_ltI hx hy).mpr q)))
theorem kv_bne {x y : Nat} (S : CallFix p m c cc nL s args Ts own) (hx : x < 2 ^ 31) (hy : y < 2 ^ 31) {off : Int} {tgt : Nat} (hdg : decode cc pc = .ok (.if_icmp .ne off, 3)) (ht : (pc : Int) + off = (tgt : Int))
    (kt : x ≠ y → W p l e R s m args below meth c H locs cells slots Q (F0 m tgt ls rest)) (kf : x = y → W p l e R s m args below meth c H locs cells slots Q (F0 m (pc + 3) ls rest)) : W p l e R s m args below meth c H locs cells slots Q (F0 m pc ls (.int (nI y) :: .int (nI x) :: rest)) :=
  lv_icmp_ne S.1 S.2.1 hdg ht (fun h => kt (fun q => h ((nI_eq hx hy).mpr q))) (fun h => kf ((nI_eq hx hy).mp h))
theorem kv_blt0 {x : Nat} (S : CallFix p m c cc nL s args Ts own) (hx : x < 2 ^ 31) {off : Int} {tgt : Nat} (hdg : decode cc pc = .ok (.ifCond .lt off, 3)) (ht : (pc : Int) + off = (tgt : Int))
    (kf : W p l e R s m args below meth c H locs cells slots Q (F0 m (pc + 3) ls rest)) : W p l e R s m args below meth c H locs cells slots Q (F0 m pc ls (.int (nI x) :: rest)) :=
  lv_if_lt S.1 S.2.1 hdg ht (fun h => absurd h (nI_pos hx)) (fun _ => kf)
/-- a static method without a world -/
theorem kv_sP (S : CallFix p m c cc nL s args Ts own) (hM : kv_I (fun _ => True) l y wds rm D [] As [] ans []) (cw : CallB R s args own index y bytes maxL ret wds rm 0 0 n ∧ (Cond.static y).before args s = true) (hB : kv_B N D tys A s ws H locs)
    (hn : As.length = n) (hsize : ls.size = nL) (hstack : st0 = As.reverse ++ rest) (hW : (rest.map fun v => v.category).sum ≤ 8) (hdg : decode cc pc = .ok (.invokestatic index, 3)) (hR : cells ≤ R.cells ∧ slots ≤ R.slots)
    (kk : ∀ (H1 : Heap) (locs1 : List Loc), kv_B N D tys A s ws H1 locs1 → W p l e R s m args below meth c H1 locs1 cells slots Q (F0 m (pc + 3) ls (.int ans :: rest))) : W p l e R s m args below meth c H locs cells slots Q (F0 m pc ls st0) := by
  obtain ⟨hP, hD, hK, hS, hA, hN⟩ := hB
  have hFc : ∀ q, va_A [] H.size q → A q := by
    intro q h
    rcases h with ⟨k, e, h⟩ | h
    · simp at h
    · exact hA q (Nat.le_trans hS.1 h)
  refine va_calli (va_runS S (hM H.size) cw ⟨kv_blind kv_T, fun U hU hW => ⟨rfl, by rw [hU], fun k q hk => by simp at hk, va_K.moved hW.alike (hK.sub (tys' := []) [] rfl), ⟨fun i j p q h => by simp at h, fun k q h => by simp at h⟩, trivial⟩⟩ rfl hn hsize hstack (lv_room hW) hdg hR) hS (fun q _ h => hFc q h) hFc (fun r u t H1 locs1 ht hvm hpost hB1 hz1 hk1 hS1 => ?_)
  subst hpost
  refine kk H1 locs1 ⟨hP.kept (fun k q hk => ?_), hD, hK, hS1, hA, hN⟩
  have hl := (hP k q hk).lt
  refine hk1 q.1 hl (fun h => ?_)
  rcases h with ⟨k, e, h⟩ | h
  · simp at h
  · omega
/-- methods over the whole world of the caller: static and virtual; an int, nothing -/
theorem kv_sI (hNM : kv_Mv N) (S : CallFix p m c cc nL s args Ts own) (hM : kv_I N l y wds rm D tys As ws ans w1) (cw : CallB R s args own index y bytes maxL ret wds rm 0 0 n ∧ (Cond.static y).before args s = true) (hB : kv_B N D tys A s ws H locs)
    (hn : As.length = n) (hsize : ls.size = nL) (hstack : st0 = As.reverse ++ rest) (hW : (rest.map fun v => v.category).sum ≤ 8) (hdg : decode cc pc = .ok (.invokestatic index, 3)) (hR : cells ≤ R.cells ∧ slots ≤ R.slots)
    (kk : ∀ (H1 : Heap) (locs1 : List Loc), kv_B N D tys A s w1 H1 locs1 → W p l e R s m args below meth c H1 locs1 cells slots Q (F0 m (pc + 3) ls (.int ans :: rest))) : W p l e R s m args below meth c H locs cells slots Q (F0 m pc ls st0) := by
  obtain ⟨hP, hD, hK, hS, hA, hN⟩ := hB
  have hFc : ∀ q, va_A ws H.size q → A q := by
    intro q h
    rcases h with ⟨k, e, h⟩ | h
    · exact hD.2 k _ h
    · exact hA q (Nat.le_trans hS.1 h)
  refine va_calli (va_runS S (hM H.size) cw ⟨kv_blind hNM, fun U hU hW => ⟨rfl, by rw [hU], by rw [hU]; exact hP, va_K.moved hW.alike hK, hD.weaken (fun _ _ _ _ => trivial), hNM.1 _ _ hW hN⟩⟩ rfl hn hsize hstack (lv_room hW) hdg hR) hS (fun q _ h => hFc q h) hFc (fun r u t H1 locs1 ht hvm hpost hB1 hz1 hk1 hS1 => ?_)
  subst hpost
  exact kk H1 locs1 ⟨by rw [← ht]; exact hB1.1, hB1.2.weaken (fun k q _ h => hFc _ h), hK, hS1, hA, hN⟩
theorem kv_sV (hNM : kv_Mv N) (S : CallFix p m c cc nL s args Ts own) (hM : kv_V N l y wds rm D tys As ws w1) (cw : CallB R s args own index y bytes maxL ret wds rm 0 0 n ∧ (Cond.static y).before args s = true) (hB : kv_B N D tys A s ws H locs)
    (hn : As.length = n) (hsize : ls.size = nL) (hstack : st0 = As.reverse ++ rest) (hW : (rest.map fun v => v.category).sum ≤ 8) (hdg : decode cc pc = .ok (.invokestatic index, 3)) (hR : cells ≤ R.cells ∧ slots ≤ R.slots)
    (kk : ∀ (H1 : Heap) (locs1 : List Loc), kv_B N D tys A s w1 H1 locs1 → W p l e R s m args below meth c H1 locs1 cells slots Q (F0 m (pc + 3) ls rest)) : W p l e R s m args below meth c H locs cells slots Q (F0 m pc ls st0) := by
  obtain ⟨hP, hD, hK, hS, hA, hN⟩ := hB
  have hFc : ∀ q, va_A ws H.size q → A q := by
    intro q h
    rcases h with ⟨k, e, h⟩ | h
    · exact hD.2 k _ h
    · exact hA q (Nat.le_trans hS.1 h)
  refine va_callv (va_runS S (hM H.size) cw ⟨kv_blind hNM, fun U hU hW => ⟨rfl, by rw [hU], by rw [hU]; exact hP, va_K.moved hW.alike hK, hD.weaken (fun _ _ _ _ => trivial), hNM.1 _ _ hW hN⟩⟩ rfl hn hsize hstack (lv_room hW) hdg hR) hS (fun q _ h => hFc q h) hFc (fun u t H1 locs1 ht hvm hpost hB1 hz1 hk1 hS1 => ?_)
  exact kk H1 locs1 ⟨by rw [← ht]; exact hB1.1, hB1.2.weaken (fun k q _ h => hFc _ h), hK, hS1, hA, hN⟩
theorem kv_vI (hNM : kv_Mv N) (S : CallFix p m c cc nL s args Ts own) (hM : kv_I N l y wds rm D tys (.ref b :: As) ws ans w1) (cw : CallW R s args own C index y bytes maxL ret wds rm 0 0 n) (hB : kv_B N D tys A s ws H locs) (q0 : Nat) {ci : Nat} {fs : List Value} {T : u_T} {M : Nat} (he : ws[q0]? = some (b, .inr (ci, fs))) (hc : vwCl[ci]? = some (C, T, M))
    (hn : As.length = n) (hsize : ls.size = nL) (hstack : st0 = As.reverse ++ .ref b :: rest) (hW : (rest.map fun v => v.category).sum ≤ 8) (hdg : decode cc pc = .ok (.invokevirtual index, 3)) (hR : cells ≤ R.cells ∧ slots ≤ R.slots)
    (kk : ∀ (H1 : Heap) (locs1 : List Loc), kv_B N D tys A s w1 H1 locs1 → W p l e R s m args below meth c H1 locs1 cells slots Q (F0 m (pc + 3) ls (.int ans :: rest))) : W p l e R s m args below meth c H locs cells slots Q (F0 m pc ls st0) := by
  obtain ⟨hP, hD, hK, hS, hA, hN⟩ := hB
  have hFc : ∀ q, va_A ws H.size q → A q := by
    intro q h
    rcases h with ⟨k, e, h⟩ | h
    · exact hD.2 k _ h
    · exact hA q (Nat.le_trans hS.1 h)
  refine va_calli (va_runV S (hM H.size) cw ⟨kv_blind hNM, va_recv hK hP hc he, fun U hU hW => ⟨rfl, by rw [hU], by rw [hU]; exact hP, va_K.moved hW.alike hK, hD.weaken (fun _ _ _ _ => trivial), hNM.1 _ _ hW hN⟩⟩ rfl hn hsize hstack (lv_room hW) hdg hR) hS (fun q _ h => hFc q h) hFc (fun r u t H1 locs1 ht hvm hpost hB1 hz1 hk1 hS1 => ?_)
  subst hpost
  exact kk H1 locs1 ⟨by rw [← ht]; exact hB1.1, hB1.2.weaken (fun k q _ h => hFc _ h), hK, hS1, hA, hN⟩
theorem kv_vV (hNM : kv_Mv N) (S : CallFix p m c cc nL s args Ts own) (hM : kv_V N l y wds rm D tys (.ref b :: As) ws w1) (cw : CallW R s args own C index y bytes maxL ret wds rm 0 0 n) (hB : kv_B N D tys A s ws H locs) (q0 : Nat) {ci : Nat} {fs : List Value} {T : u_T} {M : Nat} (he : ws[q0]? = some (b, .inr (ci, fs))) (hc : vwCl[ci]? = some (C, T, M))
    (hn : As.length = n) (hsize : ls.size = nL) (hstack : st0 = As.reverse ++ .ref b :: rest) (hW : (rest.map fun v => v.category).sum ≤ 8) (hdg : decode cc pc = .ok (.invokevirtual index, 3)) (hR : cells ≤ R.cells ∧ slots ≤ R.slots)
    (kk : ∀ (H1 : Heap) (locs1 : List Loc), kv_B N D tys A s w1 H1 locs1 → W p l e R s m args below meth c H1 locs1 cells slots Q (F0 m (pc + 3) ls rest)) : W p l e R s m args below meth c H locs cells slots Q (F0 m pc ls st0) := by
  obtain ⟨hP, hD, hK, hS, hA, hN⟩ := hB
  have hFc : ∀ q, va_A ws H.size q → A q := by
    intro q h
    rcases h with ⟨k, e, h⟩ | h
    · exact hD.2 k _ h
    · exact hA q (Nat.le_trans hS.1 h)
  refine va_callv (va_runV S (hM H.size) cw ⟨kv_blind hNM, va_recv hK hP hc he, fun U hU hW => ⟨rfl, by rw [hU], by rw [hU]; exact hP, va_K.moved hW.alike hK, hD.weaken (fun _ _ _ _ => trivial), hNM.1 _ _ hW hN⟩⟩ rfl hn hsize hstack (lv_room hW) hdg hR) hS (fun q _ h => hFc q h) hFc (fun u t H1 locs1 ht hvm hpost hB1 hz1 hk1 hS1 => ?_)
  exact kk H1 locs1 ⟨by rw [← ht]; exact hB1.1, hB1.2.weaken (fun k q _ h => hFc _ h), hK, hS1, hA, hN⟩
/-- an array, otherwise written -/
theorem kv_arr (q0 : Nat) {cA : ClassId} {n : Nat} {f : Nat → Int32} (ha : ws[q0]? = some (a, .inl (cA, n, .inl f))) (g : Nat → Int32) (hfg : ∀ j, j < n → f j = g j) (hB : kv_B N D tys A s ws H locs) : kv_B N D tys A s (ws.set q0 (a, .inl (cA, n, .inl g))) H locs := by
  refine ⟨hB.1.set hB.2.1 ha ?_ (fun q _ => rfl), hB.2.1.set ha, hB.2.2.1, hB.2.2.2.1, hB.2.2.2.2⟩
  have h := hB.1 q0 _ ha
  show H[a]? = some (vp_cell _ _)
  have h' : H[a]? = some (vp_cell cA (n, .inl f)) := h
  rw [h', vp_cell_i, vp_cell_i]
  unfold arrV
  congr 3
  funext j
  show Value.int (f j.val) = Value.int (g j.val)
  rw [hfg j.val j.isLt]
end KVR
section KNC
variable {p : Program} {R : Room} {s : State} {m : MethodId} {args : Array Value} {c : Code} {cc bytes : ByteArray} {nL maxL n index mc ms : Nat} {own C : String} {y : MethodName} {ret : Option FieldType} {rm : Room} {c1 : Cond}
theorem kn_c {ws : List Cond} {c1 : Cond} (h : ∀ w ∈ ws, w ∈ kn_T) : ∀ w ∈ ws, w ∈ c1 :: kn_T := fun w q => List.mem_cons_of_mem _ (h w q)
theorem kn_G {c1 c2 : Cond} (hc : c2 ∈ kn_T) : GoodIn (c1 :: kn_T) (c2 :: kn_T) := fun w h =>
  (List.mem_cons.mp h).elim (fun q => by subst q; exact ⟨List.mem_cons_of_mem _ hc, good_of_word (kn_g _ hc)⟩) (fun q => ⟨List.mem_cons_of_mem _ q, good_of_word (kn_g w q)⟩)
theorem kn_cS (S : CallFix p m c cc nL s args (c1 :: kn_T) own) (hl : Cond.methodLink own index y ∈ kn_T) (hst : Cond.static y ∈ kn_T) (hini : Cond.initialized y.cls ∈ kn_T) (hcode : Cond.code y bytes maxL ret ∈ kn_T)
    (hd : y.cls ≠ "java/lang/invoke/MethodHandle" ∧ y.cls ≠ "java/lang/invoke/VarHandle" ∧ (parseMethodDescriptor y.desc).map (fun d => d.parameters.length) = some n) (hrc : rm.cells = mc) (hrs : rm.slots = ms) (hR : rm.frames + 1 ≤ R.frames ∧ 8 + (maxL + 11) + rm.locals ≤ R.locals) :
    CallB R s args own index y bytes maxL ret (Cond.code y bytes maxL ret :: kn_T) rm mc ms n ∧ (Cond.static y).before args s = true :=
  ⟨callB_of n S.2.2.2.2 (kn_G hcode) rfl hrc hrs (S.2.2.2.2 _ (List.mem_cons_of_mem _ hini)) (S.2.2.2.2 _ (List.mem_cons_of_mem _ hl)) hd hR, S.2.2.2.2 _ (List.mem_cons_of_mem _ hst)⟩
theorem kn_cV (S : CallFix p m c cc nL s args (c1 :: kn_T) own) (hl : Cond.methodLink own index y ∈ kn_T) (hin : Cond.instanceMethod y ∈ kn_T) (hse : Cond.selects C y y ∈ kn_T) (hini : Cond.initialized C ∈ kn_T) (hcode : Cond.code y bytes maxL ret ∈ kn_T) (hC : y.cls = C)
    (hd : y.cls ≠ "java/lang/invoke/MethodHandle" ∧ y.cls ≠ "java/lang/invoke/VarHandle" ∧ (parseMethodDescriptor y.desc).map (fun d => d.parameters.length) = some n) (hrc : rm.cells = mc) (hrs : rm.slots = ms) (hR : rm.frames + 1 ≤ R.frames ∧ 8 + (maxL + 11) + rm.locals ≤ R.locals) :
    CallW R s args own C index y bytes maxL ret (Cond.code y bytes maxL ret :: kn_T) rm mc ms n :=
  ⟨callB_of n S.2.2.2.2 (kn_G hcode) rfl hrc hrs (S.2.2.2.2 _ (List.mem_cons_of_mem _ (by rw [hC]; exact hini))) (S.2.2.2.2 _ (List.mem_cons_of_mem _ hl)) hd hR, S.2.2.2.2 _ (List.mem_cons_of_mem _ hin), S.2.2.2.2 _ (List.mem_cons_of_mem _ hse)⟩
theorem kn_cI (S : CallFix p m c cc nL s args (c1 :: kn_T) own) (hl : Cond.methodLink own index y ∈ kn_T) (hin : Cond.instanceMethod y ∈ kn_T) (hini : Cond.initialized y.cls ∈ kn_T) (hcode : Cond.code y bytes maxL none ∈ kn_T) (hnm : y.name = "<init>")
    (hd : y.cls ≠ "java/lang/invoke/MethodHandle" ∧ y.cls ≠ "java/lang/invoke/VarHandle" ∧ (parseMethodDescriptor y.desc).map (fun d => d.parameters.length) = some n) (hrc : rm.cells = mc) (hrs : rm.slots = ms) (hR : rm.frames + 1 ≤ R.frames ∧ 8 + (maxL + 11) + rm.locals ≤ R.locals) :
    CallB R s args own index y bytes maxL none (Cond.code y bytes maxL none :: kn_T) rm mc ms n ∧ y.name = "<init>" ∧ (Cond.instanceMethod y).before args s = true :=
  ⟨callB_of n S.2.2.2.2 (kn_G hcode) rfl hrc hrs (S.2.2.2.2 _ (List.mem_cons_of_mem _ hini)) (S.2.2.2.2 _ (List.mem_cons_of_mem _ hl)) hd hR, hnm, S.2.2.2.2 _ (List.mem_cons_of_mem _ hin)⟩
end KNC
