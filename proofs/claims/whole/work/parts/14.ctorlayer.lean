/-! Constructors: contracts of methods that make cells. -/
def kv_C {Z : Type} (l : Launch) (y : MethodName) (wds : List Cond) (rm : Room) (D : va_G) (avs : List Value) (ws : va_W) (w1 : Z → va_W) (tys1 : Z → List (ClassId × FieldType)) (mc ms : Nat) : Prop :=
  ∀ sz : Nat, Met l y wds rm (kv_pre (fun _ => True) D [] avs ws sz) (va_Qv (fun (_ : Z) => True) (fun u t => va_P D vwCl (w1 u) t.heap ∧ va_K D vwCl (tys1 u) t ∧ va_D (va_A ws sz) (w1 u)) (va_A ws sz)) mc ms (va_A ws sz)
theorem kv_openC {Z : Type} {l : Launch} {y : MethodName} {wds wds' : List Cond} {rm : Room} {D : va_G} {avs : List Value} {ws : va_W} {w1 : Z → va_W} {tys1 : Z → List (ClassId × FieldType)} {mc ms : Nat} {cc : ByteArray} {maxL : Nat}
    (hy : plainName y.cls = true) (hw : wds = Cond.code y cc maxL none :: wds') (hin : y.name = "<init>") (hlen : (lg_sl avs).length ≤ maxL)
    (body : ∀ (p : Program) (e : Env) (s : State) (m : MethodId) (args : Array Value) (below : List Frame) (meth : Method) (c : Code) (A : Nat → Prop) (H : Heap) (locs : List Loc) (ls : Array Slot) (Q : State → Prop),
      CallFix p m c cc maxL s args wds y.cls → meth.name = "<init>" → lv_has ls maxL (lv_args 0 avs) → kv_B (fun _ => True) D [] A s ws H locs →
      (∀ (H : Heap) (locs : List Loc) (u : Z) (pc : Nat) (ls : Array Slot), kv_B (fun _ => True) D (tys1 u) A s (w1 u) H locs → decode cc pc = .ok (.return_, 1) → W p l e rm s m args below meth c H locs mc ms Q (F0 m pc ls [])) →
      W p l e rm s m args below meth c H locs 0 0 Q (F0 m 0 ls [])) :
    kv_C l y wds rm D avs ws w1 tys1 mc ms := by
  intro sz
  refine Met.ofW (cc := cc) (maxL := maxL) (ret := none) hy hw ?_
  intro p e s m args below meth c s₁ B hml hv
  obtain ⟨rfl, hsz, hP, hK, hD0, hN⟩ := hv
  have hts := atoms_spec (ws := wds) B.pre
  have hown : s.vm.findClass y.cls = some m.cls := findClass_of_methodNamed B.named
  have hmn : meth.name = "<init>" := (name_of_methodNamed B.named B.method).1.trans hin
  subst hsz
  have hl := lv_entry avs (n := maxL) hlen
  rw [lg_entry_eq]
  refine body p e s m _ below meth c (va_A ws s.heap.size) _ _ _ _ ⟨B.exec, B.bytes, hml, hown, hts⟩ hmn hl ⟨hP, hD0.self, hK, va_S.rf, fun q h => Or.inr h, hN⟩ ?_
  intro H locs u pc ls hB hd
  exact W.vret B.exec B.bytes B.returns (fun t ht hW => ⟨⟨u, rfl, trivial, by rw [ht]; exact hB.1, va_K.moved hW.alike hB.2.2.1, hB.2.1⟩, hB.2.2.2.1.F ht⟩) hB.2.2.2.1.2.2 hd B.notSynchronized
section KVN
variable {N : State → Prop} {p : Program} {l : Launch} {e : Env} {R : Room} {s : State} {m : MethodId} {args : Array Value} {below : List Frame} {meth : Method} {c : Code} {H : Heap} {locs : List Loc} {cells slots : Nat} {Q : State → Prop}
variable {cc : ByteArray} {pc : Nat} {ls : Array Slot} {rest st0 : List Value} {D : va_G} {A : Nat → Prop} {a : Nat} {tys : List (ClassId × FieldType)} {ws wc wr : va_W} {nL : Nat} {Ts : List Cond} {own : String}
variable {y : MethodName} {bytes : ByteArray} {maxL index : Nat} {wds : List Cond} {rm : Room} {C : String} {b mc ms : Nat}
theorem kv_obj (S : CallFix p m c cc nL s args Ts own) (hsize : ls.size = nL) (hB : kv_B N D tys A s ws H locs) {idx : Nat} (h1 : Cond.methodLink own idx Lib.objectInit ∈ Ts) (h2 : Cond.instanceMethod Lib.objectInit ∈ Ts) (h3 : Cond.code Lib.objectInit ⟨#[0xb1]⟩ 1 none ∈ Ts) (hd : decode cc pc = .ok (.invokespecial idx, 3)) (hf : 1 ≤ R.frames) (hl : (rest.map fun v => v.category).sum + 12 ≤ R.locals)
    (kk : W p l e R s m args below meth c H locs cells slots Q (F0 m (pc + 3) ls rest)) : W p l e R s m args below meth c H locs cells slots Q (F0 m pc ls (.ref a :: rest)) := by
  refine W.objInit S.1 S.2.1 S.2.2.2.1 (S.2.2.2.2 _ h1) (S.2.2.2.2 _ h2) (S.2.2.2.2 _ h3) rfl (by rw [S.2.2.1]; exact hsize) rfl hd hf ?_ kk
  show 2 * 0 + _ + 12 ≤ _
  omega
theorem kv_newa (S : CallFix p m c cc nL s args Ts own) (hB : kv_B N D tys A s ws H locs) {atype : ArrayType} (hat : newarray.typeOf atype = .int) (harr : Cond.arrayClass .int ∈ Ts) {n : Int32} {M : Nat} (hn : ¬ n < 0) (hM : n.toNatClampNeg = M) (hby : M ≤ 1000) (hcells : cells + 1 ≤ R.cells) (hslots : slots + M ≤ R.slots) (hdg : decode cc pc = .ok (.newarray atype, 2))
    (kk : ∀ (q : Nat) (cA : ClassId) (H1 : Heap), kv_B N D (tys ++ [(cA, .int)]) A s (ws ++ [(q, .inl (cA, M, .inl (fun _ => 0)))]) H1 locs → W p l e R s m args below meth c H1 locs (cells + 1) (slots + M) Q (F0 m (pc + 2) ls (.ref q :: rest))) : W p l e R s m args below meth c H locs cells slots Q (F0 m pc ls (.int n :: rest)) := by
  refine va_newa (a0 := (M, .inl (fun _ => 0))) (ty := .int) S.1 S.2.1 (by rw [hat]; exact S.2.2.2.2 _ harr) hat hB.2.2.1 hB.1 hB.2.1 hB.2.2.2.1 hB.2.2.2.2.1 (fun _ => rfl) hn hM ?_ hcells hslots hdg (fun q cA H1 hK hP hD hS => kk q cA H1 ⟨hP, hD, hK, hS, hB.2.2.2.2.1, hB.2.2.2.2.2⟩)
  have e : componentBytes FieldType.int = 4 := by decide
  rw [e]
  omega
theorem kv_newo (S : CallFix p m c cc nL s args Ts own) (hB : kv_B N D tys A s ws H locs) {T : u_T} {M ci index : Nat} (hin : ∀ w ∈ u_ws C T M, w ∈ Ts) (ty : Nat → FieldType) (hty : ∀ k, k < M → parseFieldDescriptor (T k).2.2.1 = some (ty k)) (hcl : Cond.classLink own index C ∈ Ts) (hinst : Cond.instantiable C M ∈ Ts) (hini : Cond.initialized C ∈ Ts) (hc : vwCl[ci]? = some (C, T, M)) {fs : List Value} (hfs : ∀ j, j < M → defaultValue (ty j) = vp_V fs j) (hcells : cells + 1 ≤ R.cells) (hslots : slots + M ≤ R.slots) (hdg : decode cc pc = .ok (.new index, 3))
    (kk : ∀ (q : Nat) (H1 : Heap), kv_B N D tys A s (ws ++ [(q, .inr (ci, fs))]) H1 locs → W p l e R s m args below meth c H1 locs (cells + 1) (slots + M) Q (F0 m (pc + 3) ls (.ref q :: rest))) : W p l e R s m args below meth c H locs cells slots Q (F0 m pc ls rest) :=
  va_new S.1 S.2.1 S.2.2.2.2 hin ty hty S.2.2.2.1 (S.2.2.2.2 _ hcl) (S.2.2.2.2 _ hinst) (S.2.2.2.2 _ hini) hB.2.2.1 hB.1 hB.2.1 hB.2.2.2.1 hB.2.2.2.2.1 hc hfs hcells hslots hdg (fun q H1 hP hD hS => kk q H1 ⟨hP, hD, hB.2.2.1, hS, hB.2.2.2.2.1, hB.2.2.2.2.2⟩)
theorem kv_putr (S : CallFix p m c cc nL s args Ts own) (hB : kv_B N D tys A s ws H locs) {T : u_T} {M ci index : Nat} (hin : ∀ w ∈ u_ws C T M, w ∈ Ts) (ty0 : Nat → FieldType) (hty : ∀ k, k < M → parseFieldDescriptor (T k).2.2.1 = some (ty0 k)) (hnm : ∀ a, a < M → ∀ b, b < M → a ≠ b → (T a).2.1 ≠ (T b).2.1) (q0 : Nat) {fs : List Value} (he : ws[q0]? = some (a, .inr (ci, fs))) (hc : vwCl[ci]? = some (C, T, M)) (k : Nat) (hk : k < M) (hlink : Cond.fieldLink own index C (T k).2.1 (T k).2.2.1 ∈ Ts) (hC : (T k).1 = C) (hfin : (T k).2.2.2 = false) {v : Nat} {ty : FieldType} (hd : parseFieldDescriptor (T k).2.2.1 = some ty) (hnr : narrow ty (.ref v) = .ref v) (hft : fits ty (.ref v) = true) (hl : k < fs.length)
    (hdg : decode cc pc = .ok (.putfield index, 3)) (kk : ∀ (H1 : Heap) (locs1 : List Loc), kv_B N D tys A s (ws.set q0 (a, .inr (ci, fs.set k (.ref v)))) H1 locs1 → W p l e R s m args below meth c H1 locs1 cells slots Q (F0 m (pc + 3) ls rest)) : W p l e R s m args below meth c H locs cells slots Q (F0 m pc ls (.ref v :: .ref a :: rest)) :=
  va_put S.1 S.2.1 S.2.2.2.2 hin ty0 hty hnm S.2.2.2.1 hB.2.2.1 hB.1 hB.2.1 hB.2.2.2.1 q0 he hc k hk (S.2.2.2.2 _ hlink) (fun x h => by rw [hC] at h; exact h) hfin hd hnr hft hl hdg (fun H1 locs1 h1 h2 h3 => kk H1 locs1 ⟨h1, h2, hB.2.2.1, h3, hB.2.2.2.2.1, hB.2.2.2.2.2⟩)
theorem kv_putf (S : CallFix p m c cc nL s args Ts own) (hmn : meth.name = "<init>") (hB : kv_B N D tys A s ws H locs) {T : u_T} {M ci index : Nat} (hin : ∀ w ∈ u_ws C T M, w ∈ Ts) (ty0 : Nat → FieldType) (hty : ∀ k, k < M → parseFieldDescriptor (T k).2.2.1 = some (ty0 k)) (hnm : ∀ a, a < M → ∀ b, b < M → a ≠ b → (T a).2.1 ≠ (T b).2.1) (q0 : Nat) {fs : List Value} (he : ws[q0]? = some (a, .inr (ci, fs))) (hc : vwCl[ci]? = some (C, T, M)) (k : Nat) (hk : k < M) (hlink : Cond.fieldLink own index C (T k).2.1 (T k).2.2.1 ∈ Ts) (hC : (T k).1 = C) (hCo : (T k).1 = own) (hfin : (T k).2.2.2 = true) {v : Nat} {ty : FieldType} (hd : parseFieldDescriptor (T k).2.2.1 = some ty) (hnr : narrow ty (.ref v) = .ref v) (hft : fits ty (.ref v) = true) (hl : k < fs.length)
    (hdg : decode cc pc = .ok (.putfield index, 3)) (kk : ∀ (H1 : Heap) (locs1 : List Loc), kv_B N D tys A s (ws.set q0 (a, .inr (ci, fs.set k (.ref v)))) H1 locs1 → W p l e R s m args below meth c H1 locs1 cells slots Q (F0 m (pc + 3) ls rest)) : W p l e R s m args below meth c H locs cells slots Q (F0 m pc ls (.ref v :: .ref a :: rest)) :=
  va_putF S.1 S.2.1 S.2.2.2.2 hin ty0 hty hnm S.2.2.2.1 hB.2.2.1 hB.1 hB.2.1 hB.2.2.2.1 q0 he hc k hk (S.2.2.2.2 _ hlink) (fun x h => by rw [hC] at h; exact h) hfin hmn hCo hd hnr hft hl hdg (fun H1 locs1 h1 h2 h3 => kk H1 locs1 ⟨h1, h2, hB.2.2.1, h3, hB.2.2.2.2.1, hB.2.2.2.2.2⟩)
theorem kv_init {Z : Type} {w1 : Z → va_W} {tys1 : Z → List (ClassId × FieldType)} (S : CallFix p m c cc nL s args Ts own) (hM : kv_C l y wds rm D [.ref b] wc w1 tys1 mc ms) (cw : CallB R s args own index y bytes maxL none wds rm mc ms 0 ∧ y.name = "<init>" ∧ (Cond.instanceMethod y).before args s = true) (hB : kv_B N D tys A s ws H locs) (isC isR : List Nat) (hC : isC.map (fun i => ws[i]?) = wc.map some) (hRr : isR.map (fun i => ws[i]?) = wr.map some) (hnC : va_nd isC = true) (hnR : va_nd isR = true) (hdis : ∀ i ∈ isR, i ∉ isC)
    (hsize : ls.size = nL) (hW : (rest.map fun v => v.category).sum ≤ 8) (hdg : decode cc pc = .ok (.invokespecial index, 3)) (hR : cells + mc ≤ R.cells ∧ slots + ms ≤ R.slots)
    (kk : ∀ (u : Z) (H1 : Heap) (locs1 : List Loc), kv_B N D (tys ++ tys1 u) A s (wr ++ w1 u) H1 locs1 → W p l e R s m args below meth c H1 locs1 (cells + mc) (slots + ms) Q (F0 m (pc + 3) ls rest)) : W p l e R s m args below meth c H locs cells slots Q (F0 m pc ls (.ref b :: rest)) := by
  obtain ⟨hP, hD, hK, hS, hA, hN⟩ := hB
  have hPc : va_P D vwCl wc H := hP.sub isC (kv_fm hC)
  have hDc := hD.sub isC hnC hC
  have hFc := va_free (wc := wc) hD hS hA isC hC
  refine va_callv (va_runI (As := []) S (hM H.size) cw ⟨kv_blind kv_T, fun U hU hW => ⟨rfl, by rw [hU], by rw [hU]; exact hPc, va_K.moved hW.alike (hK.sub (tys' := []) [] rfl), hDc.weaken (fun _ _ _ _ => trivial), trivial⟩⟩ rfl rfl hsize rfl (lv_room hW) hdg hR) hS (fun q _ h => hFc q h) hFc (fun u t H1 locs1 ht hvm hpost hB1 hz1 hk1 hS1 => ?_)
  obtain ⟨hP1, hK1, hD1⟩ := hB1
  obtain ⟨hP', hD'⟩ := va_join (wr := wr) (w1 := w1 u) hP hD isC isR hC hRr hnR hdis hk1 hFc (by rw [← ht]; exact hP1) hD1
  exact kk u H1 locs1 ⟨hP', hD', hK.app (va_K.moved hvm.symm hK1), hS1, hA, hN⟩
theorem kv_same {c1 c2 : ClassId} {i j : Nat} (hB : kv_B N D tys A s ws H locs) (h1 : tys[i]? = some (c1, .int)) (h2 : tys[j]? = some (c2, .int)) : c1 = c2 := by
  have q1 := (hB.2.2.1.2 i _ h1).2
  have q2 := (hB.2.2.1.2 j _ h2).2
  exact Option.some.inj (q1.symm.trans q2)
/-- fewer words of the tables, the cells in another order -/
theorem kv_tys {tys' : List (ClassId × FieldType)} (is : List Nat) (h : is.filterMap (fun i => tys[i]?) = tys') (hB : kv_B N D tys A s ws H locs) : kv_B N D tys' A s ws H locs :=
  ⟨hB.1, hB.2.1, hB.2.2.1.sub is h, hB.2.2.2.1, hB.2.2.2.2⟩
theorem kv_sub {ws' : va_W} (is : List Nat) (h : is.map (fun i => ws[i]?) = ws'.map some) (hn : va_nd is = true) (hB : kv_B N D tys A s ws H locs) : kv_B N D tys A s ws' H locs :=
  ⟨hB.1.sub is (kv_fm h), hB.2.1.sub is hn h, hB.2.2.1, hB.2.2.2.1, hB.2.2.2.2⟩
end KVN
