/-! Calls of the law: a part of its world goes in, comes back, beside the rest. -/
theorem kv_fm {α β : Type} {f : α → Option β} : ∀ {is : List α} {w : List β}, is.map f = w.map some → is.filterMap f = w
  | [], [], _ => rfl
  | [], _ :: _, h => by cases h
  | _ :: _, [], h => by cases h
  | i :: is, a :: w, h => by
    have h1 : f i = some a := (List.cons.inj h).1
    have h2 := kv_fm (List.cons.inj h).2
    rw [List.filterMap_cons_some h1, h2]
section KVG
variable {N : State → Prop} {p : Program} {l : Launch} {e : Env} {R : Room} {s : State} {m : MethodId} {args : Array Value} {below : List Frame} {meth : Method} {c : Code} {H : Heap} {locs : List Loc} {cells slots : Nat} {Q : State → Prop}
variable {cc : ByteArray} {pc : Nat} {ls : Array Slot} {rest st0 : List Value} {D : va_G} {A : Nat → Prop} {tys : List (ClassId × FieldType)} {ws wc wr w1 : va_W} {nL : Nat} {Ts : List Cond} {own : String}
variable {y : MethodName} {bytes : ByteArray} {maxL n index : Nat} {ret : Option FieldType} {wds : List Cond} {rm : Room} {As : List Value} {C : String} {b : Nat}
theorem kv_gI {ans : Int32} (hNM : kv_Mv N) (S : CallFix p m c cc nL s args Ts own) (hM : kv_I N l y wds rm D tys (.ref b :: As) wc ans w1) (cw : CallW R s args own C index y bytes maxL ret wds rm 0 0 n) (hB : kv_B N D tys A s ws H locs) (isC isR : List Nat) (hC : isC.map (fun i => ws[i]?) = wc.map some) (hRr : isR.map (fun i => ws[i]?) = wr.map some) (hnC : va_nd isC = true) (hnR : va_nd isR = true) (hdis : ∀ i ∈ isR, i ∉ isC) (q0 : Nat) {ci : Nat} {fs : List Value} {T : u_T} {M : Nat} (he : ws[q0]? = some (b, .inr (ci, fs))) (hc : vwCl[ci]? = some (C, T, M))
    (hn : As.length = n) (hsize : ls.size = nL) (hstack : st0 = As.reverse ++ .ref b :: rest) (hW : (rest.map fun v => v.category).sum ≤ 8) (hdg : decode cc pc = .ok (.invokevirtual index, 3)) (hR : cells ≤ R.cells ∧ slots ≤ R.slots)
    (kk : ∀ (H1 : Heap) (locs1 : List Loc), kv_B N D tys A s (wr ++ w1) H1 locs1 → W p l e R s m args below meth c H1 locs1 cells slots Q (F0 m (pc + 3) ls (.int ans :: rest))) : W p l e R s m args below meth c H locs cells slots Q (F0 m pc ls st0) := by
  obtain ⟨hP, hD, hK, hS, hA, hN⟩ := hB
  have hPc : va_P D vwCl wc H := hP.sub isC (kv_fm hC)
  have hDc := hD.sub isC hnC hC
  have hFc := va_free (wc := wc) hD hS hA isC hC
  refine va_calli (va_runV S (hM H.size) cw ⟨kv_blind hNM, va_recv hK hP hc he, fun U hU hW => ⟨rfl, by rw [hU], by rw [hU]; exact hPc, va_K.moved hW.alike hK, hDc.weaken (fun _ _ _ _ => trivial), hNM.1 _ _ hW hN⟩⟩ rfl hn hsize hstack (lv_room hW) hdg hR) hS (fun q _ h => hFc q h) hFc (fun r u t H1 locs1 ht hvm hpost hB1 hz1 hk1 hS1 => ?_)
  subst hpost
  obtain ⟨hP', hD'⟩ := va_join (wr := wr) (w1 := w1) hP hD isC isR hC hRr hnR hdis hk1 hFc (by rw [← ht]; exact hB1.1) hB1.2
  exact kk H1 locs1 ⟨hP', hD', hK, hS1, hA, hN⟩
theorem kv_gL {ans : Int64} (hNM : kv_Mv N) (S : CallFix p m c cc nL s args Ts own) (hM : kv_L N l y wds rm D tys (.ref b :: As) wc ans w1) (cw : CallW R s args own C index y bytes maxL ret wds rm 0 0 n) (hB : kv_B N D tys A s ws H locs) (isC isR : List Nat) (hC : isC.map (fun i => ws[i]?) = wc.map some) (hRr : isR.map (fun i => ws[i]?) = wr.map some) (hnC : va_nd isC = true) (hnR : va_nd isR = true) (hdis : ∀ i ∈ isR, i ∉ isC) (q0 : Nat) {ci : Nat} {fs : List Value} {T : u_T} {M : Nat} (he : ws[q0]? = some (b, .inr (ci, fs))) (hc : vwCl[ci]? = some (C, T, M))
    (hn : As.length = n) (hsize : ls.size = nL) (hstack : st0 = As.reverse ++ .ref b :: rest) (hW : (rest.map fun v => v.category).sum ≤ 8) (hdg : decode cc pc = .ok (.invokevirtual index, 3)) (hR : cells ≤ R.cells ∧ slots ≤ R.slots)
    (kk : ∀ (H1 : Heap) (locs1 : List Loc), kv_B N D tys A s (wr ++ w1) H1 locs1 → W p l e R s m args below meth c H1 locs1 cells slots Q (F0 m (pc + 3) ls (.long ans :: rest))) : W p l e R s m args below meth c H locs cells slots Q (F0 m pc ls st0) := by
  obtain ⟨hP, hD, hK, hS, hA, hN⟩ := hB
  have hPc : va_P D vwCl wc H := hP.sub isC (kv_fm hC)
  have hDc := hD.sub isC hnC hC
  have hFc := va_free (wc := wc) hD hS hA isC hC
  refine va_calll (va_runV S (hM H.size) cw ⟨kv_blind hNM, va_recv hK hP hc he, fun U hU hW => ⟨rfl, by rw [hU], by rw [hU]; exact hPc, va_K.moved hW.alike hK, hDc.weaken (fun _ _ _ _ => trivial), hNM.1 _ _ hW hN⟩⟩ rfl hn hsize hstack (lv_room hW) hdg hR) hS (fun q _ h => hFc q h) hFc (fun r u t H1 locs1 ht hvm hpost hB1 hz1 hk1 hS1 => ?_)
  subst hpost
  obtain ⟨hP', hD'⟩ := va_join (wr := wr) (w1 := w1) hP hD isC isR hC hRr hnR hdis hk1 hFc (by rw [← ht]; exact hB1.1) hB1.2
  exact kk H1 locs1 ⟨hP', hD', hK, hS1, hA, hN⟩
end KVG
section KVS
variable {N : State → Prop} {p : Program} {l : Launch} {e : Env} {R : Room} {s : State} {m : MethodId} {args : Array Value} {below : List Frame} {meth : Method} {c : Code} {H : Heap} {locs : List Loc} {cells slots : Nat} {Q : State → Prop}
variable {cc : ByteArray} {pc : Nat} {ls : Array Slot} {rest : List Value} {D : va_G} {A : Nat → Prop} {tys : List (ClassId × FieldType)} {ws : va_W} {nL : Nat} {Ts : List Cond} {own : String} {b L : Nat} {xs : Nat → Int32}
theorem kv_sld (S : CallFix p m c cc nL s args Ts own) (hX : va_X b L xs s s.heap) (hbl : b < s.heap.size) (hbA : ¬ A b) (hB : kv_B N D tys A s ws H locs) (j : Nat) (hj : j < L) (hL : L < 2 ^ 31) (hdg : decode cc pc = .ok (.iaload, 1))
    (kk : W p l e R s m args below meth c H locs cells slots Q (F0 m (pc + 1) ls (.int (xs j) :: rest))) : W p l e R s m args below meth c H locs cells slots Q (F0 m pc ls (.int (nI j) :: .ref b :: rest)) := by
  refine va_sld S.1 S.2.1 hX hbl hbA hB.2.2.2.1 (vp_in_nI hj hL) hdg ?_
  rw [nI_clamp (by omega)]
  exact kk
theorem kv_slen (S : CallFix p m c cc nL s args Ts own) (hX : va_X b L xs s s.heap) (hbl : b < s.heap.size) (hbA : ¬ A b) (hB : kv_B N D tys A s ws H locs) (hdg : decode cc pc = .ok (.arraylength, 1))
    (kk : W p l e R s m args below meth c H locs cells slots Q (F0 m (pc + 1) ls (.int (nI L) :: rest))) : W p l e R s m args below meth c H locs cells slots Q (F0 m pc ls (.ref b :: rest)) :=
  va_slen S.1 S.2.1 hX hbl hbA hB.2.2.2.1 hdg kk
end KVS
theorem kv_l5 {L i : Nat} (hL : L < 2 ^ 30) (hi : i < 2 ^ 30) (h : ¬ nI L - 5 < nI i) : i + 5 ≤ L := by
  have e : (nI L - nI 5).toInt = (L : Int) - ((5 : Nat) : Int) := pk_sub_toInt hL (by decide)
  rw [Int32.lt_iff_toInt_lt] at h
  have e1 : (nI L - 5).toInt = (L : Int) - 5 := e
  rw [e1, nI_toInt (by omega)] at h
  omega
theorem kv_lc {x y : Int64} (h : x = y) : lg_cmp x y = 0 := by
  subst h
  simp [lg_cmp]
