/-! ===== calls of the law: an object's cells X, all else pl ===== -/
theorem q_swapP {D : va_G} {cl : List vw_C} {a b : va_W} {H : Heap} (h : va_P D cl (a ++ b) H) : va_P D cl (b ++ a) H := by
  have ha : va_P D cl a H := fun k q hk => by
    obtain ⟨i, hi⟩ := List.getElem?_of_mem (List.mem_append_left b (List.mem_of_getElem? hk))
    exact h i q hi
  have hb : va_P D cl b H := fun k q hk => by
    obtain ⟨i, hi⟩ := List.getElem?_of_mem (List.mem_append_right a (List.mem_of_getElem? hk))
    exact h i q hi
  exact hb.app ha
theorem q_swapD {A : Nat → Prop} {a b : va_W} (h : va_D A (a ++ b)) : va_D A (b ++ a) := by
  have ha : va_D A a := ⟨fun i j p q hi hj e => h.1 i j p q (by rw [List.getElem?_append_left (List.getElem?_eq_some_iff.mp hi).1]; exact hi) (by rw [List.getElem?_append_left (List.getElem?_eq_some_iff.mp hj).1]; exact hj) e, fun k q hk => h.2 k q (by rw [List.getElem?_append_left (List.getElem?_eq_some_iff.mp hk).1]; exact hk)⟩
  have sh : ∀ (k : Nat) (q : Nat × va_E), b[k]? = some q → (a ++ b)[a.length + k]? = some q := fun k q hk => by
    rw [List.getElem?_append_right (by omega)]
    rw [show a.length + k - a.length = k by omega]
    exact hk
  have hb : va_D A b := ⟨fun i j p q hi hj e => by
    have := h.1 _ _ p q (sh i p hi) (sh j q hj) e
    omega, fun k q hk => h.2 _ q (sh k q hk)⟩
  refine hb.app ha (fun i j p q hi hj e => ?_)
  have h1 := h.1 _ _ p q (sh i p hi) (show (a ++ b)[j]? = some q by rw [List.getElem?_append_left (List.getElem?_eq_some_iff.mp hj).1]; exact hj) e
  have := (List.getElem?_eq_some_iff.mp hj).1
  omega
section QL
variable {p : Program} {l : Launch} {e : Env} {R : Room} {s : State} {m : MethodId} {args : Array Value} {below : List Frame} {meth : Method} {c : Code} {H : Heap} {locs : List Loc} {cells slots : Nat} {Q : State → Prop}
variable {cc : ByteArray} {pc : Nat} {ls : Array Slot} {rest : List Value} {D : va_G} {A : Nat → Prop} {cI : ClassId} {X pl : va_W}
variable {E : q_Env} {y : MethodName} {bytes : ByteArray} {maxL nL n index : Nat} {ret : Option FieldType} {wsC Ts : List Cond} {rm : Room} {own C : String} {b : Addr} {As st0 : List Value} {wc : va_W} {r : Int32}
/-- a call that only reads -/
theorem q_callRX (hE : q_EOk E) (S : CallFix p m c cc nL s args Ts own) (hM : q_RO E l y wsC rm D cI (.ref b :: As) wc r) (cw : CallW R s args own C index y bytes maxL ret wsC rm 0 0 n) (hK : va_K D vwCl [(cI, .int)] s) (hP : va_P D vwCl (X ++ pl) H) (hEv : E A s s.heap) (hS : va_S A s.heap H locs) (is : List Nat) (hs : is.filterMap (fun i => X[i]?) = wc) (rc : ∃ cell : Cell, H[b]? = some cell ∧ cell.vm.isStatics = false ∧ s.vm.findClass C = some cell.cls) (hst : st0 = As.reverse ++ .ref b :: rest) (hn : As.length = n) (hl : ls.size = nL) (hroom : (rest.map fun v => v.category).sum ≤ 8) (hf : cells ≤ R.cells ∧ slots ≤ R.slots) (hdg : decode cc pc = .ok (.invokevirtual index, 3))
    (kk : W p l e R s m args below meth c H locs cells slots Q (F0 m (pc + 3) ls (.int r :: rest))) : W p l e R s m args below meth c H locs cells slots Q (F0 m pc ls st0) := by
  have hX : va_P D vwCl X H := fun k q hk => hP k q (by rw [List.getElem?_append_left (List.getElem?_eq_some_iff.mp hk).1]; exact hk)
  exact q_callRd hE S hM cw hK hX hEv hS is hs rc hst hn hl hroom hf hdg kk
/-- a call that writes: X becomes X' -/
theorem q_callWX {w1 wr : va_W} (X' : va_W) (hE : q_EOk E) (S : CallFix p m c cc nL s args Ts own) (hM : q_RW E l y wsC rm D cI (.ref b :: As) wc w1 r) (cw : CallW R s args own C index y bytes maxL ret wsC rm 0 0 n) (hK : va_K D vwCl [(cI, .int)] s) (hEv : E A s s.heap) (hA : ∀ q : Nat, s.heap.size ≤ q → A q) (hP : va_P D vwCl (X ++ pl) H) (hD : va_D A (X ++ pl)) (hS : va_S A s.heap H locs) (isC isR is2 : List Nat) (hnd : va_nd isC = true) (hC : isC.map (fun i => X[i]?) = wc.map some) (hR : isR.map (fun i => X[i]?) = wr.map some) (hnr : va_nd isR = true) (hdis : ∀ i ∈ isR, i ∉ isC) (hn2 : va_nd is2 = true) (hX' : is2.map (fun i => (wr ++ w1)[i]?) = X'.map some) (rc : ∃ cell : Cell, H[b]? = some cell ∧ cell.vm.isStatics = false ∧ s.vm.findClass C = some cell.cls) (hst : st0 = As.reverse ++ .ref b :: rest) (hn : As.length = n) (hl : ls.size = nL) (hroom : (rest.map fun v => v.category).sum ≤ 8) (hf : cells ≤ R.cells ∧ slots ≤ R.slots) (hdg : decode cc pc = .ok (.invokevirtual index, 3))
    (kk : ∀ (H1 : Heap) (locs1 : List Loc), va_P D vwCl (X' ++ pl) H1 → va_D A (X' ++ pl) → va_S A s.heap H1 locs1 → W p l e R s m args below meth c H1 locs1 cells slots Q (F0 m (pc + 3) ls (.int r :: rest))) : W p l e R s m args below meth c H locs cells slots Q (F0 m pc ls st0) := by
  subst hst
  have up : ∀ {is : List Nat} {w : va_W}, is.map (fun i => X[i]?) = w.map some → is.map (fun i => (X ++ pl)[i]?) = w.map some := by
    intro is w hs
    rw [← hs]
    refine List.map_congr_left (fun i hi => ?_)
    have h1 : X[i]? ∈ is.map (fun i => X[i]?) := List.mem_map.mpr ⟨i, hi, rfl⟩
    rw [hs] at h1
    obtain ⟨z, -, hz⟩ := List.mem_map.mp h1
    rw [List.getElem?_append_left (List.getElem?_eq_some_iff.mp hz.symm).1]
  have hFc := va_free hD hS hA isC (up hC)
  refine va_calli (va_runV (g := F0 m pc ls (As.reverse ++ .ref b :: rest)) S (hM H.size) cw ⟨q_PW.blind hE, rc, q_preW hE hK hP hD hEv hS hA isC hnd (up hC) _⟩ rfl hn hl rfl (lv_room hroom) hdg hf) hS (fun q _ h => hFc q h) hFc (fun r' u' t H1 locs1 ht hvm hw hB hz1 hk1 hS1 => ?_)
  obtain ⟨hP1, -, hD1⟩ := hB
  rw [ht] at hP1
  obtain ⟨hP2, hD2⟩ := va_joinQ hP hD isC isR hC hR hnr hdis hk1 hFc hP1 hD1
  subst hw
  exact kk H1 locs1 (hP2.part is2 hX') (hD2.part is2 hn2 hX') hS1
end QL
