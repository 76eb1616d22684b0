section QJ
variable {p : Program} {l : Launch} {e : Env} {R : Room} {s : State} {m : MethodId} {args : Array Value} {below : List Frame} {meth : Method} {c : Code} {H : Heap} {locs : List Loc} {cells slots : Nat} {Q : State → Prop}
variable {cc : ByteArray} {pc : Nat} {ls : Array Slot} {rest : List Value} {D : va_G} {A : Nat → Prop} {cI : ClassId} {ws : va_W} {α : Type} {o : α}
variable {E : q_Env} {y : MethodName} {bytes : ByteArray} {maxL nL n index : Nat} {ret : Option FieldType} {wsC Ts : List Cond} {rm : Room} {own C : String} {b : Addr} {As st0 : List Value} {wc : va_W} {τ1 τ2 : Type}
/-- a call with many cells: what it had comes behind the rest -/
theorem q_callVj2 (hE : q_EOk E) {F : Option (τ1 × τ2)} {K : τ1 → τ2 → Option α} (w1 : τ1 × τ2 → va_W) (wr : va_W) (S : CallFix p m c cc nL s args Ts own) (hM : ∀ u, F = some u → q_RV E l y wsC rm D cI (.ref b :: As) wc (w1 u)) (cw : CallW R s args own C index y bytes maxL ret wsC rm 0 0 n) (hK : va_K D vwCl [(cI, .int)] s) (hEv : E A s s.heap) (hA : ∀ q : Nat, s.heap.size ≤ q → A q) (hP : va_P D vwCl ws H) (hD : va_D A ws) (hS : va_S A s.heap H locs) (isC isR : List Nat) (hnd : va_nd isC = true) (hC : isC.map (fun i => ws[i]?) = wc.map some) (hR : isR.map (fun i => ws[i]?) = wr.map some) (hnr : va_nd isR = true) (hdis : ∀ i ∈ isR, i ∉ isC) (rc : ∃ cell : Cell, H[b]? = some cell ∧ cell.vm.isStatics = false ∧ s.vm.findClass C = some cell.cls) (hst : st0 = As.reverse ++ .ref b :: rest) (hn : As.length = n) (hl : ls.size = nL) (hroom : (rest.map fun v => v.category).sum ≤ 8) (hf : cells ≤ R.cells ∧ slots ≤ R.slots) (h : q_c2 F K = some o) (hdg : decode cc pc = .ok (.invokevirtual index, 3))
    (kk : ∀ (v1 : τ1) (v2 : τ2) (H1 : Heap) (locs1 : List Loc), K v1 v2 = some o → va_P D vwCl (wr ++ w1 (v1, v2)) H1 → va_D A (wr ++ w1 (v1, v2)) → va_S A s.heap H1 locs1 → W p l e R s m args below meth c H1 locs1 cells slots Q (F0 m (pc + 3) ls rest)) : W p l e R s m args below meth c H locs cells slots Q (F0 m pc ls st0) := by
  obtain ⟨⟨v1, v2⟩, h1, h2⟩ := q_c_of h
  subst hst
  have hFc := va_free hD hS hA isC hC
  refine va_callv (va_runV (g := F0 m pc ls (As.reverse ++ .ref b :: rest)) S (hM _ h1 H.size) cw ⟨q_PW.blind hE, rc, q_preW hE hK hP hD hEv hS hA isC hnd hC _⟩ rfl hn hl rfl (lv_room hroom) hdg hf) hS (fun q _ h => hFc q h) hFc (fun u' t H1 locs1 ht hvm hw hB hz1 hk1 hS1 => ?_)
  obtain ⟨hP1, -, hD1⟩ := hB
  rw [ht] at hP1
  obtain ⟨hP2, hD2⟩ := va_join hP hD isC isR hC hR hnr hdis hk1 hFc hP1 hD1
  exact kk v1 v2 H1 locs1 h2 hP2 hD2 hS1
end QJ
