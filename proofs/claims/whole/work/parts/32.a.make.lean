/-! ===== what is made: constructors ===== -/
def rmc (k mc ms : Nat) : Room := { frames := k, cells := mc, slots := ms, locals := 64 * k }
theorem rmc_ok {j k maxL mc ms mc' ms' : Nat} (h : j + 1 ≤ k) (hm : maxL ≤ 45) : (rmc j mc ms).frames + 1 ≤ (rmc k mc' ms').frames ∧ 8 + (maxL + 11) + (rmc j mc ms).locals ≤ (rmc k mc' ms').locals := by
  refine ⟨h, ?_⟩
  show 8 + (maxL + 11) + 64 * j ≤ 64 * k
  omega
theorem q_cI {s : State} {D : va_G} {cl : List vw_C} {cI cA : ClassId} (h : va_K D cl ([(cI, .int)] ++ [(cA, .int)]) s) : cA = cI := by
  have h0 : s.vm.findClass ("[" ++ (FieldType.int).toString) = some cI := (h.2 0 _ rfl).2
  have h1 : s.vm.findClass ("[" ++ (FieldType.int).toString) = some cA := (h.2 1 _ rfl).2
  exact Option.some.inj (h1.symm.trans h0)
def q_RI {β : Type} (E : q_Env) (l : Launch) (y : MethodName) (ws : List Cond) (rm : Room) (D : va_G) (cI : ClassId) (h0 : Nat) (w : va_W) (post : β → Prop) (w' : β → va_W) (mc ms : Nat) : Prop := ∀ sz : Nat, Met l y ws rm (va_Pc [.ref h0] (q_PW E D cI w sz)) (va_Qv post (fun u t => q_BW D cI (va_A w sz) (w' u) t) (va_A w sz)) mc ms (va_A w sz)
theorem q_startI {β : Type} {E : q_Env} {l : Launch} {y : MethodName} {ws ws' : List Cond} {rm : Room} {D : va_G} {cI : ClassId} {h0 mc ms : Nat} {w : va_W} {post : β → Prop} {w' : β → va_W} {cc : ByteArray} {maxL : Nat} {own : String} (hy : plainName y.cls = true) (hn : y.name = "<init>") (hw : ws = Cond.code y cc maxL none :: ws') (ho : y.cls = own) (hlen : 1 ≤ maxL)
    (body : ∀ (p : Program) (e : Env) (s : State) (m : MethodId) (args : Array Value) (below : List Frame) (meth : Method) (c : Code) (Q : State → Prop) (A : Nat → Prop) (_ : p.tables.exec = Jvm.exec) (_ : c.code = cc) (_ : c.maxLocals = maxL) (_ : s.vm.findClass own = some m.cls) (_ : meth.name = "<init>") (_ : ∀ w ∈ ws, w.before args s = true) (_ : va_K D vwCl [(cI, .int)] s) (_ : E A s s.heap) (_ : ∀ q : Nat, s.heap.size ≤ q → A q)
      (_ : ∀ (t : β) (pc : Nat) (ls : Array Slot) (H : Heap) (locs : List Loc), post t → va_P D vwCl (w' t) H → va_D A (w' t) → va_S A s.heap H locs → decode cc pc = .ok (.return_, 1) → W p l e rm s m args below meth c H locs mc ms Q (F0 m pc ls []))
      (_ : va_P D vwCl w s.heap) (_ : va_D A w) (_ : va_S A s.heap s.heap []) (ls : Array Slot) (_ : lv_has ls maxL [(0, .ref h0)]), W p l e rm s m args below meth c s.heap [] 0 0 Q (F0 m 0 ls [])) : q_RI E l y ws rm D cI h0 w post w' mc ms := by
  subst ho
  intro sz
  refine Met.ofW (cc := cc) (maxL := maxL) (ret := none) hy hw ?_
  intro p e s m args below meth c s₁ B hml hv
  obtain ⟨rfl, rfl, hP, hK, hD0, hEv⟩ := hv
  have hl := lv_entry [.ref h0] (n := maxL) hlen
  rw [lg_entry_eq]
  have hlocks := B.notSynchronized
  refine body p e s m _ below meth c _ (va_A w s.heap.size) B.exec B.bytes hml (findClass_of_methodNamed B.named) ((name_of_methodNamed B.named B.method).1.trans hn) (atoms_spec (ws := ws) B.pre) hK hEv (fun q h => Or.inr h) ?_ hP hD0.self va_S.rf _ hl
  intro t pc ls H locs hp hP hD hS hdg
  exact W.vret B.exec B.bytes B.returns (fun t2 ht hW => ⟨⟨t, rfl, hp, by rw [ht]; exact hP, va_K.moved hW.alike hK, hD⟩, hS.F ht⟩) hS.2.2 hdg hlocks
section QN
variable {p : Program} {l : Launch} {e : Env} {R : Room} {s : State} {m : MethodId} {args : Array Value} {below : List Frame} {meth : Method} {c : Code} {H : Heap} {locs : List Loc} {cells slots : Nat} {Q : State → Prop}
variable {cc : ByteArray} {pc : Nat} {ls : Array Slot} {rest : List Value} {D : va_G} {A : Nat → Prop} {cI : ClassId} {ws : va_W} {E : q_Env} {y : MethodName} {bytes : ByteArray} {maxL nL n index : Nat} {wsC Ts : List Cond} {rm : Room} {own host : String} {b : Addr} {st0 : List Value} {wc wr : va_W} {β : Type}
theorem q_newa {k : Int32} (N : Nat) (hexec : p.tables.exec = Jvm.exec) (hb : c.code = cc) (harr : (Cond.arrayClass .int).before args s = true) (hK : va_K D vwCl [(cI, .int)] s) (hP : va_P D vwCl ws H) (hD : va_D A ws) (hS : va_S A s.heap H locs) (hA : ∀ q : Nat, s.heap.size ≤ q → A q) (hn : ¬ k < 0) (hN : k.toNatClampNeg = N) (hby : N ≤ 100000) (cells' slots' : Nat) (hc' : cells + 1 = cells') (hs' : slots + N = slots') (hcells : cells' ≤ R.cells) (hslots : slots' ≤ R.slots) (hdg : decode cc pc = .ok (.newarray .int, 2))
    (kk : ∀ (q : Nat) (H1 : Heap), va_P D vwCl (ws ++ [(q, .inl (cI, N, .inl (fun _ => 0)))]) H1 → va_D A (ws ++ [(q, .inl (cI, N, .inl (fun _ => 0)))]) → va_S A s.heap H1 locs → W p l e R s m args below meth c H1 locs cells' slots' Q (F0 m (pc + 2) ls (.ref q :: rest))) : W p l e R s m args below meth c H locs cells slots Q (F0 m pc ls (.int k :: rest)) := by
  subst hc'
  subst hs'
  refine va_newa (atype := .int) (a0 := (N, .inl (fun _ => 0))) (ty := .int) hexec hb harr rfl hK hP hD hS hA (fun _ => rfl) hn hN (by show N * 4 ≤ _; omega) hcells hslots hdg (fun q cA H1 hK1 hP1 hD1 hS1 => ?_)
  obtain rfl := q_cI hK1
  exact kk q H1 hP1 hD1 hS1
theorem q_callI {mc ms cells' slots' : Nat} (hE : q_EOk E) {post : β → Prop} {w' : β → va_W} (S : CallFix p m c cc nL s args Ts own) (hM : q_RI E l y wsC rm D cI b wc post w' mc ms) (cw : CallB R s args own index y bytes maxL none wsC rm mc ms 0 ∧ y.name = "<init>" ∧ (Cond.instanceMethod y).before args s = true) (hK : va_K D vwCl [(cI, .int)] s) (hEv : E A s s.heap) (hA : ∀ q : Nat, s.heap.size ≤ q → A q) (hP : va_P D vwCl ws H) (hD : va_D A ws) (hS : va_S A s.heap H locs) (isC isR : List Nat) (hC : isC.map (fun i => ws[i]?) = wc.map some) (hR : isR.map (fun i => ws[i]?) = wr.map some) (hnd : va_nd isC = true) (hnr : va_nd isR = true) (hdis : ∀ i ∈ isR, i ∉ isC) (hst : st0 = .ref b :: rest) (hl : ls.size = nL) (hroom : (rest.map fun v => v.category).sum ≤ 8) (hc' : cells + mc = cells') (hs' : slots + ms = slots') (hf : cells' ≤ R.cells ∧ slots' ≤ R.slots) (hdg : decode cc pc = .ok (.invokespecial index, 3))
    (kk : ∀ (u : β) (H1 : Heap) (locs1 : List Loc), post u → va_P D vwCl (wr ++ w' u) H1 → va_D A (wr ++ w' u) → va_S A s.heap H1 locs1 → W p l e R s m args below meth c H1 locs1 cells' slots' Q (F0 m (pc + 3) ls rest)) : W p l e R s m args below meth c H locs cells slots Q (F0 m pc ls st0) := by
  subst hst
  subst hc'
  subst hs'
  have hFc := va_free hD hS hA isC hC
  refine va_callv (va_runI (g := F0 m pc ls (.ref b :: rest)) (As := []) S (hM H.size) cw ⟨q_PW.blind hE, q_preW hE hK hP hD hEv hS hA isC hnd hC _⟩ rfl rfl hl rfl (lv_room hroom) hdg hf) hS (fun q _ h => hFc q h) hFc (fun u t H1 locs1 ht hvm hw hB hz1 hk1 hS1 => ?_)
  obtain ⟨hP1, -, hD1⟩ := hB
  rw [ht] at hP1
  obtain ⟨hP2, hD2⟩ := va_join hP hD isC isR hC hR hnr hdis hk1 hFc hP1 hD1
  exact kk u H1 locs1 hw hP2 hD2 hS1
theorem q_callIN {mc ms cells' slots' : Nat} (hE : q_EOk E) {post : β → Prop} {w' : β → va_W} (S : CallFix p m c cc nL s args Ts own) (hM : q_RI E l y wsC rm D cI b wc post w' mc ms) (cw : va_CN R s args own index y host bytes maxL none wsC rm mc ms 0 ∧ y.name = "<init>" ∧ (Cond.instanceMethod y).before args s = true) (hK : va_K D vwCl [(cI, .int)] s) (hEv : E A s s.heap) (hA : ∀ q : Nat, s.heap.size ≤ q → A q) (hP : va_P D vwCl ws H) (hD : va_D A ws) (hS : va_S A s.heap H locs) (isC isR : List Nat) (hC : isC.map (fun i => ws[i]?) = wc.map some) (hR : isR.map (fun i => ws[i]?) = wr.map some) (hnd : va_nd isC = true) (hnr : va_nd isR = true) (hdis : ∀ i ∈ isR, i ∉ isC) (hst : st0 = .ref b :: rest) (hl : ls.size = nL) (hroom : (rest.map fun v => v.category).sum ≤ 8) (hc' : cells + mc = cells') (hs' : slots + ms = slots') (hf : cells' ≤ R.cells ∧ slots' ≤ R.slots) (hdg : decode cc pc = .ok (.invokespecial index, 3))
    (kk : ∀ (u : β) (H1 : Heap) (locs1 : List Loc), post u → va_P D vwCl (wr ++ w' u) H1 → va_D A (wr ++ w' u) → va_S A s.heap H1 locs1 → W p l e R s m args below meth c H1 locs1 cells' slots' Q (F0 m (pc + 3) ls rest)) : W p l e R s m args below meth c H locs cells slots Q (F0 m pc ls st0) := by
  subst hst
  subst hc'
  subst hs'
  have hFc := va_free hD hS hA isC hC
  refine va_callv (va_runIN (g := F0 m pc ls (.ref b :: rest)) (As := []) S (hM H.size) cw ⟨q_PW.blind hE, q_preW hE hK hP hD hEv hS hA isC hnd hC _⟩ rfl rfl hl rfl (lv_room hroom) hdg hf) hS (fun q _ h => hFc q h) hFc (fun u t H1 locs1 ht hvm hw hB hz1 hk1 hS1 => ?_)
  obtain ⟨hP1, -, hD1⟩ := hB
  rw [ht] at hP1
  obtain ⟨hP2, hD2⟩ := va_join hP hD isC isR hC hR hnr hdis hk1 hFc hP1 hD1
  exact kk u H1 locs1 hw hP2 hD2 hS1
end QN
theorem q_vV2 {ty : Nat → FieldType} {fs : List Value} {N : Nat} (h : (List.range N).all (fun j => decide (defaultValue (ty j) = vp_V fs j)) = true) : ∀ j, j < N → defaultValue (ty j) = vp_V fs j := fun j hj => of_decide_eq_true (List.all_eq_true.mp h j (List.mem_range.mpr hj))
