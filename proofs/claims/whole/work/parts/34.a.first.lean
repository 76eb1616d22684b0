/-! a call that makes cells and answers an int -/
def q_RJ {β : Type} (E : q_Env) (l : Launch) (y : MethodName) (ws : List Cond) (rm : Room) (D : va_G) (cI : ClassId) (av : List Value) (w : va_W) (r : Int32) (w' : β → va_W) (mc ms : Nat) : Prop := ∀ sz : Nat, Met l y ws rm (va_Pc av (q_PW E D cI w sz)) (va_Qi (fun x (_ : β) => x = r) (fun v t => q_BW D cI (va_A w sz) (w' v) t) (va_A w sz)) mc ms (va_A w sz)
theorem q_startJ {β γ : Type} {E : q_Env} {l : Launch} {y : MethodName} {ws ws' : List Cond} {rm : Room} {D : va_G} {cI : ClassId} {av : List Value} {mc ms : Nat} {w : va_W} (w' : γ → β → va_W) (rv : γ → Int32) {u : γ} {cc : ByteArray} {maxL : Nat} {ty : FieldType} {lv : List (Nat × Value)} {own : String} (hy : plainName y.cls = true) (hw : ws = Cond.code y cc maxL (some ty) :: ws') (ho : y.cls = own) (hlen : (lg_sl av).length ≤ maxL) (hlv : lv_args 0 av = lv)
    (body : ∀ (p : Program) (e : Env) (s : State) (m : MethodId) (args : Array Value) (below : List Frame) (meth : Method) (c : Code) (Q : State → Prop) (A : Nat → Prop) (_ : p.tables.exec = Jvm.exec) (_ : c.code = cc) (_ : c.maxLocals = maxL) (_ : s.vm.findClass own = some m.cls) (_ : ∀ w ∈ ws, w.before args s = true) (_ : va_K D vwCl [(cI, .int)] s) (_ : E A s s.heap) (_ : ∀ q : Nat, s.heap.size ≤ q → A q)
      (_ : ∀ (t : γ) (v : β) (pc : Nat) (ls : Array Slot) (H : Heap) (locs : List Loc), narrow ty (.int (rv t)) = .int (rv t) → some t = some u → va_P D vwCl (w' t v) H → va_D A (w' t v) → va_S A s.heap H locs → decode cc pc = .ok (.ireturn, 1) → W p l e rm s m args below meth c H locs mc ms Q (F0 m pc ls [.int (rv t)]))
      (_ : va_P D vwCl w s.heap) (_ : va_D A w) (_ : va_S A s.heap s.heap []) (ls : Array Slot) (_ : lv_has ls maxL lv), W p l e rm s m args below meth c s.heap [] 0 0 Q (F0 m 0 ls [])) : q_RJ E l y ws rm D cI av w (rv u) (w' u) mc ms := by
  subst ho
  intro sz
  refine Met.ofW (cc := cc) (maxL := maxL) (ret := some ty) hy hw ?_
  intro p e s m args below meth c s₁ B hml hv
  obtain ⟨rfl, rfl, hP, hK, hD0, hEv⟩ := hv
  have hl := lv_entry av (n := maxL) hlen
  rw [lg_entry_eq]
  rw [hlv] at hl
  have hlocks := B.notSynchronized
  refine body p e s m _ below meth c _ (va_A w s.heap.size) B.exec B.bytes hml (findClass_of_methodNamed B.named) (atoms_spec (ws := ws) B.pre) hK hEv (fun q h => Or.inr h) ?_ hP hD0.self va_S.rf _ hl
  intro t v pc ls H locs hn h hP hD hS hdg
  obtain rfl := Option.some.inj h
  exact W.zret B.exec B.bytes B.returns hn (fun t2 ht hW => ⟨⟨rv t, v, rfl, rfl, by rw [ht]; exact hP, va_K.moved hW.alike hK, hD⟩, hS.F ht⟩) hS.2.2 hdg hlocks
