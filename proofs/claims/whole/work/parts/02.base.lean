/-! ===== what a method may take as given of the start beside its own cells: statics, String constants, links across the nest ===== -/
abbrev q_Env : Type := (Nat → Prop) → State → Heap → Prop
def q_EOk (E : q_Env) : Prop := (∀ (A : Nat → Prop) (u U : State) (H : Heap), u.WarmedH U.vm → E A u H → E A U H) ∧ (∀ (A : Nat → Prop) (u U : State) (H : Heap), u.vm = U.vm → E A u H → E A U H) ∧ (∀ (A : Nat → Prop) (U : State) (H H1 : Heap), (∀ a : Nat, a < H.size → ¬ A a → H1[a]? = H[a]?) → E A U H → E A U H1) ∧ (∀ (A B : Nat → Prop) (U : State) (H : Heap), (∀ q, B q → A q) → E A U H → E B U H)
def q_E0 : q_Env := fun _ _ _ => True
theorem q_E0ok : q_EOk q_E0 := ⟨fun _ _ _ _ _ h => h, fun _ _ _ _ _ h => h, fun _ _ _ _ _ h => h, fun _ _ _ _ _ h => h⟩
/-! ===== contracts: RO only reads, and answers r; RW has its cells w become w', and answers r (RV: answers nothing) ===== -/
def q_PR (E : q_Env) (D : va_G) (cI : ClassId) (w : va_W) (U : State) : Prop := va_P D vwCl w U.heap ∧ va_K D vwCl [(cI, .int)] U ∧ E (fun _ => False) U U.heap
def q_RO (E : q_Env) (l : Launch) (y : MethodName) (ws : List Cond) (rm : Room) (D : va_G) (cI : ClassId) (av : List Value) (w : va_W) (r : Int32) : Prop := Met l y ws rm (va_Pc av (q_PR E D cI w)) (vp_Si (fun x => x = r)) 0 0 (fun _ => False)
def q_PW (E : q_Env) (D : va_G) (cI : ClassId) (w : va_W) (sz : Nat) (U : State) : Prop := U.heap.size = sz ∧ va_P D vwCl w U.heap ∧ va_K D vwCl [(cI, .int)] U ∧ va_D (fun _ => True) w ∧ E (va_A w sz) U U.heap
def q_BW (D : va_G) (cI : ClassId) (A : Nat → Prop) (w' : va_W) (t : State) : Prop := va_P D vwCl w' t.heap ∧ va_K D vwCl [(cI, .int)] t ∧ va_D A w'
def q_RW (E : q_Env) (l : Launch) (y : MethodName) (ws : List Cond) (rm : Room) (D : va_G) (cI : ClassId) (av : List Value) (w w' : va_W) (r : Int32) : Prop := ∀ sz : Nat, Met l y ws rm (va_Pc av (q_PW E D cI w sz)) (va_Qi (fun x (_ : Unit) => x = r) (fun _ t => q_BW D cI (va_A w sz) w' t) (va_A w sz)) 0 0 (va_A w sz)
def q_RV (E : q_Env) (l : Launch) (y : MethodName) (ws : List Cond) (rm : Room) (D : va_G) (cI : ClassId) (av : List Value) (w w' : va_W) : Prop := ∀ sz : Nat, Met l y ws rm (va_Pc av (q_PW E D cI w sz)) (va_Qv (fun (_ : Unit) => True) (fun _ t => q_BW D cI (va_A w sz) w' t) (va_A w sz)) 0 0 (va_A w sz)
theorem q_PR.blind {E : q_Env} (hE : q_EOk E) {D : va_G} {cI : ClassId} {av : List Value} {w : va_W} : FrameBlind (va_Pc av (q_PR E D cI w)) := fun a U g mk h => ⟨h.1, h.2.1, va_K.moved (u := U) (U := U.calling g mk a) (Vm.Alike.refl U.vm) h.2.2.1, hE.2.1 _ U (U.calling g mk a) _ rfl h.2.2.2⟩
theorem q_PW.blind {E : q_Env} (hE : q_EOk E) {D : va_G} {cI : ClassId} {av : List Value} {w : va_W} {sz : Nat} : FrameBlind (va_Pc av (q_PW E D cI w sz)) := fun a U g mk h => ⟨h.1, h.2.1, h.2.2.1, va_K.moved (u := U) (U := U.calling g mk a) (Vm.Alike.refl U.vm) h.2.2.2.1, h.2.2.2.2.1, hE.2.1 _ U (U.calling g mk a) _ rfl h.2.2.2.2.2⟩
/-! ===== a method's start: its body at any end Q that its return brings ===== -/
def rmq (k : Nat) : Room := { frames := k, cells := 0, slots := 0, locals := 64 * k }
theorem rmq_ok {j k maxL : Nat} (h : j + 1 ≤ k) (hm : maxL ≤ 45) : (rmq j).frames + 1 ≤ (rmq k).frames ∧ 8 + (maxL + 11) + (rmq j).locals ≤ (rmq k).locals := by
  refine ⟨h, ?_⟩
  show 8 + (maxL + 11) + 64 * j ≤ 64 * k
  omega
theorem q_startR {E : q_Env} {l : Launch} {y : MethodName} {ws ws' : List Cond} {rm : Room} {D : va_G} {cI : ClassId} {av : List Value} {w : va_W} {r : Int32} {cc : ByteArray} {maxL : Nat} {ty : FieldType} {lv : List (Nat × Value)} {own : String} (hy : plainName y.cls = true) (hw : ws = Cond.code y cc maxL (some ty) :: ws') (ho : y.cls = own) (hlen : (lg_sl av).length ≤ maxL) (hlv : lv_args 0 av = lv)
    (body : ∀ (p : Program) (e : Env) (s : State) (m : MethodId) (args : Array Value) (below : List Frame) (meth : Method) (c : Code) (Q : State → Prop) (_ : p.tables.exec = Jvm.exec) (_ : c.code = cc) (_ : c.maxLocals = maxL) (_ : s.vm.findClass own = some m.cls) (_ : ∀ w ∈ ws, w.before args s = true) (_ : va_P D vwCl w s.heap) (_ : va_K D vwCl [(cI, .int)] s) (_ : E (fun _ => False) s s.heap)
      (_ : ∀ (pc : Nat) (ls : Array Slot) (v : Int32), narrow ty (.int v) = .int v → some v = some r → decode cc pc = .ok (.ireturn, 1) → W p l e rm s m args below meth c s.heap [] 0 0 Q (F0 m pc ls [.int v])) (ls : Array Slot) (_ : lv_has ls maxL lv), W p l e rm s m args below meth c s.heap [] 0 0 Q (F0 m 0 ls [])) : q_RO E l y ws rm D cI av w r := by
  subst ho
  unfold q_RO
  refine Met.ofW (cc := cc) (maxL := maxL) (ret := some ty) hy hw ?_
  intro p e s m args below meth c s₁ B hml hv
  obtain ⟨rfl, hP, hK, hEv⟩ := hv
  have hl := lv_entry av (n := maxL) hlen
  rw [lg_entry_eq]
  rw [hlv] at hl
  have hlocks := B.notSynchronized
  exact body p e s m _ below meth c _ B.exec B.bytes hml (findClass_of_methodNamed B.named) (atoms_spec (ws := ws) B.pre) hP hK hEv (fun pc ls v hn h hdg => W.zret B.exec B.bytes B.returns hn (fun t ht _ => ⟨v, rfl, Option.some.inj h, ht⟩) (fun _ hq => by cases hq) hdg hlocks) _ hl
theorem q_startW {β : Type} {E : q_Env} {l : Launch} {y : MethodName} {ws ws' : List Cond} {rm : Room} {D : va_G} {cI : ClassId} {av : List Value} {w : va_W} (w' : β → va_W) (rv : β → Int32) {u : β} {cc : ByteArray} {maxL : Nat} {ty : FieldType} {lv : List (Nat × Value)} {own : String} (hy : plainName y.cls = true) (hw : ws = Cond.code y cc maxL (some ty) :: ws') (ho : y.cls = own) (hlen : (lg_sl av).length ≤ maxL) (hlv : lv_args 0 av = lv)
    (body : ∀ (p : Program) (e : Env) (s : State) (m : MethodId) (args : Array Value) (below : List Frame) (meth : Method) (c : Code) (Q : State → Prop) (A : Nat → Prop) (_ : p.tables.exec = Jvm.exec) (_ : c.code = cc) (_ : c.maxLocals = maxL) (_ : s.vm.findClass own = some m.cls) (_ : ∀ w ∈ ws, w.before args s = true) (_ : va_K D vwCl [(cI, .int)] s) (_ : E A s s.heap) (_ : ∀ q : Nat, s.heap.size ≤ q → A q)
      (_ : ∀ (t : β) (pc : Nat) (ls : Array Slot) (H : Heap) (locs : List Loc), narrow ty (.int (rv t)) = .int (rv t) → some t = some u → va_P D vwCl (w' t) H → va_D A (w' t) → va_S A s.heap H locs → decode cc pc = .ok (.ireturn, 1) → W p l e rm s m args below meth c H locs 0 0 Q (F0 m pc ls [.int (rv t)]))
      (_ : va_P D vwCl w s.heap) (_ : va_D A w) (_ : va_S A s.heap s.heap []) (ls : Array Slot) (_ : lv_has ls maxL lv), W p l e rm s m args below meth c s.heap [] 0 0 Q (F0 m 0 ls [])) : q_RW E l y ws rm D cI av w (w' u) (rv u) := by
  subst ho
  intro sz
  refine Met.ofW (cc := cc) (maxL := maxL) (ret := some ty) hy hw ?_
  intro p e s m args below meth c s₁ B hml hv
  obtain ⟨rfl, rfl, hP, hK, hD0, hEv⟩ := hv
  have hl := lv_entry av (n := maxL) hlen
  rw [lg_entry_eq]
  rw [hlv] at hl
  have hlocks := B.notSynchronized
  refine body p e s m _ below meth c _ (va_A w s.heap.size) B.exec B.bytes hml (findClass_of_methodNamed B.named) (atoms_spec (ws := ws) B.pre) hK hEv (fun q h => Or.inr h) ?_ hP hD0.self va_S.rf _ hl
  intro t pc ls H locs hn h hP hD hS hdg
  obtain rfl := Option.some.inj h
  exact W.zret B.exec B.bytes B.returns hn (fun t2 ht hW => ⟨⟨rv t, (), rfl, rfl, by rw [ht]; exact hP, va_K.moved hW.alike hK, hD⟩, hS.F ht⟩) hS.2.2 hdg hlocks
theorem q_startV {β : Type} {E : q_Env} {l : Launch} {y : MethodName} {ws ws' : List Cond} {rm : Room} {D : va_G} {cI : ClassId} {av : List Value} {w : va_W} (w' : β → va_W) {u : β} {cc : ByteArray} {maxL : Nat} {lv : List (Nat × Value)} {own : String} (hy : plainName y.cls = true) (hw : ws = Cond.code y cc maxL none :: ws') (ho : y.cls = own) (hlen : (lg_sl av).length ≤ maxL) (hlv : lv_args 0 av = lv)
    (body : ∀ (p : Program) (e : Env) (s : State) (m : MethodId) (args : Array Value) (below : List Frame) (meth : Method) (c : Code) (Q : State → Prop) (A : Nat → Prop) (_ : p.tables.exec = Jvm.exec) (_ : c.code = cc) (_ : c.maxLocals = maxL) (_ : s.vm.findClass own = some m.cls) (_ : ∀ w ∈ ws, w.before args s = true) (_ : va_K D vwCl [(cI, .int)] s) (_ : E A s s.heap) (_ : ∀ q : Nat, s.heap.size ≤ q → A q)
      (_ : ∀ (t : β) (pc : Nat) (ls : Array Slot) (H : Heap) (locs : List Loc), some t = some u → va_P D vwCl (w' t) H → va_D A (w' t) → va_S A s.heap H locs → decode cc pc = .ok (.return_, 1) → W p l e rm s m args below meth c H locs 0 0 Q (F0 m pc ls []))
      (_ : va_P D vwCl w s.heap) (_ : va_D A w) (_ : va_S A s.heap s.heap []) (ls : Array Slot) (_ : lv_has ls maxL lv), W p l e rm s m args below meth c s.heap [] 0 0 Q (F0 m 0 ls [])) : q_RV E l y ws rm D cI av w (w' u) := by
  subst ho
  intro sz
  refine Met.ofW (cc := cc) (maxL := maxL) (ret := none) hy hw ?_
  intro p e s m args below meth c s₁ B hml hv
  obtain ⟨rfl, rfl, hP, hK, hD0, hEv⟩ := hv
  have hl := lv_entry av (n := maxL) hlen
  rw [lg_entry_eq]
  rw [hlv] at hl
  have hlocks := B.notSynchronized
  refine body p e s m _ below meth c _ (va_A w s.heap.size) B.exec B.bytes hml (findClass_of_methodNamed B.named) (atoms_spec (ws := ws) B.pre) hK hEv (fun q h => Or.inr h) ?_ hP hD0.self va_S.rf _ hl
  intro t pc ls H locs h hP hD hS hdg
  obtain rfl := Option.some.inj h
  exact W.vret B.exec B.bytes B.returns (fun t2 ht hW => ⟨⟨(), rfl, trivial, by rw [ht]; exact hP, va_K.moved hW.alike hK, hD⟩, hS.F ht⟩) hS.2.2 hdg hlocks
/-! ===== cells put at their places ===== -/
def q_sets : va_W → List Nat → va_W → va_W
  | ws, i :: is, c :: cs => q_sets (ws.set i c) is cs
  | ws, _, _ => ws
theorem q_sets_get : ∀ (is : List Nat) (ws w1 : va_W) (k : Nat) (q : Nat × va_E), is.length = w1.length → (q_sets ws is w1)[k]? = some q → (∃ j : Nat, is[j]? = some k ∧ w1[j]? = some q) ∨ (ws[k]? = some q ∧ k ∉ is)
  | [], ws, w1, k, q, hl, h => by
    cases w1 with
    | nil => exact Or.inr ⟨h, List.not_mem_nil⟩
    | cons a b => simp at hl
  | i :: is, ws, [], k, q, hl, h => by simp at hl
  | i :: is, ws, a :: b, k, q, hl, h => by
    rcases q_sets_get is (ws.set i a) b k q (by simpa using hl) h with ⟨j, h1, h2⟩ | ⟨h1, h2⟩
    · exact Or.inl ⟨j + 1, h1, h2⟩
    · rw [List.getElem?_set] at h1
      split at h1
      · split at h1
        · cases h1
          rename_i e1 e2
          exact Or.inl ⟨0, by rw [e1]; rfl, rfl⟩
        · cases h1
      · rename_i e1
        exact Or.inr ⟨h1, fun h3 => (List.mem_cons.mp h3).elim (fun e => e1 e.symm) h2⟩
theorem q_sets_fst : ∀ (is : List Nat) (ws w1 : va_W), is.map (fun i => (ws.map (fun x => x.1))[i]?) = w1.map (fun x => some x.1) → (q_sets ws is w1).map (fun x => x.1) = ws.map (fun x => x.1)
  | [], ws, w1, h => by cases w1 <;> rfl
  | i :: is, ws, [], h => by simp at h
  | i :: is, ws, a :: b, h => by
    have h0 := (List.cons.inj h).1
    have e : (ws.set i a).map (fun x => x.1) = ws.map (fun x => x.1) := by
      rw [List.map_set]
      obtain ⟨hlt, he⟩ := List.getElem?_eq_some_iff.mp h0
      rw [← he]
      exact List.set_getElem_self hlt
    show (q_sets (ws.set i a) is b).map (fun x => x.1) = _
    rw [q_sets_fst is (ws.set i a) b (by rw [e]; exact (List.cons.inj h).2), e]
