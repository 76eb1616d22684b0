/-! ===== small rows; the row's own state; sums ===== -/
theorem q_ldP {α : Type} {f : Nat → Int32} {n : Nat} {i : Int32} {K : Int32 → Option α} (h : vp_in i n) : q_ld f n i K = K (f i.toNatClampNeg) := if_neg h
theorem q_stP {α : Type} {f : Nat → Int32} {n : Nat} {i x : Int32} {K : (Nat → Int32) → Option α} (h : vp_in i n) : q_st f n i x K = K (upd f i.toNatClampNeg x) := if_neg h
theorem q_ltP {α : Type} {x : Int32} {K : Int32 → Option α} : q_lt x K = K x := by rw [q_lt]
theorem sub_one (k : Nat) : nI (k + 1) + -nI 1 = nI k := pk_m1 k
theorem n10 : ((1 : Nat) = 0) = False := by simp
theorem q_bzN0 {α : Type} {K : Option α} : q_bz (nI 0) K = K := rfl
theorem q_bzN1 {α : Type} {K : Option α} : q_bz (nI 1) K = K := rfl
theorem q_dvI {α : Type} {k : Nat} {K : Option α} (h0 : 0 < k) (h : k < 2 ^ 31) : q_dv (nI k) K = K := by
  unfold q_dv
  rw [if_neg (nI_ne0 h0 h)]
theorem q_c1_some {τ1 α : Type} {a : τ1} {K : τ1 → Option α} : q_c1 (some a) K = K a := by rw [q_c1, q_c_some]
theorem q_c2_some {τ1 τ2 α : Type} {a : τ1} {b : τ2} {K : τ1 → τ2 → Option α} : q_c2 (some (a, b)) K = K a b := by rw [q_c2, q_c_some]
theorem q_c3_some {τ1 τ2 τ3 α : Type} {a : τ1} {b : τ2} {c : τ3} {K : τ1 → τ2 → τ3 → Option α} : q_c3 (some (a, b, c)) K = K a b c := by rw [q_c3, q_c_some]
theorem q_c4_some {τ1 τ2 τ3 τ4 α : Type} {a : τ1} {b : τ2} {c : τ3} {d : τ4} {K : τ1 → τ2 → τ3 → τ4 → Option α} : q_c4 (some (a, b, c, d)) K = K a b c d := by rw [q_c4, q_c_some]
theorem q_c5_some {τ1 τ2 τ3 τ4 τ5 α : Type} {a : τ1} {b : τ2} {c : τ3} {d : τ4} {e : τ5} {K : τ1 → τ2 → τ3 → τ4 → τ5 → Option α} : q_c5 (some (a, b, c, d, e)) K = K a b c d e := by rw [q_c5, q_c_some]
theorem q_c7_some {τ1 τ2 τ3 τ4 τ5 τ6 τ7 α : Type} {a : τ1} {b : τ2} {c : τ3} {d : τ4} {e : τ5} {f : τ6} {g : τ7} {K : τ1 → τ2 → τ3 → τ4 → τ5 → τ6 → τ7 → Option α} : q_c7 (some (a, b, c, d, e, f, g)) K = K a b c d e f g := by rw [q_c7, q_c_some]
theorem q_c8_some {τ1 τ2 τ3 τ4 τ5 τ6 τ7 τ8 α : Type} {a : τ1} {b : τ2} {c : τ3} {d : τ4} {e : τ5} {f : τ6} {g : τ7} {h : τ8} {K : τ1 → τ2 → τ3 → τ4 → τ5 → τ6 → τ7 → τ8 → Option α} : q_c8 (some (a, b, c, d, e, f, g, h)) K = K a b c d e f g h := by rw [q_c8, q_c_some]
theorem q_c9_some {τ1 τ2 τ3 τ4 τ5 τ6 τ7 τ8 τ9 α : Type} {a : τ1} {b : τ2} {c : τ3} {d : τ4} {e : τ5} {f : τ6} {g : τ7} {h : τ8} {i : τ9} {K : τ1 → τ2 → τ3 → τ4 → τ5 → τ6 → τ7 → τ8 → τ9 → Option α} : q_c9 (some (a, b, c, d, e, f, g, h, i)) K = K a b c d e f g h i := by rw [q_c9, q_c_some]
theorem q_c10_some {τ1 τ2 τ3 τ4 τ5 τ6 τ7 τ8 τ9 τ10 α : Type} {a : τ1} {b : τ2} {c : τ3} {d : τ4} {e : τ5} {f : τ6} {g : τ7} {h : τ8} {i : τ9} {j : τ10} {K : τ1 → τ2 → τ3 → τ4 → τ5 → τ6 → τ7 → τ8 → τ9 → τ10 → Option α} : q_c10 (some (a, b, c, d, e, f, g, h, i, j)) K = K a b c d e f g h i j := by rw [q_c10, q_c_some]
theorem q_c11_some {τ1 τ2 τ3 τ4 τ5 τ6 τ7 τ8 τ9 τ10 τ11 α : Type} {a : τ1} {b : τ2} {c : τ3} {d : τ4} {e : τ5} {f : τ6} {g : τ7} {h : τ8} {i : τ9} {j : τ10} {k : τ11} {K : τ1 → τ2 → τ3 → τ4 → τ5 → τ6 → τ7 → τ8 → τ9 → τ10 → τ11 → Option α} : q_c11 (some (a, b, c, d, e, f, g, h, i, j, k)) K = K a b c d e f g h i j k := by rw [q_c11, q_c_some]
theorem q_c12_some {τ1 τ2 τ3 τ4 τ5 τ6 τ7 τ8 τ9 τ10 τ11 τ12 α : Type} {a : τ1} {b : τ2} {c : τ3} {d : τ4} {e : τ5} {f : τ6} {g : τ7} {h : τ8} {i : τ9} {j : τ10} {k : τ11} {m : τ12} {K : τ1 → τ2 → τ3 → τ4 → τ5 → τ6 → τ7 → τ8 → τ9 → τ10 → τ11 → τ12 → Option α} : q_c12 (some (a, b, c, d, e, f, g, h, i, j, k, m)) K = K a b c d e f g h i j k m := by rw [q_c12, q_c_some]
/-- a cell of the row as a number -/
def nv (s : Nat → Int32) (k : Nat) : Nat := (s k).toNatClampNeg
theorem nv_of {s : Nat → Int32} {k z : Nat} (h : s k = nI z) (hz : z < 2 ^ 31) : nv s k = z := by
  unfold nv
  rw [h, nI_clamp hz]
/-- how many acts -/
abbrev dn (s : Nat → Int32) : Nat := nv s 1
def isN (s : Nat → Int32) (k b : Nat) : Prop := s k = nI (nv s k) ∧ nv s k ≤ b
theorem isN.mk {s : Nat → Int32} {k b : Nat} (z : Nat) (h : s k = nI z) (hz : z ≤ b) (hb : b < 2 ^ 31) : isN s k b := by
  have e := nv_of h (by omega)
  exact ⟨by rw [e, h], by omega⟩
/-- a sum: m terms from j on -/
def SM (g : Nat → Int32) : Nat → Nat → Int32
  | _, 0 => 0
  | j, m + 1 => g j + SM g (j + 1) m
theorem SM_congr {f g : Nat → Int32} : ∀ (m j : Nat), (∀ i, j ≤ i → i < j + m → f i = g i) → SM f j m = SM g j m
  | 0, _, _ => rfl
  | m + 1, j, h => by
    show f j + SM f (j + 1) m = g j + SM g (j + 1) m
    rw [h j (Nat.le_refl _) (by omega), SM_congr m (j + 1) (fun i h1 h2 => h i (by omega) (by omega))]
theorem loop_sum {β : Type} (L : Nat → Int32 → Int32 → Option β) (X : Int32 → Option β) (g : Nat → Int32) (d : Nat) (hx : ∀ k a, L (k + 1) a (nI d) = X a) (hs : ∀ k a j, j < d → L (k + 1) a (nI j) = L k (a + g j) (nI (j + 1))) : ∀ (m j k : Nat) (a : Int32), j + m = d → m < k → L k a (nI j) = X (a + SM g j m)
  | 0, j, k + 1, a, h1, h2 => by
    have e : j = d := by omega
    subst e
    rw [hx k a]
    exact congrArg X (Int32.add_zero a).symm
  | m + 1, j, k + 1, a, h1, h2 => by
    rw [hs k a j (by omega), loop_sum L X g d hx hs m (j + 1) k _ (by omega) (by omega)]
    exact congrArg X (Int32.add_assoc _ _ _)
theorem loop_sum0 {β : Type} (L : Nat → Int32 → Int32 → Option β) (X : Int32 → Option β) (g : Nat → Int32) (d n : Nat) (hn : d < n) (hx : ∀ k a, L (k + 1) a (nI d) = X a) (hs : ∀ k a j, j < d → L (k + 1) a (nI j) = L k (a + g j) (nI (j + 1))) : L n 0 0 = X (SM g 0 d) := by
  have := loop_sum L X g d hx hs d 0 n 0 (by omega) hn
  rw [Int32.zero_add] at this
  exact this
/-! what holds of the row in every state -/
def IVa (s : Nat → Int32) : Prop := isN s 0 29999 ∧ isN s 1 60 ∧ isN s 2 39998 ∧ isN s 4 60 ∧ isN s 5 24
def IVb (s : Nat → Int32) : Prop := (∀ i, i < dn s → isN s (10 + 5 * i + 0) 7) ∧ (∀ i, i < dn s → isN s (10 + 5 * i + 1) 7) ∧ (∀ i, i < dn s → isN s (10 + 5 * i + 2) (nv s 0)) ∧ (∀ i j, i ≤ j → j < dn s → nv s (10 + 5 * i + 2) ≤ nv s (10 + 5 * j + 2))
def IVc (s : Nat → Int32) : Prop := (∀ v, v ≤ dn s → isN s (310 + v) 20) ∧ (∀ v i, v ≤ dn s → i < nv s (310 + v) → isN s (380 + 20 * v + i) 60 ∧ 1 ≤ nv s (380 + 20 * v + i)) ∧ (∀ v i, v ≤ dn s → i < nv s (310 + v) → s (1600 + 20 * v + i) = nI (nv s (1600 + 20 * v + i)) ∧ nv s (1600 + 20 * v + i) < v)
/-- the three that acts need -/
def IV (s : Nat → Int32) : Prop := IVa s ∧ IVb s ∧ IVc s
theorem IV.now {s : Nat → Int32} (I : IV s) : s 0 = nI (nv s 0) := I.1.1.1
theorem IV.nowB {s : Nat → Int32} (I : IV s) : nv s 0 ≤ 29999 := I.1.1.2
theorem IV.done {s : Nat → Int32} (I : IV s) : s 1 = nI (dn s) := I.1.2.1.1
theorem IV.doneB {s : Nat → Int32} (I : IV s) : dn s ≤ 60 := I.1.2.1.2
theorem IV.kind {s : Nat → Int32} (I : IV s) {i : Nat} (h : i < dn s) : s (10 + 5 * i + 0) = nI (nv s (10 + 5 * i + 0)) := (I.2.1.1 i h).1
theorem IV.kindB {s : Nat → Int32} (I : IV s) {i : Nat} (h : i < dn s) : nv s (10 + 5 * i + 0) ≤ 7 := (I.2.1.1 i h).2
theorem IV.writer {s : Nat → Int32} (I : IV s) {i : Nat} (h : i < dn s) : s (10 + 5 * i + 1) = nI (nv s (10 + 5 * i + 1)) := (I.2.1.2.1 i h).1
theorem IV.writerB {s : Nat → Int32} (I : IV s) {i : Nat} (h : i < dn s) : nv s (10 + 5 * i + 1) ≤ 7 := (I.2.1.2.1 i h).2
theorem IV.minute {s : Nat → Int32} (I : IV s) {i : Nat} (h : i < dn s) : s (10 + 5 * i + 2) = nI (nv s (10 + 5 * i + 2)) := (I.2.1.2.2.1 i h).1
theorem IV.minuteB {s : Nat → Int32} (I : IV s) {i : Nat} (h : i < dn s) : nv s (10 + 5 * i + 2) ≤ nv s 0 := (I.2.1.2.2.1 i h).2
theorem IV.mono {s : Nat → Int32} (I : IV s) {i j : Nat} (h : i ≤ j) (hj : j < dn s) : nv s (10 + 5 * i + 2) ≤ nv s (10 + 5 * j + 2) := I.2.1.2.2.2 i j h hj
theorem IV.size {s : Nat → Int32} (I : IV s) {v : Nat} (h : v ≤ dn s) : s (310 + v) = nI (nv s (310 + v)) := (I.2.2.1 v h).1
theorem IV.sizeB {s : Nat → Int32} (I : IV s) {v : Nat} (h : v ≤ dn s) : nv s (310 + v) ≤ 20 := (I.2.2.1 v h).2
theorem IV.word {s : Nat → Int32} (I : IV s) {v i : Nat} (h : v ≤ dn s) (hi : i < nv s (310 + v)) : s (380 + 20 * v + i) = nI (nv s (380 + 20 * v + i)) := (I.2.2.2.1 v i h hi).1.1
theorem IV.wordB {s : Nat → Int32} (I : IV s) {v i : Nat} (h : v ≤ dn s) (hi : i < nv s (310 + v)) : nv s (380 + 20 * v + i) ≤ 60 ∧ 1 ≤ nv s (380 + 20 * v + i) := ⟨(I.2.2.2.1 v i h hi).1.2, (I.2.2.2.1 v i h hi).2⟩
theorem IV.origin {s : Nat → Int32} (I : IV s) {v i : Nat} (h : v ≤ dn s) (hi : i < nv s (310 + v)) : s (1600 + 20 * v + i) = nI (nv s (1600 + 20 * v + i)) := (I.2.2.2.2 v i h hi).1
theorem IV.originB {s : Nat → Int32} (I : IV s) {v i : Nat} (h : v ≤ dn s) (hi : i < nv s (310 + v)) : nv s (1600 + 20 * v + i) < v := (I.2.2.2.2 v i h hi).2
theorem IV.SZ {s : Nat → Int32} (I : IV s) : SZ s (dn s) := fun v h => ⟨_, I.sizeB h, I.size h⟩
/-- the class's acts tell what the row tells -/
def RA (s : Nat → Int32) (kinds writers minutes matters undoers scores sizes cells : Nat → Int32) : Prop :=
  (∀ i, i < dn s → kinds i = s (10 + 5 * i + 0)) ∧ (∀ i, i < dn s → writers i = s (10 + 5 * i + 1)) ∧ (∀ i, i < dn s → minutes i = s (10 + 5 * i + 2)) ∧ (∀ i, i < dn s → matters i = s (10 + 5 * i + 3)) ∧ (∀ i, i < dn s → undoers i = UN s (dn s) i) ∧ (∀ i, i < dn s → scores i = s (10 + 5 * i + 4)) ∧ (∀ v, v ≤ dn s → sizes v = s (310 + v)) ∧ (∀ v i, v ≤ dn s → i < nv s (310 + v) → cells (v * 20 + i) &&& nI 63 = s (380 + 20 * v + i)) ∧ (∀ v i, v ≤ dn s → i < nv s (310 + v) → cells (v * 20 + i) >>> (nI 6 &&& nI 31) = s (1600 + 20 * v + i))
theorem RA.kind {s kinds writers minutes matters undoers scores sizes cells : Nat → Int32} (R : RA s kinds writers minutes matters undoers scores sizes cells) {i : Nat} (h : i < dn s) : kinds i = s (10 + 5 * i + 0) := R.1 i h
theorem RA.writer {s kinds writers minutes matters undoers scores sizes cells : Nat → Int32} (R : RA s kinds writers minutes matters undoers scores sizes cells) {i : Nat} (h : i < dn s) : writers i = s (10 + 5 * i + 1) := R.2.1 i h
theorem RA.minute {s kinds writers minutes matters undoers scores sizes cells : Nat → Int32} (R : RA s kinds writers minutes matters undoers scores sizes cells) {i : Nat} (h : i < dn s) : minutes i = s (10 + 5 * i + 2) := R.2.2.1 i h
theorem RA.matter {s kinds writers minutes matters undoers scores sizes cells : Nat → Int32} (R : RA s kinds writers minutes matters undoers scores sizes cells) {i : Nat} (h : i < dn s) : matters i = s (10 + 5 * i + 3) := R.2.2.2.1 i h
theorem RA.undoer {s kinds writers minutes matters undoers scores sizes cells : Nat → Int32} (R : RA s kinds writers minutes matters undoers scores sizes cells) {i : Nat} (h : i < dn s) : undoers i = UN s (dn s) i := R.2.2.2.2.1 i h
theorem RA.score {s kinds writers minutes matters undoers scores sizes cells : Nat → Int32} (R : RA s kinds writers minutes matters undoers scores sizes cells) {i : Nat} (h : i < dn s) : scores i = s (10 + 5 * i + 4) := R.2.2.2.2.2.1 i h
theorem RA.size {s kinds writers minutes matters undoers scores sizes cells : Nat → Int32} (R : RA s kinds writers minutes matters undoers scores sizes cells) {v : Nat} (h : v ≤ dn s) : sizes v = s (310 + v) := R.2.2.2.2.2.2.1 v h
theorem RA.word {s kinds writers minutes matters undoers scores sizes cells : Nat → Int32} (R : RA s kinds writers minutes matters undoers scores sizes cells) {v i : Nat} (h : v ≤ dn s) (hi : i < nv s (310 + v)) : cells (v * 20 + i) &&& nI 63 = s (380 + 20 * v + i) := R.2.2.2.2.2.2.2.1 v i h hi
theorem RA.origin {s kinds writers minutes matters undoers scores sizes cells : Nat → Int32} (R : RA s kinds writers minutes matters undoers scores sizes cells) {v i : Nat} (h : v ≤ dn s) (hi : i < nv s (310 + v)) : cells (v * 20 + i) >>> (nI 6 &&& nI 31) = s (1600 + 20 * v + i) := R.2.2.2.2.2.2.2.2 v i h hi
