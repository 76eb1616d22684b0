/-! ===== pure words: what a method's bytecode works out, step by step, as a function; none where an index, a divisor or the fuel is wanting ===== -/
def q_lt {α : Type} (x : Int32) (K : Int32 → Option α) : Option α := K x
def q_ltl {α : Type} (x : Int64) (K : Int64 → Option α) : Option α := K x
def q_ld {α : Type} (f : Nat → Int32) (n : Nat) (i : Int32) (K : Int32 → Option α) : Option α := if i < 0 ∨ n ≤ i.toNatClampNeg then none else K (f i.toNatClampNeg)
def q_st {α : Type} (f : Nat → Int32) (n : Nat) (i x : Int32) (K : (Nat → Int32) → Option α) : Option α := if i < 0 ∨ n ≤ i.toNatClampNeg then none else K (upd f i.toNatClampNeg x)
def q_dv {α : Type} (y : Int32) (K : Option α) : Option α := if y = 0 then none else K
def q_bz {α : Type} (v : Int32) (K : Option α) : Option α := if v = 0 ∨ v = 1 then K else none
def q_cp {α : Type} (f : Nat → Int32) (n0 : Nat) (sp : Int32) (g : Nat → Int32) (n1 : Nat) (dp n : Int32) (K : (Nat → Int32) → Option α) : Option α :=
  if ¬ sp < 0 ∧ ¬ dp < 0 ∧ ¬ n < 0 ∧ sp.toNatClampNeg + n.toNatClampNeg ≤ n0 ∧ dp.toNatClampNeg + n.toNatClampNeg ≤ n1 then K (va_cpy f g sp.toNatClampNeg dp.toNatClampNeg n.toNatClampNeg) else none
def q_c {α β : Type} (F : Option α) (K : α → Option β) : Option β := F.bind K
theorem q_ld_of {α : Type} {f : Nat → Int32} {n : Nat} {i : Int32} {K : Int32 → Option α} {o : α} (h : q_ld f n i K = some o) : vp_in i n ∧ K (f i.toNatClampNeg) = some o := by
  unfold q_ld at h
  split at h
  · cases h
  · exact ⟨by assumption, h⟩
theorem q_st_of {α : Type} {f : Nat → Int32} {n : Nat} {i x : Int32} {K : (Nat → Int32) → Option α} {o : α} (h : q_st f n i x K = some o) : vp_in i n ∧ K (upd f i.toNatClampNeg x) = some o := by
  unfold q_st at h
  split at h
  · cases h
  · exact ⟨by assumption, h⟩
theorem q_dv_of {α : Type} {y : Int32} {K : Option α} {o : α} (h : q_dv y K = some o) : ¬ y = 0 ∧ K = some o := by
  unfold q_dv at h
  split at h
  · cases h
  · exact ⟨by assumption, h⟩
theorem q_bz_of {α : Type} {v : Int32} {K : Option α} {o : α} (h : q_bz v K = some o) : (v = 0 ∨ v = 1) ∧ K = some o := by
  unfold q_bz at h
  split at h
  · exact ⟨by assumption, h⟩
  · cases h
theorem q_cp_of {α : Type} {f g : Nat → Int32} {n0 n1 : Nat} {sp dp n : Int32} {K : (Nat → Int32) → Option α} {o : α} (h : q_cp f n0 sp g n1 dp n K = some o) : (¬ sp < 0 ∧ ¬ dp < 0 ∧ ¬ n < 0 ∧ sp.toNatClampNeg + n.toNatClampNeg ≤ n0 ∧ dp.toNatClampNeg + n.toNatClampNeg ≤ n1) ∧ K (va_cpy f g sp.toNatClampNeg dp.toNatClampNeg n.toNatClampNeg) = some o := by
  unfold q_cp at h
  split at h
  · exact ⟨by assumption, h⟩
  · cases h
theorem q_c_of {α β : Type} {F : Option α} {K : α → Option β} {o : β} (h : q_c F K = some o) : ∃ a, F = some a ∧ K a = some o := by
  unfold q_c at h
  cases F with
  | none => cases h
  | some a => exact ⟨a, rfl, h⟩
theorem q_t {α : Type} {c : Prop} [Decidable c] {a b o : α} (h : (if c then a else b) = o) (hc : c) : a = o := by rwa [if_pos hc] at h
theorem q_f {α : Type} {c : Prop} [Decidable c] {a b o : α} (h : (if c then a else b) = o) (hc : ¬ c) : b = o := by rwa [if_neg hc] at h
theorem q_nz {v : Int32} (h : v = 0 ∨ v = 1) : narrow .boolean (.int v) = .int v := by rcases h with rfl | rfl <;> rfl
theorem q_fz {v : Int32} (h : v = 0 ∨ v = 1) : fits .boolean (.int v) = true := by rcases h with rfl | rfl <;> rfl
theorem q_out {x : Int32} {lo hi : Int} (h : ∀ k : Nat, lo + k ≤ hi → x.toInt ≠ lo + k) : x.toInt < lo ∨ hi < x.toInt := by
  rcases Int.lt_or_le x.toInt lo with a | a
  · exact Or.inl a
  · rcases Int.lt_or_le hi x.toInt with b | b
    · exact Or.inr b
    · exact absurd (by omega) (h (x.toInt - lo).toNat (by omega))
def q_c1 {τ1 α : Type} (F : Option (τ1)) (K : τ1 → Option α) : Option α := q_c F (fun u => K u)
def q_c2 {τ1 τ2 α : Type} (F : Option (τ1 × τ2)) (K : τ1 → τ2 → Option α) : Option α := q_c F (fun u => K u.1 u.2)
def q_c3 {τ1 τ2 τ3 α : Type} (F : Option (τ1 × τ2 × τ3)) (K : τ1 → τ2 → τ3 → Option α) : Option α := q_c F (fun u => K u.1 u.2.1 u.2.2)
def q_c4 {τ1 τ2 τ3 τ4 α : Type} (F : Option (τ1 × τ2 × τ3 × τ4)) (K : τ1 → τ2 → τ3 → τ4 → Option α) : Option α := q_c F (fun u => K u.1 u.2.1 u.2.2.1 u.2.2.2)
def q_c5 {τ1 τ2 τ3 τ4 τ5 α : Type} (F : Option (τ1 × τ2 × τ3 × τ4 × τ5)) (K : τ1 → τ2 → τ3 → τ4 → τ5 → Option α) : Option α := q_c F (fun u => K u.1 u.2.1 u.2.2.1 u.2.2.2.1 u.2.2.2.2)
def q_c6 {τ1 τ2 τ3 τ4 τ5 τ6 α : Type} (F : Option (τ1 × τ2 × τ3 × τ4 × τ5 × τ6)) (K : τ1 → τ2 → τ3 → τ4 → τ5 → τ6 → Option α) : Option α := q_c F (fun u => K u.1 u.2.1 u.2.2.1 u.2.2.2.1 u.2.2.2.2.1 u.2.2.2.2.2)
def q_c7 {τ1 τ2 τ3 τ4 τ5 τ6 τ7 α : Type} (F : Option (τ1 × τ2 × τ3 × τ4 × τ5 × τ6 × τ7)) (K : τ1 → τ2 → τ3 → τ4 → τ5 → τ6 → τ7 → Option α) : Option α := q_c F (fun u => K u.1 u.2.1 u.2.2.1 u.2.2.2.1 u.2.2.2.2.1 u.2.2.2.2.2.1 u.2.2.2.2.2.2)
def q_c8 {τ1 τ2 τ3 τ4 τ5 τ6 τ7 τ8 α : Type} (F : Option (τ1 × τ2 × τ3 × τ4 × τ5 × τ6 × τ7 × τ8)) (K : τ1 → τ2 → τ3 → τ4 → τ5 → τ6 → τ7 → τ8 → Option α) : Option α := q_c F (fun u => K u.1 u.2.1 u.2.2.1 u.2.2.2.1 u.2.2.2.2.1 u.2.2.2.2.2.1 u.2.2.2.2.2.2.1 u.2.2.2.2.2.2.2)
def q_c9 {τ1 τ2 τ3 τ4 τ5 τ6 τ7 τ8 τ9 α : Type} (F : Option (τ1 × τ2 × τ3 × τ4 × τ5 × τ6 × τ7 × τ8 × τ9)) (K : τ1 → τ2 → τ3 → τ4 → τ5 → τ6 → τ7 → τ8 → τ9 → Option α) : Option α := q_c F (fun u => K u.1 u.2.1 u.2.2.1 u.2.2.2.1 u.2.2.2.2.1 u.2.2.2.2.2.1 u.2.2.2.2.2.2.1 u.2.2.2.2.2.2.2.1 u.2.2.2.2.2.2.2.2)
def q_c10 {τ1 τ2 τ3 τ4 τ5 τ6 τ7 τ8 τ9 τ10 α : Type} (F : Option (τ1 × τ2 × τ3 × τ4 × τ5 × τ6 × τ7 × τ8 × τ9 × τ10)) (K : τ1 → τ2 → τ3 → τ4 → τ5 → τ6 → τ7 → τ8 → τ9 → τ10 → Option α) : Option α := q_c F (fun u => K u.1 u.2.1 u.2.2.1 u.2.2.2.1 u.2.2.2.2.1 u.2.2.2.2.2.1 u.2.2.2.2.2.2.1 u.2.2.2.2.2.2.2.1 u.2.2.2.2.2.2.2.2.1 u.2.2.2.2.2.2.2.2.2)
def q_c11 {τ1 τ2 τ3 τ4 τ5 τ6 τ7 τ8 τ9 τ10 τ11 α : Type} (F : Option (τ1 × τ2 × τ3 × τ4 × τ5 × τ6 × τ7 × τ8 × τ9 × τ10 × τ11)) (K : τ1 → τ2 → τ3 → τ4 → τ5 → τ6 → τ7 → τ8 → τ9 → τ10 → τ11 → Option α) : Option α := q_c F (fun u => K u.1 u.2.1 u.2.2.1 u.2.2.2.1 u.2.2.2.2.1 u.2.2.2.2.2.1 u.2.2.2.2.2.2.1 u.2.2.2.2.2.2.2.1 u.2.2.2.2.2.2.2.2.1 u.2.2.2.2.2.2.2.2.2.1 u.2.2.2.2.2.2.2.2.2.2)
def q_c12 {τ1 τ2 τ3 τ4 τ5 τ6 τ7 τ8 τ9 τ10 τ11 τ12 α : Type} (F : Option (τ1 × τ2 × τ3 × τ4 × τ5 × τ6 × τ7 × τ8 × τ9 × τ10 × τ11 × τ12)) (K : τ1 → τ2 → τ3 → τ4 → τ5 → τ6 → τ7 → τ8 → τ9 → τ10 → τ11 → τ12 → Option α) : Option α := q_c F (fun u => K u.1 u.2.1 u.2.2.1 u.2.2.2.1 u.2.2.2.2.1 u.2.2.2.2.2.1 u.2.2.2.2.2.2.1 u.2.2.2.2.2.2.2.1 u.2.2.2.2.2.2.2.2.1 u.2.2.2.2.2.2.2.2.2.1 u.2.2.2.2.2.2.2.2.2.2.1 u.2.2.2.2.2.2.2.2.2.2.2)
def t_KIND_ABOVE (k : Nat) : Int32 := ([-1, 0, 0, 2, 1, 1, 0, 0] : List Int32).getD k 0
def t_BODIES (k : Nat) : Int32 := ([10, 11, 12, 13, 20, 0, 21, 0, 0, 30, 0, 31, 0, 40, 41, 0, 50, 0, 0, 0, 0, 0, 60, 61, 70, 0, 0, 0, 0, 80, 0, 81] : List Int32).getD k 0
def t_len : List Nat := [5, 5, 5]
def t_byt : List (List Int32) := [[98, 119, 109, 108, 97], [107, 119, 108, 100, 117], [108, 109, 98, 111, 114]]
def t_ix : List Int32 → Nat → Int32 → Int32
  | [], _, _ => -1
  | b :: r, k, c => if b = c then nI k else t_ix r (k + 1) c
def q_ix {α : Type} (ni : Nat) (c : Int32) (K : Int32 → Option α) : Option α := if ni < 3 then K (t_ix (t_byt.getD ni []) 0 c) else none
