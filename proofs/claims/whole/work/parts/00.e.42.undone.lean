/-- from place j on, m places: the first act behind which the page is as ahead of act i -/
def fu (s : Nat → Int32) (i : Nat) : Nat → Nat → Int32
  | _, 0 => -1
  | j, m + 1 => if AL s i (j + 1) then nI j else fu s i (j + 1) m
/-- the act that undid act i, among d -/
def UN (s : Nat → Int32) (d i : Nat) : Int32 := if AL s i (i + 1) then -1 else fu s i (i + 1) (d - (i + 1))
theorem upd_upd (f : Nat → Int32) (k : Nat) (x y : Int32) : upd (upd f k x) k y = upd f k y := by
  funext j
  unfold upd
  split <;> rfl
theorem upd_same {f : Nat → Int32} {k : Nat} {x : Int32} (h : f k = x) : upd f k x = f := by
  funext j
  unfold upd
  split
  · rename_i e; rw [e, h]
  · rfl
theorem upd_at (f : Nat → Int32) (k : Nat) (x : Int32) : upd f k x k = x := by simp [upd]
theorem upd_ne (f : Nat → Int32) {k j : Nat} (x : Int32) (h : j ≠ k) : upd f k x j = f j := by simp [upd, h]
theorem r_fu {s : Nat → Int32} {n d i : Nat} (hd : s 1 = nI d) (hd2 : d ≤ 60) (hS : SZ s d) (hn : 4100 ≤ n) (hi : i < d) (k2 : Int32 → (Nat → Int32) → Option (Nat → Int32)) : ∀ (m j kk : Nat) (ub : Nat → Int32), j + m = d → m < kk → ub i = -1 → f7_findUndone_40 n s k2 kk (nI i) 1 (nI j) ub = k2 (nI (i + 1)) (upd ub i (fu s i j m)) := by
  have e1 : ¬ (1 : Int32) = 0 := by decide
  have e2 : ¬ (0 : Int32) ≤ -1 := by decide
  intro m
  induction m with
  | zero =>
    intro j kk ub h1 h2 h3
    obtain ⟨kk, rfl⟩ : ∃ q, kk = q + 1 := ⟨kk - 1, by omega⟩
    have e : j = d := by omega
    subst e
    rw [f7_findUndone_40.eq_2, q_ldE 1 z_1 (by omega) (by omega), hd, if_pos (nI_le (Nat.le_refl _) (by omega))]
    simp only [f7_findUndone_91, q_lt, nI_1, fu]
    rw [upd_same h3]
  | succ m ih =>
    intro j kk ub h1 h2 h3
    obtain ⟨kk, rfl⟩ : ∃ q, kk = q + 1 := ⟨kk - 1, by omega⟩
    rw [f7_findUndone_40.eq_2, q_ldE 1 z_1 (by omega) (by omega), hd, if_neg (nI_ge (by omega) (by omega)), if_neg e1, q_ldI (by omega) (by omega), h3, if_neg e2, nI_1, r_areAlike hd2 hS (by omega) (by omega) hn, q_c_some]
    simp only [fu]
    by_cases h4 : AL s i (j + 1)
    · rw [if_pos h4, if_pos h4, if_neg e1]
      simp (disch := omega) only [f7_findUndone_84, q_stI, q_lt, nI_1]
      obtain ⟨kk, rfl⟩ : ∃ q, kk = q + 1 := ⟨kk - 1, by omega⟩
      rw [f7_findUndone_40.eq_2, q_ldE 1 z_1 (by omega) (by omega), hd]
      split
      · simp only [f7_findUndone_91, q_lt, nI_1]
      · rw [q_ldI (by omega) (by omega), upd_at, if_pos (nI_pos' (by omega))]
        simp only [f7_findUndone_91, q_lt, nI_1]
    · rw [if_neg h4, if_neg h4, if_pos rfl]
      simp (disch := omega) only [f7_findUndone_84, q_stI, q_lt, nI_1]
      rw [upd_same h3]
      exact ih (j + 1) kk ub (by omega) (by omega) h3
theorem r_findUndone {s : Nat → Int32} {n d : Nat} (hd : s 1 = nI d) (hd2 : d ≤ 60) (hS : SZ s d) (hn : 4100 ≤ n) (ub : Nat → Int32) : ∃ g, f7_findUndone n s ub = some g ∧ ∀ i, i < d → g i = UN s d i := by
  unfold f7_findUndone
  have e1 : ¬ (1 : Int32) = 0 := by decide
  have loop : ∀ (m i kk : Nat) (ub : Nat → Int32), i + m = d → m < kk → (∀ k, k < i → ub k = UN s d k) → ∃ g, f7_findUndone_2 n s kk (nI i) ub = some g ∧ ∀ k, k < d → g k = UN s d k := by
    intro m
    induction m with
    | zero =>
      intro i kk ub h1 h2 h3
      obtain ⟨kk, rfl⟩ : ∃ q, kk = q + 1 := ⟨kk - 1, by omega⟩
      have e : i = d := by omega
      subst e
      rw [f7_findUndone_2.eq_2, q_ldE 1 z_1 (by omega) (by omega), hd, if_pos (nI_le (Nat.le_refl _) (by omega))]
      exact ⟨ub, rfl, h3⟩
    | succ m ih =>
      intro i kk ub h1 h2 h3
      obtain ⟨kk, rfl⟩ : ∃ q, kk = q + 1 := ⟨kk - 1, by omega⟩
      rw [f7_findUndone_2.eq_2, q_ldE 1 z_1 (by omega) (by omega), hd, if_neg (nI_ge (by omega) (by omega)), q_stI (by omega) (by omega), nI_1, r_areAlike hd2 hS (by omega) (by omega) hn, q_c_some]
      have next : ∀ v, v = UN s d i → ∀ k, k < i + 1 → upd ub i v k = UN s d k := by
        intro v hv k hk
        by_cases e : k = i
        · rw [e, upd_at, hv]
        · rw [upd_ne _ _ e]
          exact h3 k (by omega)
      by_cases h4 : AL s i (i + 1)
      · rw [if_pos h4, if_neg e1]
        simp only [f7_findUndone_35, q_lt, nI_1]
        obtain ⟨nn, en⟩ : ∃ q, n = q + 1 := ⟨n - 1, by omega⟩
        have stp : f7_findUndone_40 n s (f7_findUndone_2 n s kk) n (nI i) 0 (nI (i + 1)) (upd ub i (-1)) = f7_findUndone_2 n s kk (nI (i + 1)) (upd ub i (-1)) := by
          conv => lhs; arg 4; rw [en]
          rw [f7_findUndone_40.eq_2, q_ldE 1 z_1 (by omega) (by omega), hd]
          simp only [f7_findUndone_91, q_lt, nI_1, if_true, ite_self]
        rw [stp]
        exact ih (i + 1) kk _ (by omega) (by omega) (next _ (by unfold UN; rw [if_pos h4]))
      · rw [if_neg h4, if_pos rfl]
        simp only [f7_findUndone_35, q_lt, nI_1]
        rw [r_fu hd hd2 hS hn (by omega) _ (d - (i + 1)) (i + 1) n _ (by omega) (by omega) (upd_at _ _ _), upd_upd]
        exact ih (i + 1) kk _ (by omega) (by omega) (next _ (by unfold UN; rw [if_neg h4]))
  have := loop d 0 n ub (by omega) (by omega) (fun k hk => absurd hk (Nat.not_lt_zero k))
  rwa [nI_0] at this
