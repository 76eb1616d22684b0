/-! ===== the whole grammar ===== -/
abbrev G7t : Type := Int32 → Int32 → Int32 → Int32 → (Nat → Int32) → (Nat → Int32) → O7
abbrev G2t : Type := Int32 → Int32 → Int32 → Int32 → Nat → (Nat → Int32) → (Nat → Int32) → O2
theorem bz0 {α : Type} {K : Option α} : q_bz 0 K = K := by rw [q_bz, if_pos (Or.inl rfl)]
theorem bz1 {α : Type} {K : Option α} : q_bz 1 K = K := by rw [q_bz, if_pos (Or.inr rfl)]
theorem whole_sim {s tape : Nat → Int32} (T : TP s tape) {u o n ni : Nat} (hn : 4100 ≤ n) (FS7 : G7t) (FS : G2t) (S : Sim (nv s 4) u o (fun a op st step => FS7 a op st (nI u) s step) (fun a cd code => FS (nI o) a cd (nI (nv s 4)) ni tape code)) : Sim (nv s 4) u o (fun a op st step => g7_whole n FS7 a op st (nI u) s step) (fun a cd code => g2_readsLevel n FS 8 (nI 0) (nI o) a cd (nI (nv s 4)) ni tape code) := by
  have hL := T.1.2
  have S5 : Sim (nv s 4) u o (fun a op st step => FS7 a op st (nI u) s step) (fun a cd code => g2_readsLevel n FS 3 (nI (4 + 1)) (nI o) a cd (nI (nv s 4)) ni tape code) := by
    intro a c step code hc ha P
    have h := S a c step code hc ha P
    show Out _ _ _ _ _ _ _ (FS7 (nI a) (nI o) (nI c) (nI u) s step) (g2_readsLevel n FS (2 + 1) (nI 5) (nI o) (nI a) (nI c) (nI (nv s 4)) ni tape code)
    rw [g2_readsLevel.eq_2, if_neg (show ¬ nI 5 < 5 by decide)]
    rcases h with ⟨a', op, st, step', cd, code', x, y, z⟩ | ⟨a', c', step', code', x, y, r⟩
    · rw [show FS (nI o) (nI a) (nI c) (nI (nv s 4)) ni tape code = _ from y, q_c4_some, bz0]
      exact Or.inl ⟨a', op, st, step', cd, code', x, rfl, z⟩
    · rw [show FS (nI o) (nI a) (nI c) (nI (nv s 4)) ni tape code = _ from y, q_c4_some, bz1]
      exact Or.inr ⟨a', c', step', code', x, rfl, r⟩
  have S4 := level_sim T (l := 4) (d := 3) (by omega) (by omega) hn (fun kk a op st step => g7_product_9 n FS7 (nI u) s kk a op st step) (by
    intro kk a op st step ha
    show g7_product_9 n FS7 (nI u) s (kk + 1) (nI a) op st step = _
    have e36 : g7_product_36 n FS7 (nI u) s (g7_product_9 n FS7 (nI u) s kk) (nI a) op st step = it7 (fun a op st step => FS7 a op st (nI u) s step) (fun a op st step => g7_product_9 n FS7 (nI u) s kk a op st step) 4 (sg s a) a op st step ∨ JS 4 (sg s a) = false := by
      by_cases hj : JS 4 (sg s a) = true
      · refine Or.inl ?_
        rw [it7, if_pos hj, g7_product_36, r_look T ha, q_c_some, q_ltP, nI_1]
        simp only [bz0]
      · exact Or.inr (by simpa using hj)
    rw [g7_product_9.eq_2, r_look T ha, q_c_some, q_c_some, q_c_some]
    rcases e36 with e | e
    · rw [e]
      by_cases hj : JS 4 (sg s a) = true
      · have hj2 := hj
        simp only [JS, decide_eq_true_eq] at hj2
        rcases hj2 with q | q | q
        · rw [if_pos q]
        · rw [if_neg (by rw [q]; decide), if_pos q]
        · rw [if_neg (by rw [q]; decide), if_neg (by rw [q]; decide), if_pos q]
      · rw [it7, if_neg hj]
        simp only [bz1, ite_self]
    · have hj : ¬ JS 4 (sg s a) = true := by rw [e]; decide
      have hj2 := hj
      simp only [JS, decide_eq_true_eq, not_or] at hj2
      rw [it7, if_neg hj, if_neg hj2.1, if_neg hj2.2.1, if_neg hj2.2.2, bz1]) FS S5 (fun a op st step => g7_product n FS7 a op st (nI u) s step) (by
    intro a op st step
    rw [g7_product]
    simp only [bz0])
  have S3 := level_sim T (l := 3) (d := 4) (by omega) (by omega) hn (fun kk a op st step => g7_sum_9 n FS7 (nI u) s kk a op st step) (by
    intro kk a op st step ha
    show g7_sum_9 n FS7 (nI u) s (kk + 1) (nI a) op st step = _
    rw [g7_sum_9.eq_2, r_look T ha, q_c_some, q_c_some]
    by_cases hj : JS 3 (sg s a) = true
    · have e : g7_sum_27 n FS7 (nI u) s (g7_sum_9 n FS7 (nI u) s kk) (nI a) op st step = it7 (fun a op st step => g7_product n FS7 a op st (nI u) s step) (fun a op st step => g7_sum_9 n FS7 (nI u) s kk a op st step) 3 (sg s a) a op st step := by
        rw [it7, if_pos hj, g7_sum_27, r_look T ha, q_c_some, q_ltP, nI_1]
        simp only [bz0]
      rw [e]
      have hj2 := hj
      simp only [JS, decide_eq_true_eq] at hj2
      rcases hj2 with q | q
      · rw [if_pos q]
      · rw [if_neg (by rw [q]; decide), if_pos q]
    · have hj2 := hj
      simp only [JS, decide_eq_true_eq, not_or] at hj2
      rw [it7, if_neg hj, if_neg hj2.1, if_neg hj2.2, bz1]) FS S4 (fun a op st step => g7_sum n FS7 a op st (nI u) s step) (by
    intro a op st step
    rw [g7_sum]
    simp only [bz0])
  have S2 := level2_sim (d := 5) T hn FS S3
  have S1 := level_sim T (l := 1) (d := 6) (by omega) (by omega) hn (fun kk a op st step => g7_both_9 n FS7 (nI u) s kk a op st step) (by
    intro kk a op st step ha
    show g7_both_9 n FS7 (nI u) s (kk + 1) (nI a) op st step = _
    rw [g7_both_9.eq_2, r_look T ha, q_c_some, it7]
    by_cases q : sg s a = 38
    · rw [if_pos q, if_pos (show JS 1 (sg s a) = true by simp only [JS, q, decide_true]), q_ltP, nI_1, q]
      simp only [bz0]
    · rw [if_neg q, if_neg (show ¬ JS 1 (sg s a) = true by simp only [JS, decide_eq_true_eq]; exact q), bz1]) FS S2 (fun a op st step => g7_both n FS7 a op st (nI u) s step) (by
    intro a op st step
    rw [g7_both]
    simp only [bz0])
  exact level_sim T (l := 0) (d := 7) (by omega) (by omega) hn (fun kk a op st step => g7_whole_9 n FS7 (nI u) s kk a op st step) (by
    intro kk a op st step ha
    show g7_whole_9 n FS7 (nI u) s (kk + 1) (nI a) op st step = _
    rw [g7_whole_9.eq_2, r_look T ha, q_c_some, it7]
    by_cases q : sg s a = 124
    · rw [if_pos q, if_pos (show JS 0 (sg s a) = true by simp only [JS, q, decide_true]), q_ltP, nI_1, q]
      simp only [bz0]
    · rw [if_neg q, if_neg (show ¬ JS 0 (sg s a) = true by simp only [JS, decide_eq_true_eq]; exact q), bz1]) FS S1 (fun a op st step => g7_whole n FS7 a op st (nI u) s step) (by
    intro a op st step
    rw [g7_whole]
    simp only [bz0])
