/-! ===== a level of the grammar ===== -/
abbrev F7t : Type := Int32 → Int32 → Int32 → (Nat → Int32) → O7
abbrev F2t : Type := Int32 → Int32 → (Nat → Int32) → O2
def it7 (lower K : F7t) (l : Nat) (t : Int32) (a : Nat) (op st : Int32) (step : Nat → Int32) : O7 := if JS l t = true then (q_c5 (lower (nI (a + 1)) op st step) fun t29 a b c d => if t29 = 0 then some (0, a, b, c, d) else q_c2 (f7_lay 3 t c d) fun c d => K a b c d) else some (1, nI a, op, st, step)
theorem JS_m1 (l : Nat) : ¬ JS l (-1) = true := by
  intro h
  have := JS_OP h
  revert this
  unfold OP
  decide
theorem lev_loop {s tape : Nat → Int32} (T : TP s tape) {u o l n ni : Nat} (hl : l ≤ 4) {lo7 : F7t} {lo2 : F2t} (S : Sim (nv s 4) u o lo7 lo2) (M : Nat → F7t) (hM : ∀ (kk a : Nat) (op st : Int32) (step : Nat → Int32), a ≤ 60 → M (kk + 1) (nI a) op st step = it7 lo7 (M kk) l (sg s a) a op st step) (FS : Int32 → Int32 → Int32 → Int32 → Nat → (Nat → Int32) → (Nat → Int32) → O2) (FL : Int32 → Int32 → Int32 → Int32 → Int32 → Nat → (Nat → Int32) → (Nat → Int32) → O2) (hFL : ∀ (a cd : Int32) (code : Nat → Int32), FL (nI (l + 1)) (nI o) a cd (nI (nv s 4)) ni tape code = lo2 a cd code) {a0 c0 : Nat} {step0 code0 : Nat → Int32} (h0 : c0 ≤ a0) :
    ∀ (m j kk k2 a c : Nat) (step code : Nat → Int32), nv s 4 ≤ a + m → m < kk → m < k2 → j ≤ a → a0 < a → a ≤ nv s 4 → c0 < c → c + a0 ≤ a + c0 → KP step0 step code0 code c0 → PS u step code c → SG (fun k => step (2 * k)) c0 c → Out (nv s 4) u o a0 c0 step0 code0 (M kk (nI a) (nI o) (nI c) step) (g2_readsLevel_39 n FS FL (nI (nv s 4)) ni tape k2 (nI l) (nI o) (nI 60) (nI j) (nI a) (nI c) code) := by
  have hL := T.1.2
  intro m
  induction m with
  | zero =>
    intro j kk k2 a c step code h1 h2 h2' h3 h4 h5 h6 h7 h8 h9 h10
    obtain ⟨kk, rfl⟩ : ∃ q, kk = q + 1 := ⟨kk - 1, by omega⟩
    obtain ⟨k2, rfl⟩ : ∃ q, k2 = q + 1 := ⟨k2 - 1, by omega⟩
    have e : sg s a = -1 := by unfold sg; rw [if_neg (by omega)]
    refine Or.inr ⟨a, c, step, code, ?_, ?_, h4, h5, h6, h7, h8, h9, h10⟩
    · rw [hM kk a _ _ _ (by omega), it7, e, if_neg (JS_m1 l)]
    · rw [g2_readsLevel_39.eq_2]
      by_cases q : 60 ≤ j
      · rw [if_pos (nI_le q (by omega))]; rfl
      · rw [if_neg (nI_ge (by omega) (by omega)), k_isJoining T (by omega) hl, e, if_neg (JS_m1 l), q_c_some, if_pos i0]; rfl
  | succ m ih =>
    intro j kk k2 a c step code h1 h2 h2' h3 h4 h5 h6 h7 h8 h9 h10
    obtain ⟨kk, rfl⟩ : ∃ q, kk = q + 1 := ⟨kk - 1, by omega⟩
    obtain ⟨k2, rfl⟩ : ∃ q, k2 = q + 1 := ⟨k2 - 1, by omega⟩
    rw [hM kk a _ _ _ (by omega), it7, g2_readsLevel_39.eq_2]
    by_cases hj : JS l (sg s a) = true
    rotate_left
    · refine Or.inr ⟨a, c, step, code, ?_, ?_, h4, h5, h6, h7, h8, h9, h10⟩
      · rw [if_neg hj]
      · by_cases q : 60 ≤ j
        · rw [if_pos (nI_le q (by omega))]; rfl
        · rw [if_neg (nI_ge (by omega) (by omega)), k_isJoining T (by omega) hl, if_neg hj, q_c_some, if_pos i0]; rfl
    have haL : a < nv s 4 := by
      rcases sg_cases T a with ⟨_, q⟩ | ⟨q, _⟩
      · rw [q] at hj; exact absurd hj (JS_m1 l)
      · exact q
    rw [if_pos hj, if_neg (nI_ge (by omega) (by omega)), k_isJoining T (by omega) hl, if_pos hj, q_c_some, if_neg i1, k_sign T (by omega), q_c_some, q_ltP, nI_1, nI_1, hFL]
    rcases S (a + 1) c step code (by omega) (by omega) h9 with ⟨a', op, st, step', cd, code', x, y, z⟩ | ⟨a', c', step', code', x, y, g1, g2, g3, g4, g5, g6, g7⟩
    · rw [x, y, q_c5_some, q_c4_some, if_pos rfl, if_pos rfl]
      exact Or.inl ⟨a', op, st, step', cd, code', rfl, rfl, z⟩
    · rw [x, y, q_c5_some, q_c4_some, if_neg (by decide), if_neg (by decide)]
      have hop := JS_OP hj
      obtain ⟨step2, code2, l1, l2, l3, l4, l5⟩ := lay_both (u := u) (c := c') (step := step') (code := code') (w := nI 3) (v := sg s a) (d := -sg s a) (by omega) g6 (Or.inr (Or.inr (Or.inr ⟨rfl, hop, rfl⟩)))
      rw [show f7_lay 3 (sg s a) (nI c') step' = _ from l1, l2, q_c2_some, q_c2_some, q_ltP, nI_1]
      refine ih (j + 1) kk k2 a' (c' + 1) step2 code2 (by omega) (by omega) (by omega) (by omega) (by omega) g2 (by omega) (by omega) ?_ l4 ?_
      · exact h8.trans (g5.trans l3 (by omega)) (by omega)
      · refine SG.two (c1 := c) ?_ ?_ l5
        · exact h10.congr (fun k q1 q2 => by
            show step2 (2 * k) = step (2 * k)
            rw [l3.1 _ (by omega), g5.1 _ (by omega)])
        · exact g7.congr (fun k q1 q2 => l3.1 _ (by omega))
/-- levels 0, 1, 3, 4 -/
theorem level_sim {s tape : Nat → Int32} (T : TP s tape) {u o l n ni d : Nat} (hl : l ≤ 4) (hl2 : l ≠ 2) (hn : 4100 ≤ n) {lo7 : F7t} (M : Nat → F7t) (hM : ∀ (kk a : Nat) (op st : Int32) (step : Nat → Int32), a ≤ 60 → M (kk + 1) (nI a) op st step = it7 lo7 (M kk) l (sg s a) a op st step) (FS : Int32 → Int32 → Int32 → Int32 → Nat → (Nat → Int32) → (Nat → Int32) → O2) (S : Sim (nv s 4) u o lo7 (fun a cd code => g2_readsLevel n FS d (nI (l + 1)) (nI o) a cd (nI (nv s 4)) ni tape code)) (F7 : F7t) (h7 : ∀ a op st step, F7 a op st step = q_c5 (lo7 a op st step) fun t a b c d => if t = 0 then some (0, a, b, c, d) else M n a b c d) : Sim (nv s 4) u o F7 (fun a cd code => g2_readsLevel n FS (d + 1) (nI l) (nI o) a cd (nI (nv s 4)) ni tape code) := by
  have hL := T.1.2
  intro a c step code hc ha P
  show Out _ _ _ _ _ _ _ _ (g2_readsLevel n FS (d + 1) (nI l) (nI o) (nI a) (nI c) (nI (nv s 4)) ni tape code)
  rw [h7, g2_readsLevel.eq_2, if_pos (show nI l < 5 from nI_lt (b := 5) (by omega) (by omega)), nI_1]
  rcases S a c step code hc ha P with ⟨a', op, st, step', cd, code', x, y, z⟩ | ⟨a', c', step', code', x, y, g1, g2, g3, g4, g5, g6, g7⟩
  · rw [x, show g2_readsLevel n FS d (nI (l + 1)) (nI o) (nI a) (nI c) (nI (nv s 4)) ni tape code = _ from y, q_c5_some, q_c4_some, if_pos rfl, if_pos rfl]
    exact Or.inl ⟨a', op, st, step', cd, code', rfl, rfl, z⟩
  · rw [x, show g2_readsLevel n FS d (nI (l + 1)) (nI o) (nI a) (nI c) (nI (nv s 4)) ni tape code = _ from y, q_c5_some, q_c4_some, if_neg (by decide), if_neg (by decide), if_neg (show ¬ nI l = 2 from fun q => hl2 ((nI_eq (a := l) (b := 2) (by omega) (by omega)).mp q)), g2_readsLevel_35]
    exact lev_loop (n := n) T hl S M hM FS (g2_readsLevel n FS d) (fun _ _ _ => rfl) hc (nv s 4) 0 n n a' c' step' code' (by omega) (by omega) (by omega) (by omega) g1 g2 g3 g4 g5 g6 g7
/-- level 2: compared, once at most -/
theorem level2_sim {s tape : Nat → Int32} (T : TP s tape) {u o n ni d : Nat} (hn : 4100 ≤ n) {FS7 : Int32 → Int32 → Int32 → Int32 → (Nat → Int32) → (Nat → Int32) → O7} (FS : Int32 → Int32 → Int32 → Int32 → Nat → (Nat → Int32) → (Nat → Int32) → O2) (S : Sim (nv s 4) u o (fun a op st step => g7_sum n FS7 a op st (nI u) s step) (fun a cd code => g2_readsLevel n FS d (nI 3) (nI o) a cd (nI (nv s 4)) ni tape code)) : Sim (nv s 4) u o (fun a op st step => g7_compared n FS7 a op st (nI u) s step) (fun a cd code => g2_readsLevel n FS (d + 1) (nI 2) (nI o) a cd (nI (nv s 4)) ni tape code) := by
  have hL := T.1.2
  intro a c step code hc ha P
  show Out _ _ _ _ _ _ _ (g7_compared n FS7 (nI a) (nI o) (nI c) (nI u) s step) (g2_readsLevel n FS (d + 1) (nI 2) (nI o) (nI a) (nI c) (nI (nv s 4)) ni tape code)
  rw [g7_compared, g2_readsLevel.eq_2, if_pos (show nI 2 < 5 by decide), show nI 2 + 1 = nI 3 from rfl]
  rcases S a c step code hc ha P with ⟨a', op, st, step', cd, code', x, y, z⟩ | ⟨a', c', step', code', x, y, g1, g2, g3, g4, g5, g6, g7⟩
  · rw [show g7_sum n FS7 (nI a) (nI o) (nI c) (nI u) s step = _ from x, show g2_readsLevel n FS d (nI 3) (nI o) (nI a) (nI c) (nI (nv s 4)) ni tape code = _ from y, q_c5_some, q_c4_some, if_pos rfl, if_pos rfl]
    exact Or.inl ⟨a', op, st, step', cd, code', rfl, rfl, z⟩
  · rw [show g7_sum n FS7 (nI a) (nI o) (nI c) (nI u) s step = _ from x, show g2_readsLevel n FS d (nI 3) (nI o) (nI a) (nI c) (nI (nv s 4)) ni tape code = _ from y, q_c5_some, q_c4_some, if_neg (by decide), if_neg (by decide), if_pos (show nI 2 = 2 from rfl), g2_readsLevel_35, r_look T (by omega), q_c_some]
    obtain ⟨n1, rfl⟩ : ∃ q, n = q + 1 + 1 := ⟨n - 2, by omega⟩
    rw [g2_readsLevel_39.eq_2, if_neg (show ¬ (1 : Int32) ≤ 0 by decide), k_isJoining T (by omega) (by omega), q_c_some]
    by_cases hj : JS 2 (sg s a') = true
    rotate_left
    · have hj' : ¬ sg s a' = 60 ∧ ¬ sg s a' = 61 ∧ ¬ sg s a' = 62 := by
        simp only [JS, decide_eq_true_eq, not_or] at hj
        exact hj
      rw [if_neg hj, if_pos i0, if_neg hj'.1, if_neg hj'.2.1, if_neg hj'.2.2]
      exact Or.inr ⟨a', c', step', code', rfl, rfl, g1, g2, g3, g4, g5, g6, g7⟩
    have haL : a' < nv s 4 := by
      rcases sg_cases T a' with ⟨_, q⟩ | ⟨q, _⟩
      · rw [q] at hj; exact absurd hj (JS_m1 2)
      · exact q
    have e7 : (if sg s a' = 60 then g7_compared_34 (n1 + 1 + 1) FS7 (nI u) s (sg s a') (nI a') (nI o) (nI c') step' else if sg s a' = 61 then g7_compared_34 (n1 + 1 + 1) FS7 (nI u) s (sg s a') (nI a') (nI o) (nI c') step' else if sg s a' = 62 then g7_compared_34 (n1 + 1 + 1) FS7 (nI u) s (sg s a') (nI a') (nI o) (nI c') step' else q_bz 1 (some (1, nI a', nI o, nI c', step'))) = g7_compared_34 (n1 + 1 + 1) FS7 (nI u) s (sg s a') (nI a') (nI o) (nI c') step' := by
      simp only [JS, decide_eq_true_eq] at hj
      rcases hj with q | q | q
      · rw [if_pos q]
      · rw [if_neg (by rw [q]; decide), if_pos q]
      · rw [if_neg (by rw [q]; decide), if_neg (by rw [q]; decide), if_pos q]
    rw [if_pos hj, if_neg i1, e7, g7_compared_34, q_ltP, nI_1, k_sign T (by omega), q_c_some, q_ltP, show nI 2 + 1 = nI 3 from rfl]
    rcases S (a' + 1) c' step' code' (by omega) (by omega) g6 with ⟨a2, op, st, step2, cd, code2, x, y, z⟩ | ⟨a2, c2, step2, code2, x, y, k1, k2, k3, k4, k5, k6, k7⟩
    · rw [show g7_sum (n1 + 1 + 1) FS7 (nI (a' + 1)) (nI o) (nI c') (nI u) s step' = _ from x, show g2_readsLevel (n1 + 1 + 1) FS d (nI 3) (nI o) (nI (a' + 1)) (nI c') (nI (nv s 4)) ni tape code' = _ from y, q_c5_some, q_c4_some, if_pos rfl, if_pos rfl]
      exact Or.inl ⟨a2, op, st, step2, cd, code2, rfl, rfl, z⟩
    · rw [show g7_sum (n1 + 1 + 1) FS7 (nI (a' + 1)) (nI o) (nI c') (nI u) s step' = _ from x, show g2_readsLevel (n1 + 1 + 1) FS d (nI 3) (nI o) (nI (a' + 1)) (nI c') (nI (nv s 4)) ni tape code' = _ from y, q_c5_some, q_c4_some, if_neg (by decide), if_neg (by decide)]
      obtain ⟨step3, code3, l1, l2, l3, l4, l5⟩ := lay_both (u := u) (c := c2) (step := step2) (code := code2) (w := nI 3) (v := sg s a') (d := -sg s a') (by omega) k6 (Or.inr (Or.inr (Or.inr ⟨rfl, JS_OP hj, rfl⟩)))
      rw [show f7_lay 3 (sg s a') (nI c2) step2 = _ from l1, l2, q_c2_some, q_c2_some, q_ltP, g2_readsLevel_39.eq_2, if_pos (show (1 : Int32) ≤ 0 + 1 by decide)]
      refine Or.inr ⟨a2, c2 + 1, step3, code3, rfl, rfl, by omega, k2, by omega, by omega, ?_, l4, ?_⟩
      · exact g5.trans (k5.trans l3 (by omega)) (by omega)
      · refine SG.two (c1 := c') ?_ ?_ l5
        · exact g7.congr (fun k q1 q2 => by
            show step3 (2 * k) = step' (2 * k)
            rw [l3.1 _ (by omega), k5.1 _ (by omega)])
        · exact k7.congr (fun k q1 q2 => l3.1 _ (by omega))
