/-! ===== sheets ===== -/
theorem p_sheet {n : Nat} {E bits hsz num hnum : Nat → Int32} (hn : 4100 ≤ n) (H : SH bits hsz num hnum) (x y z : Int32) : ∃ a E' bits' hsz' num' hnum', f7_sheet n x y z E bits hsz num = some (a, E', bits', hsz', num') ∧ f6_sheet n x y z E bits hsz hnum = some (a, E', bits', hsz', hnum') ∧ SH bits' hsz' num' hnum' := by
  unfold f7_sheet f6_sheet
  rcases she_cases x with ⟨k, hk, rfl, h1, h2⟩ | ⟨h1, h2⟩
  rotate_left
  · rw [h1, h2, q_c_some, q_c_some, if_pos i0, if_pos i0, f7_sheet_29, f6_sheet_29, (r_err E).1, (k_err E).1, q_c2_er, q_c2_er]
    exact ⟨_, _, _, _, _, _, rfl, rfl, H⟩
  rw [h1, h2, q_c_some, q_c_some, if_neg i1, if_neg i1]
  have r90 : ∀ (m i kk : Nat) (B S N : Nat → Int32), i + m = 24 → m < kk → ∃ N', f7_sheet_90 n kk (nI k) (nI i) E B S N = some (1, E, B, S, N') ∧ (∀ j, i ≤ j → j < 24 → N' (24 * k + j) = nI 0) ∧ ∀ j, (j < 24 * k + i ∨ 24 * k + 24 ≤ j) → N' j = N j := by
    intro m
    induction m with
    | zero =>
      intro i kk B S N g1 g2
      obtain ⟨kk, rfl⟩ : ∃ q, kk = q + 1 := ⟨kk - 1, by omega⟩
      refine ⟨N, ?_, fun j a b => absurd b (by omega), fun _ _ => rfl⟩
      rw [f7_sheet_90.eq_2, if_pos (show (24 : Int32) ≤ nI i from nI_le (a := 24) (by omega) (by omega))]
    | succ m ih =>
      intro i kk B S N g1 g2
      obtain ⟨kk, rfl⟩ : ∃ q, kk = q + 1 := ⟨kk - 1, by omega⟩
      obtain ⟨N', a1, a2, a3⟩ := ih (i + 1) kk B S (upd N (24 * k + i) 0) (by omega) (by omega)
      refine ⟨N', ?_, ?_, ?_⟩
      · rw [f7_sheet_90.eq_2, if_neg (show ¬ (24 : Int32) ≤ nI i from nI_ge (b := 24) (by omega) (by omega)), show (24 : Int32) * nI k + nI i = nI (24 * k + i) from by rw [show (24 : Int32) = nI 24 from by decide, pk_mul, nI_add], q_stI (by omega) (by omega), q_ltP, nI_1]
        exact a1
      · intro j b1 b2
        by_cases q : j = i
        · rw [q, a3 _ (by omega), pk_us]; rfl
        · exact a2 j (by omega) b2
      · intro j b
        rw [a3 j (by omega), pk_un (by omega)]
  have k25 : ∀ (m i kk z : Nat) (B S N : Nat → Int32), S k = nI z → z ≤ 24 → i + m = z → m < kk → ∃ N', f3_lays_25 n kk (nI k) (nI i) B S N = some (B, S, N') ∧ (∀ j, i ≤ j → j < z → N' (k * 24 + j) = nI 0) ∧ ∀ j, (j < k * 24 + i ∨ k * 24 + z ≤ j) → N' j = N j := by
    intro m
    induction m with
    | zero =>
      intro i kk z B S N g0 gz g1 g2
      obtain ⟨kk, rfl⟩ : ∃ q, kk = q + 1 := ⟨kk - 1, by omega⟩
      refine ⟨N, ?_, fun j a b => absurd b (by omega), fun _ _ => rfl⟩
      rw [f3_lays_25.eq_2, q_ldI (by omega) (by omega), g0, if_pos (nI_le (by omega) (by omega))]
    | succ m ih =>
      intro i kk z B S N g0 gz g1 g2
      obtain ⟨kk, rfl⟩ : ∃ q, kk = q + 1 := ⟨kk - 1, by omega⟩
      obtain ⟨N', a1, a2, a3⟩ := ih (i + 1) kk z B S (upd N (k * 24 + i) 0) g0 gz (by omega) (by omega)
      refine ⟨N', ?_, ?_, ?_⟩
      · rw [f3_lays_25.eq_2, q_ldI (by omega) (by omega), g0, if_neg (nI_ge (by omega) (by omega)), show nI k * (24 : Int32) + nI i = nI (k * 24 + i) from by rw [show (24 : Int32) = nI 24 from by decide, pk_mul, nI_add], q_stI (by omega) (by omega), q_ltP, nI_1]
        exact a1
      · intro j b1 b2
        by_cases q : j = i
        · rw [q, a3 _ (by omega), pk_us]; rfl
        · exact a2 j (by omega) b2
      · intro j b
        rw [a3 j (by omega), pk_un (by omega)]
  have lay : ∀ (z : Nat) (y : Int32), z ≤ 24 → (y = 0 → z = 0) → ∃ num' hnum', f7_sheet_86 n (nI k) (nI k) (nI z) E (upd bits k y) hsz num = some (1, E, upd bits k y, upd hsz k (nI z), num') ∧ f3_lays_21 n (nI k) (nI k) (nI z) (upd bits k y) hsz hnum = some (upd bits k y, upd hsz k (nI z), hnum') ∧ SH (upd bits k y) (upd hsz k (nI z)) num' hnum' := by
    intro z y hz hy
    obtain ⟨N7, a1, a2, a3⟩ := r90 24 0 n (upd bits k y) (upd hsz k (nI z)) num (by omega) (by omega)
    obtain ⟨N6, b1, b2, b3⟩ := k25 z 0 n z (upd bits k y) (upd hsz k (nI z)) hnum pk_us hz (by omega) (by omega)
    refine ⟨N7, N6, ?_, ?_, ?_⟩
    · rw [f7_sheet_86, q_stI (by omega) (by omega)]; exact a1
    · rw [f3_lays_21, q_stI (by omega) (by omega)]; exact b1
    · intro v hv
      by_cases q : v = k
      · subst q
        have e : upd hsz v (nI z) v = nI z := pk_us
        have en : nv (upd hsz v (nI z)) v = z := nv_of e (by omega)
        refine ⟨isN.mk z e hz (by omega), fun h => by rw [en]; exact hy (by rw [pk_us] at h; exact h), fun i hi => ?_⟩
        rw [en] at hi
        rw [a2 i (by omega) (by omega), b2 i (by omega) hi]
      · have e : upd hsz k (nI z) v = hsz v := pk_un q
        obtain ⟨c1, c2, c3⟩ := H v hv
        refine ⟨isN_congr e c1, fun h => by rw [nv_congr e]; exact c2 (by rw [pk_un q] at h; exact h), fun i hi => ?_⟩
        rw [nv_congr e] at hi
        have := c1.2
        rw [a3 _ (by omega), b3 _ (by omega)]
        exact c3 i hi
  have main : ∃ a E' bits' hsz' num' hnum', f7_sheet_35 n (nI k) y z E bits hsz num = some (a, E', bits', hsz', num') ∧ f6_sheet_35 n (nI k) y z E bits hsz hnum = some (a, E', bits', hsz', hnum') ∧ SH bits' hsz' num' hnum' := by
    rw [f7_sheet_35, f6_sheet_35, f7_sheet_49, f6_sheet_49, f7_sheet_65, f6_sheet_65, f3_lays, q_stI (by omega) (by omega), q_stI (by omega) (by omega)]
    by_cases hy : y = 0
    · obtain ⟨N7, N6, a, b, c⟩ := lay 0 y (by omega) (fun _ => rfl)
      simp only [hy, if_true] at a b c ⊢
      rw [show f7_sheet_86 n (nI k) (nI k) 0 E (upd bits k 0) hsz num = _ from a, show f3_lays_21 n (nI k) (nI k) 0 (upd bits k 0) hsz hnum = _ from b, q_c3_some]
      exact ⟨_, _, _, _, _, _, rfl, rfl, c⟩
    · simp only [hy, if_false]
      by_cases h0 : 0 ≤ z
      rotate_left
      · rw [if_neg h0, if_neg h0, (r_err E).2.2.1, (k_err E).2.2.1, q_c2_er, q_c2_er]
        exact ⟨_, _, _, _, _, _, rfl, rfl, H⟩
      rw [if_pos h0, if_pos h0]
      by_cases h24 : z ≤ 24
      rotate_left
      · rw [if_neg h24, if_neg h24, (r_err E).1, (k_err E).1, q_c2_er, q_c2_er]
        exact ⟨_, _, _, _, _, _, rfl, rfl, H⟩
      rw [if_pos h24, if_pos h24]
      obtain ⟨z, hz, rfl⟩ := nI_of2 (M := 24) (n := 24) (by decide) (Int32.not_lt.mpr h0) h24
      obtain ⟨N7, N6, a, b, c⟩ := lay z y hz (fun q => absurd q hy)
      rw [a, b, q_c3_some]
      exact ⟨_, _, _, _, _, _, rfl, rfl, c⟩
  by_cases q0 : y = 0
  · rw [if_pos q0, if_pos q0]; exact main
  by_cases q1 : y = 8
  · rw [if_neg q0, if_pos q1, if_neg q0, if_pos q1]; exact main
  by_cases q2 : y = 16
  · rw [if_neg q0, if_neg q1, if_pos q2, if_neg q0, if_neg q1, if_pos q2]; exact main
  by_cases q3 : y = 32
  · rw [if_neg q0, if_neg q1, if_neg q2, if_pos q3, if_neg q0, if_neg q1, if_neg q2, if_pos q3]; exact main
  rw [if_neg q0, if_neg q1, if_neg q2, if_neg q3, if_neg q0, if_neg q1, if_neg q2, if_neg q3, f7_sheet_29, f6_sheet_29, (r_err E).1, (k_err E).1, q_c2_er, q_c2_er]
  exact ⟨_, _, _, _, _, _, rfl, rfl, H⟩
theorem p_put {E bits hsz num hnum : Nat → Int32} (H : SH bits hsz num hnum) (x y z : Int32) : ∃ a E' num' hnum', f7_put x y z E bits hsz num = some (a, E', num') ∧ f6_put x y z E bits hsz hnum = some (a, E', hnum') ∧ SH bits hsz num' hnum' := by
  unfold f7_put f6_put
  rcases she_cases x with ⟨k, hk, rfl, h1, h2⟩ | ⟨h1, h2⟩
  rotate_left
  · rw [h1, h2, q_c_some, q_c_some, if_pos i0, if_pos i0, (r_err E).1, (k_err E).1, q_c2_er, q_c2_er]
    exact ⟨_, _, _, _, rfl, rfl, H⟩
  rw [h1, h2, q_c_some, q_c_some, if_neg i1, if_neg i1]
  simp (disch := omega) only [↓q_ldI]
  by_cases h0 : bits k = 0
  · rw [if_pos h0, if_pos h0, (r_err E).2.1, (k_err E).2.1, q_c2_er, q_c2_er]
    exact ⟨_, _, _, _, rfl, rfl, H⟩
  obtain ⟨c1, c2, c3⟩ := H k hk
  have c24 := c1.2
  rw [if_neg h0, if_neg h0, c1.1]
  rcases pk_ix y (n := nv hsz k) (by omega) with h | h | ⟨j, hj, rfl⟩
  · rw [r_inF (Or.inl h), q_c_some, if_pos i0, if_pos h, f6_put_48, (r_err E).1, (k_err E).1, q_c2_er, q_c2_er]
    exact ⟨_, _, _, _, rfl, rfl, H⟩
  · have h2 : nI (nv hsz k) - 1 < y := by
      rcases Nat.eq_zero_or_pos (nv hsz k) with e | e
      · rw [e] at h ⊢
        exact Int32.lt_of_lt_of_le (by decide) h
      · obtain ⟨u, eu⟩ : ∃ u, nv hsz k = u + 1 := ⟨nv hsz k - 1, by omega⟩
        rw [eu] at h ⊢
        rw [nI_pred]
        exact Int32.lt_of_lt_of_le (nI_lt (by omega) (by omega)) h
    rw [r_inF (Or.inr h2), q_c_some, if_pos i0, if_neg (Int32.not_lt.mpr h), ite_self, f6_put_48, (r_err E).1, (k_err E).1, q_c2_er, q_c2_er]
    exact ⟨_, _, _, _, rfl, rfl, H⟩
  · rw [show nI (nv hsz k) - 1 = nI (nv hsz k - 1) from pk_sub (b := 1) (by omega), show f7_in (nI j) 0 (nI (nv hsz k - 1)) = _ from r_inT 0 (nv hsz k - 1) j (Nat.zero_le _) (by omega) (by omega), q_c_some, if_neg i1, if_neg (nI_pos (by omega)), if_pos (nI_lt hj (by omega)), f3_sets, q_ldI (by omega) (by omega), q_ltP, q_ltP, show (24 : Int32) * nI k + nI j = nI (24 * k + j) from by rw [show (24 : Int32) = nI 24 from by decide, pk_mul, nI_add], q_stI (by omega) (by omega), show nI k * (24 : Int32) + nI j = nI (k * 24 + j) from by rw [show (24 : Int32) = nI 24 from by decide, pk_mul, nI_add], q_stI (by omega) (by omega), q_c1_some]
    refine ⟨_, _, _, _, rfl, rfl, ?_⟩
    intro v hv
    obtain ⟨d1, d2, d3⟩ := H v hv
    refine ⟨d1, d2, fun i hi => ?_⟩
    have := d1.2
    by_cases q : v = k ∧ i = j
    · obtain ⟨rfl, rfl⟩ := q
      rw [pk_us, pk_us]
    · rw [pk_un (by omega), pk_un (by omega)]
      exact d3 i hi
theorem mv_r {n : Nat} {E bits hsz : Nat → Int32} {k i m : Nat} (hk : k ≤ 3) (hi : i + m ≤ 24) (K : (Nat → Int32) → (Nat → Int32) → Option (Int32 × (Nat → Int32) × (Nat → Int32) × (Nat → Int32))) (hn : 4100 ≤ n) {o j : Nat} (num : Nat → Int32) : ∀ (r c kk : Nat) (aside : Nat → Int32), c + r = m → r < kk → (∀ q, q < c → aside q = num (24 * k + i + q)) → ∃ aside', f7_move_115 n bits hsz kk (nI k) (nI i) (nI o) (nI j) (nI m) (nI c) E num aside = f7_move_152 n bits hsz n (nI o) (nI j) (nI m) 0 E num aside' ∧ ∀ q, q < m → aside' q = num (24 * k + i + q) := by
  intro r
  induction r with
  | zero =>
    intro c kk aside g1 g2 g3
    obtain ⟨kk, rfl⟩ : ∃ q, kk = q + 1 := ⟨kk - 1, by omega⟩
    refine ⟨aside, ?_, fun q hq => g3 q (by omega)⟩
    rw [f7_move_115.eq_2, if_pos (nI_le (by omega) (by omega))]
  | succ r ih =>
    intro c kk aside g1 g2 g3
    obtain ⟨kk, rfl⟩ : ∃ q, kk = q + 1 := ⟨kk - 1, by omega⟩
    obtain ⟨aside', a1, a2⟩ := ih (c + 1) kk (upd aside c (num (24 * k + i + c))) (by omega) (by omega) (by
      intro q hq
      by_cases e : q = c
      · rw [e, pk_us]
      · rw [pk_un e]; exact g3 q (by omega))
    refine ⟨aside', ?_, a2⟩
    rw [f7_move_115.eq_2, if_neg (nI_ge (by omega) (by omega)), show (24 : Int32) * nI k + nI i + nI c = nI (24 * k + i + c) from by rw [show (24 : Int32) = nI 24 from by decide, pk_mul, nI_add, nI_add], q_ldI (by omega) (by omega), q_stI (by omega) (by omega), q_ltP, nI_1]
    exact a1
theorem mv_w {n : Nat} {E bits hsz aside : Nat → Int32} {o j m : Nat} (ho : o ≤ 3) (hj : j + m ≤ 24) : ∀ (r c kk : Nat) (num : Nat → Int32), c + r = m → r < kk → ∃ num', f7_move_152 n bits hsz kk (nI o) (nI j) (nI m) (nI c) E num aside = some (nI m, E, num', aside) ∧ (∀ q, c ≤ q → q < m → num' (24 * o + j + q) = aside q) ∧ ∀ q, (q < 24 * o + j + c ∨ 24 * o + j + m ≤ q) → num' q = num q := by
  intro r
  induction r with
  | zero =>
    intro c kk num g1 g2
    obtain ⟨kk, rfl⟩ : ∃ q, kk = q + 1 := ⟨kk - 1, by omega⟩
    refine ⟨num, ?_, fun q a b => absurd b (by omega), fun _ _ => rfl⟩
    rw [f7_move_152.eq_2, if_pos (nI_le (by omega) (by omega))]
  | succ r ih =>
    intro c kk num g1 g2
    obtain ⟨kk, rfl⟩ : ∃ q, kk = q + 1 := ⟨kk - 1, by omega⟩
    obtain ⟨num', a1, a2, a3⟩ := ih (c + 1) kk (upd num (24 * o + j + c) (aside c)) (by omega) (by omega)
    refine ⟨num', ?_, ?_, ?_⟩
    · rw [f7_move_152.eq_2, if_neg (nI_ge (by omega) (by omega)), q_ldI (by omega) (by omega), show (24 : Int32) * nI o + nI j + nI c = nI (24 * o + j + c) from by rw [show (24 : Int32) = nI 24 from by decide, pk_mul, nI_add, nI_add], q_stI (by omega) (by omega), q_ltP, nI_1]
      exact a1
    · intro q b1 b2
      by_cases e : q = c
      · rw [e, a3 _ (by omega), pk_us]
      · exact a2 q (by omega) b2
    · intro q b
      rw [a3 q (by omega), pk_un (by omega)]
theorem k_hold {hsz : Nat → Int32} {k : Nat} (hk : k ≤ 3) (h : isN hsz k 24) (i m : Int32) : (∃ a b, i = nI a ∧ m = nI b ∧ a + b ≤ nv hsz k ∧ f3_hold (nI k) i m hsz = some (nI 1)) ∨ (f3_hold (nI k) i m hsz = some (nI 0) ∧ (i < 0 ∨ m < 0 ∨ (¬ i < 0 ∧ ¬ m < 0 ∧ nI (nv hsz k) - m < i))) := by
  have h24 := h.2
  unfold f3_hold
  simp (disch := omega) only [↓q_ldI]
  rw [h.1]
  by_cases g1 : i < 0
  · rw [if_pos g1]; exact Or.inr ⟨rfl, Or.inl g1⟩
  rw [if_neg g1]
  by_cases g2 : m < 0
  · rw [if_pos g2]; exact Or.inr ⟨rfl, Or.inr (Or.inl g2)⟩
  rw [if_neg g2]
  obtain ⟨a, ha, rfl⟩ := nI_of g1
  obtain ⟨b, hb, rfl⟩ := nI_of g2
  have small : nv hsz k < b → nI (nv hsz k) - nI b < nI a := by
    intro q
    refine Int32.lt_iff_toInt_lt.mpr ?_
    have e : (nI (nv hsz k) - nI b).toInt = (nv hsz k : Int) - b := by
      rw [Int32.toInt_sub, nI_toInt (by omega), nI_toInt (by omega), Int.bmod_eq_of_le (by omega) (by omega)]
    rw [e, nI_toInt ha]
    omega
  by_cases g3 : nv hsz k < b
  · rw [if_pos (nI_lt g3 hb)]
    exact Or.inr ⟨rfl, Or.inr (Or.inr ⟨g1, g2, small g3⟩)⟩
  rw [if_neg (nI_nlt (by omega) (by omega)), pk_sub (by omega)]
  by_cases g4 : nv hsz k - b < a
  · rw [if_pos (nI_lt g4 ha)]
    exact Or.inr ⟨rfl, Or.inr (Or.inr ⟨g1, g2, nI_lt g4 ha⟩)⟩
  rw [if_neg (nI_nlt (by omega) (by omega))]
  exact Or.inl ⟨a, b, rfl, rfl, by omega, rfl⟩
theorem p_move {n : Nat} {E bits hsz num hnum aside : Nat → Int32} (hn : 4100 ≤ n) (H : SH bits hsz num hnum) (x y z u w : Int32) : ∃ a E' num' hnum' aside', f7_move n x y z u w E bits hsz num aside = some (a, E', num', aside') ∧ f6_move x y z u w E bits hsz hnum = some (a, E', hnum') ∧ SH bits hsz num' hnum' := by
  unfold f7_move f6_move
  rcases she_cases x with ⟨k, hk, rfl, h1, h2⟩ | ⟨h1, h2⟩
  rotate_left
  · rw [h1, h2, q_c_some, q_c_some, if_pos i0, if_pos i0, f7_move_14, f6_move_14, (r_err E).1, (k_err E).1, q_c2_er, q_c2_er]
    exact ⟨_, _, _, _, _, rfl, rfl, H⟩
  rw [h1, h2, q_c_some, q_c_some, if_neg i1, if_neg i1]
  rcases she_cases z with ⟨o, ho, rfl, h1, h2⟩ | ⟨h1, h2⟩
  rotate_left
  · rw [h1, h2, q_c_some, q_c_some, if_pos i0, if_pos i0, f7_move_14, f6_move_14, (r_err E).1, (k_err E).1, q_c2_er, q_c2_er]
    exact ⟨_, _, _, _, _, rfl, rfl, H⟩
  rw [h1, h2, q_c_some, q_c_some, if_neg i1, if_neg i1]
  simp (disch := omega) only [↓q_ldI]
  by_cases b0 : bits k = 0
  · rw [if_pos b0, if_pos b0, f7_move_38, f6_move_44, (r_err E).2.1, (k_err E).2.1, q_c2_er, q_c2_er]
    exact ⟨_, _, _, _, _, rfl, rfl, H⟩
  rw [if_neg b0, if_neg b0]
  by_cases b1 : bits o = 0
  · rw [if_pos b1, if_pos b1, f7_move_38, f6_move_44, (r_err E).2.1, (k_err E).2.1, q_c2_er, q_c2_er]
    exact ⟨_, _, _, _, _, rfl, rfl, H⟩
  rw [if_neg b1, if_neg b1]
  by_cases b2 : bits k = bits o
  rotate_left
  · rw [if_neg b2, if_neg b2, (r_err E).2.2.2.2.1, (k_err E).2.2.2.2.1, q_c2_er, q_c2_er]
    exact ⟨_, _, _, _, _, rfl, rfl, H⟩
  rw [if_pos b2, if_pos b2]
  obtain ⟨c1, c2, c3⟩ := H k hk
  obtain ⟨d1, d2, d3⟩ := H o ho
  have c24 := c1.2
  have d24 := d1.2
  have bad7 : f7_move_106 n bits hsz E num aside = some ((er E 1).1, (er E 1).2, num, aside) := by rw [f7_move_106, (r_err E).1, q_c2_er]
  have bad6 : f6_move_106 bits hsz E hnum = some ((er E 1).1, (er E 1).2, hnum) := by rw [f6_move_106, (k_err E).1, q_c2_er]
  rw [c1.1, d1.1, bad7, bad6]
  rcases k_hold hk c1 y w with ⟨i, m, rfl, rfl, im, g⟩ | ⟨g, hb⟩
  rotate_left
  · rw [g, q_c_some, if_pos i0]
    refine ⟨_, _, _, _, aside, ?_, rfl, H⟩
    rcases hb with hb | hb | ⟨p1, p2, hb⟩
    · rw [if_pos hb, ite_self]
    · rw [if_pos hb]
    · rw [if_neg p2, if_neg p1, if_pos hb, ite_self]
  rw [g, q_c_some, if_neg i1, if_neg (nI_pos (n := m) (by omega)), if_neg (nI_pos (n := i) (by omega)), pk_sub (by omega), if_neg (nI_nlt (by omega) (by omega))]
  rcases k_hold ho d1 u (nI m) with ⟨j, m2, rfl, em, jm, g⟩ | ⟨g, hb⟩
  rotate_left
  · rw [g, q_c_some, if_pos i0]
    refine ⟨_, _, _, _, aside, ?_, rfl, H⟩
    rcases hb with hb | hb | ⟨p1, p2, hb⟩
    · rw [if_pos hb]
    · exact absurd hb (nI_pos (by omega))
    · rw [if_neg p1, if_neg (Int32.not_le.mpr hb)]
  have em2 : m = m2 := by
    have e1 := congrArg Int32.toNatClampNeg em
    rw [nI_clamp (by omega), nI_clamp (by omega)] at e1
    exact e1
  subst em2
  rw [g, q_c_some, if_neg i1, if_neg (nI_pos (n := j) (by omega)), pk_sub (by omega), if_pos (nI_le (by omega) (by omega)), f3_copies]
  obtain ⟨as1, r1, r2⟩ := mv_r (n := n) (E := E) (bits := bits) (hsz := hsz) (k := k) (i := i) (m := m) (o := o) (j := j) hk (by omega) (fun _ _ => none) hn num m 0 n aside (by omega) (by omega) (fun q hq => absurd hq (Nat.not_lt_zero q))
  obtain ⟨num', w1, w2, w3⟩ := mv_w (n := n) (E := E) (bits := bits) (hsz := hsz) (aside := as1) (o := o) (j := j) (m := m) ho (by omega) m 0 n num (by omega) (by omega)
  rw [show f7_move_115 n bits hsz n (nI k) (nI i) (nI o) (nI j) (nI m) 0 E num aside = _ from r1, show f7_move_152 n bits hsz n (nI o) (nI j) (nI m) 0 E num as1 = _ from w1, show nI k * (24 : Int32) + nI i = nI (k * 24 + i) from by rw [show (24 : Int32) = nI 24 from by decide, pk_mul, nI_add], show nI o * (24 : Int32) + nI j = nI (o * 24 + j) from by rw [show (24 : Int32) = nI 24 from by decide, pk_mul, nI_add], q_cpI (by omega) (by omega) (by omega) (by omega), q_c1_some]
  refine ⟨_, _, _, _, _, rfl, rfl, ?_⟩
  intro v hv
  obtain ⟨f1, f2, f3⟩ := H v hv
  refine ⟨f1, f2, fun q hq => ?_⟩
  have f24 := f1.2
  by_cases hin : v = o ∧ j ≤ q ∧ q < j + m
  · obtain ⟨rfl, a1, a2⟩ := hin
    rw [pk_cpy_in (by omega) (by omega)]
    have := w2 (q - j) (by omega) (by omega)
    rw [show 24 * v + j + (q - j) = 24 * v + q by omega] at this
    rw [this, r2 (q - j) (by omega), show 24 * k + i + (q - j) = 24 * k + (i + (q - j)) by omega, c3 (i + (q - j)) (by omega)]
    congr 1; omega
  · rw [pk_cpy_out (by omega), w3 _ (by omega)]
    exact f3 q hq
