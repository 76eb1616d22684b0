/-! ===== what is told of acts and versions; waiting, scores, worths ===== -/
theorem p_actIs {s kinds writers minutes matters undoers scores sizes cells : Nat → Int32} (I : IV s) (R : RA s kinds writers minutes matters undoers scores sizes cells) {n : Nat} {E ub : Nat → Int32} (hn : 4100 ≤ n) (x y : Int32) : ∃ a E' ub', f7_actIs n x y s E ub = some (a, E', ub') ∧ f6_actIs x y (nI (dn s)) E kinds writers minutes matters undoers scores = some (a, E') := by
  have hd := I.doneB
  unfold f7_actIs f6_actIs
  rcases act_cases I x with ⟨v, hv, rfl, h1, h2⟩ | ⟨h1, h2⟩
  rotate_left
  · rw [h1, h2, q_c_some, q_c_some, if_pos i0, if_pos i0, f7_actIs_17, (r_err E).1, (k_err E).1, q_c2_er, q_c2_er]
    exact ⟨_, _, _, rfl, rfl⟩
  rw [h1, h2, q_c_some, q_c_some, if_neg i1, if_neg i1]
  rcases in_cases y 5 (by omega) with ⟨c, hc, rfl⟩ | h
  rotate_left
  · have ne : ∀ j : Nat, j ≤ 5 → ¬ y = nI j := by
      intro j hj q
      rw [q] at h
      rcases h with h | h
      · exact absurd h (nI_nlt (by omega) (by omega))
      · exact absurd h (nI_nlt (by omega) (by omega))
    rw [show f7_in y 0 5 = _ from r_inF h, q_c_some, if_pos i0, if_neg (show ¬ y = 0 from ne 0 (by omega)), if_neg (show ¬ y = 1 from ne 1 (by omega)), if_neg (show ¬ y = 2 from ne 2 (by omega)), if_neg (show ¬ y = 3 from ne 3 (by omega)), if_neg (show ¬ y = 4 from ne 4 (by omega)), if_neg (show ¬ y = 5 from ne 5 (by omega)), f7_actIs_17, (r_err E).1, (k_err E).1, q_c2_er, q_c2_er]
    exact ⟨_, _, _, rfl, rfl⟩
  rw [show f7_in (nI c) 0 5 = _ from r_inT 0 5 c (Nat.zero_le _) hc (by omega), q_c_some, if_neg i1]
  obtain rfl | rfl | rfl | rfl | rfl | rfl : c = 0 ∨ c = 1 ∨ c = 2 ∨ c = 3 ∨ c = 4 ∨ c = 5 := by omega
  · rw [if_neg (show ¬ nI 0 = 4 by decide), if_neg (show ¬ nI 0 = 5 by decide), f7_actIs_51, r_actIs1 v 0 (by omega), q_c_some, if_pos (show nI 0 = 0 from rfl), q_ldI (by omega) (by omega), R.kind hv]
    exact ⟨_, _, _, rfl, rfl⟩
  · rw [if_neg (show ¬ nI 1 = 4 by decide), if_neg (show ¬ nI 1 = 5 by decide), f7_actIs_51, r_actIs1 v 1 (by omega), q_c_some, if_neg (show ¬ nI 1 = 0 by decide), if_pos (show nI 1 = 1 from rfl), q_ldI (by omega) (by omega), R.writer hv]
    exact ⟨_, _, _, rfl, rfl⟩
  · rw [if_neg (show ¬ nI 2 = 4 by decide), if_neg (show ¬ nI 2 = 5 by decide), f7_actIs_51, r_actIs1 v 2 (by omega), q_c_some, if_neg (show ¬ nI 2 = 0 by decide), if_neg (show ¬ nI 2 = 1 by decide), if_pos (show nI 2 = 2 from rfl), q_ldI (by omega) (by omega), R.minute hv]
    exact ⟨_, _, _, rfl, rfl⟩
  · rw [if_neg (show ¬ nI 3 = 4 by decide), if_neg (show ¬ nI 3 = 5 by decide), f7_actIs_51, r_actIs1 v 3 (by omega), q_c_some, if_neg (show ¬ nI 3 = 0 by decide), if_neg (show ¬ nI 3 = 1 by decide), if_neg (show ¬ nI 3 = 2 by decide), if_pos (show nI 3 = 3 from rfl), q_ldI (by omega) (by omega), R.matter hv]
    exact ⟨_, _, _, rfl, rfl⟩
  · obtain ⟨g, g1, g2⟩ := r_undone I hn ub
    rw [if_pos (show nI 4 = 4 from rfl), g1, q_c1_some, q_ldI (by omega) (by omega), g2 v hv, if_neg (show ¬ nI 4 = 0 by decide), if_neg (show ¬ nI 4 = 1 by decide), if_neg (show ¬ nI 4 = 2 by decide), if_neg (show ¬ nI 4 = 3 by decide), if_pos (show nI 4 = 4 from rfl), q_ldI (by omega) (by omega), R.undoer hv]
    exact ⟨_, _, _, rfl, rfl⟩
  · rw [if_neg (show ¬ nI 5 = 4 by decide), if_pos (show nI 5 = 5 from rfl), f7_actIs_51, show f7_actIs1 (nI v) 4 s = _ from r_actIs1 v 4 (by omega), q_c_some, if_neg (show ¬ nI 5 = 0 by decide), if_neg (show ¬ nI 5 = 1 by decide), if_neg (show ¬ nI 5 = 2 by decide), if_neg (show ¬ nI 5 = 3 by decide), if_neg (show ¬ nI 5 = 4 by decide), if_pos (show nI 5 = 5 from rfl), q_ldI (by omega) (by omega), R.score hv]
    exact ⟨_, _, _, rfl, rfl⟩
theorem p_as {s kinds writers minutes matters undoers scores sizes cells : Nat → Int32} (I : IV s) (R : RA s kinds writers minutes matters undoers scores sizes cells) {n : Nat} {E : Nat → Int32} (hn : 4100 ≤ n) (x y : Int32) : ∃ a E', f7_as x y s E = some (a, E') ∧ f6_as n x y (nI (dn s)) E kinds writers = some (a, E') := by
  have hd := I.doneB
  unfold f7_as f6_as
  rcases act_cases I x with ⟨v, hv, rfl, h1, h2⟩ | ⟨h1, h2⟩
  rotate_left
  · rw [h1, h2, q_c_some, q_c_some, if_pos i0, if_pos i0, f7_as_18, f6_as_18, (r_err E).1, (k_err E).1, q_c2_er]
    exact ⟨_, _, rfl, rfl⟩
  rw [h1, h2, q_c_some, q_c_some, if_neg i1, if_neg i1]
  by_cases hlo : y < 0
  · rw [r_inF (Or.inl hlo), q_c_some, if_pos i0, if_pos hlo, f7_as_18, f6_as_18, (r_err E).1, (k_err E).1, q_c2_er]
    exact ⟨_, _, rfl, rfl⟩
  rw [if_neg hlo]
  by_cases hhi : y < 8
  rotate_left
  · have h7 : (7 : Int32) < y := Int32.lt_of_lt_of_le (by decide) (Int32.not_lt.mp hhi)
    rw [r_inF (Or.inr h7), q_c_some, if_pos i0, if_neg hhi, f7_as_18, f6_as_18, (r_err E).1, (k_err E).1, q_c2_er]
    exact ⟨_, _, rfl, rfl⟩
  obtain ⟨c, hc, rfl⟩ : ∃ c, c < 8 ∧ y = nI c := by
    rcases pk_ix y (n := 8) (by omega) with q | q | ⟨j, hj, e⟩
    · exact absurd q hlo
    · exact absurd hhi (Int32.not_lt.mpr q)
    · exact ⟨j, hj, e⟩
  have hk := I.kindB hv
  rw [show f7_in (nI c) 0 7 = _ from r_inT 0 7 c (Nat.zero_le _) (by omega) (by omega), q_c_some, if_neg i1, show f7_actIs1 (nI v) 0 s = _ from r_actIs1 v 0 (by omega), q_c_some, r_isUnder, q_c_some, if_pos hhi, q_ldI (by omega) (by omega), R.kind hv, I.kind hv, k_isUnder (by omega) hk (by omega), q_c_some]
  by_cases hU : UD (nI (nv s (10 + 5 * v + 0))) (nI c)
  · rw [if_pos hU, if_neg (show ¬ (1 : Int32) = 0 by decide), show f7_actIs1 (nI v) 1 s = _ from r_actIs1 v 1 (by omega), q_c_some, if_pos hU, if_neg i1, q_ldI (by omega) (by omega), R.writer hv]
    exact ⟨_, _, rfl, rfl⟩
  · rw [if_neg hU, if_pos rfl, if_neg hU, if_pos i0, (r_err E).2.2.2.2.1, (k_err E).2.2.2.2.1, q_c2_er, q_c2_er]
    exact ⟨_, _, rfl, rfl⟩
theorem p_word {s kinds writers minutes matters undoers scores sizes cells : Nat → Int32} (I : IV s) (R : RA s kinds writers minutes matters undoers scores sizes cells) {E : Nat → Int32} (x y : Int32) : ∃ a E', f7_word x y s E = some (a, E') ∧ f6_word x y (nI (dn s)) E sizes cells = some (a, E') := by
  have hd := I.doneB
  unfold f7_word f6_word
  rcases ver_cases I x with ⟨v, hv, rfl, h1, h2⟩ | ⟨h1, h2⟩
  rotate_left
  · rw [h1, h2, q_c_some, q_c_some, if_pos i0, if_pos i0, f7_word_23, f6_word_29, (r_err E).1, (k_err E).1, q_c2_er]
    exact ⟨_, _, rfl, rfl⟩
  have z := I.sizeB hv
  rw [h1, h2, q_c_some, q_c_some, if_neg i1, if_neg i1, r_sizeOf v (by omega), q_c_some, q_c_some, I.size hv]
  simp (disch := omega) only [↓q_ldI]
  rw [R.size hv, I.size hv]
  by_cases hlo : y < -1
  · rw [r_inF (Or.inl hlo), q_c_some, if_pos i0, if_pos hlo, f7_word_23, f6_word_29, (r_err E).1, (k_err E).1, q_c2_er]
    exact ⟨_, _, rfl, rfl⟩
  rw [if_neg hlo]
  rcases pk_ix y (n := nv s (310 + v)) (by omega) with h | h | ⟨j, hj, rfl⟩
  · have hm : y ≤ nI (nv s (310 + v)) - 1 := by
      rcases Nat.eq_zero_or_pos (nv s (310 + v)) with e | e
      · rw [e]
        refine Int32.not_lt.mp (fun q => ?_)
        rcases pk_ix y (n := 1) (by omega) with a | a | ⟨j, hj, rfl⟩
        · have h1 := Int32.lt_iff_toInt_lt.mp q
          have h2 := Int32.lt_iff_toInt_lt.mp a
          rw [show (nI 0 - 1).toInt = -1 from by decide] at h1
          rw [show (0 : Int32).toInt = 0 from by decide] at h2
          omega
        · exact absurd (Int32.lt_of_lt_of_le h (Int32.le_trans (by decide) a)) (Int32.lt_irrefl)
        · exact absurd h (nI_pos (by omega))
      · obtain ⟨u, eu⟩ : ∃ u, nv s (310 + v) = u + 1 := ⟨nv s (310 + v) - 1, by omega⟩
        rw [eu, nI_pred]
        exact Int32.le_of_lt (Int32.lt_of_lt_of_le h (nI_pos' (by omega)))
    rw [r_inY (Int32.not_lt.mp hlo) hm, q_c_some, if_neg i1, if_neg (Int32.not_le.mpr h), if_pos (Int32.lt_of_lt_of_le h (nI_pos' (by omega)))]
    simp only [Int32.not_le.mpr h, if_false]
    exact ⟨_, _, rfl, rfl⟩
  · have h2 : nI (nv s (310 + v)) - 1 < y := by
      rcases Nat.eq_zero_or_pos (nv s (310 + v)) with e | e
      · rw [e] at h ⊢
        exact Int32.lt_of_lt_of_le (by decide) h
      · obtain ⟨u, eu⟩ : ∃ u, nv s (310 + v) = u + 1 := ⟨nv s (310 + v) - 1, by omega⟩
        rw [eu] at h ⊢
        rw [nI_pred]
        exact Int32.lt_of_lt_of_le (nI_lt (by omega) (by omega)) h
    rw [r_inF (Or.inr h2), q_c_some, if_pos i0, if_neg (Int32.not_lt.mpr h), f7_word_23, f6_word_29, (r_err E).1, (k_err E).1, q_c2_er]
    exact ⟨_, _, rfl, rfl⟩
  · have hm : nI j ≤ nI (nv s (310 + v)) - 1 := by
      obtain ⟨u, eu⟩ : ∃ u, nv s (310 + v) = u + 1 := ⟨nv s (310 + v) - 1, by omega⟩
      rw [eu, nI_pred]
      exact nI_le (by omega) (by omega)
    rw [r_inY (Int32.not_lt.mp hlo) hm, q_c_some, if_neg i1, if_pos (nI_pos' (by omega)), if_pos (nI_lt hj (by omega)), r_wordAt v j (by omega), q_c_some]
    simp only [show (0 : Int32) ≤ nI j from nI_pos' (by omega), if_true, k_wordAt I R hv hj, q_c_some]
    exact ⟨_, _, rfl, rfl⟩
theorem p_origin {s kinds writers minutes matters undoers scores sizes cells : Nat → Int32} (I : IV s) (R : RA s kinds writers minutes matters undoers scores sizes cells) {E : Nat → Int32} (x y : Int32) : ∃ a E', f7_origin x y s E = some (a, E') ∧ f6_origin x y (nI (dn s)) E sizes cells = some (a, E') := by
  have hd := I.doneB
  unfold f7_origin f6_origin
  rcases ver_cases I x with ⟨v, hv, rfl, h1, h2⟩ | ⟨h1, h2⟩
  rotate_left
  · rw [h1, h2, q_c_some, q_c_some, if_pos i0, if_pos i0, f7_origin_32, f6_origin_28, (r_err E).1, (k_err E).1, q_c2_er, q_c2_er]
    exact ⟨_, _, rfl, rfl⟩
  have z := I.sizeB hv
  rw [h1, h2, q_c_some, q_c_some, if_neg i1, if_neg i1, r_sizeOf v (by omega), q_c_some, I.size hv]
  simp (disch := omega) only [↓q_ldI]
  rw [R.size hv, I.size hv]
  rcases pk_ix y (n := nv s (310 + v)) (by omega) with h | h | ⟨j, hj, rfl⟩
  · rw [r_inF (Or.inl h), q_c_some, if_pos i0, if_pos h, f7_origin_32, f6_origin_28, (r_err E).1, (k_err E).1, q_c2_er, q_c2_er]
    exact ⟨_, _, rfl, rfl⟩
  · have h2 : nI (nv s (310 + v)) - 1 < y := by
      rcases Nat.eq_zero_or_pos (nv s (310 + v)) with e | e
      · rw [e] at h ⊢
        exact Int32.lt_of_lt_of_le (by decide) h
      · obtain ⟨u, eu⟩ : ∃ u, nv s (310 + v) = u + 1 := ⟨nv s (310 + v) - 1, by omega⟩
        rw [eu] at h ⊢
        rw [nI_pred]
        exact Int32.lt_of_lt_of_le (nI_lt (by omega) (by omega)) h
    rw [r_inF (Or.inr h2), q_c_some, if_pos i0, if_neg (Int32.not_lt.mpr h), ite_self, f7_origin_32, f6_origin_28, (r_err E).1, (k_err E).1, q_c2_er, q_c2_er]
    exact ⟨_, _, rfl, rfl⟩
  · have hm : nI j ≤ nI (nv s (310 + v)) - 1 := by
      obtain ⟨u, eu⟩ : ∃ u, nv s (310 + v) = u + 1 := ⟨nv s (310 + v) - 1, by omega⟩
      rw [eu, nI_pred]
      exact nI_le (by omega) (by omega)
    rw [r_inY (nI_pos' (by omega)) hm, q_c_some, if_neg i1, if_neg (nI_pos (by omega)), if_pos (nI_lt hj (by omega)), r_originAt v j (by omega), q_c_some, k_originAt I R hv hj, q_c_some]
    exact ⟨_, _, rfl, rfl⟩
theorem p_tell {s : Nat → Int32} (I : IV s) {E waiting : Nat → Int32} (hW : ∀ i, i < 24 → waiting i = s (3950 + i)) (x : Int32) : ∃ a E' s' waiting', f7_tell x s E = some (a, s', E') ∧ f6_tell x (s 5) E waiting = some (a, s' 5, E', waiting') ∧ (∀ i, i < 24 → waiting' i = s' (3950 + i)) ∧ isN s' 5 24 ∧ ∀ j, j ≠ 5 → (j < 3950 ∨ 3974 ≤ j) → s' j = s j := by
  have h5 := I.1.2.2.2.2
  have hb := h5.2
  unfold f7_tell f6_tell
  rw [q_ldE 5 z_5 (by omega) (by omega), h5.1]
  by_cases h : nv s 5 = 24
  · rw [if_pos (show nI (nv s 5) = 24 by rw [h]; rfl), if_neg (show ¬ nI (nv s 5) < 24 from nI_nlt (b := 24) (by omega) (by omega)), (r_err E).2.2.2.1, (k_err E).2.2.2.1, q_c2_er, q_c2_er, ← h5.1]
    exact ⟨_, _, s, waiting, rfl, rfl, hW, h5, fun _ _ _ => rfl⟩
  · rw [if_neg (show ¬ nI (nv s 5) = 24 from fun q => h ((nI_eq (a := nv s 5) (b := 24) (by omega) (by omega)).mp q)), if_pos (show nI (nv s 5) < 24 from nI_lt (b := 24) (by omega) (by omega)), q_ldE 5 z_5 (by omega) (by omega), h5.1, show (3950 : Int32) + nI (nv s 5) = nI (3950 + nv s 5) from nI_add 3950 _, q_stI (by omega) (by omega), q_ldE 5 z_5 (by omega) (by omega), pk_un (by omega), h5.1, nI_1, q_stE 5 z_5 (by omega) (by omega), q_ldE 5 z_5 (by omega) (by omega), pk_us, q_stI (by omega) (by omega), q_ltP]
    have e5 : upd (upd s (3950 + nv s 5) x) 5 (nI (nv s 5 + 1)) 5 = nI (nv s 5 + 1) := pk_us
    refine ⟨_, _, upd (upd s (3950 + nv s 5) x) 5 (nI (nv s 5 + 1)), upd waiting (nv s 5) x, rfl, by rw [e5], ?_, isN.mk _ e5 (by omega) (by omega), fun j a b => by rw [pk_un a, pk_un (by omega)]⟩
    intro i hi
    by_cases q : i = nv s 5
    · rw [q, pk_us, pk_un (by omega), pk_us]
    · rw [pk_un q, pk_un (by omega), pk_un (by omega)]
      exact hW i hi
theorem p_score {s kinds writers minutes matters undoers scores sizes cells : Nat → Int32} (I : IV s) (R : RA s kinds writers minutes matters undoers scores sizes cells) {E : Nat → Int32} (x y : Int32) : ∃ a E' s' scores', f7_score x y s E = some (a, s', E') ∧ f6_score x y (nI (dn s)) E scores = some (a, E', scores') ∧ IV s' ∧ RA s' kinds writers minutes matters undoers scores' sizes cells ∧ dn s' = dn s ∧ ∀ j, (j < 10 ∨ 310 ≤ j) → s' j = s j := by
  have hd := I.doneB
  unfold f7_score f6_score
  rcases act_cases I x with ⟨v, hv, rfl, h1, h2⟩ | ⟨h1, h2⟩
  rotate_left
  · rw [h1, h2, q_c_some, q_c_some, if_pos i0, if_pos i0, f7_score_18, f6_score_19, (r_err E).1, (k_err E).1, q_c2_er, q_c2_er]
    exact ⟨_, _, s, scores, rfl, rfl, I, R, rfl, fun _ _ => rfl⟩
  rw [h1, h2, q_c_some, q_c_some, if_neg i1, if_neg i1]
  by_cases hlo : y < -1
  · rw [r_inF (Or.inl hlo), q_c_some, if_pos i0, if_pos hlo, f7_score_18, f6_score_19, (r_err E).1, (k_err E).1, q_c2_er, q_c2_er]
    exact ⟨_, _, s, scores, rfl, rfl, I, R, rfl, fun _ _ => rfl⟩
  rw [if_neg hlo]
  by_cases hhi : y ≤ 100
  rotate_left
  · rw [r_inF (Or.inr (Int32.not_le.mp hhi)), q_c_some, if_pos i0, if_neg hhi, f7_score_18, f6_score_19, (r_err E).1, (k_err E).1, q_c2_er, q_c2_er]
    exact ⟨_, _, s, scores, rfl, rfl, I, R, rfl, fun _ _ => rfl⟩
  rw [r_inY (Int32.not_lt.mp hlo) hhi, q_c_some, if_neg i1, if_pos hhi, show f7_actIs1 (nI v) 4 s = _ from r_actIs1 v 4 (by omega), q_c_some, show (10 : Int32) + 5 * nI v + 4 = nI (10 + 5 * v + 4) from by rw [show (10 : Int32) = nI 10 from by decide, show (5 : Int32) = nI 5 from by decide, show (4 : Int32) = nI 4 from by decide, pk_mul, nI_add, nI_add], q_stI (by omega) (by omega), q_ldI (by omega) (by omega), R.score hv, q_stI (by omega) (by omega)]
  have e1 : dn (upd s (10 + 5 * v + 4) y) = dn s := nv_congr (pk_un (by omega))
  have ne : ∀ j, j ≠ 10 + 5 * v + 4 → upd s (10 + 5 * v + 4) y j = s j := fun j h => pk_un h
  have eU : ∀ i, i < dn s → UN (upd s (10 + 5 * v + 4) y) (dn s) i = UN s (dn s) i := by
    intro i hi
    refine UN_congr hi (fun w hw => AL_congr (ne _ (by omega)) (ne _ (by omega)) ?_)
    intro j hj
    have := I.sizeB (v := i) (by omega)
    exact ⟨ne _ (by omega), ne _ (by omega)⟩
  refine ⟨_, _, upd s (10 + 5 * v + 4) y, upd scores v y, rfl, rfl, ?_, ?_, e1, fun j h => pk_un (by omega)⟩
  · refine ⟨⟨isN_congr (ne _ (by omega)) I.1.1, isN_congr (ne _ (by omega)) I.1.2.1, isN_congr (ne _ (by omega)) I.1.2.2.1, isN_congr (ne _ (by omega)) I.1.2.2.2.1, isN_congr (ne _ (by omega)) I.1.2.2.2.2⟩, ⟨?_, ?_, ?_, ?_⟩, ⟨?_, ?_, ?_⟩⟩
    · intro i hi; rw [e1] at hi; exact isN_congr (ne _ (by omega)) (I.2.1.1 i hi)
    · intro i hi; rw [e1] at hi; exact isN_congr (ne _ (by omega)) (I.2.1.2.1 i hi)
    · intro i hi; rw [e1] at hi; rw [nv_congr (ne 0 (by omega))]; exact isN_congr (ne _ (by omega)) (I.2.1.2.2.1 i hi)
    · intro i j hij hj
      rw [e1] at hj
      rw [nv_congr (ne (10 + 5 * i + 2) (by omega)), nv_congr (ne (10 + 5 * j + 2) (by omega))]
      exact I.mono hij hj
    · intro u hu; rw [e1] at hu; exact isN_congr (ne _ (by omega)) (I.2.2.1 u hu)
    · intro u i hu hi
      rw [e1] at hu; rw [nv_congr (ne (310 + u) (by omega))] at hi
      rw [nv_congr (ne (380 + 20 * u + i) (by omega))]
      exact ⟨isN_congr (ne _ (by omega)) (I.2.2.2.1 u i hu hi).1, (I.2.2.2.1 u i hu hi).2⟩
    · intro u i hu hi
      rw [e1] at hu; rw [nv_congr (ne (310 + u) (by omega))] at hi
      rw [nv_congr (ne (1600 + 20 * u + i) (by omega)), ne _ (by omega)]
      exact I.2.2.2.2 u i hu hi
  · refine ⟨?_, ?_, ?_, ?_, ?_, ?_, ?_, ?_, ?_⟩
    · intro i hi; rw [e1] at hi; rw [ne _ (by omega)]; exact R.kind hi
    · intro i hi; rw [e1] at hi; rw [ne _ (by omega)]; exact R.writer hi
    · intro i hi; rw [e1] at hi; rw [ne _ (by omega)]; exact R.minute hi
    · intro i hi; rw [e1] at hi; rw [ne _ (by omega)]; exact R.matter hi
    · intro i hi; rw [e1] at hi ⊢; rw [eU i hi]; exact R.undoer hi
    · intro i hi
      rw [e1] at hi
      by_cases q : i = v
      · rw [q, pk_us, pk_us]
      · rw [pk_un q, ne _ (by omega)]; exact R.score hi
    · intro u hu; rw [e1] at hu; rw [ne _ (by omega)]; exact R.size hu
    · intro u i hu hi
      rw [e1] at hu; rw [nv_congr (ne (310 + u) (by omega))] at hi
      rw [ne _ (by omega)]; exact R.word hu hi
    · intro u i hu hi
      rw [e1] at hu; rw [nv_congr (ne (310 + u) (by omega))] at hi
      rw [ne _ (by omega)]; exact R.origin hu hi
theorem p_worth {s E worths : Nat → Int32} (hV : ∀ w, w ≤ 60 → worths w = s (2820 + w)) (x y : Int32) : ∃ a E' s' worths', f7_worth x y s E = some (a, s', E') ∧ f6_worth x y E worths = some (a, E', worths') ∧ (∀ w, w ≤ 60 → worths' w = s' (2820 + w)) ∧ ∀ j, (j < 2820 ∨ 2890 ≤ j) → s' j = s j := by
  unfold f7_worth f6_worth
  rcases wd_cases x with ⟨v, v1, v2, rfl, h1, h2⟩ | ⟨h1, h2⟩
  rotate_left
  · rw [h1, h2, q_c_some, q_c_some, if_pos i0, if_pos i0, f7_worth_21, f6_worth_19, (r_err E).1, (k_err E).1, q_c2_er, q_c2_er]
    exact ⟨_, _, s, worths, rfl, rfl, hV, fun _ _ => rfl⟩
  rw [h1, h2, q_c_some, q_c_some, if_neg i1, if_neg i1]
  by_cases hlo : y < -9
  · rw [r_inF (Or.inl hlo), q_c_some, if_pos i0, if_pos hlo, f7_worth_21, f6_worth_19, (r_err E).1, (k_err E).1, q_c2_er, q_c2_er]
    exact ⟨_, _, s, worths, rfl, rfl, hV, fun _ _ => rfl⟩
  rw [if_neg hlo]
  by_cases hhi : y ≤ 9
  rotate_left
  · rw [r_inF (Or.inr (Int32.not_le.mp hhi)), q_c_some, if_pos i0, if_neg hhi, f7_worth_21, f6_worth_19, (r_err E).1, (k_err E).1, q_c2_er, q_c2_er]
    exact ⟨_, _, s, worths, rfl, rfl, hV, fun _ _ => rfl⟩
  rw [r_inY (Int32.not_lt.mp hlo) hhi, q_c_some, if_neg i1, if_pos hhi]
  simp (disch := omega) only [show (2820 : Int32) + nI v = nI (2820 + v) from nI_add 2820 v, ↓q_ldI, ↓q_stI, q_ldI, q_stI]
  rw [hV v v2]
  refine ⟨_, _, _, _, rfl, rfl, ?_, fun j h => pk_un (by omega)⟩
  intro w hw
  by_cases q : w = v
  · rw [q, pk_us, pk_us]
  · rw [pk_un q, pk_un (by omega)]; exact hV w hw
