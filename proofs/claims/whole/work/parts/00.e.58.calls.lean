/-! ===== calls that act ===== -/
theorem r_err (E : Nat → Int32) : f7_error 1 E = some (er E 1) ∧ f7_error 2 E = some (er E 2) ∧ f7_error 3 E = some (er E 3) ∧ f7_error 4 E = some (er E 4) ∧ f7_error 5 E = some (er E 5) ∧ f7_error 6 E = some (er E 6) := ⟨r_error E (k := 1) (by omega), r_error E (k := 2) (by omega), r_error E (k := 3) (by omega), r_error E (k := 4) (by omega), r_error E (k := 5) (by omega), r_error E (k := 6) (by omega)⟩
theorem k_err (E : Nat → Int32) : f6_error 1 E = some (er E 1) ∧ f6_error 2 E = some (er E 2) ∧ f6_error 3 E = some (er E 3) ∧ f6_error 4 E = some (er E 4) ∧ f6_error 5 E = some (er E 5) ∧ f6_error 6 E = some (er E 6) := ⟨k_error E (k := 1) (by omega), k_error E (k := 2) (by omega), k_error E (k := 3) (by omega), k_error E (k := 4) (by omega), k_error E (k := 5) (by omega), k_error E (k := 6) (by omega)⟩
theorem r_inY {x lo hi : Int32} (h1 : lo ≤ x) (h2 : x ≤ hi) : f7_in x lo hi = some (nI 1) := by
  rw [r_in, if_pos ⟨h1, h2⟩]
  rfl
theorem q_c2_er {α : Type} {u : Int32 × (Nat → Int32)} {K : Int32 → (Nat → Int32) → Option α} : q_c2 (some u) K = K u.1 u.2 := by rw [q_c2, q_c_some]
theorem i0 : nI 0 = (0 : Int32) := by decide
theorem i1 : ¬ nI 1 = (0 : Int32) := by decide
theorem i3 : ¬ nI 3 = (0 : Int32) := by decide
theorem i4 : ¬ nI 4 = (0 : Int32) := by decide
theorem p_back {s kinds writers minutes matters undoers scores sizes cells : Nat → Int32} (I : IV s) (R : RA s kinds writers minutes matters undoers scores sizes cells) {lengths codes nW nO named pile ub nc stack E : Nat → Int32} (X : RXA s lengths codes) {n : Nat} {nm : Int32} (hn : 4100 ≤ n) (x y : Int32) : ∃ a E' s' nm' nW' nO' named' pile' ub' kinds2 writers2 minutes2 matters2 undoers2 scores2 sizes2 cells2 nc' stack', f7_back n x y nm s E nW nO named pile ub = some (a, nm', s', E', nW', nO', named', pile', ub') ∧ f6_back n x y (s 0) (s 2) (s 3) (nI (dn s)) E kinds writers minutes matters undoers scores sizes cells codes lengths nc stack = some (a, nI (dn s'), E', kinds2, writers2, minutes2, matters2, undoers2, scores2, sizes2, cells2, nc', stack') ∧ OK s s' lengths codes kinds2 writers2 minutes2 matters2 undoers2 scores2 sizes2 cells2 := by
  have same : OK s s lengths codes kinds writers minutes matters undoers scores sizes cells := ⟨I, R, X, FR.refl s⟩
  have hdb := I.doneB
  unfold f7_back f6_back
  rcases wri_cases x with ⟨w, hw, rfl, h1, h2⟩ | ⟨h1, h2⟩
  rotate_left
  · rw [h1, h2, q_c_some, q_c_some, if_pos i0, if_pos i0]
    simp only [f7_back_15, f6_back_15, (r_err E).1, (k_err E).1, q_c2_er]
    exact ⟨_, _, _, _, _, _, _, _, _, _, _, _, _, _, _, _, _, _, _, rfl, rfl, same⟩
  rw [h1, h2, q_c_some, q_c_some, if_neg i1, if_neg i1]
  rcases ver_cases I y with ⟨v, hv, rfl, h1, h2⟩ | ⟨h1, h2⟩
  rotate_left
  · rw [h1, h2, q_c_some, q_c_some, if_pos i0, if_pos i0]
    simp only [f7_back_15, f6_back_15, (r_err E).1, (k_err E).1, q_c2_er]
    exact ⟨_, _, _, _, _, _, _, _, _, _, _, _, _, _, _, _, _, _, _, rfl, rfl, same⟩
  rw [h1, h2, q_c_some, q_c_some, if_neg i1, if_neg i1]
  obtain ⟨r, nm', pile', nc', stack', hr, m1, m2⟩ := refuse_both (nm := named) (pile := pile) (nc := nc) (stack := stack) I R X (w := w) hn hw
  rw [m1, m2, q_c3_some, q_c3_some]
  rcases hr with rfl | rfl
  · rw [if_pos i0, if_pos rfl, if_neg i3, show f6_error (nI 3) E = _ from (k_err E).2.2.1, (r_err E).2.2.1, q_c2_er, q_c2_er]
    exact ⟨_, _, _, _, _, _, _, _, _, _, _, _, _, _, _, _, _, _, _, rfl, rfl, same⟩
  rw [if_neg i1, if_neg (show ¬ nI 1 = nI 0 by decide), r_isFull I, q_c_some]
  by_cases h60 : dn s = 60
  · rw [if_pos h60, if_pos h60, if_neg i1, if_neg i4, show f6_error (nI 4) E = _ from (k_err E).2.2.2.1, (r_err E).2.2.2.1, q_c2_er, q_c2_er]
    exact ⟨_, _, _, _, _, _, _, _, _, _, _, _, _, _, _, _, _, _, _, rfl, rfl, same⟩
  rw [if_neg h60, if_neg h60, if_pos i0, if_pos i0]
  obtain ⟨s1, kinds1, writers1, minutes1, matters1, undoers1, scores1, sizes1, cells1, nm2, s2, nW2, nO2, named2, pile2, ub2, kinds2, writers2, minutes2, matters2, undoers2, scores2, sizes2, cells2, nc2, stack2, g1, g2, g3, O⟩ := do_back (nW := nW) (nO := nO) (named := nm') (pile := pile') (ub := ub) (nc := nc') (stack := stack') (nm := nm) I R X (w := w) (v := v) (by omega) hn hw hv
  rw [g1, q_c8_some, show f1_putsBack n 2 (nI w) (nI v) 20 (s 0) (nI (dn s)) kinds writers minutes matters undoers scores sizes cells = _ from g2, q_c10_some]
  unfold f6_answered
  rw [g3, q_c11_some, q_c12_some]
  exact ⟨_, _, _, _, _, _, _, _, _, _, _, _, _, _, _, _, _, _, _, rfl, rfl, O⟩
theorem p_talk {s kinds writers minutes matters undoers scores sizes cells : Nat → Int32} (I : IV s) (R : RA s kinds writers minutes matters undoers scores sizes cells) {lengths codes nW nO named pile ub nc stack E : Nat → Int32} (X : RXA s lengths codes) {n : Nat} {nm : Int32} (hn : 4100 ≤ n) (x y : Int32) : ∃ a E' s' nm' nW' nO' named' pile' ub' kinds2 writers2 minutes2 matters2 undoers2 scores2 sizes2 cells2 nc' stack', f7_talk n x y nm s E nW nO named pile ub = some (a, nm', s', E', nW', nO', named', pile', ub') ∧ f6_talk n x y (s 0) (s 2) (s 3) (nI (dn s)) E kinds writers minutes matters undoers scores sizes cells codes lengths nc stack = some (a, nI (dn s'), E', kinds2, writers2, minutes2, matters2, undoers2, scores2, sizes2, cells2, nc', stack') ∧ OK s s' lengths codes kinds2 writers2 minutes2 matters2 undoers2 scores2 sizes2 cells2 := by
  have same : OK s s lengths codes kinds writers minutes matters undoers scores sizes cells := ⟨I, R, X, FR.refl s⟩
  have hdb := I.doneB
  unfold f7_talk f6_talk
  rcases wri_cases x with ⟨w, hw, rfl, h1, h2⟩ | ⟨h1, h2⟩
  rotate_left
  · rw [h1, h2, q_c_some, q_c_some, if_pos i0, if_pos i0]
    simp only [f7_talk_18, f6_talk_19, (r_err E).1, (k_err E).1, q_c2_er]
    exact ⟨_, _, _, _, _, _, _, _, _, _, _, _, _, _, _, _, _, _, _, rfl, rfl, same⟩
  rw [h1, h2, q_c_some, q_c_some, if_neg i1, if_neg i1]
  by_cases hlo : y < 1
  · rw [r_inF (Or.inl hlo), q_c_some, if_pos i0, if_pos hlo]
    simp only [f7_talk_18, f6_talk_19, (r_err E).1, (k_err E).1, q_c2_er]
    exact ⟨_, _, _, _, _, _, _, _, _, _, _, _, _, _, _, _, _, _, _, rfl, rfl, same⟩
  rw [if_neg hlo]
  by_cases hhi : y ≤ 999
  rotate_left
  · rw [r_inF (Or.inr (Int32.not_le.mp hhi)), q_c_some, if_pos i0, if_neg hhi]
    simp only [f7_talk_18, f6_talk_19, (r_err E).1, (k_err E).1, q_c2_er]
    exact ⟨_, _, _, _, _, _, _, _, _, _, _, _, _, _, _, _, _, _, _, rfl, rfl, same⟩
  rw [r_inY (Int32.not_lt.mp hlo) hhi, q_c_some, if_neg i1, if_pos hhi]
  obtain ⟨r, nm', pile', nc', stack', hr, m1, m2⟩ := refuse_both (nm := named) (pile := pile) (nc := nc) (stack := stack) I R X (w := w) hn hw
  rw [m1, m2, q_c3_some, q_c3_some]
  rcases hr with rfl | rfl
  · rw [if_pos i0, if_pos rfl, if_neg i3, show f6_error (nI 3) E = _ from (k_err E).2.2.1, (r_err E).2.2.1, q_c2_er, q_c2_er]
    exact ⟨_, _, _, _, _, _, _, _, _, _, _, _, _, _, _, _, _, _, _, rfl, rfl, same⟩
  rw [if_neg i1, if_neg (show ¬ nI 1 = nI 0 by decide), r_isFull I, q_c_some]
  by_cases h60 : dn s = 60
  · rw [if_pos h60, if_pos h60, if_neg i1, if_neg i4, show f6_error (nI 4) E = _ from (k_err E).2.2.2.1, (r_err E).2.2.2.1, q_c2_er, q_c2_er]
    exact ⟨_, _, _, _, _, _, _, _, _, _, _, _, _, _, _, _, _, _, _, rfl, rfl, same⟩
  rw [if_neg h60, if_neg h60, if_pos i0, if_pos i0]
  obtain ⟨s1, nm1, nW1, nO1, sizes1, cells1, k1, w1, m1, t1, u1, c1, nm2, s2, nW2, nO2, named2, pile2, ub2, kinds2, writers2, minutes2, matters2, undoers2, scores2, sizes2, cells2, nc2, stack2, g1, g2, g3, g4, g5, g6, O⟩ := do_same (nW := nW) (nO := nO) (named := nm') (pile := pile') (ub := ub) (nc := nc') (stack := stack') (nm := nm) (of := y) I R X (k := 7) (w := w) (by omega) hn (by omega) hw
  rw [g1, q_c3_some, show f7_done n 7 (nI w) y nm1 s nW1 nO1 = _ from g2, q_c2_some, g3, q_c8_some]
  unfold f1_talksOf f6_answered
  rw [g4, q_c2_some, show f0_records n 7 (nI w) (s 0) y (nI (dn s)) kinds writers minutes matters undoers scores sizes1 cells1 = _ from g5, q_c8_some, q_c10_some, g6, q_c11_some, q_c12_some]
  exact ⟨_, _, _, _, _, _, _, _, _, _, _, _, _, _, _, _, _, _, _, rfl, rfl, O⟩
theorem p_half {s kinds writers minutes matters undoers scores sizes cells : Nat → Int32} (I : IV s) (R : RA s kinds writers minutes matters undoers scores sizes cells) {lengths codes nW nO named pile ub nc stack E : Nat → Int32} (X : RXA s lengths codes) {n : Nat} {nm : Int32} (hn : 4100 ≤ n) (x y z : Int32) : ∃ a E' s' nm' nW' nO' named' pile' ub' kinds2 writers2 minutes2 matters2 undoers2 scores2 sizes2 cells2 nc' stack', f7_half n x y z nm s E nW nO named pile ub = some (a, nm', s', E', nW', nO', named', pile', ub') ∧ f6_half n x y z (s 0) (s 2) (s 3) (nI (dn s)) E kinds writers minutes matters undoers scores sizes cells codes lengths nc stack = some (a, nI (dn s'), E', kinds2, writers2, minutes2, matters2, undoers2, scores2, sizes2, cells2, nc', stack') ∧ OK s s' lengths codes kinds2 writers2 minutes2 matters2 undoers2 scores2 sizes2 cells2 := by
  have same : OK s s lengths codes kinds writers minutes matters undoers scores sizes cells := ⟨I, R, X, FR.refl s⟩
  have hdb := I.doneB
  unfold f7_half f6_half
  rcases wri_cases x with ⟨w, hw, rfl, h1, h2⟩ | ⟨h1, h2⟩
  rotate_left
  · rw [h1, h2, q_c_some, q_c_some, if_pos i0, if_pos i0]
    simp only [f7_half_25, f6_half_25, (r_err E).1, (k_err E).1, q_c2_er]
    exact ⟨_, _, _, _, _, _, _, _, _, _, _, _, _, _, _, _, _, _, _, rfl, rfl, same⟩
  rw [h1, h2, q_c_some, q_c_some, if_neg i1, if_neg i1]
  rcases ver_cases I y with ⟨v, hv, rfl, h1, h2⟩ | ⟨h1, h2⟩
  rotate_left
  · rw [h1, h2, q_c_some, q_c_some, if_pos i0, if_pos i0]
    simp only [f7_half_25, f6_half_25, (r_err E).1, (k_err E).1, q_c2_er]
    exact ⟨_, _, _, _, _, _, _, _, _, _, _, _, _, _, _, _, _, _, _, rfl, rfl, same⟩
  rw [h1, h2, q_c_some, q_c_some, if_neg i1, if_neg i1]
  by_cases hlo : z < 0
  · rw [r_inF (Or.inl hlo), q_c_some, if_pos i0, if_pos hlo]
    simp only [f7_half_25, f6_half_25, (r_err E).1, (k_err E).1, q_c2_er]
    exact ⟨_, _, _, _, _, _, _, _, _, _, _, _, _, _, _, _, _, _, _, rfl, rfl, same⟩
  rw [if_neg hlo]
  by_cases hhi : z ≤ 20
  rotate_left
  · rw [r_inF (Or.inr (Int32.not_le.mp hhi)), q_c_some, if_pos i0, if_neg hhi]
    simp only [f7_half_25, f6_half_25, (r_err E).1, (k_err E).1, q_c2_er]
    exact ⟨_, _, _, _, _, _, _, _, _, _, _, _, _, _, _, _, _, _, _, rfl, rfl, same⟩
  rw [r_inY (Int32.not_lt.mp hlo) hhi, q_c_some, if_neg i1, if_pos hhi]
  obtain ⟨z, hz, rfl⟩ := nI_of2 (M := 20) (n := 20) (by decide) hlo hhi
  obtain ⟨r, nm', pile', nc', stack', hr, m1, m2⟩ := refuse_both (nm := named) (pile := pile) (nc := nc) (stack := stack) I R X (w := w) hn hw
  rw [m1, m2, q_c3_some, q_c3_some]
  rcases hr with rfl | rfl
  · rw [if_pos i0, if_pos rfl, if_neg i3, show f6_error (nI 3) E = _ from (k_err E).2.2.1, (r_err E).2.2.1, q_c2_er, q_c2_er]
    exact ⟨_, _, _, _, _, _, _, _, _, _, _, _, _, _, _, _, _, _, _, rfl, rfl, same⟩
  have zv := I.sizeB hv
  have zd := I.sizeB (Nat.le_refl (dn s))
  obtain ⟨nW1, nO1, nW2, nO2, t1, t2, act⟩ := do_half (nW := nW) (nO := nO) (named := nm') (pile := pile') (ub := ub) (nc := nc') (stack := stack') I R X (w := w) (v := v) (x := z) hn hw hv hz
  have e7 : (if nI (nv s (310 + v)) ≤ nI z then q_c (some (nI (nv s (310 + v)))) fun t68 => f7_half_71 n (nI w) (nI v) (nI z) (nI v) 0 t68 0 s E nW nO nm' pile' ub else f7_half_71 n (nI w) (nI v) (nI z) (nI v) 0 (nI z) 0 s E nW nO nm' pile' ub) = f7_half_71 n (nI w) (nI v) (nI z) (nI v) 0 (nI (min z (nv s (310 + v)))) 0 s E nW nO nm' pile' ub := by
    by_cases q : nv s (310 + v) ≤ z
    · rw [if_pos (nI_le q (by omega)), q_c_some, show min z (nv s (310 + v)) = nv s (310 + v) by omega]
    · rw [if_neg (nI_ge (by omega) (by omega)), show min z (nv s (310 + v)) = z by omega]
  rw [if_neg i1, if_neg (show ¬ nI 1 = nI 0 by decide), r_sizeOf v (by omega), I.size hv, q_c_some, e7, f7_half_71, show f7_takeOver n (nI v) 0 (nI (min z (nv s (310 + v)))) 0 s nW nO = _ from t1, q_c3_some, q_ldE 1 z_1 (by omega) (by omega), I.done, r_page I, I.size (Nat.le_refl _), q_c_some, t2, q_c3_some, r_isFull I, q_c_some]
  by_cases h60 : dn s = 60
  · rw [if_pos h60, if_pos h60, if_neg i1, if_neg i4, show f6_error (nI 4) E = _ from (k_err E).2.2.2.1, f7_half_105, (r_err E).2.2.2.1, q_c2_er, q_c2_er]
    exact ⟨_, _, _, _, _, _, _, _, _, _, _, _, _, _, _, _, _, _, _, rfl, rfl, same⟩
  have hh : f0_halfSize (nI v) (nI z) (nI (dn s)) sizes = some (nI (hM s v z)) := by
    unfold f0_halfSize
    rw [q_ldI (by omega) (by omega), R.size hv, I.size hv, q_ltP, n_min (by omega) (by omega), q_ldI (by omega) (by omega), R.size (Nat.le_refl _), I.size (Nat.le_refl _), q_ltP]
    rw [show (if (0 : Int32) < nI (nv s (310 + dn s)) - nI z then nI (nv s (310 + dn s)) - nI z else 0) = nI (nv s (310 + dn s) - z) from n_mon (by omega) (by omega), nI_add]
    unfold hM
    rw [Nat.min_comm]
  rw [if_neg h60, if_neg h60, if_pos i0, if_pos i0, hh, q_c_some]
  have hMb : hM s v z ≤ 40 := by unfold hM; omega
  by_cases hm : hM s v z ≤ 20
  rotate_left
  · rw [if_neg (show ¬ nI (hM s v z) ≤ 20 from nI_ge (a := 20) (by omega) (by omega)), if_neg (show ¬ nI (hM s v z) ≤ 20 from nI_ge (a := 20) (by omega) (by omega)), f7_half_105, (k_err E).2.2.2.1, (r_err E).2.2.2.1, q_c2_er, q_c2_er]
    exact ⟨_, _, _, _, _, _, _, _, _, _, _, _, _, _, _, _, _, _, _, rfl, rfl, same⟩
  rw [if_pos (show nI (hM s v z) ≤ 20 from nI_le (b := 20) hm (by omega)), if_pos (show nI (hM s v z) ≤ 20 from nI_le (b := 20) hm (by omega))]
  obtain ⟨s1, kinds1, writers1, minutes1, matters1, undoers1, scores1, sizes1, cells1, nm2, s2, nW3, nO3, named2, pile2, ub2, kinds2, writers2, minutes2, matters2, undoers2, scores2, sizes2, cells2, nc2, stack2, g1, g2, g3, g4, O⟩ := act (by omega) hm
  rw [show f7_done n 3 (nI w) (nI v) (nI (hM s v z)) s nW2 nO2 = _ from g1, q_c2_some, g2, q_c8_some, show f1_putsBack n 3 (nI w) (nI v) (nI z) (s 0) (nI (dn s)) kinds writers minutes matters undoers scores sizes cells = _ from g3, q_c10_some]
  unfold f6_answered
  rw [g4, q_c11_some, q_c12_some]
  exact ⟨_, _, _, _, _, _, _, _, _, _, _, _, _, _, _, _, _, _, _, rfl, rfl, O⟩
