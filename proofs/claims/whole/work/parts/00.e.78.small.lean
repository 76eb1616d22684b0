/-! ===== small calls ===== -/
theorem r_now7 {s : Nat → Int32} {a : Nat} (ha : a < 60) : f7_kindNow (nI a) s = some (s (10 + 5 * a + 0)) ∧ f7_writerNow (nI a) s = some (s (10 + 5 * a + 1)) := by
  refine ⟨?_, ?_⟩
  · rw [f7_kindNow, show f7_actIs1 (nI a) 0 s = _ from r_actIs1 a 0 (by omega), q_c_some]
  · rw [f7_writerNow, show f7_actIs1 (nI a) 1 s = _ from r_actIs1 a 1 (by omega), q_c_some]
theorem p_voice {s kinds writers minutes matters undoers scores sizes cells : Nat → Int32} (I : IV s) (R : RA s kinds writers minutes matters undoers scores sizes cells) {n t : Nat} {E tr : Nat → Int32} {sp ip kd nu wr pa : Int32} (hn : 4100 ≤ n) (ht : t ≤ 30) (x y z : Int32) : ∃ a E' sp' ip' kd' nu' wr' pa' t' tr', f7_voice x y z (nI t) sp ip s E tr = some (a, nI t', sp', ip', E', tr') ∧ f6_voice n x y z (nI (dn s)) kd nu wr pa (nI t) E kinds writers tr = some (a, kd', nu', wr', pa', nI t', E', tr') ∧ t' ≤ 30 := by
  have hd := I.doneB
  unfold f7_voice f6_voice
  rcases act_cases I x with ⟨v, hv, rfl, h1, h2⟩ | ⟨h1, h2⟩
  rotate_left
  · rw [h1, h2, q_c_some, q_c_some, if_pos i0, if_pos i0, f7_voice_17, f6_voice_17, (r_err E).1, (k_err E).1, q_c2_er, q_c2_er]
    exact ⟨_, _, _, _, _, _, _, _, t, _, rfl, rfl, ht⟩
  rw [h1, h2, q_c_some, q_c_some, if_neg i1, if_neg i1]
  rcases in_cases y 3 (by omega) with ⟨c, hc, rfl⟩ | h
  rotate_left
  · rw [show f7_in y 0 3 = _ from r_inF h, q_c_some, if_pos i0, f7_voice_17, (r_err E).1, q_c2_er]
    have e6 : (if y < 0 then f6_voice_17 n (nI (dn s)) kinds writers kd nu wr pa (nI t) E tr else if y < 4 then (q_c7 (f5_heard n (nI v) y z kd nu wr pa (nI t) kinds writers tr) fun t37 k37 n37 w37 p37 t38 r37 => if p37 = 0 then f6_voice_63 n (nI (dn s)) kinds writers t37 k37 n37 w37 p37 t38 E r37 else q_c2 (f6_error 6 E) fun t55 E55 => f6_voice_63 n (nI (dn s)) kinds writers t55 k37 n37 w37 p37 t38 E55 r37) else f6_voice_17 n (nI (dn s)) kinds writers kd nu wr pa (nI t) E tr) = f6_voice_17 n (nI (dn s)) kinds writers kd nu wr pa (nI t) E tr := by
      rcases h with h | h
      · rw [if_pos (show y < 0 from h)]
      · have h4 : ¬ y < 4 := by
          intro q
          rcases pk_ix y (n := 4) (by omega) with q2 | q2 | ⟨j, hj, rfl⟩
          · exact absurd (Int32.lt_trans h q2) (by decide)
          · exact absurd q (Int32.not_lt.mpr q2)
          · exact absurd h (nI_nlt (by omega) (by omega))
        rw [if_neg h4, ite_self]
    rw [e6, f6_voice_17, (k_err E).1, q_c2_er]
    exact ⟨_, _, _, _, _, _, _, _, t, _, rfl, rfl, ht⟩
  rw [show f7_in (nI c) 0 3 = _ from r_inT 0 3 c (Nat.zero_le _) hc (by omega), q_c_some, if_neg i1, bz0, if_neg (nI_pos (by omega)), if_pos (show nI c < 4 from nI_lt (b := 4) (by omega) (by omega))]
  obtain ⟨kn, wn⟩ := r_now7 (s := s) (a := v) (by omega)
  rw [I.kind hv] at kn
  have hK := I.kindB hv
  rw [kn, q_c_some, f5_heard, q_ldI (by omega) (by omega), R.kind hv, I.kind hv, q_ldI (by omega) (by omega), R.writer hv, bz0]
  have fin0 : ∀ (v' : Int32) (t' : Nat) (tr' : Nat → Int32), t' ≤ 30 → (f7_voice_95 s v' (nI t') (nI v) 0 E tr' = some (v', nI t', nI v, 0, E, tr')) := fun v' t' tr' _ => by rw [f7_voice_95, if_pos rfl, f7_voice_115]
  obtain rfl | rfl | rfl | rfl : c = 0 ∨ c = 1 ∨ c = 2 ∨ c = 3 := by omega
  · have a := r_does (e := 5) (t := 0) (tr := tr) (x := z) hK wn (by omega)
    have b := k_does (d := 17) (q := 0) (t := 0) hn z (nI (nv s (10 + 5 * v + 0))) (nI v) (s (10 + 5 * v + 1)) tr hK (by omega) (by omega)
    have := dl_len (nv s (10 + 5 * v + 0))
    rw [if_pos i0, show f7_does 8 (nI (nv s (10 + 5 * v + 0))) z 0 (nI v) s tr = _ from a, q_c3_some, fin0 _ _ _ (by omega), show f5_speaks n 20 (nI (nv s (10 + 5 * v + 0))) (nI 0) z 0 (nI (nv s (10 + 5 * v + 0))) (nI v) (s (10 + 5 * v + 1)) 0 0 tr = _ from b, q_c4_some, q_c7_some, if_pos rfl, f6_voice_63]
    exact ⟨_, _, _, _, _, _, _, _, _, _, rfl, rfl, by omega⟩
  · obtain ⟨w', t', tr', a, b, c3⟩ := und_both (e := 5) (d := 14) (q := 0) (t := 0) (tr := tr) hn hK kn wn z (by omega) (by omega)
    rw [if_neg (show ¬ nI 1 = 0 by decide), if_pos (show nI 1 = 1 from rfl), show f7_undoes 8 (nI (nv s (10 + 5 * v + 0))) z 0 (nI v) s tr = _ from a, q_c3_some, fin0 _ _ _ (by omega), show f5_speaks n 20 (nI (nv s (10 + 5 * v + 0))) (nI 1) z 0 (nI (nv s (10 + 5 * v + 0))) (nI v) (s (10 + 5 * v + 1)) 0 0 tr = _ from b, q_c4_some, q_c7_some, if_pos rfl, f6_voice_63]
    exact ⟨_, _, _, _, _, _, _, _, _, _, rfl, rfl, by omega⟩
  · obtain ⟨w', t', tr', a, b, c3⟩ := las_both (e := 5) (d := 11) (q := 0) (t := 0) (k := nv s (10 + 5 * v + 0)) hn hK kn wn z tr hK (by omega) (by omega)
    rw [if_neg (show ¬ nI 2 = 0 by decide), if_neg (show ¬ nI 2 = 1 by decide), if_pos (show nI 2 = 2 from rfl), show f7_lasts 8 (nI (nv s (10 + 5 * v + 0))) z 0 (nI v) s tr = _ from a, q_c3_some, fin0 _ _ _ (by omega), show f5_speaks n 20 (nI (nv s (10 + 5 * v + 0))) (nI 2) z 0 (nI (nv s (10 + 5 * v + 0))) (nI v) (s (10 + 5 * v + 1)) 0 0 tr = _ from b, q_c4_some, q_c7_some, if_pos rfl, f6_voice_63]
    exact ⟨_, _, _, _, _, _, _, _, _, _, rfl, rfl, by omega⟩
  · obtain ⟨w', w2, p, t', tr', hp, hw2, a, b, c3⟩ := tel_both (e := 5) (d := 8) (q := 0) (t := 0) (k := nv s (10 + 5 * v + 0)) hn hK kn wn z tr hK (by omega) (by omega)
    rw [if_neg (show ¬ nI 3 = 0 by decide), if_neg (show ¬ nI 3 = 1 by decide), if_neg (show ¬ nI 3 = 2 by decide), show f7_tells 8 (nI (nv s (10 + 5 * v + 0))) z 0 (nI v) 0 s tr = _ from a, q_c4_some, f7_voice_95, show f5_speaks n 20 (nI (nv s (10 + 5 * v + 0))) (nI 3) z 0 (nI (nv s (10 + 5 * v + 0))) (nI v) (s (10 + 5 * v + 1)) 0 0 tr = _ from b, q_c4_some, q_c7_some]
    by_cases hp0 : p = 0
    · rw [if_pos hp0, if_pos hp0, f7_voice_115, f6_voice_63, hw2 hp0]
      exact ⟨_, _, _, _, _, _, _, _, _, _, rfl, rfl, by omega⟩
    · rw [if_neg hp0, if_neg hp0, (r_err E).2.2.2.2.2, (k_err E).2.2.2.2.2, q_c2_er, q_c2_er, f7_voice_115, f6_voice_63]
      exact ⟨_, _, _, _, _, _, _, _, _, _, rfl, rfl, by omega⟩
theorem p_body {t : Nat} {E tr : Nat → Int32} (ht : t ≤ 30) (x : Int32) : ∃ a E', f7_body x (nI t) E tr = some (a, E') ∧ f6_body x (nI t) E tr = some (a, E') := by
  unfold f7_body f6_body
  rcases pk_ix x (n := t) (by omega) with h | h | ⟨j, hj, rfl⟩
  · rw [r_inF (Or.inl h), q_c_some, if_pos i0, if_pos h, f6_body_15, (r_err E).2.1, (k_err E).2.1, q_c2_er, q_c2_er]
    exact ⟨_, _, rfl, rfl⟩
  · have h2 : nI t - 1 < x := by
      rcases Nat.eq_zero_or_pos t with e | e
      · rw [e] at h ⊢
        exact Int32.lt_of_lt_of_le (by decide) h
      · obtain ⟨u, rfl⟩ : ∃ u, t = u + 1 := ⟨t - 1, by omega⟩
        rw [nI_pred]
        exact Int32.lt_of_lt_of_le (nI_lt (by omega) (by omega)) h
    have e6 : (if x < 0 then f6_body_15 (nI t) tr E else if x < nI t then q_ld tr 30 x fun t29 => some (t29, E) else f6_body_15 (nI t) tr E) = f6_body_15 (nI t) tr E := by
      rw [if_neg (Int32.not_lt.mpr h), ite_self]
    rw [r_inF (Or.inr h2), q_c_some, if_pos i0, e6, f6_body_15, (r_err E).2.1, (k_err E).2.1, q_c2_er, q_c2_er]
    exact ⟨_, _, rfl, rfl⟩
  · rw [show nI t - 1 = nI (t - 1) from pk_sub (b := 1) (by omega), show f7_in (nI j) 0 (nI (t - 1)) = _ from r_inT 0 (t - 1) j (Nat.zero_le _) (by omega) (by omega), q_c_some, if_neg i1, if_neg (nI_pos (by omega)), if_pos (nI_lt hj (by omega)), q_ldI (by omega) (by omega), q_ldI (by omega) (by omega)]
    exact ⟨_, _, rfl, rfl⟩
theorem p_told {E : Nat → Int32} (x : Int32) : ∃ a E', f7_told x E = some (a, E') ∧ f6_told x E = some (a, E') := by
  unfold f7_told f6_told
  by_cases hlo : x < 1
  · rw [r_inF (Or.inl hlo), q_c_some, if_pos i0, if_pos hlo, f6_told_11, (r_err E).1, (k_err E).1, q_c2_er, q_c2_er]
    exact ⟨_, _, rfl, rfl⟩
  rw [if_neg hlo]
  by_cases hhi : x ≤ 6
  rotate_left
  · rw [r_inF (Or.inr (Int32.not_le.mp hhi)), q_c_some, if_pos i0, if_neg hhi, f6_told_11, (r_err E).1, (k_err E).1, q_c2_er, q_c2_er]
    exact ⟨_, _, rfl, rfl⟩
  rw [r_inY (Int32.not_lt.mp hlo) hhi, q_c_some, if_neg i1, if_pos hhi]
  obtain ⟨z, hz, rfl⟩ := nI_of2 (M := 6) (n := 6) (by decide) (fun q => hlo (Int32.lt_trans q (by decide))) hhi
  rw [q_ldI (by omega) (by omega), q_ldI (by omega) (by omega)]
  exact ⟨_, _, rfl, rfl⟩
theorem p_go {s : Nat → Int32} (I : IV s) {E : Nat → Int32} (x : Int32) : ∃ a E' s', f7_go x s E = some (a, s', E') ∧ f6_go x (s 0) E = some (a, s' 0, E') ∧ isN s' 0 29999 ∧ nv s 0 ≤ nv s' 0 ∧ ∀ j, j ≠ 0 → s' j = s j := by
  have hnow := I.nowB
  unfold f7_go f6_go
  have bad : isN s 0 29999 ∧ nv s 0 ≤ nv s 0 ∧ ∀ j, j ≠ 0 → s j = s j := ⟨I.1.1, Nat.le_refl _, fun _ _ => rfl⟩
  by_cases hlo : x < 1
  · rw [r_inF (Or.inl hlo), q_c_some, if_pos i0, if_pos hlo, f6_go_12, (r_err E).1, (k_err E).1, q_c2_er, q_c2_er]
    exact ⟨_, _, s, rfl, rfl, bad⟩
  rw [if_neg hlo]
  by_cases hhi : x ≤ 9999
  rotate_left
  · rw [r_inF (Or.inr (Int32.not_le.mp hhi)), q_c_some, if_pos i0, if_neg hhi, f6_go_12, (r_err E).1, (k_err E).1, q_c2_er, q_c2_er]
    exact ⟨_, _, s, rfl, rfl, bad⟩
  rw [r_inY (Int32.not_lt.mp hlo) hhi, q_c_some, if_neg i1, if_pos hhi, q_ldE 0 z_0 (by omega) (by omega)]
  obtain ⟨z, hz, rfl⟩ := nI_of2 (M := 9999) (n := 9999) (by decide) (fun q => hlo (Int32.lt_trans q (by decide))) hhi
  have e1 : (s 0 + nI z ≤ 29999) = (nv s 0 + z ≤ 29999) := by
    rw [I.now, nI_add]; exact propext (nI_leI (b := 29999) (by omega) (by omega))
  have e2 : (s 0 ≤ 29999 - nI z) = (nv s 0 + z ≤ 29999) := by
    rw [I.now, show (29999 : Int32) - nI z = nI (29999 - z) from pk_sub (a := 29999) (by omega), nI_leI (by omega) (by omega)]
    exact propext ⟨fun _ => by omega, fun _ => by omega⟩
  by_cases ht : nv s 0 + z ≤ 29999
  rotate_left
  · rw [if_neg (by rw [e1]; exact ht), if_neg (by rw [e2]; exact ht), (r_err E).2.2.1, (k_err E).2.2.1, q_c2_er, q_c2_er]
    exact ⟨_, _, s, rfl, rfl, bad⟩
  rw [if_pos (by rw [e1]; exact ht), if_pos (by rw [e2]; exact ht), q_ldE 0 z_0 (by omega) (by omega), q_stE 0 z_0 (by omega) (by omega), q_ldE 0 z_0 (by omega) (by omega), pk_us, q_ltP]
  have t0 : upd s 0 (s 0 + nI z) 0 = nI (nv s 0 + z) := by rw [pk_us, I.now, nI_add]
  refine ⟨_, _, upd s 0 (s 0 + nI z), rfl, ?_, isN.mk _ t0 ht (by omega), by rw [nv_of t0 (by omega)]; omega, fun j h => pk_un h⟩
  rw [pk_us]
theorem p_seed {s : Nat → Int32} (x : Int32) : ∃ a s', f7_seed x s = some (a, s') ∧ f6_seed x (s 6) = some (a, s' 6) ∧ ∀ j, j ≠ 6 → s' j = s j := by
  unfold f7_seed f6_seed
  rw [q_ldE 6 z_6 (by omega) (by omega), q_stE 6 z_6 (by omega) (by omega)]
  exact ⟨_, upd s 6 x, rfl, by rw [pk_us], fun j h => pk_un h⟩
theorem p_count {s kinds writers minutes matters undoers scores sizes cells : Nat → Int32} (I : IV s) (R : RA s kinds writers minutes matters undoers scores sizes cells) {t : Nat} {E : Nat → Int32} (x : Int32) : ∃ a E', f7_count x (nI t) s E = some (a, E') ∧ f6_count x (s 0) (s 2) (s 6) (s 5) (nI (dn s)) (s 4) (nI t) E sizes = some (a, E') := by
  unfold f7_count f6_count
  rw [q_ldE 0 z_0 (by omega) (by omega), q_ldE 1 z_1 (by omega) (by omega), I.done, r_page I, q_c_some, q_ldE 2 z_2 (by omega) (by omega), q_ldE 4 z_4 (by omega) (by omega), q_ldE 5 z_5 (by omega) (by omega), q_ldE 6 z_6 (by omega) (by omega), k_pageSize I R, q_c_some, (r_err E).1, (k_err E).1, q_c2_er]
  (repeat' split) <;> exact ⟨_, _, rfl, rfl⟩
