/-! ===== text, untell, feed ===== -/
theorem use_cases (x : Int32) : (∃ v, v ≤ 7 ∧ x = nI v ∧ f7_in (nI v) 0 7 = some (nI 1) ∧ f6_isUse (nI v) = some (nI 1)) ∨ (f7_in x 0 7 = some (nI 0) ∧ f6_isUse x = some (nI 0)) := by
  rcases in_cases x 7 (by omega) with ⟨v, hv, rfl⟩ | h
  · have e : ¬ 8 ≤ v := by omega
    refine Or.inl ⟨v, hv, rfl, r_inT 0 7 v (Nat.zero_le _) hv (by omega), ?_⟩
    simp (disch := omega) only [z_0, z_1, z_2, z_3, z_4, z_5, z_6, z_7, z_8, z_9, z_10, z_11, z_12, z_13, z_16, z_20, z_21, z_24, z_30, z_31, z_32, z_33, z_37, z_38, z_39, z_40, z_41, z_42, z_43, z_44, z_45, z_46, z_47, z_48, z_49, z_50, z_51, z_52, z_53, z_54, z_55, z_56, z_57, z_58, z_59, z_60, z_61, z_62, z_63, z_70, z_80, z_81, z_97, z_98, z_99, z_100, z_101, z_107, z_108, z_109, z_111, z_114, z_117, z_119, z_124, z_125, z_255, z_310, z_380, z_480, z_999, z_1440, z_1600, z_2820, z_2890, z_3890, z_3950, z_3974, z_9999, z_12345, z_29999, pk_mul, nI_add, q_ldI, q_stI, nI_leI, nI_ltI, nI_eq, q_c_some, q_c1_some, q_c2_some, q_c3_some, q_c4_some, q_c5_some, q_c7_some, q_c8_some, q_c9_some, q_c10_some, q_c11_some, q_c12_some, q_ltP, q_bzN0, q_bzN1, q_dvI, b_eq0, b_eq1, n10, Nat.reduceEqDiff, Nat.reduceLeDiff, ↓reduceIte, if_true, if_false, f6_isUse_15, f6_isUse_14, f6_isUse, Nat.not_lt_zero, e]
  · refine Or.inr ⟨r_inF h, ?_⟩
    simp only [f6_isUse_15, f6_isUse_14, f6_isUse, z_0, z_1, z_2, z_3, z_4, z_5, z_6, z_7, z_8, z_9, z_10, z_11, z_12, z_13, z_16, z_20, z_21, z_24, z_30, z_31, z_32, z_33, z_37, z_38, z_39, z_40, z_41, z_42, z_43, z_44, z_45, z_46, z_47, z_48, z_49, z_50, z_51, z_52, z_53, z_54, z_55, z_56, z_57, z_58, z_59, z_60, z_61, z_62, z_63, z_70, z_80, z_81, z_97, z_98, z_99, z_100, z_101, z_107, z_108, z_109, z_111, z_114, z_117, z_119, z_124, z_125, z_255, z_310, z_380, z_480, z_999, z_1440, z_1600, z_2820, z_2890, z_3890, z_3950, z_3974, z_9999, z_12345, z_29999]
    rcases h with h | h
    · rw [if_pos h]; rfl
    · have h2 : nI 8 ≤ x := by
        rcases pk_ix x (n := 8) (by omega) with q | q | ⟨j, hj, rfl⟩
        · exact absurd (Int32.lt_trans h q) (by decide)
        · exact q
        · exact absurd h (nI_nlt (by omega) (by omega))
      (split <;> first | rfl | (rw [if_pos h2]; rfl))
theorem RX_cong2 {s s' lengths lengths' codes codes' : Nat → Int32} {u : Nat} (h : ∀ j, 2890 + 125 * u ≤ j → j < 2890 + 125 * u + 125 → s' j = s j) (hl : lengths' u = lengths u) (hc : ∀ k, k < 60 → codes' (u * 60 + k) = codes (u * 60 + k)) (X : RX s lengths codes u) : RX s' lengths' codes' u := by
  obtain ⟨x1, x2, x3⟩ := X
  have e1 := h (2890 + 125 * u) (by omega) (by omega)
  have hL := x1.2
  refine ⟨isN_congr e1 x1, (hl.trans x2).trans e1.symm, ?_⟩
  intro k hk
  rw [nv_congr e1] at hk
  have dp : ∀ k, k ≤ 60 → dpt (fun k => s' (2890 + 125 * u + 1 + 2 * k)) k = dpt (fun k => s (2890 + 125 * u + 1 + 2 * k)) k := by
    intro k
    induction k with
    | zero => intro _; rfl
    | succ k ih =>
      intro hk
      rw [dpt_succ, dpt_succ, ih (by omega), h _ (by omega) (by omega)]
  have g := x3 k hk
  rw [h (2890 + 125 * u + 1 + 2 * k) (by omega) (by omega), h (2890 + 125 * u + 2 + 2 * k) (by omega) (by omega), dp k (by omega), hc k (by omega)]
  exact g
/-- the steps go to their place -/
theorem r_copy {n u c : Nat} {step : Nat → Int32} (hu : u < 8) (hc : c ≤ 60) (at_ op use : Int32) (E : Nat → Int32) : ∀ (m i kk : Nat) (σ : Nat → Int32), i + m = 2 * c → m < kk → (∀ k, k < i → σ (2890 + 125 * u + 1 + k) = step k) → ∃ σ', f7_text_103 n kk (nI (2890 + 125 * u)) (nI i) at_ op (nI c) use σ E step = some (1, at_, op, nI c, use, σ', E, step) ∧ (∀ k, k < 2 * c → σ' (2890 + 125 * u + 1 + k) = step k) ∧ ∀ j, (j ≤ 2890 + 125 * u ∨ 2890 + 125 * u + 125 ≤ j) → σ' j = σ j := by
  intro m
  induction m with
  | zero =>
    intro i kk σ h1 h2 h3
    obtain ⟨kk, rfl⟩ : ∃ q, kk = q + 1 := ⟨kk - 1, by omega⟩
    refine ⟨σ, ?_, fun k hk => h3 k (by omega), fun _ _ => rfl⟩
    rw [f7_text_103.eq_2, if_pos (show (2 : Int32) * nI c ≤ nI i by rw [show (2 : Int32) = nI 2 from by decide, pk_mul]; exact nI_le (by omega) (by omega))]
  | succ m ih =>
    intro i kk σ h1 h2 h3
    obtain ⟨kk, rfl⟩ : ∃ q, kk = q + 1 := ⟨kk - 1, by omega⟩
    obtain ⟨σ', g1, g2, g3⟩ := ih (i + 1) kk (upd σ (2890 + 125 * u + 1 + i) (step i)) (by omega) (by omega) (by
      intro k hk
      by_cases q : k = i
      · rw [q, pk_us]
      · rw [pk_un (by omega)]; exact h3 k (by omega))
    refine ⟨σ', ?_, g2, fun j hj => (g3 j hj).trans (pk_un (by omega))⟩
    rw [f7_text_103.eq_2, if_neg (show ¬ (2 : Int32) * nI c ≤ nI i by rw [show (2 : Int32) = nI 2 from by decide, pk_mul]; exact nI_ge (by omega) (by omega)), q_ldI (by omega) (by omega), nI_1, nI_add, q_stI (by omega) (by omega), q_ltP, nI_1]
    exact g1
theorem p_text {s lengths codes tape E step code : Nat → Int32} (X : RXA s lengths codes) (T : TP s tape) {n art rt ni : Nat} {at_ op st us ra rc rtp : Int32} (hn : 4100 ≤ n) (x : Int32) : ∃ a E' s' at' op' st' us' step' ra' rc' rtp' rt' ni' codes' lengths' code', f7_text n x at_ op st us s E step = some (a, at', op', st', us', s', E', step') ∧ f6_text n art x (s 4) ra rc rtp rt ni E tape codes lengths code = some (a, s' 4, ra', rc', rtp', rt', ni', E', codes', lengths', code') ∧ RXA s' lengths' codes' ∧ TP s' tape ∧ (rt' = rt ∨ rt' = art) ∧ (ni' = ni ∨ ni' < 3) ∧ ∀ j, j ≠ 4 → (j < 2890 ∨ 3890 ≤ j) → s' j = s j := by
  have hL := T.1.2
  unfold f7_text f6_text
  rcases use_cases x with ⟨u, hu, rfl, h1, h2⟩ | ⟨h1, h2⟩
  rotate_left
  · rw [h1, h2, q_c_some, q_c_some, if_pos i0, if_pos i0, (r_err E).1, (k_err E).1, q_c2_er, q_c2_er]
    exact ⟨_, _, s, _, _, _, _, _, _, _, _, rt, ni, _, _, _, rfl, rfl, X, T, Or.inl rfl, Or.inl rfl, fun _ _ _ => rfl⟩
  rw [h1, h2, q_c_some, q_c_some, if_neg i1, if_neg i1]
  have e2 : f2_reads n art (nI u) (s 4) ra rc rtp rt ni tape codes lengths code = f2_reads_48 n art tape (nI u) (nuse u) (s 4) 0 0 (s 4) ni codes lengths code := by
    unfold f2_reads nuse
    by_cases h0 : u = 0
    · rw [if_pos (show nI u = 0 by rw [h0]; rfl), if_pos h0]
    · rw [if_neg (show ¬ nI u = 0 from fun q => h0 ((nI_eq (a := u) (b := 0) (by omega) (by omega)).mp q)), if_neg h0]
      by_cases h1 : u = 1
      · rw [if_pos (show nI u = 1 by rw [h1]; rfl), if_pos h1]
      · rw [if_neg (show ¬ nI u = 1 from fun q => h1 ((nI_eq (a := u) (b := 1) (by omega) (by omega)).mp q)), if_neg h1]
  let t := upd s 4 (nI 0)
  have tj : ∀ j, j ≠ 4 → t j = s j := fun j h => pk_un h
  have t4 : t 4 = nI 0 := pk_us
  have n4 : nv t 4 = 0 := nv_of t4 (by omega)
  have Xt : RXA t lengths codes := RXA_row (fun j _ _ => tj j (by omega)) X
  have T0 : ∀ s', s' 4 = nI 0 → TP s' tape := fun s' h => ⟨isN.mk 0 h (by omega) (by omega), fun i hi => absurd hi (by rw [nv_of h (by omega)]; omega), fun i hi => absurd hi (by rw [nv_of h (by omega)]; omega)⟩
  have bad : ∀ (a' : Nat) (op' st' : Int32) (step' : Nat → Int32) (cd : Int32) (code' : Nat → Int32), a' ≤ nv s 4 → ∃ a E' s' at' op2 st2 us' step2 ra' rc' rtp' rt' ni' codes' lengths' code2, f7_text_60 n (nI u) (nI a') op' st' (nI u) s E step' = some (a, at', op2, st2, us', s', E', step2) ∧ (q_c10 (f2_reads_76 n art tape 0 (nI a') cd (s 4) (nuse u) codes lengths code') fun t25 t1 a1 c1 tp1 rt1 ni1 cs1 ls1 cd1 => if 0 ≤ t25 then f6_text_41 n art tape (-10 - t25) t1 a1 c1 tp1 rt1 ni1 E cs1 ls1 cd1 else f6_text_41 n art tape 1 t1 a1 c1 tp1 rt1 ni1 E cs1 ls1 cd1) = some (a, s' 4, ra', rc', rtp', rt', ni', E', codes', lengths', code2) ∧ RXA s' lengths' codes' ∧ TP s' tape ∧ (rt' = rt ∨ rt' = art) ∧ (ni' = ni ∨ ni' < 3) ∧ ∀ j, j ≠ 4 → (j < 2890 ∨ 3890 ≤ j) → s' j = s j := by
    intro a' op' st' step' cd code' ha'
    rw [f7_text_60, f7_text_61, q_stE 4 z_4 (by omega) (by omega), if_pos rfl, f2_reads_76, q_c10_some, if_pos (nI_pos' (by omega)), f6_text_41]
    refine ⟨_, _, t, _, _, _, _, _, nI a', cd, s 4, art, nuse u, codes, lengths, code', rfl, ?_, Xt, T0 t t4, Or.inr rfl, Or.inr (nuse_lt u), fun j h _ => tj j h⟩
    rw [t4]
    rfl
  rw [e2, f2_reads_48]
  rcases whole_sim T hn (f7_one n 8) (f2_readsInnermost n 8) (one_sim T (u := u) (by omega) hn 8 0 (by omega) (by omega)) 0 0 step code (by omega) (by omega) (fun k hk => absurd hk (Nat.not_lt_zero k)) with ⟨a', op, st', step', cd, code', x, y, z⟩ | ⟨a', c', step', code', x, y, g1, g2, g3, g4, g5, g6, g7⟩
  · rw [show g7_whole n (f7_one n 8) 0 0 0 (nI u) s step = _ from x, q_c5_some, if_pos rfl, T.1.1, show g2_readsLevel n (f2_readsInnermost n 8) 8 0 0 0 0 (nI (nv s 4)) (nuse u) tape code = _ from y, q_c4_some, if_pos rfl, ← T.1.1]
    exact bad a' op st' step' cd code' z
  · rw [show g7_whole n (f7_one n 8) 0 0 0 (nI u) s step = _ from x, q_c5_some, if_neg (show ¬ (1 : Int32) = 0 by decide), q_ldE 4 z_4 (by omega) (by omega), T.1.1, show g2_readsLevel n (f2_readsInnermost n 8) 8 0 0 0 0 (nI (nv s 4)) (nuse u) tape code = _ from y, q_c4_some, if_neg (show ¬ (1 : Int32) = 0 by decide)]
    by_cases hend : a' = nv s 4
    rotate_left
    · rw [if_neg (fun q => hend ((nI_eq (by omega) (by omega)).mp q)), if_neg (nI_ge (by omega) (by omega)), ← T.1.1]
      exact bad a' _ _ step' _ code' g2
    rw [if_pos (by rw [hend]), if_pos (nI_le (by omega) (by omega)), f7_text_61, q_stE 4 z_4 (by omega) (by omega), if_neg (show ¬ (1 : Int32) = 0 by decide), q_ltP]
    rw [show (2890 : Int32) + 125 * nI u = nI (2890 + 125 * u) from by rw [show (2890 : Int32) = nI 2890 from by decide, show (125 : Int32) = nI 125 from by decide, pk_mul, nI_add], q_stI (by omega) (by omega)]
    obtain ⟨σ', k1, k2, k3⟩ := r_copy (n := n) (u := u) (c := c') (step := step') (by omega) (by omega) (nI a') (nI 0) (nI u) E (2 * c') 0 n (upd (upd s 4 0) (2890 + 125 * u) (nI c')) (by omega) (by omega) (fun k hk => absurd hk (Nat.not_lt_zero k))
    rw [show f7_text_103 n n (nI (2890 + 125 * u)) 0 (nI a') (nI 0) (nI c') (nI u) (upd (upd s 4 0) (2890 + 125 * u) (nI c')) E step' = _ from k1]
    have kp : f4_keeps (nI u) (nI c') codes lengths code' = some (va_cpy code' codes 0 (u * 60) c', upd lengths u (nI c')) := by
      rw [f4_keeps, show nI u * 60 = nI (u * 60) from by rw [show (60 : Int32) = nI 60 from by decide, pk_mul], show (0 : Int32) = nI 0 from by decide, q_cpI (by omega) (by omega) (by omega) (by omega), q_stI (by omega) (by omega)]
    rw [kp, q_c2_some, q_c10_some, if_neg (show ¬ (0 : Int32) ≤ -1 by decide), f6_text_41]
    have s4 : σ' 4 = nI 0 := by rw [k3 4 (by omega), pk_un (by omega), pk_us]; rfl
    have so : ∀ j, j ≠ 4 → (j < 2890 + 125 * u ∨ 2890 + 125 * u + 125 ≤ j) → σ' j = s j := fun j h1 h2 => by
      rw [k3 j (by omega), pk_un (by omega), pk_un h1]
    have sc : σ' (2890 + 125 * u) = nI c' := by rw [k3 _ (by omega), pk_us]
    refine ⟨_, _, σ', _, _, _, _, _, nI a', nI c', nI (nv s 4), art, nuse u, va_cpy code' codes 0 (u * 60) c', upd lengths u (nI c'), code', rfl, ?_, ?_, T0 σ' s4, Or.inr rfl, Or.inr (nuse_lt u), fun j h1 h2 => so j h1 (by omega)⟩
    · rw [s4]; rfl
    · intro v hv
      by_cases q : v = u
      · subst q
        have nc : nv σ' (2890 + 125 * v) = c' := nv_of sc (by omega)
        refine ⟨isN.mk c' sc (by omega) (by omega), by rw [pk_us, sc], ?_⟩
        intro k hk
        rw [nc] at hk
        have w1 : σ' (2890 + 125 * v + 1 + 2 * k) = step' (2 * k) := k2 (2 * k) (by omega)
        have w2 : σ' (2890 + 125 * v + 2 + 2 * k) = step' (2 * k + 1) := by
          rw [show 2890 + 125 * v + 2 + 2 * k = 2890 + 125 * v + 1 + (2 * k + 1) by omega]; exact k2 (2 * k + 1) (by omega)
        have dp : ∀ k, k ≤ c' → dpt (fun k => σ' (2890 + 125 * v + 1 + 2 * k)) k = dpt (fun k => step' (2 * k)) k := by
          intro k
          induction k with
          | zero => intro _; rfl
          | succ k ih =>
            intro hk
            rw [dpt_succ, dpt_succ, ih (by omega), show σ' (2890 + 125 * v + 1 + 2 * k) = step' (2 * k) from k2 (2 * k) (by omega)]
        rw [w1, w2, dp k (by omega), pk_cpy_in (by omega) (by omega), show 0 + (v * 60 + k - v * 60) = k by omega]
        have vd := rn_valid (W := fun k => step' (2 * k)) c' 0 1 (g7.2 0) k (by omega) (by omega)
        exact ⟨g6 k hk, vd.1, vd.2⟩
      · refine RX_cong2 (fun j h1 h2 => so j (by omega) (by omega)) (pk_un q) (fun k hk => pk_cpy_out (by omega)) (X v hv)
