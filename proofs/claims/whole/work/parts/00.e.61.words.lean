/-! ===== words of a sheet; living ===== -/
theorem she_cases (x : Int32) : (∃ v, v ≤ 3 ∧ x = nI v ∧ f7_isSheet (nI v) = some (nI 1) ∧ f6_isSheet (nI v) = some (nI 1)) ∨ (f7_isSheet x = some (nI 0) ∧ f6_isSheet x = some (nI 0)) := by
  rcases in_cases x 3 (by omega) with ⟨v, hv, rfl⟩ | h
  · have e : ¬ 4 ≤ v := by omega
    refine Or.inl ⟨v, hv, rfl, ?_, ?_⟩
    · simp (disch := omega) only [z_0, z_1, z_2, z_3, z_4, z_5, z_6, z_7, z_8, z_9, z_10, z_11, z_12, z_13, z_16, z_20, z_21, z_24, z_30, z_31, z_32, z_33, z_37, z_38, z_39, z_40, z_41, z_42, z_43, z_44, z_45, z_46, z_47, z_48, z_49, z_50, z_51, z_52, z_53, z_54, z_55, z_56, z_57, z_58, z_59, z_60, z_61, z_62, z_63, z_70, z_80, z_81, z_97, z_98, z_99, z_100, z_101, z_107, z_108, z_109, z_111, z_114, z_117, z_119, z_124, z_125, z_255, z_310, z_380, z_480, z_999, z_1440, z_1600, z_2820, z_2890, z_3890, z_3950, z_3974, z_9999, z_12345, z_29999, pk_mul, nI_add, q_ldI, q_stI, nI_leI, nI_ltI, nI_eq, q_c_some, q_c1_some, q_c2_some, q_c3_some, q_c4_some, q_c5_some, q_c7_some, q_c8_some, q_c9_some, q_c10_some, q_c11_some, q_c12_some, q_ltP, q_bzN0, q_bzN1, q_dvI, b_eq0, b_eq1, n10, Nat.reduceEqDiff, Nat.reduceLeDiff, ↓reduceIte, if_true, if_false, f7_isSheet, r_inT 0 3 v (Nat.zero_le _) hv (by omega)]
    · simp (disch := omega) only [z_0, z_1, z_2, z_3, z_4, z_5, z_6, z_7, z_8, z_9, z_10, z_11, z_12, z_13, z_16, z_20, z_21, z_24, z_30, z_31, z_32, z_33, z_37, z_38, z_39, z_40, z_41, z_42, z_43, z_44, z_45, z_46, z_47, z_48, z_49, z_50, z_51, z_52, z_53, z_54, z_55, z_56, z_57, z_58, z_59, z_60, z_61, z_62, z_63, z_70, z_80, z_81, z_97, z_98, z_99, z_100, z_101, z_107, z_108, z_109, z_111, z_114, z_117, z_119, z_124, z_125, z_255, z_310, z_380, z_480, z_999, z_1440, z_1600, z_2820, z_2890, z_3890, z_3950, z_3974, z_9999, z_12345, z_29999, pk_mul, nI_add, q_ldI, q_stI, nI_leI, nI_ltI, nI_eq, q_c_some, q_c1_some, q_c2_some, q_c3_some, q_c4_some, q_c5_some, q_c7_some, q_c8_some, q_c9_some, q_c10_some, q_c11_some, q_c12_some, q_ltP, q_bzN0, q_bzN1, q_dvI, b_eq0, b_eq1, n10, Nat.reduceEqDiff, Nat.reduceLeDiff, ↓reduceIte, if_true, if_false, f6_isSheet_14, f6_isSheet_13, f6_isSheet, Nat.not_lt_zero, e]
  · refine Or.inr ⟨?_, ?_⟩
    · simp (disch := omega) only [z_0, z_1, z_2, z_3, z_4, z_5, z_6, z_7, z_8, z_9, z_10, z_11, z_12, z_13, z_16, z_20, z_21, z_24, z_30, z_31, z_32, z_33, z_37, z_38, z_39, z_40, z_41, z_42, z_43, z_44, z_45, z_46, z_47, z_48, z_49, z_50, z_51, z_52, z_53, z_54, z_55, z_56, z_57, z_58, z_59, z_60, z_61, z_62, z_63, z_70, z_80, z_81, z_97, z_98, z_99, z_100, z_101, z_107, z_108, z_109, z_111, z_114, z_117, z_119, z_124, z_125, z_255, z_310, z_380, z_480, z_999, z_1440, z_1600, z_2820, z_2890, z_3890, z_3950, z_3974, z_9999, z_12345, z_29999, pk_mul, nI_add, q_ldI, q_stI, nI_leI, nI_ltI, nI_eq, q_c_some, q_c1_some, q_c2_some, q_c3_some, q_c4_some, q_c5_some, q_c7_some, q_c8_some, q_c9_some, q_c10_some, q_c11_some, q_c12_some, q_ltP, q_bzN0, q_bzN1, q_dvI, b_eq0, b_eq1, n10, Nat.reduceEqDiff, Nat.reduceLeDiff, ↓reduceIte, if_true, if_false, f7_isSheet, r_inF h]
    · simp only [f6_isSheet_14, f6_isSheet_13, f6_isSheet, z_0, z_1, z_2, z_3, z_4, z_5, z_6, z_7, z_8, z_9, z_10, z_11, z_12, z_13, z_16, z_20, z_21, z_24, z_30, z_31, z_32, z_33, z_37, z_38, z_39, z_40, z_41, z_42, z_43, z_44, z_45, z_46, z_47, z_48, z_49, z_50, z_51, z_52, z_53, z_54, z_55, z_56, z_57, z_58, z_59, z_60, z_61, z_62, z_63, z_70, z_80, z_81, z_97, z_98, z_99, z_100, z_101, z_107, z_108, z_109, z_111, z_114, z_117, z_119, z_124, z_125, z_255, z_310, z_380, z_480, z_999, z_1440, z_1600, z_2820, z_2890, z_3890, z_3950, z_3974, z_9999, z_12345, z_29999]
      rcases h with h | h
      · rw [if_pos h]; rfl
      · have h2 : nI 4 ≤ x := by
          rcases pk_ix x (n := 4) (by omega) with q | q | ⟨j, hj, rfl⟩
          · exact absurd (Int32.lt_trans h q) (by decide)
          · exact q
          · exact absurd h (nI_nlt (by omega) (by omega))
        (split <;> first | rfl | (rw [if_pos h2]; rfl))
/-- sheets of both sides -/
def SH (bits hsz num hnum : Nat → Int32) : Prop := ∀ k, k ≤ 3 → isN hsz k 24 ∧ (bits k = 0 → nv hsz k = 0) ∧ ∀ i, i < nv hsz k → num (24 * k + i) = hnum (k * 24 + i)
theorem words_loop {s0 lengths codes bits hsz num hnum E : Nat → Int32} {n w k : Nat} (hn : 4100 ≤ n) (hw : w ≤ 7) (hk : k ≤ 3) (H : SH bits hsz num hnum) : ∀ (m i kk : Nat) (s kinds1 writers1 minutes1 matters1 undoers1 scores1 sizes1 cells1 nW nO named pile ub nc stack : Nat → Int32) (nm : Int32), i + m = nv hsz k → m + 1 < kk → OK s0 s lengths codes kinds1 writers1 minutes1 matters1 undoers1 scores1 sizes1 cells1 → ∃ a s' nm' nW' nO' named' pile' ub' kinds2 writers2 minutes2 matters2 undoers2 scores2 sizes2 cells2 nc' stack', f7_words_43 n bits hsz num kk (nI k) (nI w) (nI i) 1 (nI i) nm s E nW nO named pile ub = some (a, nm', s', E, nW', nO', named', pile', ub') ∧ f6_words_40 n (s0 0) (s0 2) (s0 3) codes lengths bits hsz hnum kk (nI k) (nI w) (nI i) (nI (dn s)) E kinds1 writers1 minutes1 matters1 undoers1 scores1 sizes1 cells1 nc stack = some (a, nI (dn s'), E, kinds2, writers2, minutes2, matters2, undoers2, scores2, sizes2, cells2, nc', stack') ∧ OK s0 s' lengths codes kinds2 writers2 minutes2 matters2 undoers2 scores2 sizes2 cells2 := by
  have Hk := H k hk
  intro m
  induction m with
  | zero =>
    intro i kk s kinds1 writers1 minutes1 matters1 undoers1 scores1 sizes1 cells1 nW nO named pile ub nc stack nm h1 h2 O
    obtain ⟨kk, rfl⟩ : ∃ q, kk = q + 1 := ⟨kk - 1, by omega⟩
    have b24 := Hk.1.2
    rw [f7_words_43.eq_2, f6_words_40.eq_2, q_ldI (by omega) (by omega), Hk.1.1, if_pos (nI_le (by omega) (by omega)), q_ldI (by omega) (by omega), Hk.1.1, if_pos (nI_le (by omega) (by omega)), q_ldI (by omega) (by omega), Hk.1.1, show nv hsz k = i by omega]
    exact ⟨_, _, _, _, _, _, _, _, _, _, _, _, _, _, _, _, _, _, rfl, rfl, O⟩
  | succ m ih =>
    intro i kk s kinds1 writers1 minutes1 matters1 undoers1 scores1 sizes1 cells1 nW nO named pile ub nc stack nm h1 h2 O
    obtain ⟨kk, rfl⟩ : ∃ q, kk = q + 1 := ⟨kk - 1, by omega⟩
    obtain ⟨I, R, X, F⟩ := O
    have b24 := Hk.1.2
    have zd := I.sizeB (Nat.le_refl (dn s))
    have f0 := F 0 (by omega)
    have f2 := F 2 (by omega)
    have f3 := F 3 (by omega)
    have stop : ∀ (nmd pil nc2 st2 : Nat → Int32), ∃ a s' nm' nW' nO' named' pile' ub' kinds2 writers2 minutes2 matters2 undoers2 scores2 sizes2 cells2 nc' stack', f7_words_112 n bits hsz num (f7_words_43 n bits hsz num kk) (nI k) (nI w) (nI i) (nI i) (hnum (k * 24 + i)) nm s E nW nO nmd pil ub = some (a, nm', s', E, nW', nO', named', pile', ub') ∧ (some (nI i, nI (dn s), E, kinds1, writers1, minutes1, matters1, undoers1, scores1, sizes1, cells1, nc2, st2) : Option (Int32 × Int32 × (Nat → Int32) × (Nat → Int32) × (Nat → Int32) × (Nat → Int32) × (Nat → Int32) × (Nat → Int32) × (Nat → Int32) × (Nat → Int32) × (Nat → Int32) × (Nat → Int32) × (Nat → Int32))) = some (a, nI (dn s'), E, kinds2, writers2, minutes2, matters2, undoers2, scores2, sizes2, cells2, nc', stack') ∧ OK s0 s' lengths codes kinds2 writers2 minutes2 matters2 undoers2 scores2 sizes2 cells2 := by
      intro nmd pil nc2 st2
      obtain ⟨kk2, rfl⟩ : ∃ q, kk = q + 1 := ⟨kk - 1, by omega⟩
      rw [f7_words_112, f7_words_113, if_pos rfl, f7_words_137, q_ltP, f7_words_43.eq_2, q_ldI (by omega) (by omega), if_pos rfl, ite_self]
      exact ⟨_, _, _, _, _, _, _, _, _, _, _, _, _, _, _, _, _, _, rfl, rfl, I, R, X, F⟩
    rw [f7_words_43.eq_2, f6_words_40.eq_2, q_ldI (by omega) (by omega), Hk.1.1, if_neg (nI_ge (by omega) (by omega)), q_ldI (by omega) (by omega), Hk.1.1, if_neg (nI_ge (by omega) (by omega)), if_neg (show ¬ (1 : Int32) = 0 by decide)]
    have en : f3_numberAt (nI k) (nI i) hnum = some (hnum (k * 24 + i)) := by simp (disch := omega) only [z_0, z_1, z_2, z_3, z_4, z_5, z_6, z_7, z_8, z_9, z_10, z_11, z_12, z_13, z_16, z_20, z_21, z_24, z_30, z_31, z_32, z_33, z_37, z_38, z_39, z_40, z_41, z_42, z_43, z_44, z_45, z_46, z_47, z_48, z_49, z_50, z_51, z_52, z_53, z_54, z_55, z_56, z_57, z_58, z_59, z_60, z_61, z_62, z_63, z_70, z_80, z_81, z_97, z_98, z_99, z_100, z_101, z_107, z_108, z_109, z_111, z_114, z_117, z_119, z_124, z_125, z_255, z_310, z_380, z_480, z_999, z_1440, z_1600, z_2820, z_2890, z_3890, z_3950, z_3974, z_9999, z_12345, z_29999, pk_mul, nI_add, q_ldI, q_stI, nI_leI, nI_ltI, nI_eq, q_c_some, q_c1_some, q_c2_some, q_c3_some, q_c4_some, q_c5_some, q_c7_some, q_c8_some, q_c9_some, q_c10_some, q_c11_some, q_c12_some, q_ltP, q_bzN0, q_bzN1, q_dvI, b_eq0, b_eq1, n10, Nat.reduceEqDiff, Nat.reduceLeDiff, ↓reduceIte, if_true, if_false, f3_numberAt]
    rw [show (24 : Int32) * nI k + nI i = nI (24 * k + i) from by rw [show (24 : Int32) = nI 24 from by decide, pk_mul, nI_add], q_ldI (by omega) (by omega), Hk.2.2 i (by omega), k_pageSize I R, I.size (Nat.le_refl _), q_c_some, q_ltP, en, q_c_some]
    rw [show (100 : Int32) * nI w + nI (nv s (310 + dn s)) = nI (w * 100 + nv s (310 + dn s)) from by rw [show (100 : Int32) = nI 100 from by decide, pk_mul, nI_add, Nat.mul_comm]]
    have ok1 : plOk s 1 (nv s (310 + dn s)) := by unfold plOk; rw [if_neg (by omega)]; exact Nat.le_refl _
    rcases wd_cases (hnum (k * 24 + i)) with ⟨yv, y1, y2, ey, y3, y4⟩ | ⟨y3, y4⟩
    rotate_left
    · have kb := k_putBad (n := n) (k := 1) (lengths := lengths) (codes := codes) (nc := nc) (stack := stack) I R (Or.inl rfl) hw (p := nv s (310 + dn s)) (by omega) (Or.inl y4)
      rw [f0, f2, f3] at kb
      rw [y3, q_c_some, if_pos i0, show f1_refusesPutting n 1 (nI (w * 100 + nv s (310 + dn s))) (hnum (k * 24 + i)) (s0 0) (s0 2) (s0 3) (nI (dn s)) kinds1 writers1 minutes1 sizes1 codes lengths nc stack = _ from kb, q_c3_some, if_neg i1]
      exact stop _ _ _ _
    rw [ey] at stop ⊢
    rw [y3, q_c_some, if_neg i1]
    obtain ⟨r, nm', pile', nc', stack', hr, m1, m2⟩ := refuse_both (nm := named) (pile := pile) (nc := nc) (stack := stack) I R X (w := w) hn hw
    have kg := k_putGood (k := 1) I R (Or.inl rfl) hw (p := nv s (310 + dn s)) (by omega) y4 ok1 hr m2
    rw [f0, f2, f3] at kg
    rw [m1, q_c3_some, show f1_refusesPutting n 1 (nI (w * 100 + nv s (310 + dn s))) (nI yv) (s0 0) (s0 2) (s0 3) (nI (dn s)) kinds1 writers1 minutes1 sizes1 codes lengths nc stack = _ from kg, q_c3_some]
    rcases hr with rfl | rfl
    · rw [if_pos i0, if_pos rfl, if_neg i3]
      exact stop _ _ _ _
    rw [if_neg i1, if_neg (show ¬ nI 1 = nI 0 by decide), r_isFull I, q_c_some]
    by_cases h60 : dn s = 60
    · rw [if_pos h60, if_pos h60, if_neg i1, if_neg i4]
      exact stop _ _ _ _
    rw [if_neg h60, if_neg h60, if_pos i0, if_neg (show ¬ 1 = 5 by omega), r_page I, I.size (Nat.le_refl _), q_c_some]
    by_cases h20 : nv s (310 + dn s) < 20
    rotate_left
    · rw [if_neg h20, if_neg i4, if_pos (show (20 : Int32) ≤ nI (nv s (310 + dn s)) from nI_le (a := 20) (by omega) (by omega))]
      exact stop _ _ _ _
    have hdl : dn s < 60 := by have := I.doneB; omega
    rw [if_pos h20, if_pos i0, if_neg (show ¬ (20 : Int32) ≤ nI (nv s (310 + dn s)) from nI_ge (b := 20) h20 (by omega)), f7_words_113, if_neg (show ¬ (1 : Int32) = 0 by decide), r_page I, I.size (Nat.le_refl _), q_c_some]
    obtain ⟨s1, kinds3, writers3, minutes3, matters3, undoers3, scores3, sizes3, cells3, nm2, s2, nW2, nO2, named2, pile2, ub2, kinds2, writers2, minutes2, matters2, undoers2, scores2, sizes2, cells2, nc2, stack2, g1, g2, g3, I2, R2, X2, F2⟩ := do_put (nW := nW) (nO := nO) (named := nm') (pile := pile') (ub := ub) (nc := nc') (stack := stack') (nm := nm) I R X (w := w) (p := nv s (310 + dn s)) (x := yv) (k := 1) hdl hn (by omega) hw (Nat.le_refl _) h20 y1 y2
    rw [f0] at g2
    rw [f0, f2, f3] at g3
    rw [show f7_writes n 1 (nI w) (nI (nv s (310 + dn s))) (nI yv) nm s nW nO nm' pile' ub = _ from g1, q_c8_some, q_ltP, f7_words_137, q_ltP, nI_1, show f1_puts n 1 (nI (w * 100 + nv s (310 + dn s))) (nI yv) (s0 0) (nI (dn s)) kinds1 writers1 minutes1 matters1 undoers1 scores1 sizes1 cells1 = _ from g2, q_c10_some]
    unfold f6_answered
    rw [g3, q_c11_some, q_c12_some, q_ltP]
    exact ih (i + 1) kk s2 kinds2 writers2 minutes2 matters2 undoers2 scores2 sizes2 cells2 nW2 nO2 named2 pile2 ub2 nc2 stack2 nm2 (by omega) (by omega) ⟨I2, R2, X2, F.trans F2⟩
theorem p_words {s kinds writers minutes matters undoers scores sizes cells : Nat → Int32} (I : IV s) (R : RA s kinds writers minutes matters undoers scores sizes cells) {lengths codes nW nO named pile ub nc stack E : Nat → Int32} (X : RXA s lengths codes) {n : Nat} {nm : Int32} (hn : 4100 ≤ n) {bits hsz num hnum : Nat → Int32} (H : SH bits hsz num hnum) (x y : Int32) : ∃ a E' s' nm' nW' nO' named' pile' ub' kinds2 writers2 minutes2 matters2 undoers2 scores2 sizes2 cells2 nc' stack', f7_words n x y nm s E nW nO named pile ub bits hsz num = some (a, nm', s', E', nW', nO', named', pile', ub') ∧ f6_words n x y (s 0) (s 2) (s 3) (nI (dn s)) E kinds writers minutes matters undoers scores sizes cells codes lengths nc stack bits hsz hnum = some (a, nI (dn s'), E', kinds2, writers2, minutes2, matters2, undoers2, scores2, sizes2, cells2, nc', stack') ∧ OK s s' lengths codes kinds2 writers2 minutes2 matters2 undoers2 scores2 sizes2 cells2 := by
  have same : OK s s lengths codes kinds writers minutes matters undoers scores sizes cells := ⟨I, R, X, FR.refl s⟩
  unfold f7_words f6_words
  rcases she_cases x with ⟨k, hk, rfl, h1, h2⟩ | ⟨h1, h2⟩
  rotate_left
  · rw [h1, h2, q_c_some, q_c_some, if_pos i0, if_pos i0]
    simp only [f7_words_14, f6_words_14, (r_err E).1, (k_err E).1, q_c2_er]
    exact ⟨_, _, _, _, _, _, _, _, _, _, _, _, _, _, _, _, _, _, _, rfl, rfl, same⟩
  rw [h1, h2, q_c_some, q_c_some, if_neg i1, if_neg i1]
  rcases wri_cases y with ⟨w, hw, rfl, h1, h2⟩ | ⟨h1, h2⟩
  rotate_left
  · rw [h1, h2, q_c_some, q_c_some, if_pos i0, if_pos i0]
    simp only [f7_words_14, f6_words_14, (r_err E).1, (k_err E).1, q_c2_er]
    exact ⟨_, _, _, _, _, _, _, _, _, _, _, _, _, _, _, _, _, _, _, rfl, rfl, same⟩
  rw [h1, h2, q_c_some, q_c_some, if_neg i1, if_neg i1, q_ldI (by omega) (by omega), q_ldI (by omega) (by omega)]
  by_cases h0 : bits k = 0
  · rw [if_pos h0, if_pos h0, (r_err E).2.1, (k_err E).2.1, q_c2_er, q_c2_er]
    exact ⟨_, _, _, _, _, _, _, _, _, _, _, _, _, _, _, _, _, _, _, rfl, rfl, same⟩
  rw [if_neg h0, if_neg h0]
  obtain ⟨a, s', nm', nW', nO', named', pile', ub', kinds2, writers2, minutes2, matters2, undoers2, scores2, sizes2, cells2, nc', stack', g1, g2, O⟩ := words_loop (E := E) (n := n) hn hw hk H (nv hsz k) 0 n s kinds writers minutes matters undoers scores sizes cells nW nO named pile ub nc stack nm (by omega) (by have := (H k hk).1.2; omega) same
  exact ⟨a, E, s', nm', nW', nO', named', pile', ub', kinds2, writers2, minutes2, matters2, undoers2, scores2, sizes2, cells2, nc', stack', g1, g2, O⟩
