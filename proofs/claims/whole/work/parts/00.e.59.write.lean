/-! ===== write, cut ===== -/
theorem wp_neg {x : Int32} {v : Nat} (h : x < 0) (e : x / 100 = nI v) (hv : v ≤ 7) : v = 0 := by
  have h1 : x.toInt < 0 := Int32.lt_iff_toInt_lt.mp h
  have h2 := x.le_toInt
  have e2 := congrArg Int32.toInt e
  rw [Int32.toInt_div, nI_toInt (by omega), show (100 : Int32).toInt = 100 from by decide] at e2
  have e3 : x.toInt.tdiv 100 = -((-x.toInt) / 100) := by
    rw [← Int.neg_neg (x.toInt.tdiv 100), ← Int.neg_tdiv, Int.tdiv_eq_ediv_of_nonneg (by omega)]
  rw [e3, Int.bmod_eq_of_le (by omega) (by omega)] at e2
  omega
theorem wd_cases (x : Int32) : (∃ v, 1 ≤ v ∧ v ≤ 60 ∧ x = nI v ∧ f7_in (nI v) 1 60 = some (nI 1) ∧ f6_isWord (nI v) = some (nI 1)) ∨ (f7_in x 1 60 = some (nI 0) ∧ f6_isWord x = some (nI 0)) := by
  by_cases hlo : x < 1
  · refine Or.inr ⟨r_inF (Or.inl hlo), ?_⟩
    simp only [f6_isWord_16, f6_isWord_15, f6_isWord]
    rw [if_pos hlo]; rfl
  by_cases hhi : x ≤ 60
  rotate_left
  · refine Or.inr ⟨r_inF (Or.inr (Int32.not_le.mp hhi)), ?_⟩
    simp only [f6_isWord_16, f6_isWord_15, f6_isWord]
    rw [if_neg hlo, if_pos (Int32.not_le.mp hhi)]; rfl
  have h0 : ¬ x < 0 := fun q => hlo (Int32.lt_trans q (by decide))
  obtain ⟨v, hv, rfl⟩ := nI_of2 (M := 60) (n := 60) (by decide) h0 hhi
  have hv1 : 1 ≤ v := by
    rcases Nat.eq_zero_or_pos v with q | q
    · rw [q] at hlo; exact absurd (by decide) hlo
    · exact q
  refine Or.inl ⟨v, hv1, hv, rfl, r_inY (Int32.not_lt.mp hlo) hhi, ?_⟩
  simp only [f6_isWord_16, f6_isWord_15, f6_isWord]
  rw [if_neg hlo, if_neg (Int32.not_lt.mpr hhi)]; rfl
theorem wp_e1 (w p : Nat) (hp : p < 100) (h : w * 100 + p < 2 ^ 31) : nI (w * 100 + p) / 100 = nI w := by
  rw [show (100 : Int32) = nI 100 from by decide, pk_div h (by omega) (by omega)]; congr 1; omega
theorem wp_e2 (w p : Nat) : nI (w * 100 + p) - nI w * 100 = nI p := by
  rw [show (100 : Int32) = nI 100 from by decide, pk_mul, pk_sub (by omega)]; congr 1; omega
theorem q_dv100 {α : Type} {K : Option α} : q_dv 100 K = K := by
  unfold q_dv
  rw [if_neg (by decide)]
theorem le_sub1 {p z : Nat} (hp : p < 100) (hz : z ≤ 20) : nI p ≤ nI z - 1 ↔ p < z := by
  rcases Nat.eq_zero_or_pos z with h | h
  · subst h
    constructor
    · intro q
      exact absurd (Int32.le_trans (nI_pos' (n := p) (by omega)) q) (by decide)
    · intro q; omega
  · obtain ⟨y, rfl⟩ : ∃ y, z = y + 1 := ⟨z - 1, by omega⟩
    rw [nI_pred, nI_leI (by omega) (by omega)]
    omega
/-- may this word go to this place -/
def plOk (s : Nat → Int32) (k p : Nat) : Prop := if k = 5 then p < nv s (310 + dn s) else p ≤ nv s (310 + dn s)
theorem k_putBad {s kinds writers minutes matters undoers scores sizes cells : Nat → Int32} (I : IV s) (R : RA s kinds writers minutes matters undoers scores sizes cells) {lengths codes nc stack : Nat → Int32} {n k w p : Nat} {x : Int32} (hk : k = 1 ∨ k = 4 ∨ k = 5) (hw : w ≤ 7) (hp : p < 100) (h : f6_isWord x = some (nI 0) ∨ f6_isWord x = some (nI 1) ∧ ¬ plOk s k p) : f1_refusesPutting n (nI k) (nI (w * 100 + p)) x (s 0) (s 2) (s 3) (nI (dn s)) kinds writers minutes sizes codes lengths nc stack = some (nI 1, nc, stack) := by
  have z := I.sizeB (Nat.le_refl (dn s))
  have e1 := wp_e1 w p hp (by omega)
  have e2 := wp_e2 w p
  have ew : f6_isWriter (nI w) = some (nI 1) := by
    have e : ¬ 8 ≤ w := by omega
    simp (disch := omega) only [z_0, z_1, z_2, z_3, z_4, z_5, z_6, z_7, z_8, z_9, z_10, z_11, z_12, z_13, z_16, z_20, z_21, z_24, z_30, z_31, z_32, z_33, z_37, z_38, z_39, z_40, z_41, z_42, z_43, z_44, z_45, z_46, z_47, z_48, z_49, z_50, z_51, z_52, z_53, z_54, z_55, z_56, z_57, z_58, z_59, z_60, z_61, z_62, z_63, z_70, z_80, z_81, z_97, z_98, z_99, z_100, z_101, z_107, z_108, z_109, z_111, z_114, z_117, z_119, z_124, z_125, z_255, z_310, z_380, z_480, z_999, z_1440, z_1600, z_2820, z_2890, z_3890, z_3950, z_3974, z_9999, z_12345, z_29999, pk_mul, nI_add, q_ldI, q_stI, nI_leI, nI_ltI, nI_eq, q_c_some, q_c1_some, q_c2_some, q_c3_some, q_c4_some, q_c5_some, q_c7_some, q_c8_some, q_c9_some, q_c10_some, q_c11_some, q_c12_some, q_ltP, q_bzN0, q_bzN1, q_dvI, b_eq0, b_eq1, n10, Nat.reduceEqDiff, Nat.reduceLeDiff, ↓reduceIte, if_true, if_false, f6_isWriter_15, f6_isWriter_14, f6_isWriter, Nat.not_lt_zero, e]
  have h0 : ¬ nI p < 0 := nI_pos (by omega)
  have key : ∀ t, (¬ plOk s k p → ¬ nI p ≤ t) → f1_refusesPutting_47 n (s 0) (s 2) (s 3) (nI (dn s)) kinds writers minutes sizes codes lengths (nI k) (nI (w * 100 + p)) x (nI p) t nc stack = some (nI 1, nc, stack) := by
    intro t ht
    rw [f1_refusesPutting_47, q_dv100, e1, ew, q_c_some, if_neg i1]
    rcases h with h | ⟨h, hb⟩
    · rw [h, q_c_some, if_pos i0]; rfl
    · rw [h, q_c_some, if_neg i1, if_neg h0, if_neg (ht hb)]; rfl
  have go : f1_refusesPutting_17 n (s 0) (s 2) (s 3) (nI (dn s)) kinds writers minutes sizes codes lengths (nI k) (nI (w * 100 + p)) x nc stack = some (nI 1, nc, stack) := by
    rw [f1_refusesPutting_17, q_dv100, e1, e2, q_ltP]
    by_cases h5 : k = 5
    · rw [if_pos (show nI k = 5 by rw [h5]; rfl), k_pageSize I R, I.size (Nat.le_refl _), q_c_some]
      refine key _ (fun hb q => hb ?_)
      unfold plOk
      rw [if_pos h5]
      exact (le_sub1 hp z).mp q
    · rw [if_neg (show ¬ nI k = 5 from fun q => h5 ((nI_eq (a := k) (b := 5) (by omega) (by omega)).mp q)), k_pageSize I R, I.size (Nat.le_refl _), q_c_some]
      refine key _ (fun hb q => hb ?_)
      unfold plOk
      rw [if_neg h5]
      exact (nI_leI (by omega) (by omega)).mp q
  rw [f1_refusesPutting]
  rcases hk with rfl | rfl | rfl
  · rw [if_pos (show nI 1 = 1 from rfl)]; exact go
  · rw [if_neg (show ¬ nI 4 = 1 by decide), if_pos (show nI 4 = 4 from rfl)]; exact go
  · rw [if_neg (show ¬ nI 5 = 1 by decide), if_neg (show ¬ nI 5 = 4 by decide), if_pos (show nI 5 = 5 from rfl)]; exact go
theorem k_putGood {s kinds writers minutes matters undoers scores sizes cells : Nat → Int32} (I : IV s) (R : RA s kinds writers minutes matters undoers scores sizes cells) {lengths codes nc stack nc' stack' : Nat → Int32} {n k w p : Nat} {x r : Int32} (hk : k = 1 ∨ k = 4 ∨ k = 5) (hw : w ≤ 7) (hp : p < 100) (h : f6_isWord x = some (nI 1)) (hb : plOk s k p) (hr : r = nI 0 ∨ r = nI 1) (hm : f1_refusesActing n (nI w) (s 0) (s 2) (s 3) (nI (dn s)) kinds writers minutes sizes codes lengths nc stack = some (if r = nI 0 then nI 3 else if dn s = 60 then nI 4 else nI 0, nc', stack')) : f1_refusesPutting n (nI k) (nI (w * 100 + p)) x (s 0) (s 2) (s 3) (nI (dn s)) kinds writers minutes sizes codes lengths nc stack = some (if r = nI 0 then nI 3 else if dn s = 60 then nI 4 else if k = 5 then nI 0 else if nv s (310 + dn s) < 20 then nI 0 else nI 4, nc', stack') := by
  have z := I.sizeB (Nat.le_refl (dn s))
  have e1 := wp_e1 w p hp (by omega)
  have e2 := wp_e2 w p
  have ew : f6_isWriter (nI w) = some (nI 1) := by
    have e : ¬ 8 ≤ w := by omega
    simp (disch := omega) only [z_0, z_1, z_2, z_3, z_4, z_5, z_6, z_7, z_8, z_9, z_10, z_11, z_12, z_13, z_16, z_20, z_21, z_24, z_30, z_31, z_32, z_33, z_37, z_38, z_39, z_40, z_41, z_42, z_43, z_44, z_45, z_46, z_47, z_48, z_49, z_50, z_51, z_52, z_53, z_54, z_55, z_56, z_57, z_58, z_59, z_60, z_61, z_62, z_63, z_70, z_80, z_81, z_97, z_98, z_99, z_100, z_101, z_107, z_108, z_109, z_111, z_114, z_117, z_119, z_124, z_125, z_255, z_310, z_380, z_480, z_999, z_1440, z_1600, z_2820, z_2890, z_3890, z_3950, z_3974, z_9999, z_12345, z_29999, pk_mul, nI_add, q_ldI, q_stI, nI_leI, nI_ltI, nI_eq, q_c_some, q_c1_some, q_c2_some, q_c3_some, q_c4_some, q_c5_some, q_c7_some, q_c8_some, q_c9_some, q_c10_some, q_c11_some, q_c12_some, q_ltP, q_bzN0, q_bzN1, q_dvI, b_eq0, b_eq1, n10, Nat.reduceEqDiff, Nat.reduceLeDiff, ↓reduceIte, if_true, if_false, f6_isWriter_15, f6_isWriter_14, f6_isWriter, Nat.not_lt_zero, e]
  have h0 : ¬ nI p < 0 := nI_pos (by omega)
  have key : ∀ t, nI p ≤ t → f1_refusesPutting_47 n (s 0) (s 2) (s 3) (nI (dn s)) kinds writers minutes sizes codes lengths (nI k) (nI (w * 100 + p)) x (nI p) t nc stack = some (if r = nI 0 then nI 3 else if dn s = 60 then nI 4 else if k = 5 then nI 0 else if nv s (310 + dn s) < 20 then nI 0 else nI 4, nc', stack') := by
    intro t ht
    rw [f1_refusesPutting_47, q_dv100, e1, ew, q_c_some, if_neg i1, h, q_c_some, if_neg i1, if_neg h0, if_pos ht, q_dv100, hm, q_c3_some]
    rcases hr with rfl | rfl
    · rw [if_pos rfl, if_neg i3]; rfl
    · rw [if_neg (show ¬ nI 1 = nI 0 by decide)]
      by_cases h60 : dn s = 60
      · rw [if_pos h60, if_neg i4, f1_refusesPutting_114, if_neg (show ¬ nI 1 = nI 0 by decide), if_pos h60]
      · rw [if_neg h60, if_pos i0, if_neg (show ¬ nI 1 = nI 0 by decide), if_neg h60]
        by_cases h5 : k = 5
        · rw [if_pos (show nI k = 5 by rw [h5]; rfl), if_pos h5]; rfl
        · rw [if_neg (show ¬ nI k = 5 from fun q => h5 ((nI_eq (a := k) (b := 5) (by omega) (by omega)).mp q)), if_neg h5, k_pageSize I R, I.size (Nat.le_refl _), q_c_some]
          by_cases h20 : nv s (310 + dn s) < 20
          · rw [if_pos (show nI (nv s (310 + dn s)) < 20 from nI_lt (b := 20) h20 (by omega)), if_pos h20]; rfl
          · rw [if_neg (show ¬ nI (nv s (310 + dn s)) < 20 from nI_nlt (b := 20) (by omega) (by omega)), if_neg h20]; rfl
  have go : f1_refusesPutting_17 n (s 0) (s 2) (s 3) (nI (dn s)) kinds writers minutes sizes codes lengths (nI k) (nI (w * 100 + p)) x nc stack = some (if r = nI 0 then nI 3 else if dn s = 60 then nI 4 else if k = 5 then nI 0 else if nv s (310 + dn s) < 20 then nI 0 else nI 4, nc', stack') := by
    unfold plOk at hb
    rw [f1_refusesPutting_17, q_dv100, e1, e2, q_ltP]
    by_cases h5 : k = 5
    · rw [if_pos h5] at hb
      rw [if_pos (show nI k = 5 by rw [h5]; rfl), k_pageSize I R, I.size (Nat.le_refl _), q_c_some]
      exact key _ ((le_sub1 hp z).mpr hb)
    · rw [if_neg h5] at hb
      rw [if_neg (show ¬ nI k = 5 from fun q => h5 ((nI_eq (a := k) (b := 5) (by omega) (by omega)).mp q)), k_pageSize I R, I.size (Nat.le_refl _), q_c_some]
      exact key _ (nI_le hb (by omega))
  rw [f1_refusesPutting]
  rcases hk with rfl | rfl | rfl
  · rw [if_pos (show nI 1 = 1 from rfl)]; exact go
  · rw [if_neg (show ¬ nI 4 = 1 by decide), if_pos (show nI 4 = 4 from rfl)]; exact go
  · rw [if_neg (show ¬ nI 5 = 1 by decide), if_neg (show ¬ nI 5 = 4 by decide), if_pos (show nI 5 = 5 from rfl)]; exact go
theorem p_cut {s kinds writers minutes matters undoers scores sizes cells : Nat → Int32} (I : IV s) (R : RA s kinds writers minutes matters undoers scores sizes cells) {lengths codes nW nO named pile ub nc stack E : Nat → Int32} (X : RXA s lengths codes) {n : Nat} {nm : Int32} (hn : 4100 ≤ n) (x : Int32) : ∃ a E' s' nm' nW' nO' named' pile' ub' kinds2 writers2 minutes2 matters2 undoers2 scores2 sizes2 cells2 nc' stack', f7_cut n x nm s E nW nO named pile ub = some (a, nm', s', E', nW', nO', named', pile', ub') ∧ f6_cut n x (s 0) (s 2) (s 3) (nI (dn s)) E kinds writers minutes matters undoers scores sizes cells codes lengths nc stack = some (a, nI (dn s'), E', kinds2, writers2, minutes2, matters2, undoers2, scores2, sizes2, cells2, nc', stack') ∧ OK s s' lengths codes kinds2 writers2 minutes2 matters2 undoers2 scores2 sizes2 cells2 := by
  have same : OK s s lengths codes kinds writers minutes matters undoers scores sizes cells := ⟨I, R, X, FR.refl s⟩
  have hdb := I.doneB
  have z := I.sizeB (Nat.le_refl (dn s))
  unfold f7_cut f6_cut
  simp only [q_dv100, q_ltP]
  by_cases hx : x < 0
  · rw [if_pos hx]
    rcases wri_cases (x / 100) with ⟨w, hw, e, h1, h2⟩ | ⟨h1, h2⟩
    · have w0 := wp_neg hx e hw
      subst w0
      rw [e, h2, q_c_some, if_neg i1, show x - nI 0 * 100 = x from by rw [nI_0, Int32.zero_mul, Int32.sub_zero], if_pos hx]
      simp only [f7_cut_25, f6_cut_33, (r_err E).1, (k_err E).1, q_c2_er]
      exact ⟨_, _, _, _, _, _, _, _, _, _, _, _, _, _, _, _, _, _, _, rfl, rfl, same⟩
    · rw [h2, q_c_some, if_pos i0]
      simp only [f7_cut_25, f6_cut_33, (r_err E).1, (k_err E).1, q_c2_er]
      exact ⟨_, _, _, _, _, _, _, _, _, _, _, _, _, _, _, _, _, _, _, rfl, rfl, same⟩
  rw [if_neg hx]
  obtain ⟨k, hk, rfl⟩ := nI_of hx
  obtain ⟨w, p, hp, rfl⟩ : ∃ w p, p < 100 ∧ k = w * 100 + p := ⟨k / 100, k % 100, by omega, by omega⟩
  rw [wp_e1 w p hp hk, wp_e2 w p]
  rcases wri_cases (nI w) with ⟨w', hw, e, h1, h2⟩ | ⟨h1, h2⟩
  rotate_left
  · rw [h1, h2, q_c_some, q_c_some, if_pos i0, if_pos i0]
    simp only [f7_cut_25, f6_cut_33, (r_err E).1, (k_err E).1, q_c2_er]
    exact ⟨_, _, _, _, _, _, _, _, _, _, _, _, _, _, _, _, _, _, _, rfl, rfl, same⟩
  have ew : w = w' := (nI_eq (by omega) (by omega)).mp e
  subst ew
  rw [h1, h2, q_c_some, q_c_some, if_neg i1, if_neg i1, if_neg (nI_pos (by omega)), r_page I, k_pageSize I R, I.size (Nat.le_refl _), q_c_some, q_c_some]
  by_cases hpl : p < nv s (310 + dn s)
  rotate_left
  · rw [if_neg (nI_nlt (by omega) (by omega)), if_neg (nI_nlt (by omega) (by omega))]
    simp only [f7_cut_25, f6_cut_33, (r_err E).1, (k_err E).1, q_c2_er]
    exact ⟨_, _, _, _, _, _, _, _, _, _, _, _, _, _, _, _, _, _, _, rfl, rfl, same⟩
  rw [if_pos (nI_lt hpl (by omega)), if_pos (nI_lt hpl (by omega))]
  obtain ⟨r, nm', pile', nc', stack', hr, m1, m2⟩ := refuse_both (nm := named) (pile := pile) (nc := nc) (stack := stack) I R X (w := w) hn hw
  rw [m1, m2, q_c3_some, q_c3_some]
  rcases hr with rfl | rfl
  · rw [if_pos i0, if_pos rfl, if_neg i3, show f6_error (nI 3) E = _ from (k_err E).2.2.1, (r_err E).2.2.1, q_c2_er, q_c2_er]
    exact ⟨_, _, _, _, _, _, _, _, _, _, _, _, _, _, _, _, _, _, _, rfl, rfl, same⟩
  rw [if_neg i1, if_neg (show ¬ nI 1 = nI 0 by decide), r_isFull I, q_c_some]
  by_cases h60 : dn s = 60
  · rw [if_pos h60, if_pos h60, if_neg i1, if_neg i4, show f6_error (nI 4) E = _ from (k_err E).2.2.2.1, (r_err E).2.2.2.1, q_c2_er, q_c2_er]
    exact ⟨_, _, _, _, _, _, _, _, _, _, _, _, _, _, _, _, _, _, _, rfl, rfl, same⟩
  rw [if_neg h60, if_neg h60, if_pos i0, if_pos i0]
  obtain ⟨s1, kinds1, writers1, minutes1, matters1, undoers1, scores1, sizes1, cells1, nm2, s2, nW2, nO2, named2, pile2, ub2, kinds2, writers2, minutes2, matters2, undoers2, scores2, sizes2, cells2, nc2, stack2, g1, g2, g3, O⟩ := do_take (nW := nW) (nO := nO) (named := nm') (pile := pile') (ub := ub) (nc := nc') (stack := stack') (nm := nm) I R X (w := w) (p := p) (by omega) hn hw hpl
  rw [g1, q_c8_some, g2, q_c10_some]
  unfold f6_answered
  rw [g3, q_c11_some, q_c12_some]
  exact ⟨_, _, _, _, _, _, _, _, _, _, _, _, _, _, _, _, _, _, _, rfl, rfl, O⟩
theorem p_write {s kinds writers minutes matters undoers scores sizes cells : Nat → Int32} (I : IV s) (R : RA s kinds writers minutes matters undoers scores sizes cells) {lengths codes nW nO named pile ub nc stack E : Nat → Int32} (X : RXA s lengths codes) {n : Nat} {nm : Int32} (hn : 4100 ≤ n) (c x y : Int32) : ∃ a E' s' nm' nW' nO' named' pile' ub' kinds2 writers2 minutes2 matters2 undoers2 scores2 sizes2 cells2 nc' stack', f7_write n c x y nm s E nW nO named pile ub = some (a, nm', s', E', nW', nO', named', pile', ub') ∧ f6_write n c x y (s 0) (s 2) (s 3) (nI (dn s)) E kinds writers minutes matters undoers scores sizes cells codes lengths nc stack = some (a, nI (dn s'), E', kinds2, writers2, minutes2, matters2, undoers2, scores2, sizes2, cells2, nc', stack') ∧ OK s s' lengths codes kinds2 writers2 minutes2 matters2 undoers2 scores2 sizes2 cells2 := by
  have same : OK s s lengths codes kinds writers minutes matters undoers scores sizes cells := ⟨I, R, X, FR.refl s⟩
  have hdb := I.doneB
  have z := I.sizeB (Nat.le_refl (dn s))
  have bad : ∀ (h7 : f7_write n c x y nm s E nW nO named pile ub = f7_write_76 n nm s E nW nO named pile ub) (h6 : f1_refusesPutting n c x y (s 0) (s 2) (s 3) (nI (dn s)) kinds writers minutes sizes codes lengths nc stack = some (nI 1, nc, stack)), ∃ a E' s' nm' nW' nO' named' pile' ub' kinds2 writers2 minutes2 matters2 undoers2 scores2 sizes2 cells2 nc' stack', f7_write n c x y nm s E nW nO named pile ub = some (a, nm', s', E', nW', nO', named', pile', ub') ∧ f6_write n c x y (s 0) (s 2) (s 3) (nI (dn s)) E kinds writers minutes matters undoers scores sizes cells codes lengths nc stack = some (a, nI (dn s'), E', kinds2, writers2, minutes2, matters2, undoers2, scores2, sizes2, cells2, nc', stack') ∧ OK s s' lengths codes kinds2 writers2 minutes2 matters2 undoers2 scores2 sizes2 cells2 := by
    intro h7 h6
    rw [h7, f6_write, h6, q_c3_some, if_neg i1, show f6_error (nI 1) E = _ from (k_err E).1, f7_write_76, (r_err E).1, q_c2_er, q_c2_er]
    exact ⟨_, _, _, _, _, _, _, _, _, _, _, _, _, _, _, _, _, _, _, rfl, rfl, same⟩
  have hkind : (∃ k, (k = 1 ∨ k = 4 ∨ k = 5) ∧ c = nI k) ∨ (¬ c = 1 ∧ ¬ c = 4 ∧ ¬ c = 5) := by
    by_cases q1 : c = 1
    · exact Or.inl ⟨1, by omega, q1⟩
    by_cases q4 : c = 4
    · exact Or.inl ⟨4, by omega, q4⟩
    by_cases q5 : c = 5
    · exact Or.inl ⟨5, by omega, q5⟩
    exact Or.inr ⟨q1, q4, q5⟩
  rcases hkind with ⟨k, hk, rfl⟩ | ⟨q1, q4, q5⟩
  rotate_left
  · refine bad ?_ ?_
    · rw [f7_write, if_neg q1, if_neg q4, if_neg q5, f7_write_43, f7_write_44, if_pos rfl]
    · rw [f1_refusesPutting, if_neg q1, if_neg q4, if_neg q5]; rfl
  have e7 : f7_write n (nI k) x y nm s E nW nO named pile ub = f7_write_15 n (nI k) x y nm s E nW nO named pile ub := by
    rw [f7_write]
    rcases hk with rfl | rfl | rfl
    · rw [if_pos (show nI 1 = 1 from rfl)]
    · rw [if_neg (show ¬ nI 4 = 1 by decide), if_pos (show nI 4 = 4 from rfl)]
    · rw [if_neg (show ¬ nI 5 = 1 by decide), if_neg (show ¬ nI 5 = 4 by decide), if_pos (show nI 5 = 5 from rfl)]
  have no7 : f7_write_43 n (nI k) x y nm s E nW nO named pile ub = f7_write_76 n nm s E nW nO named pile ub := by
    rw [f7_write_43, f7_write_44, if_pos rfl]
  have e6 : f1_refusesPutting n (nI k) x y (s 0) (s 2) (s 3) (nI (dn s)) kinds writers minutes sizes codes lengths nc stack = f1_refusesPutting_17 n (s 0) (s 2) (s 3) (nI (dn s)) kinds writers minutes sizes codes lengths (nI k) x y nc stack := by
    rw [f1_refusesPutting]
    rcases hk with rfl | rfl | rfl
    · rw [if_pos (show nI 1 = 1 from rfl)]
    · rw [if_neg (show ¬ nI 4 = 1 by decide), if_pos (show nI 4 = 4 from rfl)]
    · rw [if_neg (show ¬ nI 5 = 1 by decide), if_neg (show ¬ nI 5 = 4 by decide), if_pos (show nI 5 = 5 from rfl)]
  have notw : f6_isWriter (x / 100) = some (nI 0) → f1_refusesPutting_17 n (s 0) (s 2) (s 3) (nI (dn s)) kinds writers minutes sizes codes lengths (nI k) x y nc stack = some (nI 1, nc, stack) := by
    intro hw0
    rw [f1_refusesPutting_17, q_dv100, q_ltP, k_pageSize I R, q_c_some, q_c_some]
    simp only [f1_refusesPutting_47, q_dv100, hw0, q_c_some, i0, if_true, ite_self]
    rfl
  by_cases hx : x < 0
  · refine bad ?_ ?_
    · rw [e7, f7_write_15, if_pos hx, no7]
    · rw [e6]
      rcases wri_cases (x / 100) with ⟨w, hw, e, h1, h2⟩ | ⟨h1, h2⟩
      · have w0 := wp_neg hx e hw
        subst w0
        rw [f1_refusesPutting_17, q_dv100, q_ltP, k_pageSize I R, q_c_some, q_c_some]
        rcases wd_cases y with ⟨yv, y1, y2, rfl, y3, y4⟩ | ⟨y3, y4⟩
        · simp only [f1_refusesPutting_47, q_dv100, e, h2, y4, q_c_some, i1, if_false, show x - nI 0 * 100 = x from by rw [nI_0, Int32.zero_mul, Int32.sub_zero], hx, if_true, ite_self]
          rfl
        · simp only [f1_refusesPutting_47, q_dv100, e, h2, y4, q_c_some, i1, i0, if_false, if_true, ite_self]
          rfl
      · exact notw h2
  obtain ⟨j, hj, rfl⟩ := nI_of hx
  obtain ⟨w, p, hp, rfl⟩ : ∃ w p, p < 100 ∧ j = w * 100 + p := ⟨j / 100, j % 100, by omega, by omega⟩
  have e1 := wp_e1 w p hp hj
  have e2 := wp_e2 w p
  rcases wri_cases (nI w) with ⟨w', hw, e, h1, h2⟩ | ⟨h1, h2⟩
  rotate_left
  · refine bad ?_ ?_
    · rw [e7, f7_write_15, if_neg hx, q_dv100, e1, h1, q_c_some, if_pos i0, no7]
    · rw [e6]; exact notw (by rw [e1]; exact h2)
  have ew : w = w' := (nI_eq (by omega) (by omega)).mp e
  subst ew
  rcases wd_cases y with ⟨yv, y1, y2, rfl, y3, y4⟩ | ⟨y3, y4⟩
  rotate_left
  · refine bad ?_ (k_putBad I R hk hw hp (Or.inl y4))
    rw [e7, f7_write_15, if_neg hx, q_dv100, e1, h1, q_c_some, if_neg i1, y3, q_c_some, if_pos i0, no7]
  have e44 : (plOk s k p → f7_write n (nI k) (nI (w * 100 + p)) (nI yv) nm s E nW nO named pile ub = f7_write_73 n (nI k) (nI (w * 100 + p)) (nI yv) (nI 0) (nI 0) nm s E nW nO named pile ub) ∧ (¬ plOk s k p → f7_write n (nI k) (nI (w * 100 + p)) (nI yv) nm s E nW nO named pile ub = f7_write_76 n nm s E nW nO named pile ub) := by
    rw [e7, f7_write_15, if_neg hx, q_dv100, e1, h1, q_c_some, if_neg i1, y3, q_c_some, if_neg i1, f7_write_44, if_neg (by decide), q_dv100, e1, e2, r_page I, I.size (Nat.le_refl _), q_c_some, q_c_some]
    unfold plOk f7_write_73
    rw [if_pos (Int32.le_refl (nI 0))]
    by_cases h5 : k = 5
    · rw [if_pos (show nI k = 5 by rw [h5]; rfl), if_pos h5]
      refine ⟨fun hb => ?_, fun hb => ?_⟩
      · rw [if_pos ((le_sub1 hp z).mpr hb)]
      · rw [if_neg (fun q => hb ((le_sub1 hp z).mp q))]
    · rw [if_neg (show ¬ nI k = 5 from fun q => h5 ((nI_eq (a := k) (b := 5) (by omega) (by omega)).mp q)), if_neg h5]
      refine ⟨fun hb => ?_, fun hb => ?_⟩
      · rw [if_pos (nI_le hb (by omega))]
      · rw [if_neg (nI_ge (by omega) (by omega))]
  by_cases hpl : plOk s k p
  rotate_left
  · refine bad (e44.2 hpl) (k_putBad I R hk hw hp (Or.inr ⟨y4, hpl⟩))
  rw [e44.1 hpl, f6_write, f7_write_73, if_pos (Int32.le_refl (nI 0)), q_dv100, e1]
  obtain ⟨r, nm', pile', nc', stack', hr, m1, m2⟩ := refuse_both (nm := named) (pile := pile) (nc := nc) (stack := stack) I R X (w := w) hn hw
  rw [k_putGood I R hk hw hp y4 hpl hr m2, m1, q_c3_some, q_c3_some]
  rcases hr with rfl | rfl
  · rw [if_pos i0, if_pos rfl, if_neg i3, show f6_error (nI 3) E = _ from (k_err E).2.2.1, (r_err E).2.2.1, q_c2_er, q_c2_er]
    exact ⟨_, _, _, _, _, _, _, _, _, _, _, _, _, _, _, _, _, _, _, rfl, rfl, same⟩
  rw [if_neg i1, if_neg (show ¬ nI 1 = nI 0 by decide), r_isFull I, q_c_some]
  by_cases h60 : dn s = 60
  · rw [if_pos h60, if_pos h60, if_neg i1, if_neg i4, show f6_error (nI 4) E = _ from (k_err E).2.2.2.1, f7_write_120, (r_err E).2.2.2.1, q_c2_er, q_c2_er]
    exact ⟨_, _, _, _, _, _, _, _, _, _, _, _, _, _, _, _, _, _, _, rfl, rfl, same⟩
  rw [if_neg h60, if_neg h60, if_pos i0]
  unfold plOk at hpl
  by_cases h5 : k = 5
  · rw [if_pos h5] at hpl
    subst h5
    rw [if_pos (show nI 5 = 5 from rfl), if_pos rfl, if_pos i0]
    obtain ⟨s1, kinds1, writers1, minutes1, matters1, undoers1, scores1, sizes1, cells1, nm2, s2, nW2, nO2, named2, pile2, ub2, kinds2, writers2, minutes2, matters2, undoers2, scores2, sizes2, cells2, nc2, stack2, g1, g2, g3, O⟩ := do_mend (nW := nW) (nO := nO) (named := nm') (pile := pile') (ub := ub) (nc := nc') (stack := stack') (nm := nm) I R X (w := w) (p := p) (x := yv) (by omega) hn hw hpl y1 y2
    rw [f7_write_126, q_dv100, q_dv100, e1, e2, g1, q_c8_some, g2, q_c10_some]
    unfold f6_answered
    rw [g3, q_c11_some, q_c12_some]
    exact ⟨_, _, _, _, _, _, _, _, _, _, _, _, _, _, _, _, _, _, _, rfl, rfl, O⟩
  rw [if_neg h5] at hpl
  rw [if_neg (show ¬ nI k = 5 from fun q => h5 ((nI_eq (a := k) (b := 5) (by omega) (by omega)).mp q)), if_neg h5, r_page I, I.size (Nat.le_refl _), q_c_some]
  by_cases h20 : nv s (310 + dn s) < 20
  rotate_left
  · rw [if_neg h20, if_pos (show nI (nv s (310 + dn s)) = 20 by rw [show nv s (310 + dn s) = 20 by omega]; rfl), if_neg i4, show f6_error (nI 4) E = _ from (k_err E).2.2.2.1, f7_write_120, (r_err E).2.2.2.1, q_c2_er, q_c2_er]
    exact ⟨_, _, _, _, _, _, _, _, _, _, _, _, _, _, _, _, _, _, _, rfl, rfl, same⟩
  rw [if_pos h20, if_neg (show ¬ nI (nv s (310 + dn s)) = 20 from fun q => absurd ((nI_eq (a := nv s (310 + dn s)) (b := 20) (by omega) (by omega)).mp q) (by omega)), if_pos i0]
  obtain ⟨s1, kinds1, writers1, minutes1, matters1, undoers1, scores1, sizes1, cells1, nm2, s2, nW2, nO2, named2, pile2, ub2, kinds2, writers2, minutes2, matters2, undoers2, scores2, sizes2, cells2, nc2, stack2, g1, g2, g3, O⟩ := do_put (nW := nW) (nO := nO) (named := nm') (pile := pile') (ub := ub) (nc := nc') (stack := stack') (nm := nm) I R X (w := w) (p := p) (x := yv) (k := k) (by omega) hn (by omega) hw hpl h20 y1 y2
  rw [f7_write_126, q_dv100, q_dv100, e1, e2, g1, q_c8_some, g2, q_c10_some]
  unfold f6_answered
  rw [g3, q_c11_some, q_c12_some]
  exact ⟨_, _, _, _, _, _, _, _, _, _, _, _, _, _, _, _, _, _, _, rfl, rfl, O⟩
