/-! ===== the rest of the row; shut, words ===== -/
theorem UN_row {s s' : Nat → Int32} (I : IV s) (h : ∀ j, 10 ≤ j → j < 2820 → s' j = s j) {d i : Nat} (hd : d ≤ dn s) (hi : i < d) : UN s' d i = UN s d i := by
  have hb := I.doneB
  refine UN_congr hi (fun w hw => AL_congr (h _ (by omega) (by omega)) (h _ (by omega) (by omega)) ?_)
  intro j hj
  have := I.sizeB (v := i) (by omega)
  exact ⟨h _ (by omega) (by omega), h _ (by omega) (by omega)⟩
theorem RA_congr {s kinds writers minutes matters undoers scores sizes cells : Nat → Int32} (I : IV s) (R : RA s kinds writers minutes matters undoers scores sizes cells) {s' : Nat → Int32} (h1 : s' 1 = s 1) (h : ∀ j, 10 ≤ j → j < 2820 → s' j = s j) : RA s' kinds writers minutes matters undoers scores sizes cells := by
  have hb := I.doneB
  have ed : dn s' = dn s := nv_congr h1
  refine ⟨?_, ?_, ?_, ?_, ?_, ?_, ?_, ?_, ?_⟩
  · intro i hi; rw [ed] at hi; rw [h _ (by omega) (by omega)]; exact R.kind hi
  · intro i hi; rw [ed] at hi; rw [h _ (by omega) (by omega)]; exact R.writer hi
  · intro i hi; rw [ed] at hi; rw [h _ (by omega) (by omega)]; exact R.minute hi
  · intro i hi; rw [ed] at hi; rw [h _ (by omega) (by omega)]; exact R.matter hi
  · intro i hi; rw [ed] at hi ⊢; rw [UN_row I h (Nat.le_refl _) hi]; exact R.undoer hi
  · intro i hi; rw [ed] at hi; rw [h _ (by omega) (by omega)]; exact R.score hi
  · intro v hv; rw [ed] at hv; rw [h _ (by omega) (by omega)]; exact R.size hv
  · intro v i hv hi
    rw [ed] at hv; rw [nv_congr (h (310 + v) (by omega) (by omega))] at hi
    have := I.sizeB hv
    rw [h _ (by omega) (by omega)]; exact R.word hv hi
  · intro v i hv hi
    rw [ed] at hv; rw [nv_congr (h (310 + v) (by omega) (by omega))] at hi
    have := I.sizeB hv
    rw [h _ (by omega) (by omega)]; exact R.origin hv hi
theorem IVc_congr {s : Nat → Int32} (I : IV s) {s' : Nat → Int32} (h1 : s' 1 = s 1) (h : ∀ j, 10 ≤ j → j < 2820 → s' j = s j) : IVc s' := by
  have hb := I.doneB
  have ed : dn s' = dn s := nv_congr h1
  refine ⟨?_, ?_, ?_⟩
  · intro v hv; rw [ed] at hv; exact isN_congr (h _ (by omega) (by omega)) (I.2.2.1 v hv)
  · intro v i hv hi
    rw [ed] at hv; rw [nv_congr (h (310 + v) (by omega) (by omega))] at hi
    have := I.sizeB hv
    have e := h (380 + 20 * v + i) (by omega) (by omega)
    rw [nv_congr e]
    exact ⟨isN_congr e (I.2.2.2.1 v i hv hi).1, (I.2.2.2.1 v i hv hi).2⟩
  · intro v i hv hi
    rw [ed] at hv; rw [nv_congr (h (310 + v) (by omega) (by omega))] at hi
    have := I.sizeB hv
    have e := h (1600 + 20 * v + i) (by omega) (by omega)
    rw [nv_congr e, e]
    exact I.2.2.2.2 v i hv hi
/-- acts stand as they stood, the clock goes on (or stands) -/
theorem IV_row {s : Nat → Int32} (I : IV s) {s' : Nat → Int32} (h1 : s' 1 = s 1) (h : ∀ j, 10 ≤ j → j < 2820 → s' j = s j) (h0 : isN s' 0 29999) (hle : nv s 0 ≤ nv s' 0) (h2 : isN s' 2 39998) (h4 : isN s' 4 60) (h5 : isN s' 5 24) : IV s' := by
  have hb := I.doneB
  have ed : dn s' = dn s := nv_congr h1
  refine ⟨⟨h0, isN_congr h1 I.1.2.1, h2, h4, h5⟩, ⟨?_, ?_, ?_, ?_⟩, IVc_congr I h1 h⟩
  · intro i hi; rw [ed] at hi; exact isN_congr (h _ (by omega) (by omega)) (I.2.1.1 i hi)
  · intro i hi; rw [ed] at hi; exact isN_congr (h _ (by omega) (by omega)) (I.2.1.2.1 i hi)
  · intro i hi; rw [ed] at hi
    have e := isN_congr (h (10 + 5 * i + 2) (by omega) (by omega)) (I.2.1.2.2.1 i hi)
    exact ⟨e.1, Nat.le_trans e.2 hle⟩
  · intro i j hij hj
    rw [ed] at hj
    rw [nv_congr (h (10 + 5 * i + 2) (by omega) (by omega)), nv_congr (h (10 + 5 * j + 2) (by omega) (by omega))]
    exact I.mono hij hj
theorem IV_same {s : Nat → Int32} (I : IV s) {s' : Nat → Int32} (h1 : s' 1 = s 1) (h : ∀ j, 10 ≤ j → j < 2820 → s' j = s j) (h0 : s' 0 = s 0) (h2 : isN s' 2 39998) (h4 : isN s' 4 60) (h5 : isN s' 5 24) : IV s' := IV_row I h1 h (isN_congr h0 I.1.1) (by rw [nv_congr h0]; exact Nat.le_refl _) h2 h4 h5
theorem RXA_row {s s' lengths codes : Nat → Int32} (h : ∀ j, 2890 ≤ j → j < 3890 → s' j = s j) (X : RXA s lengths codes) : RXA s' lengths codes := fun u hu => RX_congr hu h (X u hu)
theorem p_shut {s kinds writers minutes matters undoers scores sizes cells : Nat → Int32} (I : IV s) (R : RA s kinds writers minutes matters undoers scores sizes cells) {lengths codes nW nO named pile ub nc stack E : Nat → Int32} (X : RXA s lengths codes) {n : Nat} {nm : Int32} (hn : 4100 ≤ n) (x y : Int32) : ∃ a E' t s' nm' nW' nO' named' pile' ub' kinds2 writers2 minutes2 matters2 undoers2 scores2 sizes2 cells2 nc' stack', f7_shut n x y nm s E nW nO named pile ub = some (a, nm', s', E', nW', nO', named', pile', ub') ∧ f6_shut n x y (s 0) (s 2) (s 3) (nI (dn s)) E kinds writers minutes matters undoers scores sizes cells codes lengths nc stack = some (a, fun k => ([s' 2, s' 3, nI (dn s')] : List Int32).getD k 0, fun k => ([E', kinds2, writers2, minutes2, matters2, undoers2, scores2, sizes2, cells2, nc', stack'] : List (Nat → Int32)).getD k (fun _ => 0)) ∧ OK t s' lengths codes kinds2 writers2 minutes2 matters2 undoers2 scores2 sizes2 cells2 ∧ (∀ j, j ≠ 2 → j ≠ 3 → t j = s j) := by
  have same : OK s s lengths codes kinds writers minutes matters undoers scores sizes cells := ⟨I, R, X, FR.refl s⟩
  have hdb := I.doneB
  have hnow := I.nowB
  unfold f7_shut f6_shut
  rcases wri_cases x with ⟨w, hw, rfl, h1, h2⟩ | ⟨h1, h2⟩
  rotate_left
  · rw [h1, h2, q_c_some, q_c_some, if_pos i0, if_pos i0]
    simp only [f7_shut_18, f6_shut_19, (r_err E).1, (k_err E).1, q_c2_er]
    exact ⟨_, _, s, _, _, _, _, _, _, _, _, _, _, _, _, _, _, _, _, _, rfl, rfl, same, fun _ _ _ => rfl⟩
  rw [h1, h2, q_c_some, q_c_some, if_neg i1, if_neg i1]
  by_cases hlo : y < 1
  · rw [r_inF (Or.inl hlo), q_c_some, if_pos i0, if_pos hlo]
    simp only [f7_shut_18, f6_shut_19, (r_err E).1, (k_err E).1, q_c2_er]
    exact ⟨_, _, s, _, _, _, _, _, _, _, _, _, _, _, _, _, _, _, _, _, rfl, rfl, same, fun _ _ _ => rfl⟩
  rw [if_neg hlo]
  by_cases hhi : y ≤ 9999
  rotate_left
  · rw [r_inF (Or.inr (Int32.not_le.mp hhi)), q_c_some, if_pos i0, if_neg hhi]
    simp only [f7_shut_18, f6_shut_19, (r_err E).1, (k_err E).1, q_c2_er]
    exact ⟨_, _, s, _, _, _, _, _, _, _, _, _, _, _, _, _, _, _, _, _, rfl, rfl, same, fun _ _ _ => rfl⟩
  rw [r_inY (Int32.not_lt.mp hlo) hhi, q_c_some, if_neg i1, if_pos hhi]
  obtain ⟨z, hz, rfl⟩ := nI_of2 (M := 9999) (n := 9999) (by decide) (fun q => hlo (Int32.lt_trans q (by decide))) hhi
  obtain ⟨r, nm', pile', nc', stack', hr, m1, m2⟩ := refuse_both (nm := named) (pile := pile) (nc := nc) (stack := stack) I R X (w := w) hn hw
  rw [m1, m2, q_c3_some, q_c3_some]
  rcases hr with rfl | rfl
  · rw [if_pos i0, if_pos rfl, if_neg i3, show f6_error (nI 3) E = _ from (k_err E).2.2.1, (r_err E).2.2.1, q_c2_er, q_c2_er]
    exact ⟨_, _, s, _, _, _, _, _, _, _, _, _, _, _, _, _, _, _, _, _, rfl, rfl, same, fun _ _ _ => rfl⟩
  rw [if_neg i1, if_neg (show ¬ nI 1 = nI 0 by decide), r_isFull I, q_c_some]
  by_cases h60 : dn s = 60
  · rw [if_pos h60, if_pos h60, if_neg i1, if_neg i4, show f6_error (nI 4) E = _ from (k_err E).2.2.2.1, (r_err E).2.2.2.1, q_c2_er, q_c2_er]
    exact ⟨_, _, s, _, _, _, _, _, _, _, _, _, _, _, _, _, _, _, _, _, rfl, rfl, same, fun _ _ _ => rfl⟩
  rw [if_neg h60, if_neg h60, if_pos i0, if_pos i0]
  let t := upd (upd s 2 (nI (nv s 0 + z))) 3 (nI w)
  have tj : ∀ j, j ≠ 2 → j ≠ 3 → t j = s j := fun j a b => by
    rw [show t j = upd s 2 (nI (nv s 0 + z)) j from pk_un b]
    exact pk_un a
  have t2 : t 2 = nI (nv s 0 + z) := by
    rw [show t 2 = upd s 2 (nI (nv s 0 + z)) 2 from pk_un (by omega)]
    exact pk_us
  have t3 : t 3 = nI w := pk_us
  have dt : dn t = dn s := nv_congr (tj 1 (by omega) (by omega))
  have It : IV t := IV_same I (tj 1 (by omega) (by omega)) (fun j _ _ => tj j (by omega) (by omega)) (tj 0 (by omega) (by omega)) (isN.mk _ t2 (by omega) (by omega)) (isN_congr (tj 4 (by omega) (by omega)) I.1.2.2.2.1) (isN_congr (tj 5 (by omega) (by omega)) I.1.2.2.2.2)
  have Rt := RA_congr I R (tj 1 (by omega) (by omega)) (fun j _ _ => tj j (by omega) (by omega))
  have Xt := RXA_row (fun j _ _ => tj j (by omega) (by omega)) X
  obtain ⟨s1, nm1, nW1, nO1, sizes1, cells1, k1, w1, m1, t1, u1, c1, nm2, s2, nW2, nO2, named2, pile2, ub2, kinds2, writers2, minutes2, matters2, undoers2, scores2, sizes2, cells2, nc2, stack2, g1, g2, g3, g4, g5, g6, O⟩ := do_same (nW := nW) (nO := nO) (named := nm') (pile := pile') (ub := ub) (nc := nc') (stack := stack') (nm := nm) (of := nI (nv s 0 + z)) It Rt Xt (k := 6) (w := w) (by omega) hn (by omega) hw
  have g1' : f7_staysSo n nm s nW nO = some (nm1, nW1, nO1) := by
    rw [← g1]
    have zs := I.sizeB (Nat.le_refl (dn s))
    have zt := It.sizeB (Nat.le_refl (dn t))
    have ez : nv t (310 + dn t) = nv s (310 + dn s) := by rw [dt]; exact nv_congr (tj _ (by omega) (by omega))
    have a := r_takeOver (s := s) (n := n) (v := dn s) (f := 0) (t := nv s (310 + dn s)) (c := 0) (by omega) zs (by omega) (by omega) hn nW nO
    have b := r_takeOver (s := t) (n := n) (v := dn t) (f := 0) (t := nv t (310 + dn t)) (c := 0) (by omega) zt (by omega) (by omega) hn nW nO
    have ew : wr t (dn t) = wr s (dn s) := by funext i; rw [dt]; exact tj _ (by omega) (by omega)
    have eo : og t (dn t) = og s (dn s) := by funext i; rw [dt]; exact tj _ (by omega) (by omega)
    rw [ew, eo, ez] at b
    simp (disch := omega) only [z_0, z_1, z_2, z_3, z_4, z_5, z_6, z_7, z_8, z_9, z_10, z_11, z_12, z_13, z_16, z_20, z_21, z_24, z_30, z_31, z_32, z_33, z_37, z_38, z_39, z_40, z_41, z_42, z_43, z_44, z_45, z_46, z_47, z_48, z_49, z_50, z_51, z_52, z_53, z_54, z_55, z_56, z_57, z_58, z_59, z_60, z_61, z_62, z_63, z_70, z_80, z_81, z_97, z_98, z_99, z_100, z_101, z_107, z_108, z_109, z_111, z_114, z_117, z_119, z_124, z_125, z_255, z_310, z_380, z_480, z_999, z_1440, z_1600, z_2820, z_2890, z_3890, z_3950, z_3974, z_9999, z_12345, z_29999, pk_mul, nI_add, q_ldI, q_stI, nI_leI, nI_ltI, nI_eq, q_c_some, q_c1_some, q_c2_some, q_c3_some, q_c4_some, q_c5_some, q_c7_some, q_c8_some, q_c9_some, q_c10_some, q_c11_some, q_c12_some, q_ltP, q_bzN0, q_bzN1, q_dvI, b_eq0, b_eq1, n10, Nat.reduceEqDiff, Nat.reduceLeDiff, ↓reduceIte, if_true, if_false, f7_staysSo, I.done, It.done, r_page I, r_page It, I.size (Nat.le_refl _), It.size (Nat.le_refl _), a, ez, b]
  rw [dt, tj 0 (by omega) (by omega)] at g5
  rw [dt, t2, t3, tj 0 (by omega) (by omega)] at g6
  rw [dt] at g2 g3 g4
  have F2 := O.2.2.2
  rw [g1', q_c3_some, q_ldE 0 z_0 (by omega) (by omega), q_stE 2 z_2 (by omega) (by omega), q_stE 3 z_3 (by omega) (by omega), q_ldE 2 z_2 (by omega) (by omega), I.now, nI_add]
  rw [show upd (upd s 2 (nI (nv s 0 + z))) 3 (nI w) = t from rfl, t2, show f7_done n 6 (nI w) (nI (nv s 0 + z)) nm1 t nW1 nO1 = _ from g2, q_c2_some, g3, q_c8_some]
  rw [I.now] at g5 g6
  unfold f1_shutsFor f6_answered
  rw [q_ltP, nI_add, g4, q_c2_some, show f0_records n 6 (nI w) (nI (nv s 0)) (nI (nv s 0 + z)) (nI (dn s)) kinds writers minutes matters undoers scores sizes1 cells1 = _ from g5, q_c8_some, q_c12_some, g6, q_c11_some, q_c12_some]
  refine ⟨_, _, t, _, _, _, _, _, _, _, _, _, _, _, _, _, _, _, nc2, stack2, rfl, ?_, O, tj⟩
  rw [F2 2 (by omega), F2 3 (by omega), t2, t3]
