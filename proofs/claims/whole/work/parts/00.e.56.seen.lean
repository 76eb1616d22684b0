/-! ===== an act on both sides; the machine looks at it ===== -/
/-- what acts leave as it was -/
def FR (s s' : Nat → Int32) : Prop := ∀ j, (j = 0 ∨ (2 ≤ j ∧ j < 10) ∨ 2820 ≤ j) → s' j = s j
theorem FR.trans {a b c : Nat → Int32} (h : FR a b) (g : FR b c) : FR a c := fun j q => (g j q).trans (h j q)
theorem FR.refl (a : Nat → Int32) : FR a a := fun _ _ => rfl
theorem RX_congr {s s' lengths codes : Nat → Int32} {u : Nat} (hu : u < 8) (h : ∀ j, 2890 ≤ j → j < 3890 → s' j = s j) (X : RX s lengths codes u) : RX s' lengths codes u := by
  obtain ⟨x1, x2, x3⟩ := X
  have e1 := h (2890 + 125 * u) (by omega) (by omega)
  have hL := x1.2
  refine ⟨isN_congr e1 x1, x2.trans e1.symm, ?_⟩
  intro k hk
  rw [nv_congr e1] at hk
  have dp : ∀ k, k ≤ 60 → dpt (fun k => s' (2890 + 125 * u + 1 + 2 * k)) k = dpt (fun k => s (2890 + 125 * u + 1 + 2 * k)) k := by
    intro k
    induction k with
    | zero => intro _; rfl
    | succ k ih =>
      intro hk
      rw [dpt_succ, dpt_succ, ih (by omega), h _ (by omega) (by omega)]
  have g := x3 k hk
  rw [h (2890 + 125 * u + 1 + 2 * k) (by omega) (by omega), h (2890 + 125 * u + 2 + 2 * k) (by omega) (by omega), dp k (by omega)]
  exact g
theorem RXA_FR {s s' lengths codes : Nat → Int32} (h : FR s s') (X : RXA s lengths codes) : RXA s' lengths codes := fun u hu => RX_congr hu (fun j h1 _ => h j (by omega)) (X u hu)
def OK (s s' lengths codes kinds writers minutes matters undoers scores sizes cells : Nat → Int32) : Prop := IV s' ∧ RA s' kinds writers minutes matters undoers scores sizes cells ∧ RXA s' lengths codes ∧ FR s s'
theorem ACT.FR {s s' : Nat → Int32} {k w of : Int32} {m : Nat} {nw no : Nat → Nat} (A : ACT s s' k w of m nw no) (hd : dn s < 60) : FR s s' := by
  intro j hj
  exact A.same (by omega) (by omega) (by omega) (by omega) (by omega)
theorem act_both {s kinds writers minutes matters undoers scores sizes cells : Nat → Int32} (I : IV s) (R : RA s kinds writers minutes matters undoers scores sizes cells) {lengths codes sizes' cells' nW nO : Nat → Int32} (X : RXA s lengths codes) {n k w m : Nat} {of : Int32} {nw no : Nat → Nat} (hd : dn s < 60) (hk : k ≤ 7) (hw : w ≤ 7) (hm : m ≤ 20) (hn : 4100 ≤ n) (hB : WB s m nw no) (hM : MD s m nw no nW nO) (hC : CD s m nw no sizes cells sizes' cells') : ∃ s' kinds' writers' minutes' matters' undoers' scores', f7_done n (nI k) (nI w) of (nI m) s nW nO = some (nI (dn s), s') ∧ f0_records n (nI k) (nI w) (s 0) of (nI (dn s)) kinds writers minutes matters undoers scores sizes' cells' = some (nI (dn s), nI (dn s'), kinds', writers', minutes', matters', undoers', scores') ∧ OK s s' lengths codes kinds' writers' minutes' matters' undoers' scores' sizes' cells' ∧ dn s' = dn s + 1 := by
  obtain ⟨s', g1, A⟩ := r_done (n := n) I.done hd hm hn (fun i hi => (hB i hi).2.2) hM (nI k) (nI w) of
  have I' := act_IV I A hd hk hw hm hB
  obtain ⟨k', w', m', t', u', c', g2, R'⟩ := k_records I R A I' hd hm hC hn
  exact ⟨s', k', w', m', t', u', c', g1, g2, ⟨I', R', RXA_FR (A.FR hd) X, A.FR hd⟩, A.dn' hd⟩
theorem back_MD {s : Nat → Int32} (I : IV s) {v : Nat} (hv : v ≤ dn s) (nw no : Nat → Int32) : MD s (nv s (310 + v)) (hA s 380 v 20) (hA s 1600 v 20) (va_cpy (wr s v) nw 0 0 (nv s (310 + v))) (va_cpy (og s v) no 0 0 (nv s (310 + v))) := by
  have z1 := I.sizeB hv
  have z2 := I.sizeB (Nat.le_refl (dn s))
  have h := half_MD I (x := 20) hv nw no
  rw [show nv s (310 + dn s) - 20 = 0 by omega, cpy_0, cpy_0, show min 20 (nv s (310 + v)) = nv s (310 + v) by omega] at h
  have e : hM s v 20 = nv s (310 + v) := by unfold hM; omega
  rwa [e] at h
theorem back_M {s : Nat → Int32} (I : IV s) {v : Nat} (hv : v ≤ dn s) : hM s v 20 = nv s (310 + v) := by
  have z1 := I.sizeB hv
  have z2 := I.sizeB (Nat.le_refl (dn s))
  unfold hM; omega
/-- a back to version v by w -/
theorem back_both {s kinds writers minutes matters undoers scores sizes cells : Nat → Int32} (I : IV s) (R : RA s kinds writers minutes matters undoers scores sizes cells) {lengths codes nW nO : Nat → Int32} (X : RXA s lengths codes) {n k w v : Nat} {of : Int32} (hd : dn s < 60) (hk : k ≤ 7) (hw : w ≤ 7) (hn : 4100 ≤ n) (hv : v ≤ dn s) : ∃ s' nW' nO' kinds' writers' minutes' matters' undoers' scores' sizes' cells', f7_takeOver n (nI v) (nI 0) (nI (nv s (310 + v))) (nI 0) s nW nO = some (nI (nv s (310 + v)), nW', nO') ∧ f7_done n (nI k) (nI w) of (nI (nv s (310 + v))) s nW' nO' = some (nI (dn s), s') ∧ f0_draftsHalf (nI v) (nI 20) (nI (dn s)) sizes cells = some (sizes', cells') ∧ f0_records n (nI k) (nI w) (s 0) of (nI (dn s)) kinds writers minutes matters undoers scores sizes' cells' = some (nI (dn s), nI (dn s'), kinds', writers', minutes', matters', undoers', scores') ∧ OK s s' lengths codes kinds' writers' minutes' matters' undoers' scores' sizes' cells' ∧ dn s' = dn s + 1 := by
  have z1 := I.sizeB hv
  have eM := back_M I hv
  obtain ⟨sz, cl, c1, C⟩ := half_CD I R (x := 20) hv (by omega) hd (by omega)
  have hB := half_WB I (x := 20) hv
  rw [eM] at C hB
  have hD := back_MD I hv nW nO
  obtain ⟨s', k', w', m', t', u', c', g1, g2, O, e⟩ := act_both I R X (of := of) hd hk hw z1 hn hB hD C
  have t := r_takeOver (s := s) (n := n) (v := v) (f := 0) (t := nv s (310 + v)) (c := 0) (by have := I.doneB; omega) z1 (by omega) (by omega) hn nW nO
  rw [Nat.sub_zero, Nat.zero_add] at t
  exact ⟨s', _, _, k', w', m', t', u', c', sz, cl, t, g1, c1, g2, O, e⟩
theorem r_undone {s : Nat → Int32} (I : IV s) {n : Nat} (hn : 4100 ≤ n) (ub : Nat → Int32) : ∃ g, f7_findUndone n s ub = some g ∧ ∀ i, i < dn s → g i = UN s (dn s) i := r_findUndone I.done I.doneB I.SZ hn ub
theorem seen_both {s kinds writers minutes matters undoers scores sizes cells : Nat → Int32} (I : IV s) (R : RA s kinds writers minutes matters undoers scores sizes cells) {lengths codes nW nO named pile ub nc stack : Nat → Int32} (X : RXA s lengths codes) {n a : Nat} {nm : Int32} (ha : a < dn s) (hn : 4100 ≤ n) : ∃ nm' s' nW' nO' named' pile' ub' kinds' writers' minutes' matters' undoers' scores' sizes' cells' nc' stack', f7_seen n (nI a) nm s nW nO named pile ub = some (nI a, nm', s', nW', nO', named', pile', ub') ∧ f1_machineAnswers n (nI a) (s 0) (s 2) (s 3) (nI (dn s)) kinds writers minutes matters undoers scores sizes cells codes lengths nc stack = some (nI (dn s'), kinds', writers', minutes', matters', undoers', scores', sizes', cells', nc', stack') ∧ OK s s' lengths codes kinds' writers' minutes' matters' undoers' scores' sizes' cells' := by
  have hd := I.doneB
  have same : OK s s lengths codes kinds writers minutes matters undoers scores sizes cells := ⟨I, R, X, FR.refl s⟩
  have e7 : f7_actIs1 (nI a) 1 s = some (s (10 + 5 * a + 1)) := r_actIs1 a 1 (by omega)
  unfold f7_seen f1_machineAnswers
  rw [e7, q_c_some, q_ldI (by omega) (by omega), R.writer ha]
  by_cases h7 : s (10 + 5 * a + 1) = 7
  · rw [if_pos h7, if_pos h7]
    exact ⟨_, _, _, _, _, _, _, _, _, _, _, _, _, _, _, _, _, rfl, rfl, same⟩
  rw [if_neg h7, if_neg h7]
  rcases has_cases X (u := 1) (by omega) with ⟨h1, h2, h3⟩ | ⟨h1, h2, h3⟩
  rotate_left
  · rw [show f7_hasText 1 s = some (nI 0) from h1, q_c_some, if_pos (show nI 0 = 0 from rfl), show f4_has 1 lengths = some (nI 0) from h2, q_c_some, if_pos (show nI 0 = 0 from rfl)]
    exact ⟨_, _, _, _, _, _, _, _, _, _, _, _, _, _, _, _, _, rfl, rfl, same⟩
  rw [show f7_hasText 1 s = some (nI 1) from h1, q_c_some, if_neg (show ¬ nI 1 = 0 by decide), show f4_has 1 lengths = some (nI 1) from h2, q_c_some, if_neg (show ¬ nI 1 = 0 by decide)]
  obtain ⟨g, gu, hg⟩ := r_undone I hn ub
  rw [gu, q_c1_some]
  have lp := loop_sum0 (fun k b i => f7_seen_29 n k (nI a) b i nm s nW nO named pile g) (fun b => f7_seen_29 n 1 (nI a) b (nI a) nm s nW nO named pile g) (fun j => if UN s (dn s) j = nI a then nI 1 else nI 0) a n (by omega) (by
    intro k b
    show f7_seen_29 n (k + 1) (nI a) b (nI a) nm s nW nO named pile g = f7_seen_29 n (0 + 1) (nI a) b (nI a) nm s nW nO named pile g
    rw [f7_seen_29.eq_2, f7_seen_29.eq_2, if_pos (nI_le (Nat.le_refl _) (by omega)), if_pos (nI_le (Nat.le_refl _) (by omega))]) (by
    intro k b j hj
    show f7_seen_29 n (k + 1) (nI a) b (nI j) nm s nW nO named pile g = _
    rw [f7_seen_29.eq_2, if_neg (nI_ge hj (by omega)), q_ldI (by omega) (by omega), hg j (by omega)]
    by_cases q : UN s (dn s) j = nI a
    · rw [if_pos q]
      simp only [f7_seen_50, q_ltP, nI_1, if_pos q]
      rfl
    · rw [if_neg q]
      simp only [f7_seen_50, q_ltP, nI_1, if_neg q]
      rfl)
  rw [lp]
  show ∃ nm' s' nW' nO' named' pile' ub' kinds' writers' minutes' matters' undoers' scores' sizes' cells' nc' stack', f7_seen_29 n (0 + 1) (nI a) (cUnBy s a) (nI a) nm s nW nO named pile g = _ ∧ _ ∧ _
  have i0 : f7_actIs1 (nI a) 0 s = some (s (10 + 5 * a + 0)) := r_actIs1 a 0 (by omega)
  have i1 : f7_sizeOf (nI a + 1) s = some (s (310 + (a + 1))) := by rw [nI_1]; exact r_sizeOf (a + 1) (by omega)
  have i2 : f7_sizeOf (nI a) s = some (s (310 + a)) := r_sizeOf a (by omega)
  rw [f7_seen_29.eq_2, if_pos (nI_le (Nat.le_refl _) (by omega)), i0, q_c_some, q_stE 107 z_107 (by omega) (by omega), e7, q_c_some, q_stE 119 z_119 (by omega) (by omega), i1, q_c_some, q_stE 108 z_108 (by omega) (by omega), q_c_some, i2, q_c_some, q_stE 100 z_100 (by omega) (by omega), q_stE 117 z_117 (by omega) (by omega)]
  rw [nI_1, q_ldI (by omega) (by omega), R.size (v := a + 1) (by omega), q_ldI (by omega) (by omega), R.kind ha, q_ldI (by omega) (by omega), R.writer ha, q_ldI (by omega) (by omega), R.size (v := a) (by omega), k_undoneBy I R hn ha, q_c_some]
  obtain ⟨nc1, n1, e0, e1, e2, e3, e4⟩ := k_names (s (10 + 5 * a + 0)) (s (10 + 5 * a + 1)) (s (310 + (a + 1))) (s (310 + (a + 1)) - s (310 + a)) (cUnBy s a) nc
  rw [n1, q_c1_some]
  generalize hnm : upd (upd (upd (upd (upd named 107 (s (10 + 5 * a + 0))) 119 (s (10 + 5 * a + 1))) 108 (s (310 + (a + 1)))) 100 (s (310 + (a + 1)) - s (310 + a))) 117 (cUnBy s a) = named1
  obtain ⟨t, p1, p2, k1, k2⟩ := worked_eq (pile := pile) (stack := stack) (nm := named1) (nc := nc1) (n := n) (X 1 (by omega)) (by omega) (five (by rw [e0, ← hnm]; simp [upd, nb, nuse]) (by rw [e1, ← hnm]; simp [upd, nb, nuse]) (by rw [e2, ← hnm]; simp [upd, nb, nuse]) (by rw [e3, ← hnm]; simp [upd, nb, nuse]) (by rw [e4, ← hnm]; simp [upd, nb, nuse])) h3 hn
  rw [show f7_worked n 1 s named1 pile = some (t, p1) from k1, q_c2_some, show f4_worked n 1 codes lengths nc1 stack = some (t, p2) from k2, q_c2_some]
  by_cases ht : t = 0
  · rw [if_pos ht, if_pos ht]
    exact ⟨_, _, _, _, _, _, _, _, _, _, _, _, _, _, _, _, _, rfl, rfl, same⟩
  rw [if_neg ht, if_neg ht, q_ldE 1 z_1 (by omega) (by omega), I.done]
  by_cases h60 : 60 ≤ dn s
  · rw [if_pos (show (60 : Int32) ≤ nI (dn s) from nI_le h60 (by omega))]
    have hr : f0_hasRoom (nI (dn s)) = some (nI 0) := by simp (disch := omega) only [z_0, z_1, z_2, z_3, z_4, z_5, z_6, z_7, z_8, z_9, z_10, z_11, z_12, z_13, z_16, z_20, z_21, z_24, z_30, z_31, z_32, z_33, z_37, z_38, z_39, z_40, z_41, z_42, z_43, z_44, z_45, z_46, z_47, z_48, z_49, z_50, z_51, z_52, z_53, z_54, z_55, z_56, z_57, z_58, z_59, z_60, z_61, z_62, z_63, z_70, z_80, z_81, z_97, z_98, z_99, z_100, z_101, z_107, z_108, z_109, z_111, z_114, z_117, z_119, z_124, z_125, z_255, z_310, z_380, z_480, z_999, z_1440, z_1600, z_2820, z_2890, z_3890, z_3950, z_3974, z_9999, z_12345, z_29999, pk_mul, nI_add, q_ldI, q_stI, nI_leI, nI_ltI, nI_eq, q_c_some, q_c1_some, q_c2_some, q_c3_some, q_c4_some, q_c5_some, q_c7_some, q_c8_some, q_c9_some, q_c10_some, q_c11_some, q_c12_some, q_ltP, q_bzN0, q_bzN1, q_dvI, b_eq0, b_eq1, n10, Nat.reduceEqDiff, Nat.reduceLeDiff, ↓reduceIte, if_true, if_false, f0_hasRoom_14, f0_hasRoom, h60]
    rw [hr, q_c_some, if_pos (show nI 0 = 0 from rfl)]
    exact ⟨_, _, _, _, _, _, _, _, _, _, _, _, _, _, _, _, _, rfl, rfl, same⟩
  have hr : f0_hasRoom (nI (dn s)) = some (nI 1) := by simp (disch := omega) only [z_0, z_1, z_2, z_3, z_4, z_5, z_6, z_7, z_8, z_9, z_10, z_11, z_12, z_13, z_16, z_20, z_21, z_24, z_30, z_31, z_32, z_33, z_37, z_38, z_39, z_40, z_41, z_42, z_43, z_44, z_45, z_46, z_47, z_48, z_49, z_50, z_51, z_52, z_53, z_54, z_55, z_56, z_57, z_58, z_59, z_60, z_61, z_62, z_63, z_70, z_80, z_81, z_97, z_98, z_99, z_100, z_101, z_107, z_108, z_109, z_111, z_114, z_117, z_119, z_124, z_125, z_255, z_310, z_380, z_480, z_999, z_1440, z_1600, z_2820, z_2890, z_3890, z_3950, z_3974, z_9999, z_12345, z_29999, pk_mul, nI_add, q_ldI, q_stI, nI_leI, nI_ltI, nI_eq, q_c_some, q_c1_some, q_c2_some, q_c3_some, q_c4_some, q_c5_some, q_c7_some, q_c8_some, q_c9_some, q_c10_some, q_c11_some, q_c12_some, q_ltP, q_bzN0, q_bzN1, q_dvI, b_eq0, b_eq1, n10, Nat.reduceEqDiff, Nat.reduceLeDiff, ↓reduceIte, if_true, if_false, f0_hasRoom_14, f0_hasRoom, h60]
  rw [if_neg (show ¬ (60 : Int32) ≤ nI (dn s) from nI_ge (a := dn s) (b := 60) (by omega) (by omega)), hr, q_c_some, if_neg (show ¬ nI 1 = 0 by decide)]
  obtain ⟨r, nm', pile', nc', stack', hr01, m1, m2⟩ := may_both (nm := named1) (pile := p1) (nc := nc1) (stack := p2) I R X (w := 7) hn (by omega)
  rw [show f7_mayAct n 7 s named1 p1 = _ from m1, q_c3_some, show f1_lets n 7 (s 0) (s 2) (s 3) (nI (dn s)) kinds writers minutes sizes codes lengths nc1 p2 = _ from m2, q_c3_some]
  by_cases hr0 : r = 0
  · rw [if_pos hr0, if_pos hr0]
    exact ⟨_, _, _, _, _, _, _, _, _, _, _, _, _, _, _, _, _, rfl, rfl, same⟩
  rw [if_neg hr0, if_neg hr0, q_c_some, I.size (v := a) (by omega)]
  obtain ⟨s', nW', nO', k', w', m', t', u', c', sz, cl, b1, b2, b3, b4, O, e⟩ := back_both (nW := nW) (nO := nO) I R X (k := 2) (w := 7) (v := a) (of := nI a) (by omega) (by omega) (by omega) hn (by omega)
  rw [show f7_takeOver n (nI a) 0 (nI (nv s (310 + a))) 0 s nW nO = _ from b1, q_c3_some, show f7_done n 2 7 (nI a) (nI (nv s (310 + a))) s nW' nO' = _ from b2, q_c2_some]
  unfold f1_putsBack
  rw [show f0_draftsHalf (nI a) 20 (nI (dn s)) sizes cells = _ from b3, q_c2_some, show f0_records n 2 7 (s 0) (nI a) (nI (dn s)) kinds writers minutes matters undoers scores sz cl = _ from b4, q_c8_some, q_c10_some]
  exact ⟨_, _, _, _, _, _, _, _, _, _, _, _, _, _, _, _, _, rfl, rfl, O⟩
