/-! ===== likeness of the class; likeness, from, check ===== -/
theorem k_likenessOf {s kinds writers minutes matters undoers scores sizes cells : Nat → Int32} (I : IV s) (R : RA s kinds writers minutes matters undoers scores sizes cells) {n v w : Nat} (hn : 4100 ≤ n) (hv : v ≤ dn s) (hw : w ≤ dn s) (common : Nat → Int32) : ∃ c', f0_likenessOf n (nI v) (nI w) sizes cells common = some (nI (LK s v w), c') := by
  have hd := I.doneB
  have za := I.sizeB hv
  have zb := I.sizeB hw
  have lb : ∀ i j, i ≤ 20 → lc (eqw s v w) i j ≤ 20 := fun i j h => Nat.le_trans (lc_le _ _ _ _ (Nat.le_refl _)) h
  have inner : ∀ (i : Nat), i < nv s (310 + v) → ∀ (x3 : Int32) (K : Int32 → Int32 → Int32 → Int32 → (Nat → Int32) → Option (Int32 × (Nat → Int32))) (m j kk : Nat) (c : Nat → Int32), j + m = nv s (310 + w) → m < kk → (∀ t, t ≤ j → c t = nI (lc (eqw s v w) (i + 1) t)) → (∀ t, j < t → t ≤ nv s (310 + w) → c t = nI (lc (eqw s v w) i t)) → ∃ c', f0_likenessOf_79 n sizes cells K kk (nI v) (nI w) x3 (nI i) (s (380 + 20 * v + i)) (nI (lc (eqw s v w) i j)) (nI j) c = K (nI v) (nI w) x3 (nI (i + 1)) c' ∧ ∀ t, t ≤ nv s (310 + w) → c' t = nI (lc (eqw s v w) (i + 1) t) := by
    intro i hi x3 K m
    induction m with
    | zero =>
      intro j kk c h1 h2 h3 h4
      obtain ⟨kk, rfl⟩ : ∃ q, kk = q + 1 := ⟨kk - 1, by omega⟩
      refine ⟨c, ?_, fun t ht => h3 t (by omega)⟩
      rw [f0_likenessOf_79.eq_2, q_ldI (by omega) (by omega), R.size hw, I.size hw, if_pos (nI_le (by omega) (by omega)), q_ltP, nI_1]
    | succ m ih =>
      intro p kk c h1 h2 h3 h4
      obtain ⟨kk, rfl⟩ : ∃ q, kk = q + 1 := ⟨kk - 1, by omega⟩
      have b1 := lb i (p + 1) (by omega)
      have b2 := lb (i + 1) p (by omega)
      have b3 := lb i p (by omega)
      obtain ⟨c', g1, g2⟩ := ih (p + 1) kk (upd c (p + 1) (nI (lc (eqw s v w) (i + 1) (p + 1)))) (by omega) (by omega) (by
        intro t ht
        by_cases q : t = p + 1
        · rw [q, pk_us]
        · rw [pk_un q]; exact h3 t (by omega)) (by
        intro t t1 t2
        rw [pk_un (by omega)]; exact h4 t (by omega) t2)
      refine ⟨c', ?_, g2⟩
      rw [f0_likenessOf_79.eq_2, q_ldI (by omega) (by omega), R.size hw, I.size hw, if_neg (nI_ge (by omega) (by omega)), nI_1, q_ldI (by omega) (by omega), h4 (p + 1) (by omega) (by omega), k_wordAt I R hw (by omega), q_c_some]
      by_cases q : s (380 + 20 * v + i) = s (380 + 20 * w + p)
      · rw [if_pos q, f0_likenessOf_140, nI_1, q_stI (by omega) (by omega), q_ltP, nI_1, ← g1, lc_s, if_pos (show eqw s v w i p = true from decide_eq_true q)]
      · rw [if_neg q, q_ldI (by omega) (by omega), h3 p (Nat.le_refl _), q_ltP, n_max (by omega) (by omega), f0_likenessOf_140, q_stI (by omega) (by omega), q_ltP, nI_1, ← g1, lc_s, if_neg (show ¬ eqw s v w i p = true from fun h => q (of_decide_eq_true h))]
  have outer : 0 < nv s (310 + v) + nv s (310 + w) → ∀ (m i kk : Nat) (c : Nat → Int32), i + m = nv s (310 + v) → m < kk → (∀ t, t ≤ nv s (310 + w) → c t = nI (lc (eqw s v w) i t)) → ∃ c', f0_likenessOf_53 n sizes cells kk (nI v) (nI w) (nI (max (nv s (310 + v)) (nv s (310 + w)))) (nI i) c = some (nI (LK s v w), c') := by
    intro hpos m
    induction m with
    | zero =>
      intro i kk c h1 h2 h3
      obtain ⟨kk, rfl⟩ : ∃ q, kk = q + 1 := ⟨kk - 1, by omega⟩
      have ei : i = nv s (310 + v) := by omega
      subst ei
      have b := lb (nv s (310 + v)) (nv s (310 + w)) (by omega)
      have lk : LK s v w = 100 * lc (eqw s v w) (nv s (310 + v)) (nv s (310 + w)) / max (nv s (310 + v)) (nv s (310 + w)) := by unfold LK; rw [if_neg (by omega)]
      refine ⟨c, ?_⟩
      rw [f0_likenessOf_53.eq_2, q_ldI (by omega) (by omega), R.size hv, I.size hv, if_pos (Int32.le_refl _), q_ldI (by omega) (by omega), R.size hw, I.size hw, q_ldI (by omega) (by omega), h3 _ (Nat.le_refl _), show (100 : Int32) * nI (lc (eqw s v w) (nv s (310 + v)) (nv s (310 + w))) = nI (100 * lc (eqw s v w) (nv s (310 + v)) (nv s (310 + w))) from by rw [show (100 : Int32) = nI 100 from by decide, pk_mul], q_dvI (by omega) (by omega), pk_div (by omega) (by omega) (by omega), lk]
    | succ m ih =>
      intro i kk c h1 h2 h3
      obtain ⟨kk, rfl⟩ : ∃ q, kk = q + 1 := ⟨kk - 1, by omega⟩
      obtain ⟨c', g1, g2⟩ := inner i (by omega) (nI (max (nv s (310 + v)) (nv s (310 + w)))) (f0_likenessOf_53 n sizes cells kk) (nv s (310 + w)) 0 n c (by omega) (by omega) (by
        intro t ht
        rw [show t = 0 by omega, h3 0 (by omega), lc_0, lc_0]) (fun t _ t2 => h3 t t2)
      obtain ⟨c2, k1⟩ := ih (i + 1) kk c' (by omega) (by omega) g2
      refine ⟨c2, ?_⟩
      rw [f0_likenessOf_53.eq_2, q_ldI (by omega) (by omega), R.size hv, I.size hv, if_neg (nI_ge (by omega) (by omega)), k_wordAt I R hv (by omega), q_c_some, ← k1, ← g1, show lc (eqw s v w) i 0 = 0 from lc_0 _ _]
      rfl
  have zero : ∀ (x3 : Int32) (m j kk : Nat) (c : Nat → Int32), j + m = 21 → m < kk → (∀ t, t < j → c t = nI 0) → ∃ c', f0_likenessOf_26 n sizes cells kk (nI v) (nI w) x3 (nI j) c = f0_likenessOf_53 n sizes cells n (nI v) (nI w) x3 0 c' ∧ ∀ t, t < 21 → c' t = nI 0 := by
    intro x3 m
    induction m with
    | zero =>
      intro j kk c h1 h2 h3
      obtain ⟨kk, rfl⟩ : ∃ q, kk = q + 1 := ⟨kk - 1, by omega⟩
      refine ⟨c, ?_, fun t ht => h3 t (by omega)⟩
      rw [f0_likenessOf_26.eq_2, if_pos (show (21 : Int32) ≤ nI j from nI_le (a := 21) (by omega) (by omega))]
    | succ m ih =>
      intro j kk c h1 h2 h3
      obtain ⟨kk, rfl⟩ : ∃ q, kk = q + 1 := ⟨kk - 1, by omega⟩
      rw [f0_likenessOf_26.eq_2, if_neg (show ¬ (21 : Int32) ≤ nI j from nI_ge (b := 21) (by omega) (by omega)), q_stI (by omega) (by omega), q_ltP, nI_1]
      exact ih (j + 1) kk (upd c j 0) (by omega) (by omega) (fun t ht => by
        by_cases q : t = j
        · rw [q, pk_us]; rfl
        · rw [pk_un q]; exact h3 t (by omega))
  rw [f0_likenessOf, q_ldI (by omega) (by omega), R.size hv, I.size hv, q_ldI (by omega) (by omega), R.size hw, I.size hw, q_ltP, n_max (by omega) (by omega)]
  by_cases h0 : nv s (310 + v) + nv s (310 + w) = 0
  · rw [if_pos (show nI (max (nv s (310 + v)) (nv s (310 + w))) = 0 by rw [show max (nv s (310 + v)) (nv s (310 + w)) = 0 by omega]; rfl)]
    refine ⟨common, ?_⟩
    unfold LK
    rw [if_pos h0]
    rfl
  · rw [if_neg (nI_ne0 (by omega) (by omega))]
    obtain ⟨c', g1, g2⟩ := zero (nI (max (nv s (310 + v)) (nv s (310 + w)))) 21 0 n common (by omega) (by omega) (fun t ht => absurd ht (Nat.not_lt_zero t))
    obtain ⟨c2, k1⟩ := outer (by omega) (nv s (310 + v)) 0 n c' (by omega) (by omega) (fun t ht => g2 t (by omega))
    exact ⟨c2, (show f0_likenessOf_26 n sizes cells n (nI v) (nI w) (nI (max (nv s (310 + v)) (nv s (310 + w)))) 0 common = _ from g1).trans k1⟩
theorem p_likeness {s kinds writers minutes matters undoers scores sizes cells : Nat → Int32} (I : IV s) (R : RA s kinds writers minutes matters undoers scores sizes cells) {n : Nat} {E c7 c6 : Nat → Int32} (hn : 4100 ≤ n) (x y : Int32) : ∃ a E' c7' c6', f7_likeness n x y s E c7 = some (a, E', c7') ∧ f6_likeness n x y (nI (dn s)) E sizes cells c6 = some (a, E', c6') := by
  unfold f7_likeness f6_likeness
  rcases ver_cases I x with ⟨v, hv, rfl, h1, h2⟩ | ⟨h1, h2⟩
  rotate_left
  · rw [h1, h2, q_c_some, q_c_some, if_pos i0, if_pos i0]
    simp only [f7_likeness_30, f7_likeness_25, f7_likeness, f6_likeness_16, f6_likeness, (r_err E).1, (k_err E).1, q_c2_er]
    exact ⟨_, _, _, _, rfl, rfl⟩
  rw [h1, h2, q_c_some, q_c_some, if_neg i1, if_neg i1]
  rcases ver_cases I y with ⟨w, hw, rfl, h1, h2⟩ | ⟨h1, h2⟩
  rotate_left
  · rw [h1, h2, q_c_some, q_c_some, if_pos i0, if_pos i0]
    simp only [f7_likeness_30, f7_likeness_25, f7_likeness, f6_likeness_16, f6_likeness, (r_err E).1, (k_err E).1, q_c2_er]
    exact ⟨_, _, _, _, rfl, rfl⟩
  rw [h1, h2, q_c_some, q_c_some, if_neg i1, if_neg i1]
  obtain ⟨c1, g1⟩ := r_likenessOf I hn hv hw c7
  obtain ⟨c2, g2⟩ := k_likenessOf I R hn hv hw c6
  rw [g1, g2, q_c2_some, q_c2_some]
  exact ⟨_, _, _, _, rfl, rfl⟩
theorem p_from {s kinds writers minutes matters undoers scores sizes cells : Nat → Int32} (I : IV s) (R : RA s kinds writers minutes matters undoers scores sizes cells) {n : Nat} {E c7 c6 : Nat → Int32} (hn : 4100 ≤ n) (x : Int32) : ∃ a E' c7' c6', f7_from n x s E c7 = some (a, E', c7') ∧ f6_from n x (nI (dn s)) E sizes cells c6 = some (a, E', c6') := by
  have hd := I.doneB
  unfold f7_from f6_from
  rcases ver_cases I x with ⟨v, hv, rfl, h1, h2⟩ | ⟨h1, h2⟩
  rotate_left
  · rw [h1, h2, q_c_some, q_c_some, if_pos i0, if_pos i0]
    simp only [(r_err E).1, (k_err E).1, q_c2_er]
    exact ⟨_, _, _, _, rfl, rfl⟩
  rw [h1, h2, q_c_some, q_c_some, if_neg i1, if_neg i1]
  by_cases h : 2 ≤ v
  rotate_left
  · rw [if_neg (show ¬ (2 : Int32) ≤ nI v from nI_ge (b := 2) (by omega) (by omega)), if_neg (show ¬ (2 : Int32) ≤ nI v from nI_ge (b := 2) (by omega) (by omega))]
    simp only [(r_err E).2.1, (k_err E).2.1, q_c2_er]
    exact ⟨_, _, _, _, rfl, rfl⟩
  rw [if_pos (show (2 : Int32) ≤ nI v from nI_le (a := 2) h (by omega)), if_pos (show (2 : Int32) ≤ nI v from nI_le (a := 2) h (by omega))]
  have ev : nI v - 1 = nI (v - 1) := pk_sub (b := 1) (by omega)
  have both : ∀ (m j kk k2 b : Nat) (c7 c6 : Nat → Int32), j + m = v - 1 → m < kk → m < k2 → b ≤ dn s → ∃ a c7' c6', f7_from_29 n s kk (nI v) (nI b) (nI j) E c7 = some (a, E, c7') ∧ f0_likestBefore_7 n sizes cells k2 (nI v) (nI b) (nI (LK s v b)) (nI j) c6 = some (a, c6') := by
    intro m
    induction m with
    | zero =>
      intro j kk k2 b c7 c6 g1 g2 g3 g4
      obtain ⟨kk, rfl⟩ : ∃ q, kk = q + 1 := ⟨kk - 1, by omega⟩
      obtain ⟨k2, rfl⟩ : ∃ q, k2 = q + 1 := ⟨k2 - 1, by omega⟩
      refine ⟨nI b, c7, c6, ?_, ?_⟩
      · rw [f7_from_29.eq_2, ev, if_pos (nI_le (by omega) (by omega))]
      · rw [f0_likestBefore_7.eq_2, ev, if_pos (nI_le (by omega) (by omega))]
    | succ m ih =>
      intro j kk k2 b c7 c6 g1 g2 g3 g4
      obtain ⟨kk, rfl⟩ : ∃ q, kk = q + 1 := ⟨kk - 1, by omega⟩
      obtain ⟨k2, rfl⟩ : ∃ q, k2 = q + 1 := ⟨k2 - 1, by omega⟩
      obtain ⟨c8, l1⟩ := r_likenessOf I hn hv (w := j) (by omega) c7
      obtain ⟨c9, l2⟩ := r_likenessOf I hn hv (w := b) g4 c8
      obtain ⟨c10, l3⟩ := k_likenessOf I R hn (v := j) (w := v) (by omega) hv c6
      rw [LK_sym] at l3
      have k1 := LK_le s v j
      have k3 := LK_le s v b
      rw [f7_from_29.eq_2, ev, if_neg (nI_ge (by omega) (by omega)), l1, q_c2_some, l2, q_c2_some, f0_likestBefore_7.eq_2, ev, if_neg (nI_ge (by omega) (by omega)), l3, q_c2_some]
      by_cases q : LK s v j < LK s v b
      · rw [if_pos (nI_lt q (by omega)), if_pos (nI_lt q (by omega)), f7_from_56, q_ltP, nI_1, f0_likestBefore_36, q_ltP, nI_1]
        exact ih (j + 1) kk k2 b c9 c10 (by omega) (by omega) (by omega) g4
      · rw [if_neg (nI_nlt (by omega) (by omega)), if_neg (nI_nlt (by omega) (by omega)), f7_from_56, q_ltP, nI_1, f0_likestBefore_36, q_ltP, nI_1]
        exact ih (j + 1) kk k2 j c9 c10 (by omega) (by omega) (by omega) (by omega)
  obtain ⟨n1, en⟩ : ∃ q, n = q + 1 := ⟨n - 1, by omega⟩
  obtain ⟨c10, l3⟩ := k_likenessOf I R hn (v := 0) (w := v) (by omega) hv c6
  rw [LK_sym] at l3
  obtain ⟨a, c7', c6', r1, r2⟩ := both (v - 2) 1 n n1 0 c7 c10 (by omega) (by omega) (by omega) (by omega)
  have first : f0_likestBefore n (nI v) sizes cells c6 = f0_likestBefore_7 n sizes cells n1 (nI v) (nI 0) (nI (LK s v 0)) (nI 1) c10 := by
    rw [f0_likestBefore]
    conv => lhs; arg 4; rw [en]
    rw [f0_likestBefore_7.eq_2, ev, if_neg (show ¬ nI (v - 1) ≤ 0 from nI_nle (by omega) (by omega)), show f0_likenessOf n 0 (nI v) sizes cells c6 = _ from l3, q_c2_some, if_neg (show ¬ nI (LK s v 0) < -1 from fun q => absurd (Int32.lt_trans q (by decide)) (nI_pos (n := LK s v 0) (by have := LK_le s v 0; omega))), f0_likestBefore_36, q_ltP]
    rfl
  rw [show f7_from_29 n s n (nI v) 0 1 E c7 = _ from r1, first, r2, q_c2_some]
  exact ⟨_, _, _, _, rfl, rfl⟩
theorem p_check {s kinds writers minutes matters undoers scores sizes cells : Nat → Int32} (I : IV s) (R : RA s kinds writers minutes matters undoers scores sizes cells) {n : Nat} {E waiting : Nat → Int32} (hW : ∀ i, i < 24 → waiting i = s (3950 + i)) (hn : 4100 ≤ n) (x : Int32) : ∃ a E', f7_check n x s E = some (a, upd s 5 0, E') ∧ f6_check n x (s 5) (nI (dn s)) E waiting sizes cells = some (a, 0, E') := by
  have hd := I.doneB
  have h5 := I.1.2.2.2.2
  have hb := h5.2
  let t := upd s 5 0
  have tj : ∀ j, j ≠ 5 → t j = s j := fun j h => pk_un h
  have t5 : t 5 = nI 0 := pk_us
  have dt : dn t = dn s := nv_congr (tj 1 (by omega))
  have It : IV t := IV_same I (tj 1 (by omega)) (fun j _ _ => tj j (by omega)) (tj 0 (by omega)) (isN_congr (tj 2 (by omega)) I.1.2.2.1) (isN_congr (tj 4 (by omega)) I.1.2.2.2.1) (isN.mk 0 t5 (by omega) (by omega))
  unfold f7_check f6_check
  rw [q_ldE 5 z_5 (by omega) (by omega), q_stE 5 z_5 (by omega) (by omega), show upd s 5 0 = t from rfl]
  rcases ver_cases It x with ⟨v, hv, rfl, h1, h2⟩ | ⟨h1, h2⟩
  rotate_left
  · rw [dt] at h2
    rw [h1, h2, q_c_some, q_c_some, if_pos i0, if_pos i0, (r_err E).1, (k_err E).1, q_c2_er, q_c2_er]
    exact ⟨_, _, rfl, rfl⟩
  rw [dt] at h2 hv
  have z := I.sizeB hv
  rw [h1, h2, q_c_some, q_c_some, if_neg i1, if_neg i1, h5.1, f1_firstUnlike, q_ldI (by omega) (by omega), R.size hv, I.size hv, q_ltP, n_min (by omega) (by omega)]
  have szt : f7_sizeOf (nI v) t = some (nI (nv s (310 + v))) := by rw [r_sizeOf v (by omega), tj _ (by omega), I.size hv]
  have both : ∀ (m j kk k2 : Nat), j + m = min (nv s (310 + v)) (nv s 5) → m < kk → m < k2 → ∃ r, f7_check_30 n kk (nI v) (nI (nv s 5)) (nI j) t E = some (r + 1, t, E) ∧ f1_firstUnlike_20 n waiting sizes cells k2 (nI v) (nI (nv s 5)) (nI (nv s (310 + v))) (nI (min (nv s (310 + v)) (nv s 5))) (nI j) = some r := by
    intro m
    induction m with
    | zero =>
      intro j kk k2 g1 g2 g3
      obtain ⟨kk, rfl⟩ : ∃ q, kk = q + 1 := ⟨kk - 1, by omega⟩
      obtain ⟨k2, rfl⟩ : ∃ q, k2 = q + 1 := ⟨k2 - 1, by omega⟩
      have ej : j = min (nv s (310 + v)) (nv s 5) := by omega
      have e69 : f7_check_30 n (kk + 1) (nI v) (nI (nv s 5)) (nI j) t E = f7_check_69 n (nI v) (nI (nv s 5)) (nI j) t E := by
        rw [f7_check_30.eq_2, szt, q_c_some]
        by_cases q : nv s 5 ≤ j
        · rw [if_pos (nI_le q (by omega))]
        · rw [if_neg (nI_ge (by omega) (by omega)), if_pos (nI_le (by omega) (by omega))]
      rw [e69, f7_check_69, szt, q_c_some, f1_firstUnlike_20.eq_2, if_pos (nI_le (by omega) (by omega))]
      by_cases q : nv s 5 = nv s (310 + v)
      · rw [if_pos (show nI j = nI (nv s 5) by congr 1; omega), if_pos (show nI j = nI (nv s (310 + v)) by congr 1; omega), if_pos (show nI (nv s 5) = nI (nv s (310 + v)) by rw [q])]
        exact ⟨-1, rfl, rfl⟩
      · rw [if_neg (show ¬ nI (nv s 5) = nI (nv s (310 + v)) from fun h => q ((nI_eq (by omega) (by omega)).mp h))]
        refine ⟨nI (min (nv s (310 + v)) (nv s 5)), ?_, rfl⟩
        have e90 : f7_check_87 n (nI j) t E = some (nI (min (nv s (310 + v)) (nv s 5)) + 1, t, E) := by
          rw [f7_check_87, f7_check_90, ej, Int32.add_comm]
        rw [e90]
        by_cases q2 : nI j = nI (nv s 5)
        · rw [if_pos q2, if_neg (show ¬ nI j = nI (nv s (310 + v)) from fun h => q ((nI_eq (by omega) (by omega)).mp (q2.symm.trans h)))]
        · rw [if_neg q2]
    | succ m ih =>
      intro j kk k2 g1 g2 g3
      obtain ⟨kk, rfl⟩ : ∃ q, kk = q + 1 := ⟨kk - 1, by omega⟩
      obtain ⟨k2, rfl⟩ : ∃ q, k2 = q + 1 := ⟨k2 - 1, by omega⟩
      rw [f7_check_30.eq_2, szt, q_c_some, if_neg (nI_ge (by omega) (by omega)), if_neg (nI_ge (by omega) (by omega)), show (3950 : Int32) + nI j = nI (3950 + j) from nI_add 3950 j, q_ldI (by omega) (by omega), tj _ (by omega), r_wordAt v j (by omega), q_c_some, tj _ (by omega), f1_firstUnlike_20.eq_2, if_neg (nI_ge (by omega) (by omega)), q_ldI (by omega) (by omega), hW j (by omega), k_wordAt I R hv (by omega), q_c_some]
      by_cases q : s (3950 + j) = s (380 + 20 * v + j)
      · rw [if_pos q, if_pos q, q_ltP, q_ltP, nI_1]
        exact ih (j + 1) kk k2 (by omega) (by omega) (by omega)
      · rw [if_neg q, if_neg q, f7_check_69, szt, q_c_some, if_neg (show ¬ nI j = nI (nv s 5) from fun h => absurd ((nI_eq (by omega) (by omega)).mp h) (by omega)), f7_check_87, f7_check_90]
        exact ⟨nI j, by rw [Int32.add_comm], rfl⟩
  obtain ⟨r, r1, r2⟩ := both (min (nv s (310 + v)) (nv s 5)) 0 n n (by omega) (by omega) (by omega)
  rw [show f7_check_30 n n (nI v) (nI (nv s 5)) 0 t E = _ from r1, show f1_firstUnlike_20 n waiting sizes cells n (nI v) (nI (nv s 5)) (nI (nv s (310 + v))) (nI (min (nv s (310 + v)) (nv s 5))) 0 = _ from r2, q_c_some]
  exact ⟨_, _, rfl, rfl⟩
