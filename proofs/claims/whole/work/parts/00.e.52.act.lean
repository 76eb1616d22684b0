/-! ===== an act of the reference ===== -/
theorem cpy_0 (f g : Nat → Int32) (sp dp : Nat) : va_cpy f g sp dp 0 = g := by
  funext j
  unfold va_cpy
  rw [if_neg (by omega)]
theorem cpy_succ (f g : Nat → Int32) (sp dp m : Nat) : va_cpy f (upd g dp (f sp)) (sp + 1) (dp + 1) m = va_cpy f g sp dp (m + 1) := by
  funext j
  unfold va_cpy upd
  by_cases h1 : dp + 1 ≤ j ∧ j < dp + 1 + m
  · rw [if_pos h1, if_pos (by omega), show sp + 1 + (j - (dp + 1)) = sp + (j - dp) by omega]
  · rw [if_neg h1]
    by_cases h2 : j = dp
    · rw [if_pos h2, if_pos (by omega), h2, Nat.sub_self, Nat.add_zero]
    · rw [if_neg h2, if_neg (by omega)]
/-- words and origins of a version as rows -/
abbrev wr (s : Nat → Int32) (v : Nat) : Nat → Int32 := fun i => s (380 + 20 * v + i)
abbrev og (s : Nat → Int32) (v : Nat) : Nat → Int32 := fun i => s (1600 + 20 * v + i)
theorem r_takeOver_3 {s : Nat → Int32} {n v : Nat} (hv : v ≤ 60) : ∀ (m f t c kk : Nat) (nw no : Nat → Int32), f + m = t → t ≤ 20 → c + m ≤ 40 → m < kk → f7_takeOver_3 n s kk (nI v) (nI t) (nI f) (nI c) nw no = some (nI (c + m), va_cpy (wr s v) nw f c m, va_cpy (og s v) no f c m)
  | 0, f, t, c, kk + 1, nw, no, h1, h2, h3, h4 => by
    have e : t ≤ f := by omega
    simp (disch := omega) only [z_0, z_1, z_2, z_3, z_4, z_5, z_6, z_7, z_8, z_9, z_10, z_11, z_12, z_13, z_16, z_20, z_21, z_24, z_30, z_31, z_32, z_33, z_37, z_38, z_39, z_40, z_41, z_42, z_43, z_44, z_45, z_46, z_47, z_48, z_49, z_50, z_51, z_52, z_53, z_54, z_55, z_56, z_57, z_58, z_59, z_60, z_61, z_62, z_63, z_70, z_80, z_81, z_97, z_98, z_99, z_100, z_101, z_107, z_108, z_109, z_111, z_114, z_117, z_119, z_124, z_125, z_255, z_310, z_380, z_480, z_999, z_1440, z_1600, z_2820, z_2890, z_3890, z_3950, z_3974, z_9999, z_12345, z_29999, pk_mul, nI_add, q_ldI, q_stI, nI_leI, nI_ltI, nI_eq, q_c_some, q_c1_some, q_c2_some, q_c3_some, q_c4_some, q_c5_some, q_c7_some, q_c8_some, q_c9_some, q_c10_some, q_c11_some, q_c12_some, q_ltP, q_bzN0, q_bzN1, q_dvI, b_eq0, b_eq1, n10, Nat.reduceEqDiff, Nat.reduceLeDiff, ↓reduceIte, if_true, if_false, f7_takeOver_3, e, cpy_0, Nat.add_zero]
  | m + 1, f, t, c, kk + 1, nw, no, h1, h2, h3, h4 => by
    have e : ¬ t ≤ f := by omega
    simp (disch := omega) only [z_0, z_1, z_2, z_3, z_4, z_5, z_6, z_7, z_8, z_9, z_10, z_11, z_12, z_13, z_16, z_20, z_21, z_24, z_30, z_31, z_32, z_33, z_37, z_38, z_39, z_40, z_41, z_42, z_43, z_44, z_45, z_46, z_47, z_48, z_49, z_50, z_51, z_52, z_53, z_54, z_55, z_56, z_57, z_58, z_59, z_60, z_61, z_62, z_63, z_70, z_80, z_81, z_97, z_98, z_99, z_100, z_101, z_107, z_108, z_109, z_111, z_114, z_117, z_119, z_124, z_125, z_255, z_310, z_380, z_480, z_999, z_1440, z_1600, z_2820, z_2890, z_3890, z_3950, z_3974, z_9999, z_12345, z_29999, pk_mul, nI_add, q_ldI, q_stI, nI_leI, nI_ltI, nI_eq, q_c_some, q_c1_some, q_c2_some, q_c3_some, q_c4_some, q_c5_some, q_c7_some, q_c8_some, q_c9_some, q_c10_some, q_c11_some, q_c12_some, q_ltP, q_bzN0, q_bzN1, q_dvI, b_eq0, b_eq1, n10, Nat.reduceEqDiff, Nat.reduceLeDiff, ↓reduceIte, if_true, if_false, f7_takeOver_3, e, r_wordAt, r_originAt]
    rw [r_takeOver_3 hv m (f + 1) t (c + 1) kk _ _ (by omega) h2 (by omega) (by omega)]
    rw [← cpy_succ (wr s v), ← cpy_succ (og s v), show c + 1 + m = c + (m + 1) by omega]
theorem r_takeOver {s : Nat → Int32} {n v f t c : Nat} (hv : v ≤ 60) (ht : t ≤ 20) (hf : f < 100) (hc : c + (t - f) ≤ 40) (hn : 4100 ≤ n) (nw no : Nat → Int32) : f7_takeOver n (nI v) (nI f) (nI t) (nI c) s nw no = some (nI (c + (t - f)), va_cpy (wr s v) nw f c (t - f), va_cpy (og s v) no f c (t - f)) := by
  unfold f7_takeOver
  rcases Nat.lt_or_ge t f with h | h
  · obtain ⟨k, rfl⟩ : ∃ q, n = q + 1 := ⟨n - 1, by omega⟩
    have e : t ≤ f := by omega
    rw [show t - f = 0 by omega]
    simp (disch := omega) only [z_0, z_1, z_2, z_3, z_4, z_5, z_6, z_7, z_8, z_9, z_10, z_11, z_12, z_13, z_16, z_20, z_21, z_24, z_30, z_31, z_32, z_33, z_37, z_38, z_39, z_40, z_41, z_42, z_43, z_44, z_45, z_46, z_47, z_48, z_49, z_50, z_51, z_52, z_53, z_54, z_55, z_56, z_57, z_58, z_59, z_60, z_61, z_62, z_63, z_70, z_80, z_81, z_97, z_98, z_99, z_100, z_101, z_107, z_108, z_109, z_111, z_114, z_117, z_119, z_124, z_125, z_255, z_310, z_380, z_480, z_999, z_1440, z_1600, z_2820, z_2890, z_3890, z_3950, z_3974, z_9999, z_12345, z_29999, pk_mul, nI_add, q_ldI, q_stI, nI_leI, nI_ltI, nI_eq, q_c_some, q_c1_some, q_c2_some, q_c3_some, q_c4_some, q_c5_some, q_c7_some, q_c8_some, q_c9_some, q_c10_some, q_c11_some, q_c12_some, q_ltP, q_bzN0, q_bzN1, q_dvI, b_eq0, b_eq1, n10, Nat.reduceEqDiff, Nat.reduceLeDiff, ↓reduceIte, if_true, if_false, f7_takeOver_3, e, cpy_0, Nat.add_zero]
  · exact r_takeOver_3 hv (t - f) f t c n nw no (by omega) ht hc (by omega)
/-- what an act does to the row -/
def ACT (s s' : Nat → Int32) (k w of : Int32) (m : Nat) (nw no : Nat → Nat) : Prop :=
  s' 1 = nI (dn s + 1) ∧ s' (10 + 5 * dn s + 0) = k ∧ s' (10 + 5 * dn s + 1) = w ∧ s' (10 + 5 * dn s + 2) = s 0 ∧ s' (10 + 5 * dn s + 3) = of ∧ s' (10 + 5 * dn s + 4) = -nI 1 ∧ s' (310 + (dn s + 1)) = nI m ∧ (∀ i, i < m → s' (380 + 20 * (dn s + 1) + i) = nI (nw i) ∧ s' (1600 + 20 * (dn s + 1) + i) = nI (no i)) ∧ (∀ j, j ≠ 1 → (j < 10 + 5 * dn s ∨ 10 + 5 * dn s + 5 ≤ j) → j ≠ 310 + (dn s + 1) → (j < 380 + 20 * (dn s + 1) ∨ 380 + 20 * (dn s + 1) + 20 ≤ j) → (j < 1600 + 20 * (dn s + 1) ∨ 1600 + 20 * (dn s + 1) + 20 ≤ j) → s' j = s j)
theorem r_done {s nW nO : Nat → Int32} {n m : Nat} {nw no : Nat → Nat} (hd : s 1 = nI (dn s)) (hd2 : dn s < 60) (hm : m ≤ 20) (hn : 4100 ≤ n) (hno : ∀ i, i < m → no i ≤ dn s) (hD : ∀ i, i < m → nW i = nI (nw i) ∧ (nO i = nI (no i) ∨ nO i = -nI 1 ∧ no i = dn s)) (k w of : Int32) : ∃ s', f7_done n k w of (nI m) s nW nO = some (nI (dn s), s') ∧ ACT s s' k w of m nw no := by
  have neg1 : ¬ (nI 0 ≤ -nI 1) := by decide
  have loop : ∀ (r i kk : Nat) (σ : Nat → Int32), i + r = m → r < kk → σ 1 = nI (dn s) → (∀ t, t < i → σ (380 + 20 * (dn s + 1) + t) = nI (nw t) ∧ σ (1600 + 20 * (dn s + 1) + t) = nI (no t)) → ∃ σ', f7_done_92 n (nI m) nW nO kk (nI (dn s)) (nI i) σ = some (nI (dn s), σ') ∧ σ' 1 = nI (dn s + 1) ∧ (∀ t, t < m → σ' (380 + 20 * (dn s + 1) + t) = nI (nw t) ∧ σ' (1600 + 20 * (dn s + 1) + t) = nI (no t)) ∧ (∀ j, j ≠ 1 → (j < 380 + 20 * (dn s + 1) ∨ 380 + 20 * (dn s + 1) + 20 ≤ j) → (j < 1600 + 20 * (dn s + 1) ∨ 1600 + 20 * (dn s + 1) + 20 ≤ j) → σ' j = σ j) := by
    intro r
    induction r with
    | zero =>
      intro i kk σ h1 h2 h3 h4
      obtain ⟨kk, rfl⟩ : ∃ q, kk = q + 1 := ⟨kk - 1, by omega⟩
      have e : m ≤ i := by omega
      refine ⟨upd σ 1 (nI (dn s + 1)), ?_, pk_us, ?_, ?_⟩
      · simp (disch := omega) only [z_0, z_1, z_2, z_3, z_4, z_5, z_6, z_7, z_8, z_9, z_10, z_11, z_12, z_13, z_16, z_20, z_21, z_24, z_30, z_31, z_32, z_33, z_37, z_38, z_39, z_40, z_41, z_42, z_43, z_44, z_45, z_46, z_47, z_48, z_49, z_50, z_51, z_52, z_53, z_54, z_55, z_56, z_57, z_58, z_59, z_60, z_61, z_62, z_63, z_70, z_80, z_81, z_97, z_98, z_99, z_100, z_101, z_107, z_108, z_109, z_111, z_114, z_117, z_119, z_124, z_125, z_255, z_310, z_380, z_480, z_999, z_1440, z_1600, z_2820, z_2890, z_3890, z_3950, z_3974, z_9999, z_12345, z_29999, pk_mul, nI_add, q_ldI, q_stI, nI_leI, nI_ltI, nI_eq, q_c_some, q_c1_some, q_c2_some, q_c3_some, q_c4_some, q_c5_some, q_c7_some, q_c8_some, q_c9_some, q_c10_some, q_c11_some, q_c12_some, q_ltP, q_bzN0, q_bzN1, q_dvI, b_eq0, b_eq1, n10, Nat.reduceEqDiff, Nat.reduceLeDiff, ↓reduceIte, if_true, if_false, f7_done_92, e, h3]
      · intro t ht
        rw [pk_un (by omega), pk_un (by omega)]
        exact h4 t (by omega)
      · intro j h5 h6 h7
        exact pk_un h5
    | succ r ih =>
      intro i kk σ h1 h2 h3 h4
      obtain ⟨kk, rfl⟩ : ∃ q, kk = q + 1 := ⟨kk - 1, by omega⟩
      have e : ¬ m ≤ i := by omega
      have hi := hD i (by omega)
      have hni := hno i (by omega)
      obtain ⟨σ', g1, g2, g3, g4⟩ := ih (i + 1) kk (upd (upd σ (380 + 20 * (dn s + 1) + i) (nI (nw i))) (1600 + 20 * (dn s + 1) + i) (nI (no i))) (by omega) (by omega) (by rw [pk_un (by omega), pk_un (by omega)]; exact h3) (by
        intro t ht
        by_cases q : t = i
        · subst q
          rw [pk_us, pk_un (by omega), pk_us]
          exact ⟨rfl, rfl⟩
        · rw [pk_un (by omega), pk_un (by omega), pk_un (by omega), pk_un (by omega)]
          exact h4 t (by omega))
      refine ⟨σ', ?_, g2, g3, ?_⟩
      · rw [← g1]
        rcases hi with ⟨hw, ho | ⟨ho, hz⟩⟩
        · simp (disch := omega) only [z_0, z_1, z_2, z_3, z_4, z_5, z_6, z_7, z_8, z_9, z_10, z_11, z_12, z_13, z_16, z_20, z_21, z_24, z_30, z_31, z_32, z_33, z_37, z_38, z_39, z_40, z_41, z_42, z_43, z_44, z_45, z_46, z_47, z_48, z_49, z_50, z_51, z_52, z_53, z_54, z_55, z_56, z_57, z_58, z_59, z_60, z_61, z_62, z_63, z_70, z_80, z_81, z_97, z_98, z_99, z_100, z_101, z_107, z_108, z_109, z_111, z_114, z_117, z_119, z_124, z_125, z_255, z_310, z_380, z_480, z_999, z_1440, z_1600, z_2820, z_2890, z_3890, z_3950, z_3974, z_9999, z_12345, z_29999, pk_mul, nI_add, q_ldI, q_stI, nI_leI, nI_ltI, nI_eq, q_c_some, q_c1_some, q_c2_some, q_c3_some, q_c4_some, q_c5_some, q_c7_some, q_c8_some, q_c9_some, q_c10_some, q_c11_some, q_c12_some, q_ltP, q_bzN0, q_bzN1, q_dvI, b_eq0, b_eq1, n10, Nat.reduceEqDiff, Nat.reduceLeDiff, ↓reduceIte, if_true, if_false, f7_done_92, f7_done_167, e, hw, ho, Nat.zero_le]
        · simp (disch := omega) only [z_0, z_1, z_2, z_3, z_4, z_5, z_6, z_7, z_8, z_9, z_10, z_11, z_12, z_13, z_16, z_20, z_21, z_24, z_30, z_31, z_32, z_33, z_37, z_38, z_39, z_40, z_41, z_42, z_43, z_44, z_45, z_46, z_47, z_48, z_49, z_50, z_51, z_52, z_53, z_54, z_55, z_56, z_57, z_58, z_59, z_60, z_61, z_62, z_63, z_70, z_80, z_81, z_97, z_98, z_99, z_100, z_101, z_107, z_108, z_109, z_111, z_114, z_117, z_119, z_124, z_125, z_255, z_310, z_380, z_480, z_999, z_1440, z_1600, z_2820, z_2890, z_3890, z_3950, z_3974, z_9999, z_12345, z_29999, pk_mul, nI_add, q_ldI, q_stI, nI_leI, nI_ltI, nI_eq, q_c_some, q_c1_some, q_c2_some, q_c3_some, q_c4_some, q_c5_some, q_c7_some, q_c8_some, q_c9_some, q_c10_some, q_c11_some, q_c12_some, q_ltP, q_bzN0, q_bzN1, q_dvI, b_eq0, b_eq1, n10, Nat.reduceEqDiff, Nat.reduceLeDiff, ↓reduceIte, if_true, if_false, f7_done_92, f7_done_167, e, hw, ho, neg1, hz]
      · intro j h5 h6 h7
        rw [g4 j h5 h6 h7, pk_un (by omega), pk_un (by omega)]
  obtain ⟨σ', g1, g2, g3, g4⟩ := loop m 0 n (upd (upd (upd (upd (upd (upd s (10 + 5 * dn s + 0) k) (10 + 5 * dn s + 1) w) (10 + 5 * dn s + 2) (s 0)) (10 + 5 * dn s + 3) of) (10 + 5 * dn s + 4) (-nI 1)) (310 + dn s + 1) (nI m)) (by omega) (by omega) (by
    rw [pk_un (by omega), pk_un (by omega), pk_un (by omega), pk_un (by omega), pk_un (by omega), pk_un (by omega)]; exact hd) (fun t ht => absurd ht (Nat.not_lt_zero t))
  refine ⟨σ', ?_, g2, ?_, ?_, ?_, ?_, ?_, ?_, g3, ?_⟩
  · rw [← g1]
    have e0 : upd (upd s (10 + 5 * dn s + 0) k) (10 + 5 * dn s + 1) w 0 = s 0 := by rw [pk_un (by omega), pk_un (by omega)]
    simp (disch := first | omega | (apply vp_in_nI <;> omega) | (simp (disch := omega) only [z_0, z_1, z_2, z_3, z_4, z_5, z_6, z_7, z_8, z_9, z_10, z_11, z_12, z_13, z_16, z_20, z_21, z_24, z_30, z_31, z_32, z_33, z_37, z_38, z_39, z_40, z_41, z_42, z_43, z_44, z_45, z_46, z_47, z_48, z_49, z_50, z_51, z_52, z_53, z_54, z_55, z_56, z_57, z_58, z_59, z_60, z_61, z_62, z_63, z_70, z_80, z_81, z_97, z_98, z_99, z_100, z_101, z_107, z_108, z_109, z_111, z_114, z_117, z_119, z_124, z_125, z_255, z_310, z_380, z_480, z_999, z_1440, z_1600, z_2820, z_2890, z_3890, z_3950, z_3974, z_9999, z_12345, z_29999, pk_mul, nI_add, pk_sub, sub_one]; apply vp_in_nI <;> omega)) only [↓q_ldP, ↓q_stP, ↓q_ltP, ↓q_dvI, nI_clamp, z_0, z_1, z_2, z_3, z_4, z_5, z_6, z_7, z_8, z_9, z_10, z_11, z_12, z_13, z_16, z_20, z_21, z_24, z_30, z_31, z_32, z_33, z_37, z_38, z_39, z_40, z_41, z_42, z_43, z_44, z_45, z_46, z_47, z_48, z_49, z_50, z_51, z_52, z_53, z_54, z_55, z_56, z_57, z_58, z_59, z_60, z_61, z_62, z_63, z_70, z_80, z_81, z_97, z_98, z_99, z_100, z_101, z_107, z_108, z_109, z_111, z_114, z_117, z_119, z_124, z_125, z_255, z_310, z_380, z_480, z_999, z_1440, z_1600, z_2820, z_2890, z_3890, z_3950, z_3974, z_9999, z_12345, z_29999, pk_mul, nI_add, q_ldI, q_stI, nI_leI, nI_ltI, nI_eq, q_c_some, q_c1_some, q_c2_some, q_c3_some, q_c4_some, q_c5_some, q_c7_some, q_c8_some, q_c9_some, q_c10_some, q_c11_some, q_c12_some, q_ltP, q_bzN0, q_bzN1, q_dvI, b_eq0, b_eq1, n10, Nat.reduceEqDiff, Nat.reduceLeDiff, ↓reduceIte, if_true, if_false, f7_done, hd, e0]
  · rw [g4 _ (by omega) (by omega) (by omega)]; simp [upd]; omega
  · rw [g4 _ (by omega) (by omega) (by omega)]; simp [upd]; omega
  · rw [g4 _ (by omega) (by omega) (by omega)]; simp [upd]; omega
  · rw [g4 _ (by omega) (by omega) (by omega)]; simp [upd]; omega
  · rw [g4 _ (by omega) (by omega) (by omega)]; simp [upd]; omega
  · rw [g4 _ (by omega) (by omega) (by omega)]; simp [upd]; omega
  · intro j h1 h2 h3 h4 h5
    rw [g4 j h1 h4 h5, pk_un (by omega), pk_un (by omega), pk_un (by omega), pk_un (by omega), pk_un (by omega), pk_un (by omega)]
