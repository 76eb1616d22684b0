/-! ===== the reference's small methods ===== -/
theorem r_actIs1 {s : Nat → Int32} (a k : Nat) (h : 10 + 5 * a + k < 3974) : f7_actIs1 (nI a) (nI k) s = some (s (10 + 5 * a + k)) := by
  simp (disch := omega) only [f7_actIs1, z_0, z_1, z_2, z_3, z_4, z_5, z_6, z_7, z_8, z_9, z_10, z_11, z_12, z_13, z_16, z_20, z_21, z_24, z_30, z_31, z_32, z_33, z_37, z_38, z_39, z_40, z_41, z_42, z_43, z_44, z_45, z_46, z_47, z_48, z_49, z_50, z_51, z_52, z_53, z_54, z_55, z_56, z_57, z_58, z_59, z_60, z_61, z_62, z_63, z_70, z_80, z_81, z_97, z_98, z_99, z_100, z_101, z_107, z_108, z_109, z_111, z_114, z_117, z_119, z_124, z_125, z_255, z_310, z_380, z_480, z_999, z_1440, z_1600, z_2820, z_2890, z_3890, z_3950, z_3974, z_9999, z_12345, z_29999, pk_mul, nI_add, q_ldI]
theorem r_sizeOf {s : Nat → Int32} (v : Nat) (h : 310 + v < 3974) : f7_sizeOf (nI v) s = some (s (310 + v)) := by
  simp (disch := omega) only [f7_sizeOf, z_0, z_1, z_2, z_3, z_4, z_5, z_6, z_7, z_8, z_9, z_10, z_11, z_12, z_13, z_16, z_20, z_21, z_24, z_30, z_31, z_32, z_33, z_37, z_38, z_39, z_40, z_41, z_42, z_43, z_44, z_45, z_46, z_47, z_48, z_49, z_50, z_51, z_52, z_53, z_54, z_55, z_56, z_57, z_58, z_59, z_60, z_61, z_62, z_63, z_70, z_80, z_81, z_97, z_98, z_99, z_100, z_101, z_107, z_108, z_109, z_111, z_114, z_117, z_119, z_124, z_125, z_255, z_310, z_380, z_480, z_999, z_1440, z_1600, z_2820, z_2890, z_3890, z_3950, z_3974, z_9999, z_12345, z_29999, pk_mul, nI_add, q_ldI]
theorem r_wordAt {s : Nat → Int32} (v i : Nat) (h : 380 + 20 * v + i < 3974) : f7_wordAt (nI v) (nI i) s = some (s (380 + 20 * v + i)) := by
  simp (disch := omega) only [f7_wordAt, z_0, z_1, z_2, z_3, z_4, z_5, z_6, z_7, z_8, z_9, z_10, z_11, z_12, z_13, z_16, z_20, z_21, z_24, z_30, z_31, z_32, z_33, z_37, z_38, z_39, z_40, z_41, z_42, z_43, z_44, z_45, z_46, z_47, z_48, z_49, z_50, z_51, z_52, z_53, z_54, z_55, z_56, z_57, z_58, z_59, z_60, z_61, z_62, z_63, z_70, z_80, z_81, z_97, z_98, z_99, z_100, z_101, z_107, z_108, z_109, z_111, z_114, z_117, z_119, z_124, z_125, z_255, z_310, z_380, z_480, z_999, z_1440, z_1600, z_2820, z_2890, z_3890, z_3950, z_3974, z_9999, z_12345, z_29999, pk_mul, nI_add, q_ldI]
theorem r_originAt {s : Nat → Int32} (v i : Nat) (h : 1600 + 20 * v + i < 3974) : f7_originAt (nI v) (nI i) s = some (s (1600 + 20 * v + i)) := by
  simp (disch := omega) only [f7_originAt, z_0, z_1, z_2, z_3, z_4, z_5, z_6, z_7, z_8, z_9, z_10, z_11, z_12, z_13, z_16, z_20, z_21, z_24, z_30, z_31, z_32, z_33, z_37, z_38, z_39, z_40, z_41, z_42, z_43, z_44, z_45, z_46, z_47, z_48, z_49, z_50, z_51, z_52, z_53, z_54, z_55, z_56, z_57, z_58, z_59, z_60, z_61, z_62, z_63, z_70, z_80, z_81, z_97, z_98, z_99, z_100, z_101, z_107, z_108, z_109, z_111, z_114, z_117, z_119, z_124, z_125, z_255, z_310, z_380, z_480, z_999, z_1440, z_1600, z_2820, z_2890, z_3890, z_3950, z_3974, z_9999, z_12345, z_29999, pk_mul, nI_add, q_ldI]
theorem r_actsOf {s : Nat → Int32} {n d : Nat} (hd : s 1 = nI d) (hd2 : d ≤ 60) (hn : 4100 ≤ n) (w : Int32) : f7_actsOf n w s = some (itr (fun j a => a + (if s (10 + 5 * j + 1) = w then nI 1 else nI 0)) 0 d (nI 0)) := by
  unfold f7_actsOf
  refine loop_up (fun k a i => f7_actsOf_4 n s k w a i) (fun a => a) _ d ?_ ?_ d 0 n 0 (by omega) (by omega)
  · intro k a
    simp (disch := omega) only [f7_actsOf_4, z_0, z_1, z_2, z_3, z_4, z_5, z_6, z_7, z_8, z_9, z_10, z_11, z_12, z_13, z_16, z_20, z_21, z_24, z_30, z_31, z_32, z_33, z_37, z_38, z_39, z_40, z_41, z_42, z_43, z_44, z_45, z_46, z_47, z_48, z_49, z_50, z_51, z_52, z_53, z_54, z_55, z_56, z_57, z_58, z_59, z_60, z_61, z_62, z_63, z_70, z_80, z_81, z_97, z_98, z_99, z_100, z_101, z_107, z_108, z_109, z_111, z_114, z_117, z_119, z_124, z_125, z_255, z_310, z_380, z_480, z_999, z_1440, z_1600, z_2820, z_2890, z_3890, z_3950, z_3974, z_9999, z_12345, z_29999, q_ldI, hd, nI_leI, Nat.le_refl, if_true]
  · intro k a j hj
    have e := Nat.not_le.mpr hj
    simp (disch := omega) only [f7_actsOf_4, f7_actsOf_30, z_0, z_1, z_2, z_3, z_4, z_5, z_6, z_7, z_8, z_9, z_10, z_11, z_12, z_13, z_16, z_20, z_21, z_24, z_30, z_31, z_32, z_33, z_37, z_38, z_39, z_40, z_41, z_42, z_43, z_44, z_45, z_46, z_47, z_48, z_49, z_50, z_51, z_52, z_53, z_54, z_55, z_56, z_57, z_58, z_59, z_60, z_61, z_62, z_63, z_70, z_80, z_81, z_97, z_98, z_99, z_100, z_101, z_107, z_108, z_109, z_111, z_114, z_117, z_119, z_124, z_125, z_255, z_310, z_380, z_480, z_999, z_1440, z_1600, z_2820, z_2890, z_3890, z_3950, z_3974, z_9999, z_12345, z_29999, q_ldI, hd, nI_leI, e, if_false, r_actIs1, q_c_some, q_lt, nI_add]
    split <;> rfl
theorem r_in (x lo hi : Int32) : f7_in x lo hi = some (if lo ≤ x ∧ x ≤ hi then 1 else 0) := by
  unfold f7_in f7_in_14 f7_in_15
  by_cases h1 : x < lo
  · rw [if_pos h1, if_neg (fun q => absurd h1 (Int32.not_lt.mpr q.1))]; rfl
  · rw [if_neg h1]
    by_cases h2 : hi < x
    · rw [if_pos h2, if_neg (fun q => absurd h2 (Int32.not_lt.mpr q.2))]; rfl
    · rw [if_neg h2, if_pos ⟨Int32.not_lt.mp h1, Int32.not_lt.mp h2⟩]; rfl
/-- versions v and w have the same words -/
abbrev AL0 (s : Nat → Int32) (v w : Nat) : Prop := s (310 + v) = s (310 + w) ∧ ∀ i, i < (s (310 + v)).toNatClampNeg → s (380 + 20 * v + i) = s (380 + 20 * w + i)
/-- the versions' sizes and places are in range -/
def SZ (s : Nat → Int32) (d : Nat) : Prop := ∀ v, v ≤ d → ∃ z : Nat, z ≤ 20 ∧ s (310 + v) = nI z
theorem r_areAlike0 {s : Nat → Int32} {n d v w : Nat} (hd2 : d ≤ 60) (hS : SZ s d) (hv : v ≤ d) (hw : w ≤ d) (hn : 4100 ≤ n) : f7_areAlike n (nI v) (nI w) s = some (if AL0 s v w then 1 else 0) := by
  obtain ⟨z, hz, ez⟩ := hS v hv
  obtain ⟨y, hy, ey⟩ := hS w hw
  have loop : ∀ (m j k : Nat), j + m = z → m < k → (∀ i, i < j → s (380 + 20 * v + i) = s (380 + 20 * w + i)) → f7_areAlike_22 n s k (nI v) (nI w) 1 (nI j) = some (if ∀ i, i < z → s (380 + 20 * v + i) = s (380 + 20 * w + i) then 1 else 0) := by
    intro m
    induction m with
    | zero =>
      intro j k h1 h2 h3
      obtain ⟨k, rfl⟩ : ∃ q, k = q + 1 := ⟨k - 1, by omega⟩
      have e : j = z := by omega
      subst e
      simp (disch := omega) only [f7_areAlike_22, r_sizeOf, q_c_some, ez, nI_leI, Nat.le_refl, if_true, f7_areAlike_65]
      rw [if_pos h3]
      rfl
    | succ m ih =>
      intro j k h1 h2 h3
      obtain ⟨k, rfl⟩ : ∃ q, k = q + 1 := ⟨k - 1, by omega⟩
      have e : ¬ z ≤ j := by omega
      have e1 : ¬ (1 : Int32) = 0 := by decide
      simp (disch := omega) only [f7_areAlike_22, r_sizeOf, q_c_some, ez, nI_leI, e, if_false, e1, r_wordAt, f7_areAlike_58, q_lt, nI_1]
      by_cases h4 : s (380 + 20 * v + j) = s (380 + 20 * w + j)
      · rw [if_pos h4]
        exact ih (j + 1) k (by omega) (by omega) (fun i hi => by
          rcases Nat.lt_or_ge i j with q | q
          · exact h3 i q
          · rw [show i = j by omega]; exact h4)
      · rw [if_neg h4, if_neg (fun q => h4 (q j (by omega)))]
        obtain ⟨k, rfl⟩ : ∃ q, k = q + 1 := ⟨k - 1, by omega⟩
        simp (disch := omega) only [f7_areAlike_22, r_sizeOf, q_c_some, ez, nI_leI, if_true, f7_areAlike_65]
        split <;> rfl
  have e0 : f7_areAlike_22 n s n (nI v) (nI w) 0 0 = some 0 := by
    obtain ⟨k, rfl⟩ : ∃ q, n = q + 1 := ⟨n - 1, by omega⟩
    simp (disch := omega) only [f7_areAlike_22, r_sizeOf, q_c_some, if_true, f7_areAlike_65]
    split <;> rfl
  simp (disch := omega) only [f7_areAlike, r_sizeOf, q_c_some, f7_areAlike_18]
  by_cases h : s (310 + v) = s (310 + w)
  · rw [if_pos h]
    have := loop z 0 n (by omega) (by omega) (fun i hi => absurd hi (Nat.not_lt_zero i))
    rw [nI_0] at this
    rw [this]
    congr 1
    have ec : (s (310 + v)).toNatClampNeg = z := by rw [ez]; exact nI_clamp (by omega)
    unfold AL0
    rw [ec]
    simp only [h, true_and]
  · rw [if_neg h, e0, if_neg (fun q => h q.1)]
def ALb (s : Nat → Int32) (v w : Nat) : Bool := decide (AL0 s v w)
abbrev AL (s : Nat → Int32) (v w : Nat) : Prop := ALb s v w = true
theorem AL_iff {s : Nat → Int32} {v w : Nat} : AL s v w ↔ AL0 s v w := decide_eq_true_iff
theorem r_areAlike {s : Nat → Int32} {n d v w : Nat} (hd2 : d ≤ 60) (hS : SZ s d) (hv : v ≤ d) (hw : w ≤ d) (hn : 4100 ≤ n) : f7_areAlike n (nI v) (nI w) s = some (if AL s v w then 1 else 0) := by
  rw [r_areAlike0 hd2 hS hv hw hn]
  by_cases h : AL0 s v w
  · rw [if_pos h, if_pos (AL_iff.mpr h)]
  · rw [if_neg h, if_neg (fun q => h (AL_iff.mp q))]
