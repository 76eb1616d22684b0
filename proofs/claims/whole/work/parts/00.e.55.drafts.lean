/-! ===== versions drafted, both sides ===== -/
theorem pack {o w : Nat} (ho : o < 64) (hw : w < 64) : (nI o <<< (nI 6 &&& nI 31) ||| nI w) &&& nI 63 = nI w ∧ (nI o <<< (nI 6 &&& nI 31) ||| nI w) >>> (nI 6 &&& nI 31) = nI o := by
  have : ∀ o w : Fin 64, (nI o.val <<< (nI 6 &&& nI 31) ||| nI w.val) &&& nI 63 = nI w.val ∧ (nI o.val <<< (nI 6 &&& nI 31) ||| nI w.val) >>> (nI 6 &&& nI 31) = nI o.val := by decide +kernel
  exact this ⟨o, ho⟩ ⟨w, hw⟩
theorem q_cpI {α : Type} {f g : Nat → Int32} {n0 n1 a b m : Nat} {K : (Nat → Int32) → Option α} (h1 : a + m ≤ n0) (h2 : b + m ≤ n1) (h0 : n0 < 2 ^ 31) (h3 : n1 < 2 ^ 31) : q_cp f n0 (nI a) g n1 (nI b) (nI m) K = K (va_cpy f g a b m) := by
  unfold q_cp
  rw [if_pos ⟨nI_pos (by omega), nI_pos (by omega), nI_pos (by omega), by rw [nI_clamp (by omega), nI_clamp (by omega)]; exact h1, by rw [nI_clamp (by omega), nI_clamp (by omega)]; exact h2⟩, nI_clamp (by omega), nI_clamp (by omega), nI_clamp (by omega)]
def MD (s : Nat → Int32) (m : Nat) (nw no : Nat → Nat) (nW nO : Nat → Int32) : Prop := ∀ i, i < m → nW i = nI (nw i) ∧ (nO i = nI (no i) ∨ nO i = -nI 1 ∧ no i = dn s)
def WB (s : Nat → Int32) (m : Nat) (nw no : Nat → Nat) : Prop := ∀ i, i < m → 1 ≤ nw i ∧ nw i ≤ 60 ∧ no i ≤ dn s
/-- the first x of version v, then what the page has from x on -/
def hA (s : Nat → Int32) (b v x i : Nat) : Nat := if i < min x (nv s (310 + v)) then nv s (b + 20 * v + i) else nv s (b + 20 * dn s + (x + (i - min x (nv s (310 + v)))))
def hM (s : Nat → Int32) (v x : Nat) : Nat := min x (nv s (310 + v)) + (nv s (310 + dn s) - x)
theorem half_WB {s : Nat → Int32} (I : IV s) {v x : Nat} (hv : v ≤ dn s) : WB s (hM s v x) (hA s 380 v x) (hA s 1600 v x) := by
  intro i hi
  unfold hM at hi
  unfold hA
  split
  · have a := I.wordB hv (i := i) (by omega)
    have b := I.originB hv (i := i) (by omega)
    omega
  · have a := I.wordB (Nat.le_refl (dn s)) (i := x + (i - min x (nv s (310 + v)))) (by omega)
    have b := I.originB (Nat.le_refl (dn s)) (i := x + (i - min x (nv s (310 + v)))) (by omega)
    omega
theorem half_MD {s : Nat → Int32} (I : IV s) {v x : Nat} (hv : v ≤ dn s) (nw no : Nat → Int32) : MD s (hM s v x) (hA s 380 v x) (hA s 1600 v x) (va_cpy (wr s (dn s)) (va_cpy (wr s v) nw 0 0 (min x (nv s (310 + v)))) x (min x (nv s (310 + v))) (nv s (310 + dn s) - x)) (va_cpy (og s (dn s)) (va_cpy (og s v) no 0 0 (min x (nv s (310 + v)))) x (min x (nv s (310 + v))) (nv s (310 + dn s) - x)) := by
  intro i hi
  unfold hM at hi
  unfold hA
  by_cases q : i < min x (nv s (310 + v))
  · rw [if_pos q, if_pos q, pk_cpy_out (by omega), pk_cpy_in (by omega) (by omega), pk_cpy_out (by omega), pk_cpy_in (by omega) (by omega)]
    simp only [wr, og, Nat.zero_add, Nat.sub_zero]
    exact ⟨I.word hv (by omega), Or.inl (I.origin hv (by omega))⟩
  · rw [if_neg q, if_neg q, pk_cpy_in (by omega) (by omega), pk_cpy_in (by omega) (by omega)]
    exact ⟨I.word (Nat.le_refl _) (by omega), Or.inl (I.origin (Nat.le_refl _) (by omega))⟩
theorem half_CD {s kinds writers minutes matters undoers scores sizes cells : Nat → Int32} (I : IV s) (R : RA s kinds writers minutes matters undoers scores sizes cells) {v x : Nat} (hv : v ≤ dn s) (hx : x ≤ 20) (hd : dn s < 60) (hm : hM s v x ≤ 20) : ∃ sizes' cells', f0_draftsHalf (nI v) (nI x) (nI (dn s)) sizes cells = some (sizes', cells') ∧ CD s (hM s v x) (hA s 380 v x) (hA s 1600 v x) sizes cells sizes' cells' := by
  have z1 := I.sizeB hv
  have z2 := I.sizeB (Nat.le_refl (dn s))
  unfold hM at hm
  let c1 := va_cpy cells cells (v * 20) ((dn s + 1) * 20) (min x (nv s (310 + v)))
  let c2 := va_cpy c1 c1 (dn s * 20 + x) ((dn s + 1) * 20 + min x (nv s (310 + v))) (nv s (310 + dn s) - x)
  refine ⟨upd sizes (dn s + 1) (nI (hM s v x)), c2, ?_, ?_, ?_, ?_, ?_⟩
  · unfold f0_draftsHalf
    rw [q_ltP, q_ldI (by omega) (by omega), R.size hv, I.size hv, q_ltP, n_min (by omega) (by omega), q_ldI (by omega) (by omega), R.size (Nat.le_refl _), I.size (Nat.le_refl _), q_ltP]
    rw [show (if (0 : Int32) < nI (nv s (310 + dn s)) - nI x then nI (nv s (310 + dn s)) - nI x else 0) = nI (nv s (310 + dn s) - x) from n_mon (by omega) (by omega)]
    rw [show (nI (dn s) + 1) * 20 = nI ((dn s + 1) * 20) from by rw [nI_1, z_20, pk_mul], show nI v * 20 = nI (v * 20) from by rw [z_20, pk_mul], Nat.min_comm]
    rw [q_cpI (by omega) (by omega) (by omega) (by omega)]
    have fin : ∀ c, f0_draftsHalf_88 (nI (dn s)) (nI (min x (nv s (310 + v)))) (nI (nv s (310 + dn s) - x)) sizes c = some (upd sizes (dn s + 1) (nI (hM s v x)), c) := by
      intro c
      simp (disch := omega) only [z_0, z_1, z_2, z_3, z_4, z_5, z_6, z_7, z_8, z_9, z_10, z_11, z_12, z_13, z_16, z_20, z_21, z_24, z_30, z_31, z_32, z_33, z_37, z_38, z_39, z_40, z_41, z_42, z_43, z_44, z_45, z_46, z_47, z_48, z_49, z_50, z_51, z_52, z_53, z_54, z_55, z_56, z_57, z_58, z_59, z_60, z_61, z_62, z_63, z_70, z_80, z_81, z_97, z_98, z_99, z_100, z_101, z_107, z_108, z_109, z_111, z_114, z_117, z_119, z_124, z_125, z_255, z_310, z_380, z_480, z_999, z_1440, z_1600, z_2820, z_2890, z_3890, z_3950, z_3974, z_9999, z_12345, z_29999, pk_mul, nI_add, q_ldI, q_stI, nI_leI, nI_ltI, nI_eq, q_c_some, q_c1_some, q_c2_some, q_c3_some, q_c4_some, q_c5_some, q_c7_some, q_c8_some, q_c9_some, q_c10_some, q_c11_some, q_c12_some, q_ltP, q_bzN0, q_bzN1, q_dvI, b_eq0, b_eq1, n10, Nat.reduceEqDiff, Nat.reduceLeDiff, ↓reduceIte, if_true, if_false, f0_draftsHalf_88, hM]
    by_cases q : nv s (310 + dn s) - x = 0
    · rw [if_pos (by rw [q]; decide), fin]
      show some (_, c1) = some (_, c2)
      simp only [c2, q, cpy_0]
    · rw [if_neg (nI_nle (by omega) (by omega)), show nI (dn s) * 20 + nI x = nI (dn s * 20 + x) from by rw [z_20, pk_mul, nI_add], nI_add, q_cpI (by omega) (by omega) (by omega) (by omega), fin]
  · exact pk_us
  · intro u hu
    exact pk_un (by omega)
  · intro j hj
    rw [show c2 j = c1 j from pk_cpy_out (by omega)]
    exact pk_cpy_out (by omega)
  · intro i hi
    unfold hM at hi
    unfold hA
    by_cases q : i < min x (nv s (310 + v))
    · rw [if_pos q, if_pos q, show c2 ((dn s + 1) * 20 + i) = c1 ((dn s + 1) * 20 + i) from pk_cpy_out (by omega), show c1 ((dn s + 1) * 20 + i) = cells (v * 20 + i) from by
        rw [show c1 ((dn s + 1) * 20 + i) = _ from pk_cpy_in (by omega) (by omega)]; congr 1; omega]
      exact ⟨(R.word hv (by omega)).trans (I.word hv (by omega)), (R.origin hv (by omega)).trans (I.origin hv (by omega))⟩
    · rw [if_neg q, if_neg q, show c2 ((dn s + 1) * 20 + i) = cells (dn s * 20 + (x + (i - min x (nv s (310 + v))))) from by
        rw [show c2 ((dn s + 1) * 20 + i) = _ from pk_cpy_in (by omega) (by omega)]
        rw [show c1 (dn s * 20 + x + ((dn s + 1) * 20 + i - ((dn s + 1) * 20 + min x (nv s (310 + v))))) = cells (dn s * 20 + x + ((dn s + 1) * 20 + i - ((dn s + 1) * 20 + min x (nv s (310 + v))))) from pk_cpy_out (by omega)]
        congr 1; omega]
      exact ⟨(R.word (Nat.le_refl _) (by omega)).trans (I.word (Nat.le_refl _) (by omega)), (R.origin (Nat.le_refl _) (by omega)).trans (I.origin (Nat.le_refl _) (by omega))⟩
/-- a word put in at place p; in place of the one there; the one at p taken out -/
def pA (s : Nat → Int32) (b p x i : Nat) : Nat := if i < p then nv s (b + 20 * dn s + i) else if i = p then x else nv s (b + 20 * dn s + (i - 1))
def eA (s : Nat → Int32) (b p x i : Nat) : Nat := if i = p then x else nv s (b + 20 * dn s + i)
def tA (s : Nat → Int32) (b p i : Nat) : Nat := if i < p then nv s (b + 20 * dn s + i) else nv s (b + 20 * dn s + (i + 1))
theorem put_WB {s : Nat → Int32} (I : IV s) {p w : Nat} (hp : p ≤ nv s (310 + dn s)) (h1 : 1 ≤ w) (h2 : w ≤ 60) : WB s (nv s (310 + dn s) + 1) (pA s 380 p w) (pA s 1600 p (dn s)) := by
  intro i hi
  unfold pA
  by_cases q1 : i < p
  · have a := I.wordB (Nat.le_refl (dn s)) (i := i) (by omega)
    have b := I.originB (Nat.le_refl (dn s)) (i := i) (by omega)
    rw [if_pos q1, if_pos q1]; omega
  · by_cases q2 : i = p
    · rw [if_neg q1, if_pos q2, if_neg q1, if_pos q2]; omega
    · have a := I.wordB (Nat.le_refl (dn s)) (i := i - 1) (by omega)
      have b := I.originB (Nat.le_refl (dn s)) (i := i - 1) (by omega)
      rw [if_neg q1, if_neg q2, if_neg q1, if_neg q2]; omega
theorem put_MD {s : Nat → Int32} (I : IV s) {p w : Nat} (hp : p ≤ nv s (310 + dn s)) (nw no : Nat → Int32) : MD s (nv s (310 + dn s) + 1) (pA s 380 p w) (pA s 1600 p (dn s)) (va_cpy (wr s (dn s)) (upd (va_cpy (wr s (dn s)) nw 0 0 p) p (nI w)) p (p + 1) (nv s (310 + dn s) - p)) (va_cpy (og s (dn s)) (upd (va_cpy (og s (dn s)) no 0 0 p) p (-nI 1)) p (p + 1) (nv s (310 + dn s) - p)) := by
  intro i hi
  unfold pA
  by_cases q1 : i < p
  · rw [if_pos q1, if_pos q1, pk_cpy_out (by omega), pk_un (by omega), pk_cpy_in (by omega) (by omega), pk_cpy_out (by omega), pk_un (by omega), pk_cpy_in (by omega) (by omega)]
    simp only [wr, og, Nat.zero_add, Nat.sub_zero]
    exact ⟨I.word (Nat.le_refl _) (by omega), Or.inl (I.origin (Nat.le_refl _) (by omega))⟩
  · by_cases q2 : i = p
    · subst q2
      rw [if_neg q1, if_pos rfl, if_neg q1, if_pos rfl, pk_cpy_out (by omega), pk_us, pk_cpy_out (by omega), pk_us]
      exact ⟨rfl, Or.inr ⟨rfl, rfl⟩⟩
    · rw [if_neg q1, if_neg q2, if_neg q1, if_neg q2, pk_cpy_in (by omega) (by omega), pk_cpy_in (by omega) (by omega), show p + (i - (p + 1)) = i - 1 by omega]
      exact ⟨I.word (Nat.le_refl _) (by omega), Or.inl (I.origin (Nat.le_refl _) (by omega))⟩
theorem put_CD {s kinds writers minutes matters undoers scores sizes cells : Nat → Int32} (I : IV s) (R : RA s kinds writers minutes matters undoers scores sizes cells) {p w : Nat} (hp : p ≤ nv s (310 + dn s)) (hz : nv s (310 + dn s) < 20) (h2 : w ≤ 60) (hd : dn s < 60) : ∃ sizes' cells', f0_draftsPutting (nI p) (nI w) (nI (dn s)) sizes cells = some (sizes', cells') ∧ CD s (nv s (310 + dn s) + 1) (pA s 380 p w) (pA s 1600 p (dn s)) sizes cells sizes' cells' := by
  have z2 := I.sizeB (Nat.le_refl (dn s))
  let c1 := va_cpy cells cells (dn s * 20) (dn s * 20 + 20) p
  let c2 := va_cpy c1 c1 (dn s * 20 + p) (dn s * 20 + 20 + p + 1) (nv s (310 + dn s) - p)
  let c3 := upd c2 (dn s * 20 + 20 + p) (nI (dn s) <<< (nI 6 &&& nI 31) ||| nI w)
  have ea : (dn s + 1) * 20 = dn s * 20 + 20 := by omega
  refine ⟨upd sizes (dn s + 1) (nI (nv s (310 + dn s) + 1)), c3, ?_, pk_us, ?_, ?_, ?_⟩
  · simp (disch := first | omega | (apply vp_in_nI <;> omega) | (simp (disch := omega) only [z_0, z_1, z_2, z_3, z_4, z_5, z_6, z_7, z_8, z_9, z_10, z_11, z_12, z_13, z_16, z_20, z_21, z_24, z_30, z_31, z_32, z_33, z_37, z_38, z_39, z_40, z_41, z_42, z_43, z_44, z_45, z_46, z_47, z_48, z_49, z_50, z_51, z_52, z_53, z_54, z_55, z_56, z_57, z_58, z_59, z_60, z_61, z_62, z_63, z_70, z_80, z_81, z_97, z_98, z_99, z_100, z_101, z_107, z_108, z_109, z_111, z_114, z_117, z_119, z_124, z_125, z_255, z_310, z_380, z_480, z_999, z_1440, z_1600, z_2820, z_2890, z_3890, z_3950, z_3974, z_9999, z_12345, z_29999, pk_mul, nI_add, pk_sub, sub_one]; apply vp_in_nI <;> omega)) only [↓q_ldP, ↓q_stP, ↓q_ltP, ↓q_dvI, nI_clamp, z_0, z_1, z_2, z_3, z_4, z_5, z_6, z_7, z_8, z_9, z_10, z_11, z_12, z_13, z_16, z_20, z_21, z_24, z_30, z_31, z_32, z_33, z_37, z_38, z_39, z_40, z_41, z_42, z_43, z_44, z_45, z_46, z_47, z_48, z_49, z_50, z_51, z_52, z_53, z_54, z_55, z_56, z_57, z_58, z_59, z_60, z_61, z_62, z_63, z_70, z_80, z_81, z_97, z_98, z_99, z_100, z_101, z_107, z_108, z_109, z_111, z_114, z_117, z_119, z_124, z_125, z_255, z_310, z_380, z_480, z_999, z_1440, z_1600, z_2820, z_2890, z_3890, z_3950, z_3974, z_9999, z_12345, z_29999, pk_mul, nI_add, q_ldI, q_stI, nI_leI, nI_ltI, nI_eq, q_c_some, q_c1_some, q_c2_some, q_c3_some, q_c4_some, q_c5_some, q_c7_some, q_c8_some, q_c9_some, q_c10_some, q_c11_some, q_c12_some, q_ltP, q_bzN0, q_bzN1, q_dvI, b_eq0, b_eq1, n10, Nat.reduceEqDiff, Nat.reduceLeDiff, ↓reduceIte, if_true, if_false, f0_draftsPutting, ↓q_cpI, pk_sub, R.size (Nat.le_refl _), I.size (Nat.le_refl _)]
    rfl
  · intro u hu
    exact pk_un (by omega)
  · intro j hj
    rw [show c3 j = c2 j from pk_un (by omega), show c2 j = c1 j from pk_cpy_out (by omega)]
    exact pk_cpy_out (by omega)
  · intro i hi
    rw [ea]
    unfold pA
    by_cases q1 : i < p
    · rw [if_pos q1, if_pos q1, show c3 (dn s * 20 + 20 + i) = c2 (dn s * 20 + 20 + i) from pk_un (by omega), show c2 (dn s * 20 + 20 + i) = c1 (dn s * 20 + 20 + i) from pk_cpy_out (by omega), show c1 (dn s * 20 + 20 + i) = cells (dn s * 20 + i) from by
        rw [show c1 (dn s * 20 + 20 + i) = _ from pk_cpy_in (by omega) (by omega)]; congr 1; omega]
      exact ⟨(R.word (Nat.le_refl _) (by omega)).trans (I.word (Nat.le_refl _) (by omega)), (R.origin (Nat.le_refl _) (by omega)).trans (I.origin (Nat.le_refl _) (by omega))⟩
    · by_cases q2 : i = p
      · subst q2
        rw [if_neg q1, if_pos rfl, if_neg q1, if_pos rfl, show c3 (dn s * 20 + 20 + i) = _ from pk_us]
        exact pack (by omega) (by omega)
      · rw [if_neg q1, if_neg q2, if_neg q1, if_neg q2, show c3 (dn s * 20 + 20 + i) = c2 (dn s * 20 + 20 + i) from pk_un (by omega), show c2 (dn s * 20 + 20 + i) = cells (dn s * 20 + (i - 1)) from by
          rw [show c2 (dn s * 20 + 20 + i) = _ from pk_cpy_in (by omega) (by omega)]
          rw [show c1 (dn s * 20 + p + (dn s * 20 + 20 + i - (dn s * 20 + 20 + p + 1))) = cells (dn s * 20 + p + (dn s * 20 + 20 + i - (dn s * 20 + 20 + p + 1))) from pk_cpy_out (by omega)]
          congr 1; omega]
        exact ⟨(R.word (Nat.le_refl _) (by omega)).trans (I.word (Nat.le_refl _) (by omega)), (R.origin (Nat.le_refl _) (by omega)).trans (I.origin (Nat.le_refl _) (by omega))⟩
theorem mend_WB {s : Nat → Int32} (I : IV s) {p w : Nat} (hp : p < nv s (310 + dn s)) (h1 : 1 ≤ w) (h2 : w ≤ 60) : WB s (nv s (310 + dn s)) (eA s 380 p w) (eA s 1600 p (dn s)) := by
  intro i hi
  unfold eA
  by_cases q2 : i = p
  · rw [if_pos q2, if_pos q2]; omega
  · have a := I.wordB (Nat.le_refl (dn s)) (i := i) (by omega)
    have b := I.originB (Nat.le_refl (dn s)) (i := i) (by omega)
    rw [if_neg q2, if_neg q2]; omega
theorem mend_MD {s : Nat → Int32} (I : IV s) {p w : Nat} (hp : p < nv s (310 + dn s)) (nw no : Nat → Int32) : MD s (nv s (310 + dn s)) (eA s 380 p w) (eA s 1600 p (dn s)) (va_cpy (wr s (dn s)) (upd (va_cpy (wr s (dn s)) nw 0 0 p) p (nI w)) (p + 1) (p + 1) (nv s (310 + dn s) - (p + 1))) (va_cpy (og s (dn s)) (upd (va_cpy (og s (dn s)) no 0 0 p) p (-nI 1)) (p + 1) (p + 1) (nv s (310 + dn s) - (p + 1))) := by
  intro i hi
  unfold eA
  by_cases q2 : i = p
  · subst q2
    rw [if_pos rfl, if_pos rfl, pk_cpy_out (by omega), pk_us, pk_cpy_out (by omega), pk_us]
    exact ⟨rfl, Or.inr ⟨rfl, rfl⟩⟩
  · rw [if_neg q2, if_neg q2]
    by_cases q1 : i < p
    · rw [pk_cpy_out (by omega), pk_un (by omega), pk_cpy_in (by omega) (by omega), pk_cpy_out (by omega), pk_un (by omega), pk_cpy_in (by omega) (by omega)]
      simp only [wr, og, Nat.zero_add, Nat.sub_zero]
      exact ⟨I.word (Nat.le_refl _) (by omega), Or.inl (I.origin (Nat.le_refl _) (by omega))⟩
    · rw [pk_cpy_in (by omega) (by omega), pk_cpy_in (by omega) (by omega), show p + 1 + (i - (p + 1)) = i by omega]
      exact ⟨I.word (Nat.le_refl _) (by omega), Or.inl (I.origin (Nat.le_refl _) (by omega))⟩
theorem mend_CD {s kinds writers minutes matters undoers scores sizes cells : Nat → Int32} (I : IV s) (R : RA s kinds writers minutes matters undoers scores sizes cells) {p w : Nat} (hp : p < nv s (310 + dn s)) (h2 : w ≤ 60) (hd : dn s < 60) : ∃ sizes' cells', f0_draftsMending (nI p) (nI w) (nI (dn s)) sizes cells = some (sizes', cells') ∧ CD s (nv s (310 + dn s)) (eA s 380 p w) (eA s 1600 p (dn s)) sizes cells sizes' cells' := by
  have z2 := I.sizeB (Nat.le_refl (dn s))
  have hm : hM s (dn s) 20 = nv s (310 + dn s) := by unfold hM; omega
  obtain ⟨sz, cl, g, C1, C2, C3, C4⟩ := half_CD I R (v := dn s) (x := 20) (Nat.le_refl _) (by omega) hd (by omega)
  rw [hm] at C1 C4
  refine ⟨sz, upd cl ((dn s + 1) * 20 + p) (nI (dn s) <<< (nI 6 &&& nI 31) ||| nI w), ?_, C1, C2, ?_, ?_⟩
  · simp (disch := omega) only [z_0, z_1, z_2, z_3, z_4, z_5, z_6, z_7, z_8, z_9, z_10, z_11, z_12, z_13, z_16, z_20, z_21, z_24, z_30, z_31, z_32, z_33, z_37, z_38, z_39, z_40, z_41, z_42, z_43, z_44, z_45, z_46, z_47, z_48, z_49, z_50, z_51, z_52, z_53, z_54, z_55, z_56, z_57, z_58, z_59, z_60, z_61, z_62, z_63, z_70, z_80, z_81, z_97, z_98, z_99, z_100, z_101, z_107, z_108, z_109, z_111, z_114, z_117, z_119, z_124, z_125, z_255, z_310, z_380, z_480, z_999, z_1440, z_1600, z_2820, z_2890, z_3890, z_3950, z_3974, z_9999, z_12345, z_29999, pk_mul, nI_add, q_ldI, q_stI, nI_leI, nI_ltI, nI_eq, q_c_some, q_c1_some, q_c2_some, q_c3_some, q_c4_some, q_c5_some, q_c7_some, q_c8_some, q_c9_some, q_c10_some, q_c11_some, q_c12_some, q_ltP, q_bzN0, q_bzN1, q_dvI, b_eq0, b_eq1, n10, Nat.reduceEqDiff, Nat.reduceLeDiff, ↓reduceIte, if_true, if_false, f0_draftsMending, g]
  · intro j hj
    rw [pk_un (by omega)]
    exact C3 j hj
  · intro i hi
    unfold eA
    by_cases q2 : i = p
    · subst q2
      rw [if_pos rfl, if_pos rfl, pk_us]
      exact pack (by omega) (by omega)
    · rw [if_neg q2, if_neg q2, pk_un (by omega)]
      have := C4 i hi
      unfold hA at this
      rwa [if_pos (by omega), if_pos (by omega)] at this
theorem take_WB {s : Nat → Int32} (I : IV s) {p : Nat} (hp : p < nv s (310 + dn s)) : WB s (nv s (310 + dn s) - 1) (tA s 380 p) (tA s 1600 p) := by
  intro i hi
  unfold tA
  by_cases q2 : i < p
  · have a := I.wordB (Nat.le_refl (dn s)) (i := i) (by omega)
    have b := I.originB (Nat.le_refl (dn s)) (i := i) (by omega)
    rw [if_pos q2, if_pos q2]; omega
  · have a := I.wordB (Nat.le_refl (dn s)) (i := i + 1) (by omega)
    have b := I.originB (Nat.le_refl (dn s)) (i := i + 1) (by omega)
    rw [if_neg q2, if_neg q2]; omega
theorem take_MD {s : Nat → Int32} (I : IV s) {p : Nat} (hp : p < nv s (310 + dn s)) (nw no : Nat → Int32) : MD s (nv s (310 + dn s) - 1) (tA s 380 p) (tA s 1600 p) (va_cpy (wr s (dn s)) (va_cpy (wr s (dn s)) nw 0 0 p) (p + 1) p (nv s (310 + dn s) - (p + 1))) (va_cpy (og s (dn s)) (va_cpy (og s (dn s)) no 0 0 p) (p + 1) p (nv s (310 + dn s) - (p + 1))) := by
  intro i hi
  unfold tA
  by_cases q1 : i < p
  · rw [if_pos q1, if_pos q1, pk_cpy_out (by omega), pk_cpy_in (by omega) (by omega), pk_cpy_out (by omega), pk_cpy_in (by omega) (by omega)]
    simp only [wr, og, Nat.zero_add, Nat.sub_zero]
    exact ⟨I.word (Nat.le_refl _) (by omega), Or.inl (I.origin (Nat.le_refl _) (by omega))⟩
  · rw [if_neg q1, if_neg q1, pk_cpy_in (by omega) (by omega), pk_cpy_in (by omega) (by omega), show p + 1 + (i - p) = i + 1 by omega]
    exact ⟨I.word (Nat.le_refl _) (by omega), Or.inl (I.origin (Nat.le_refl _) (by omega))⟩
theorem take_CD {s kinds writers minutes matters undoers scores sizes cells : Nat → Int32} (I : IV s) (R : RA s kinds writers minutes matters undoers scores sizes cells) {p : Nat} (hp : p < nv s (310 + dn s)) (hd : dn s < 60) : ∃ sizes' cells', f0_draftsTakingOut (nI p) (nI (dn s)) sizes cells = some (sizes', cells') ∧ CD s (nv s (310 + dn s) - 1) (tA s 380 p) (tA s 1600 p) sizes cells sizes' cells' := by
  have z2 := I.sizeB (Nat.le_refl (dn s))
  let c1 := va_cpy cells cells (dn s * 20) (dn s * 20 + 20) p
  let c2 := va_cpy c1 c1 (dn s * 20 + p + 1) (dn s * 20 + 20 + p) (nv s (310 + dn s) - p - 1)
  have ea : (dn s + 1) * 20 = dn s * 20 + 20 := by omega
  refine ⟨upd sizes (dn s + 1) (nI (nv s (310 + dn s) - 1)), c2, ?_, pk_us, ?_, ?_, ?_⟩
  · simp (disch := first | omega | (apply vp_in_nI <;> omega) | (simp (disch := omega) only [z_0, z_1, z_2, z_3, z_4, z_5, z_6, z_7, z_8, z_9, z_10, z_11, z_12, z_13, z_16, z_20, z_21, z_24, z_30, z_31, z_32, z_33, z_37, z_38, z_39, z_40, z_41, z_42, z_43, z_44, z_45, z_46, z_47, z_48, z_49, z_50, z_51, z_52, z_53, z_54, z_55, z_56, z_57, z_58, z_59, z_60, z_61, z_62, z_63, z_70, z_80, z_81, z_97, z_98, z_99, z_100, z_101, z_107, z_108, z_109, z_111, z_114, z_117, z_119, z_124, z_125, z_255, z_310, z_380, z_480, z_999, z_1440, z_1600, z_2820, z_2890, z_3890, z_3950, z_3974, z_9999, z_12345, z_29999, pk_mul, nI_add, pk_sub, sub_one]; apply vp_in_nI <;> omega)) only [↓q_ldP, ↓q_stP, ↓q_ltP, ↓q_dvI, nI_clamp, z_0, z_1, z_2, z_3, z_4, z_5, z_6, z_7, z_8, z_9, z_10, z_11, z_12, z_13, z_16, z_20, z_21, z_24, z_30, z_31, z_32, z_33, z_37, z_38, z_39, z_40, z_41, z_42, z_43, z_44, z_45, z_46, z_47, z_48, z_49, z_50, z_51, z_52, z_53, z_54, z_55, z_56, z_57, z_58, z_59, z_60, z_61, z_62, z_63, z_70, z_80, z_81, z_97, z_98, z_99, z_100, z_101, z_107, z_108, z_109, z_111, z_114, z_117, z_119, z_124, z_125, z_255, z_310, z_380, z_480, z_999, z_1440, z_1600, z_2820, z_2890, z_3890, z_3950, z_3974, z_9999, z_12345, z_29999, pk_mul, nI_add, q_ldI, q_stI, nI_leI, nI_ltI, nI_eq, q_c_some, q_c1_some, q_c2_some, q_c3_some, q_c4_some, q_c5_some, q_c7_some, q_c8_some, q_c9_some, q_c10_some, q_c11_some, q_c12_some, q_ltP, q_bzN0, q_bzN1, q_dvI, b_eq0, b_eq1, n10, Nat.reduceEqDiff, Nat.reduceLeDiff, ↓reduceIte, if_true, if_false, f0_draftsTakingOut, ↓q_cpI, pk_sub, R.size (Nat.le_refl _), I.size (Nat.le_refl _)]
    rfl
  · intro u hu
    exact pk_un (by omega)
  · intro j hj
    rw [show c2 j = c1 j from pk_cpy_out (by omega)]
    exact pk_cpy_out (by omega)
  · intro i hi
    rw [ea]
    unfold tA
    by_cases q1 : i < p
    · rw [if_pos q1, if_pos q1, show c2 (dn s * 20 + 20 + i) = c1 (dn s * 20 + 20 + i) from pk_cpy_out (by omega), show c1 (dn s * 20 + 20 + i) = cells (dn s * 20 + i) from by
        rw [show c1 (dn s * 20 + 20 + i) = _ from pk_cpy_in (by omega) (by omega)]; congr 1; omega]
      exact ⟨(R.word (Nat.le_refl _) (by omega)).trans (I.word (Nat.le_refl _) (by omega)), (R.origin (Nat.le_refl _) (by omega)).trans (I.origin (Nat.le_refl _) (by omega))⟩
    · rw [if_neg q1, if_neg q1, show c2 (dn s * 20 + 20 + i) = cells (dn s * 20 + (i + 1)) from by
        rw [show c2 (dn s * 20 + 20 + i) = _ from pk_cpy_in (by omega) (by omega)]
        rw [show c1 (dn s * 20 + p + 1 + (dn s * 20 + 20 + i - (dn s * 20 + 20 + p))) = cells (dn s * 20 + p + 1 + (dn s * 20 + 20 + i - (dn s * 20 + 20 + p))) from pk_cpy_out (by omega)]
        congr 1; omega]
      exact ⟨(R.word (Nat.le_refl _) (by omega)).trans (I.word (Nat.le_refl _) (by omega)), (R.origin (Nat.le_refl _) (by omega)).trans (I.origin (Nat.le_refl _) (by omega))⟩
