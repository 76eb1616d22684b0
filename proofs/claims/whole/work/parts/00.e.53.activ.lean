/-! ===== what an act keeps ===== -/
theorem nv_congr {s s' : Nat → Int32} {k : Nat} (h : s' k = s k) : nv s' k = nv s k := by unfold nv; rw [h]
theorem isN_congr {s s' : Nat → Int32} {k b : Nat} (h : s' k = s k) (H : isN s k b) : isN s' k b := ⟨by rw [nv_congr h, h]; exact H.1, by rw [nv_congr h]; exact H.2⟩
theorem ACT.dn' {s s' : Nat → Int32} {k w of : Int32} {m : Nat} {nw no : Nat → Nat} (A : ACT s s' k w of m nw no) (hd : dn s < 60) : dn s' = dn s + 1 := nv_of A.1 (by omega)
theorem ACT.same {s s' : Nat → Int32} {k w of : Int32} {m : Nat} {nw no : Nat → Nat} (A : ACT s s' k w of m nw no) {j : Nat} (h1 : j ≠ 1) (h2 : j < 10 + 5 * dn s ∨ 10 + 5 * dn s + 5 ≤ j) (h3 : j ≠ 310 + (dn s + 1)) (h4 : j < 380 + 20 * (dn s + 1) ∨ 380 + 20 * (dn s + 1) + 20 ≤ j) (h5 : j < 1600 + 20 * (dn s + 1) ∨ 1600 + 20 * (dn s + 1) + 20 ≤ j) : s' j = s j := A.2.2.2.2.2.2.2.2 j h1 h2 h3 h4 h5
theorem act_IV {s s' : Nat → Int32} {k w m : Nat} {of : Int32} {nw no : Nat → Nat} (I : IV s) (A : ACT s s' (nI k) (nI w) of m nw no) (hd : dn s < 60) (hk : k ≤ 7) (hw : w ≤ 7) (hm : m ≤ 20) (hW : ∀ i, i < m → 1 ≤ nw i ∧ nw i ≤ 60 ∧ no i ≤ dn s) : IV s' := by
  have hdn := A.dn' hd
  have h0 : s' 0 = s 0 := A.same (by omega) (by omega) (by omega) (by omega) (by omega)
  have e0 := nv_congr h0
  have hnow := I.nowB
  obtain ⟨a1, a2, a3, a4, a5, a6, a7, a8, a9⟩ := A
  refine ⟨⟨?_, ?_, ?_, ?_, ?_⟩, ⟨?_, ?_, ?_, ?_⟩, ⟨?_, ?_, ?_⟩⟩
  · exact isN_congr h0 I.1.1
  · exact isN.mk (dn s + 1) a1 (by omega) (by omega)
  · exact isN_congr (a9 2 (by omega) (by omega) (by omega) (by omega) (by omega)) I.1.2.2.1
  · exact isN_congr (a9 4 (by omega) (by omega) (by omega) (by omega) (by omega)) I.1.2.2.2.1
  · exact isN_congr (a9 5 (by omega) (by omega) (by omega) (by omega) (by omega)) I.1.2.2.2.2
  · intro i hi
    rw [hdn] at hi
    rcases Nat.lt_or_ge i (dn s) with q | q
    · exact isN_congr (a9 _ (by omega) (by omega) (by omega) (by omega) (by omega)) (I.2.1.1 i q)
    · rw [show i = dn s by omega]; exact isN.mk k a2 hk (by omega)
  · intro i hi
    rw [hdn] at hi
    rcases Nat.lt_or_ge i (dn s) with q | q
    · exact isN_congr (a9 _ (by omega) (by omega) (by omega) (by omega) (by omega)) (I.2.1.2.1 i q)
    · rw [show i = dn s by omega]; exact isN.mk w a3 hw (by omega)
  · intro i hi
    rw [hdn] at hi
    rw [e0]
    rcases Nat.lt_or_ge i (dn s) with q | q
    · exact isN_congr (a9 _ (by omega) (by omega) (by omega) (by omega) (by omega)) (I.2.1.2.2.1 i q)
    · rw [show i = dn s by omega]; exact isN.mk (nv s 0) (a4.trans I.now) (Nat.le_refl _) (by omega)
  · intro i j hij hj
    rw [hdn] at hj
    rcases Nat.lt_or_ge j (dn s) with q | q
    · rw [nv_congr (a9 (10 + 5 * i + 2) (by omega) (by omega) (by omega) (by omega) (by omega)), nv_congr (a9 (10 + 5 * j + 2) (by omega) (by omega) (by omega) (by omega) (by omega))]
      exact I.mono hij q
    · have ej : j = dn s := by omega
      subst ej
      have e2 : nv s' (10 + 5 * dn s + 2) = nv s 0 := nv_of (a4.trans I.now) (by omega)
      rw [e2]
      rcases Nat.lt_or_ge i (dn s) with q2 | q2
      · rw [nv_congr (a9 (10 + 5 * i + 2) (by omega) (by omega) (by omega) (by omega) (by omega))]
        exact I.minuteB q2
      · rw [show i = dn s by omega, e2]
        exact Nat.le_refl _
  · intro v hv
    rw [hdn] at hv
    rcases Nat.lt_or_ge v (dn s + 1) with q | q
    · exact isN_congr (a9 _ (by omega) (by omega) (by omega) (by omega) (by omega)) (I.2.2.1 v (by omega))
    · rw [show v = dn s + 1 by omega]; exact isN.mk m a7 hm (by omega)
  · intro v i hv hi
    rw [hdn] at hv
    rcases Nat.lt_or_ge v (dn s + 1) with q | q
    · have ez := nv_congr (a9 (310 + v) (by omega) (by omega) (by omega) (by omega) (by omega))
      rw [ez] at hi
      have hz := I.sizeB (v := v) (by omega)
      have ew := a9 (380 + 20 * v + i) (by omega) (by omega) (by omega) (by omega) (by omega)
      rw [nv_congr ew]
      exact ⟨isN_congr ew (I.2.2.2.1 v i (by omega) hi).1, (I.2.2.2.1 v i (by omega) hi).2⟩
    · have ev : v = dn s + 1 := by omega
      subst ev
      rw [nv_of a7 (by omega)] at hi
      obtain ⟨w1, w2⟩ := a8 i hi
      obtain ⟨w3, w4, w5⟩ := hW i hi
      refine ⟨isN.mk (nw i) w1 w4 (by omega), ?_⟩
      rw [nv_of w1 (by omega)]
      exact w3
  · intro v i hv hi
    rw [hdn] at hv
    rcases Nat.lt_or_ge v (dn s + 1) with q | q
    · have ez := nv_congr (a9 (310 + v) (by omega) (by omega) (by omega) (by omega) (by omega))
      rw [ez] at hi
      have hz := I.sizeB (v := v) (by omega)
      have ew := a9 (1600 + 20 * v + i) (by omega) (by omega) (by omega) (by omega) (by omega)
      rw [nv_congr ew, ew]
      exact I.2.2.2.2 v i (by omega) hi
    · have ev : v = dn s + 1 := by omega
      subst ev
      rw [nv_of a7 (by omega)] at hi
      obtain ⟨w1, w2⟩ := a8 i hi
      obtain ⟨w3, w4, w5⟩ := hW i hi
      rw [nv_of w2 (by omega)]
      exact ⟨w2, by omega⟩
/-- alike: by the rows of two versions alone -/
theorem AL_congr {s s' : Nat → Int32} {v w : Nat} (h1 : s' (310 + v) = s (310 + v)) (h2 : s' (310 + w) = s (310 + w)) (h3 : ∀ i, i < nv s (310 + v) → s' (380 + 20 * v + i) = s (380 + 20 * v + i) ∧ s' (380 + 20 * w + i) = s (380 + 20 * w + i)) : ALb s' v w = ALb s v w := by
  have : AL s' v w ↔ AL s v w := by
    rw [AL_iff, AL_iff]
    unfold AL0
    rw [h1, h2]
    constructor
    · rintro ⟨a, b⟩
      refine ⟨a, fun i hi => ?_⟩
      have := b i hi
      rwa [(h3 i hi).1, (h3 i hi).2] at this
    · rintro ⟨a, b⟩
      refine ⟨a, fun i hi => ?_⟩
      rw [(h3 i hi).1, (h3 i hi).2]
      exact b i hi
  unfold AL at this
  cases h : ALb s v w <;> cases h' : ALb s' v w <;> simp_all
theorem fu_congr {s s' : Nat → Int32} {i : Nat} : ∀ (m j : Nat), (∀ w, j ≤ w → w < j + m → ALb s' i (w + 1) = ALb s i (w + 1)) → fu s' i j m = fu s i j m
  | 0, _, _ => rfl
  | m + 1, j, h => by
    unfold fu AL
    rw [h j (Nat.le_refl _) (by omega), fu_congr m (j + 1) (fun w h1 h2 => h w (by omega) (by omega))]
theorem UN_congr {s s' : Nat → Int32} {d i : Nat} (hi : i < d) (h : ∀ w, w ≤ d → ALb s' i w = ALb s i w) : UN s' d i = UN s d i := by
  unfold UN AL
  rw [h (i + 1) (by omega), fu_congr _ _ (fun w h1 h2 => h (w + 1) (by omega))]
theorem fu_range {s : Nat → Int32} {i : Nat} : ∀ (m j : Nat), j + m ≤ 60 → fu s i j m = -1 ∨ ∃ k, j ≤ k ∧ k < j + m ∧ fu s i j m = nI k
  | 0, _, _ => Or.inl rfl
  | m + 1, j, h => by
    unfold fu
    by_cases q : AL s i (j + 1)
    · rw [if_pos q]; exact Or.inr ⟨j, Nat.le_refl _, by omega, rfl⟩
    · rw [if_neg q]
      rcases fu_range m (j + 1) (by omega) with r | ⟨k, r1, r2, r3⟩
      · exact Or.inl r
      · exact Or.inr ⟨k, by omega, by omega, r3⟩
theorem UN_range {s : Nat → Int32} {d i : Nat} (hd : d ≤ 60) (hi : i < d) : UN s d i = -1 ∨ ∃ k, i < k ∧ k < d ∧ UN s d i = nI k := by
  unfold UN
  split
  · exact Or.inl rfl
  · rcases fu_range (s := s) (i := i) (d - (i + 1)) (i + 1) (by omega) with r | ⟨k, r1, r2, r3⟩
    · exact Or.inl r
    · exact Or.inr ⟨k, by omega, by omega, r3⟩
/-- one more act: found before, or found now -/
theorem fu_last {s : Nat → Int32} {i : Nat} : ∀ (m j : Nat), j + m < 60 → fu s i j (m + 1) = if 0 ≤ fu s i j m then fu s i j m else if AL s i (j + m + 1) then nI (j + m) else -1
  | 0, j, h => by
    show (if AL s i (j + 1) then nI j else -1) = if (0 : Int32) ≤ -1 then _ else if AL s i (j + 0 + 1) then nI (j + 0) else -1
    rw [if_neg (by decide : ¬ (0 : Int32) ≤ -1)]
    rfl
  | m + 1, j, h => by
    show (if AL s i (j + 1) then nI j else fu s i (j + 1) (m + 1)) = _
    rw [show fu s i j (m + 1) = (if AL s i (j + 1) then nI j else fu s i (j + 1) m) from rfl]
    by_cases q : AL s i (j + 1)
    · rw [if_pos q, if_pos q, if_pos (nI_pos' (by omega))]
    · rw [if_neg q, if_neg q, fu_last m (j + 1) (by omega), show j + 1 + m = j + (m + 1) by omega]
theorem UN_last {s : Nat → Int32} {d i : Nat} (hd : d < 60) (hi : i < d) : UN s (d + 1) i = if 0 ≤ UN s d i then UN s d i else if ¬ AL s i (i + 1) ∧ AL s i (d + 1) then nI d else -1 := by
  unfold UN
  by_cases q : AL s i (i + 1)
  · rw [if_pos q, if_pos q, if_neg (by decide : ¬ (0 : Int32) ≤ -1), if_neg (fun h => h.1 q)]
  · rw [if_neg q, if_neg q, show d + 1 - (i + 1) = (d - (i + 1)) + 1 by omega, fu_last _ _ (by omega), show i + 1 + (d - (i + 1)) = d by omega]
    simp only [q, not_false_eq_true, true_and]
theorem UN_new {s : Nat → Int32} {d : Nat} : UN s (d + 1) d = -1 := by
  unfold UN
  rw [Nat.sub_self]
  split <;> rfl
