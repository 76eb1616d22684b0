/-! ===== writerIs ===== -/
theorem SM_add (g : Nat → Int32) : ∀ (m1 j m2 : Nat), SM g j (m1 + m2) = SM g j m1 + SM g (j + m1) m2
  | 0, j, m2 => by
    rw [Nat.zero_add, Nat.add_zero]
    show SM g j m2 = 0 + SM g j m2
    rw [Int32.zero_add]
  | m1 + 1, j, m2 => by
    rw [show m1 + 1 + m2 = (m1 + m2) + 1 by omega]
    show g j + SM g (j + 1) (m1 + m2) = g j + SM g (j + 1) m1 + SM g (j + (m1 + 1)) m2
    rw [SM_add g m1 (j + 1) m2, Int32.add_assoc, show j + 1 + m1 = j + (m1 + 1) by omega]
theorem SM_zero {g : Nat → Int32} : ∀ (m j : Nat), (∀ i, j ≤ i → i < j + m → g i = 0) → SM g j m = 0
  | 0, _, _ => rfl
  | m + 1, j, h => by
    show g j + SM g (j + 1) m = 0
    rw [h j (Nat.le_refl _) (by omega), SM_zero m (j + 1) (fun i a b => h i (by omega) (by omega)), Int32.add_zero]
theorem SM_plus (f g : Nat → Int32) : ∀ (m j : Nat), SM (fun i => f i + g i) j m = SM f j m + SM g j m
  | 0, _ => by show (0 : Int32) = 0 + 0; rw [Int32.add_zero]
  | m + 1, j => by
    show f j + g j + SM (fun i => f i + g i) (j + 1) m = (f j + SM f (j + 1) m) + (g j + SM g (j + 1) m)
    rw [SM_plus f g m (j + 1), Int32.add_assoc, Int32.add_assoc]
    congr 1
    rw [← Int32.add_assoc, ← Int32.add_assoc, Int32.add_comm (g j)]
theorem SM_swap (g : Nat → Nat → Int32) (b k : Nat) : ∀ (m j : Nat), SM (fun i => SM (g i) b k) j m = SM (fun v => SM (fun i => g i v) j m) b k
  | 0, j => by
    show (0 : Int32) = SM (fun v => SM (fun i => g i v) j 0) b k
    exact (SM_zero (g := fun v => SM (fun i => g i v) j 0) k b (fun _ _ _ => rfl)).symm
  | m + 1, j => by
    show SM (g j) b k + SM (fun i => SM (g i) b k) (j + 1) m = SM (fun v => g j v + SM (fun i => g i v) (j + 1) m) b k
    rw [SM_swap g b k m (j + 1), ← SM_plus]
theorem SM_mulr (g : Nat → Int32) (x : Int32) : ∀ (m j : Nat), SM (fun i => g i * x) j m = SM g j m * x
  | 0, _ => by show (0 : Int32) = 0 * x; rw [Int32.zero_mul]
  | m + 1, j => by
    show g j * x + SM (fun i => g i * x) (j + 1) m = (g j + SM g (j + 1) m) * x
    rw [SM_mulr g x m (j + 1), Int32.add_mul]
theorem SM_one (c : Nat → Int32) {o : Nat} (ho : o < 100) : ∀ (m j : Nat), j ≤ o → o < j + m → j + m ≤ 100 → SM (fun a => if nI o = nI a then c a else 0) j m = c o
  | 0, j, h1, h2, h3 => absurd h2 (by omega)
  | m + 1, j, h1, h2, h3 => by
    show (if nI o = nI j then c j else 0) + SM (fun a => if nI o = nI a then c a else 0) (j + 1) m = c o
    by_cases q : o = j
    · subst q
      rw [if_pos rfl, SM_zero m (o + 1) (fun i a b => if_neg (fun h => absurd ((nI_eq (by omega) (by omega)).mp h) (by omega))), Int32.add_zero]
    · rw [if_neg (fun h => q ((nI_eq (by omega) (by omega)).mp h)), SM_one c ho m (j + 1) (by omega) (by omega) (by omega), Int32.zero_add]
/-- what all acts of a writer stay, summed by acts or by versions -/
theorem stays_eq {s : Nat → Int32} (I : IV s) (w : Int32) : SM (fun a => if s (10 + 5 * a + 1) = w then cStay s (nI a) (a + 1) (dn s - a) else nI 0) 0 (dn s) = SM (fun v => cWBy s w v * nI (wi s v 0 (nv s 0))) 1 (dn s) := by
  have hd := I.doneB
  have e1 : ∀ a, a < dn s → cStay s (nI a) (a + 1) (dn s - a) = SM (fun v => cWOf s (nI a) v * nI (wi s v 0 (nv s 0))) 1 (dn s) := by
    intro a ha
    have h := SM_add (fun v => cWOf s (nI a) v * nI (wi s v 0 (nv s 0))) a 1 (dn s - a)
    rw [show a + (dn s - a) = dn s by omega, SM_zero a 1 ?_, Int32.zero_add, show 1 + a = a + 1 by omega] at h
    · exact h.symm
    · intro v v1 v2
      have hz : cWOf s (nI a) v = 0 := by
        unfold cWOf
        refine SM_zero _ _ (fun i _ hi => ?_)
        rw [Nat.zero_add] at hi
        have o1 := I.originB (v := v) (i := i) (by omega) hi
        rw [I.origin (v := v) (i := i) (by omega) hi, if_neg (fun q => absurd ((nI_eq (by omega) (by omega)).mp q) (by omega))]
        rfl
      rw [hz, Int32.zero_mul]
  rw [SM_congr (g := fun a => SM (fun v => if s (10 + 5 * a + 1) = w then cWOf s (nI a) v * nI (wi s v 0 (nv s 0)) else 0) 1 (dn s)) (dn s) 0 ?_]
  rotate_left
  · intro a _ ha
    rw [Nat.zero_add] at ha
    by_cases q : s (10 + 5 * a + 1) = w
    · simp only [q, if_true]; exact e1 a ha
    · simp only [q, if_false]; rw [SM_zero _ _ (fun _ _ _ => rfl)]; rfl
  rw [SM_swap]
  refine SM_congr _ _ (fun v v1 v2 => ?_)
  have hv : v ≤ dn s := by omega
  have e2 : (fun a => if s (10 + 5 * a + 1) = w then cWOf s (nI a) v * nI (wi s v 0 (nv s 0)) else 0) = (fun a => (if s (10 + 5 * a + 1) = w then cWOf s (nI a) v else 0) * nI (wi s v 0 (nv s 0))) := by
    funext a
    split
    · rfl
    · rw [Int32.zero_mul]
  rw [e2, SM_mulr]
  congr 1
  have e3 : (fun a => if s (10 + 5 * a + 1) = w then cWOf s (nI a) v else 0) = (fun a => SM (fun i => if s (1600 + 20 * v + i) = nI a then (if s (10 + 5 * a + 1) = w then nI 1 else nI 0) else 0) 0 (nv s (310 + v))) := by
    funext a
    by_cases q : s (10 + 5 * a + 1) = w
    · simp only [q, if_true]; rfl
    · simp only [q, if_false]
      rw [SM_zero _ _ (fun i _ _ => ?_)]
      split <;> rfl
  rw [e3, SM_swap]
  unfold cWBy
  refine SM_congr _ _ (fun i i1 i2 => ?_)
  rw [Nat.zero_add] at i2
  have o1 := I.originB hv i2
  rw [I.origin hv i2]
  exact SM_one (fun a => if s (10 + 5 * a + 1) = w then nI 1 else nI 0) (by omega) (dn s) 0 (by omega) (by omega) (by omega)
theorem k_staysBy {s kinds writers minutes matters undoers scores sizes cells : Nat → Int32} (I : IV s) (R : RA s kinds writers minutes matters undoers scores sizes cells) {n : Nat} (hn : 4100 ≤ n) (w : Int32) : f0_staysBy n w (nI (nv s 0)) (nI (dn s)) writers minutes sizes cells = some (SM (fun v => cWBy s w v * nI (wi s v 0 (nv s 0))) 1 (dn s)) := by
  have hd := I.doneB
  unfold f0_staysBy
  have := loop_sum (fun k b i => f0_staysBy_5 n (nI (dn s)) writers minutes sizes cells k w (nI (nv s 0)) b i) some (fun v => cWBy s w v * nI (wi s v 0 (nv s 0))) (dn s + 1) ?_ ?_ (dn s) 1 n (nI 0) (by omega) (by omega)
  · rw [show f0_staysBy_5 n (nI (dn s)) writers minutes sizes cells n w (nI (nv s 0)) 0 1 = _ from this, nI_0, Int32.zero_add]
  · intro k b
    have e : dn s < dn s + 1 := by omega
    simp (disch := omega) only [z_0, z_1, z_2, z_3, z_4, z_5, z_6, z_7, z_8, z_9, z_10, z_11, z_12, z_13, z_16, z_20, z_21, z_24, z_30, z_31, z_32, z_33, z_37, z_38, z_39, z_40, z_41, z_42, z_43, z_44, z_45, z_46, z_47, z_48, z_49, z_50, z_51, z_52, z_53, z_54, z_55, z_56, z_57, z_58, z_59, z_60, z_61, z_62, z_63, z_70, z_80, z_81, z_97, z_98, z_99, z_100, z_101, z_107, z_108, z_109, z_111, z_114, z_117, z_119, z_124, z_125, z_255, z_310, z_380, z_480, z_999, z_1440, z_1600, z_2820, z_2890, z_3890, z_3950, z_3974, z_9999, z_12345, z_29999, pk_mul, nI_add, q_ldI, q_stI, nI_leI, nI_ltI, nI_eq, q_c_some, q_c1_some, q_c2_some, q_c3_some, q_c4_some, q_c5_some, q_c7_some, q_c8_some, q_c9_some, q_c10_some, q_c11_some, q_c12_some, q_ltP, q_bzN0, q_bzN1, q_dvI, b_eq0, b_eq1, n10, Nat.reduceEqDiff, Nat.reduceLeDiff, ↓reduceIte, if_true, if_false, f0_staysBy_5, e]
  · intro k b v hv
    have e : ¬ dn s < v := by omega
    simp (disch := omega) only [z_0, z_1, z_2, z_3, z_4, z_5, z_6, z_7, z_8, z_9, z_10, z_11, z_12, z_13, z_16, z_20, z_21, z_24, z_30, z_31, z_32, z_33, z_37, z_38, z_39, z_40, z_41, z_42, z_43, z_44, z_45, z_46, z_47, z_48, z_49, z_50, z_51, z_52, z_53, z_54, z_55, z_56, z_57, z_58, z_59, z_60, z_61, z_62, z_63, z_70, z_80, z_81, z_97, z_98, z_99, z_100, z_101, z_107, z_108, z_109, z_111, z_114, z_117, z_119, z_124, z_125, z_255, z_310, z_380, z_480, z_999, z_1440, z_1600, z_2820, z_2890, z_3890, z_3950, z_3974, z_9999, z_12345, z_29999, pk_mul, nI_add, q_ldI, q_stI, nI_leI, nI_ltI, nI_eq, q_c_some, q_c1_some, q_c2_some, q_c3_some, q_c4_some, q_c5_some, q_c7_some, q_c8_some, q_c9_some, q_c10_some, q_c11_some, q_c12_some, q_ltP, q_bzN0, q_bzN1, q_dvI, b_eq0, b_eq1, n10, Nat.reduceEqDiff, Nat.reduceLeDiff, ↓reduceIte, if_true, if_false, f0_staysBy_5, e, k_wordsBy I R hn (v := v) (by omega), k_minutesThere I R (v := v) (by omega) (Nat.le_refl _) (Nat.zero_le _)]
/-- from which minute on a writer is off -/
def oc (s : Nat → Int32) (w : Int32) (j : Nat) : Int32 := if s (10 + 5 * j + 1) = w then 0 else SM (fun i => if UN s (dn s) i = nI j ∧ s (10 + 5 * i + 1) = w then nI 1 else nI 0) 0 j
def off (s : Nat → Int32) (w : Int32) : Nat → Nat → Int32 → Int32
  | _, 0, _ => -1
  | j, m + 1, c => if c + oc s w j < 3 then off s w (j + 1) m (c + oc s w j) else s (10 + 5 * j + 2)
theorem r_off {s : Nat → Int32} (I : IV s) {n : Nat} {ub : Nat → Int32} (hg : ∀ i, i < dn s → ub i = UN s (dn s) i) (hn : 4100 ≤ n) (w : Int32) : f7_offSince n w s ub = some (off s w 0 (dn s) 0) := by
  have hd := I.doneB
  have inner : ∀ (j : Nat), j < dn s → ∀ (K : Int32 → Int32 → Int32 → Option Int32) (c : Int32), f7_offSince_17 n s ub K n w c (nI j) (nI 0) = if c + oc s w j < 3 then K w (c + oc s w j) (nI (j + 1)) else some (s (10 + 5 * j + 2)) := by
    intro j hj K c
    have a1 : f7_actIs1 (nI j) 1 s = some (s (10 + 5 * j + 1)) := r_actIs1 j 1 (by omega)
    have a2 : f7_actIs1 (nI j) 2 s = some (s (10 + 5 * j + 2)) := r_actIs1 j 2 (by omega)
    have fin : ∀ (kk : Int32 → Int32 → Int32 → Int32 → Option Int32) (c : Int32), f7_offSince_69 n s ub K kk w c (nI j) = if c < 3 then K w c (nI (j + 1)) else some (s (10 + 5 * j + 2)) := by
      intro kk c
      rw [f7_offSince_69, a2, q_c_some, q_ltP, nI_1]
    by_cases q : s (10 + 5 * j + 1) = w
    · obtain ⟨n1, en⟩ : ∃ q, n = q + 1 := ⟨n - 1, by omega⟩
      conv => lhs; arg 5; rw [en]
      rw [f7_offSince_17.eq_2, a1, q_c_some, if_pos q, fin, ite_self]
      unfold oc
      rw [if_pos q, Int32.add_zero]
    · have := loop_sum (fun k c i => f7_offSince_17 n s ub K k w c (nI j) i) (fun c => if c < 3 then K w c (nI (j + 1)) else some (s (10 + 5 * j + 2))) (fun i => if UN s (dn s) i = nI j ∧ s (10 + 5 * i + 1) = w then nI 1 else nI 0) j ?_ ?_ j 0 n c (by omega) (by omega)
      · unfold oc
        rw [if_neg q]
        exact this
      · intro k c
        rw [f7_offSince_17.eq_2, if_pos (Int32.le_refl _), fin]
      · intro k c i hi
        rw [f7_offSince_17.eq_2, if_neg (nI_ge hi (by omega)), a1, q_c_some, if_neg q, q_ldI (by omega) (by omega), hg i (by omega)]
        by_cases q1 : UN s (dn s) i = nI j
        · rw [if_pos q1, show f7_actIs1 (nI i) 1 s = _ from r_actIs1 i 1 (by omega), q_c_some]
          by_cases q2 : s (10 + 5 * i + 1) = w
          · rw [if_pos q2, f7_offSince_61, q_ltP, q_ltP, nI_1, if_pos ⟨q1, q2⟩]
            rfl
          · rw [if_neg q2, f7_offSince_60, f7_offSince_61, q_ltP, q_ltP, nI_1, if_neg (fun h => q2 h.2)]
            rfl
        · rw [if_neg q1, f7_offSince_60, f7_offSince_61, q_ltP, q_ltP, nI_1, if_neg (fun h => q1 h.1)]
          rfl
  have outer : ∀ (m j kk : Nat) (c : Int32), j + m = dn s → m < kk → f7_offSince_4 n s ub kk w c (nI j) = some (off s w j m c) := by
    intro m
    induction m with
    | zero =>
      intro j kk c h1 h2
      obtain ⟨kk, rfl⟩ : ∃ q, kk = q + 1 := ⟨kk - 1, by omega⟩
      rw [f7_offSince_4.eq_2, q_ldE 1 z_1 (by omega) (by omega), I.done, if_pos (nI_le (by omega) (by omega))]
      rfl
    | succ m ih =>
      intro j kk c h1 h2
      obtain ⟨kk, rfl⟩ : ∃ q, kk = q + 1 := ⟨kk - 1, by omega⟩
      rw [f7_offSince_4.eq_2, q_ldE 1 z_1 (by omega) (by omega), I.done, if_neg (nI_ge (by omega) (by omega)), show f7_offSince_17 n s ub (f7_offSince_4 n s ub kk) n w c (nI j) 0 = _ from inner j (by omega) _ c, off]
      split
      · exact ih (j + 1) kk _ (by omega) (by omega)
      · rfl
  exact outer (dn s) 0 n 0 (by omega) (by omega)
theorem k_off {s kinds writers minutes matters undoers scores sizes cells : Nat → Int32} (I : IV s) (R : RA s kinds writers minutes matters undoers scores sizes cells) {n : Nat} (hn : 4100 ≤ n) (w : Int32) : f0_offFrom n w (nI (dn s)) writers minutes undoers = some (off s w 0 (dn s) 0) := by
  have hd := I.doneB
  have inner : ∀ (j : Nat), j < dn s → ∀ (K : Int32 → Int32 → Int32 → Option Int32) (c : Int32), f0_offFrom_15 n (nI (dn s)) writers minutes undoers K n w c (nI j) (nI 0) = if c + oc s w j < 3 then K w (c + oc s w j) (nI (j + 1)) else some (s (10 + 5 * j + 2)) := by
    intro j hj K c
    have fin : ∀ (kk : Int32 → Int32 → Int32 → Int32 → Option Int32) (c : Int32), f0_offFrom_62 n (nI (dn s)) writers minutes undoers K kk w c (nI j) = if c < 3 then K w c (nI (j + 1)) else some (s (10 + 5 * j + 2)) := by
      intro kk c
      rw [f0_offFrom_62, q_ldI (by omega) (by omega), R.minute hj, q_ltP, nI_1]
    by_cases q : s (10 + 5 * j + 1) = w
    · obtain ⟨n1, en⟩ : ∃ q, n = q + 1 := ⟨n - 1, by omega⟩
      conv => lhs; arg 7; rw [en]
      rw [f0_offFrom_15.eq_2, q_ldI (by omega) (by omega), R.writer hj, if_pos q, fin, ite_self]
      unfold oc
      rw [if_pos q, Int32.add_zero]
    · have := loop_sum (fun k c i => f0_offFrom_15 n (nI (dn s)) writers minutes undoers K k w c (nI j) i) (fun c => if c < 3 then K w c (nI (j + 1)) else some (s (10 + 5 * j + 2))) (fun i => if UN s (dn s) i = nI j ∧ s (10 + 5 * i + 1) = w then nI 1 else nI 0) j ?_ ?_ j 0 n c (by omega) (by omega)
      · unfold oc
        rw [if_neg q]
        exact this
      · intro k c
        rw [f0_offFrom_15.eq_2, if_pos (Int32.le_refl _), fin]
      · intro k c i hi
        rw [f0_offFrom_15.eq_2, if_neg (nI_ge hi (by omega)), q_ldI (by omega) (by omega), R.writer hj, if_neg q, q_ldI (by omega) (by omega), R.writer (i := i) (by omega)]
        by_cases q2 : s (10 + 5 * i + 1) = w
        · rw [if_pos q2, q_ldI (by omega) (by omega), R.undoer (i := i) (by omega)]
          by_cases q1 : UN s (dn s) i = nI j
          · rw [if_pos q1, q_ltP, f0_offFrom_56, q_ltP, nI_1, if_pos ⟨q1, q2⟩]
            rfl
          · rw [if_neg q1, f0_offFrom_56, q_ltP, nI_1, if_neg (fun h => q1 h.1), add_n0]
        · rw [if_neg q2, f0_offFrom_56, q_ltP, nI_1, if_neg (fun h => q2 h.2), add_n0]
  have outer : ∀ (m j kk : Nat) (c : Int32), j + m = dn s → m < kk → f0_offFrom_4 n (nI (dn s)) writers minutes undoers kk w c (nI j) = some (off s w j m c) := by
    intro m
    induction m with
    | zero =>
      intro j kk c h1 h2
      obtain ⟨kk, rfl⟩ : ∃ q, kk = q + 1 := ⟨kk - 1, by omega⟩
      rw [f0_offFrom_4.eq_2, if_pos (nI_le (by omega) (by omega))]
      rfl
    | succ m ih =>
      intro j kk c h1 h2
      obtain ⟨kk, rfl⟩ : ∃ q, kk = q + 1 := ⟨kk - 1, by omega⟩
      rw [f0_offFrom_4.eq_2, if_neg (nI_ge (by omega) (by omega)), show f0_offFrom_15 n (nI (dn s)) writers minutes undoers (f0_offFrom_4 n (nI (dn s)) writers minutes undoers kk) n w c (nI j) 0 = _ from inner j (by omega) _ c, off]
      split
      · exact ih (j + 1) kk _ (by omega) (by omega)
      · rfl
  exact outer (dn s) 0 n 0 (by omega) (by omega)
theorem p_writerIs {s kinds writers minutes matters undoers scores sizes cells : Nat → Int32} (I : IV s) (R : RA s kinds writers minutes matters undoers scores sizes cells) {n : Nat} {E ub : Nat → Int32} (hn : 4100 ≤ n) (x y : Int32) : ∃ a E' ub', f7_writerIs n x y s E ub = some (a, E', ub') ∧ f6_writerIs n x y (s 0) (nI (dn s)) E kinds writers minutes undoers sizes cells = some (a, E') := by
  have hd := I.doneB
  unfold f7_writerIs f6_writerIs
  rcases wri_cases x with ⟨w, hw, rfl, h1, h2⟩ | ⟨h1, h2⟩
  rotate_left
  · rw [h1, h2, q_c_some, q_c_some, if_pos i0, if_pos i0, f7_writerIs_16, (r_err E).1, (k_err E).1, q_c2_er, q_c2_er]
    exact ⟨_, _, _, rfl, rfl⟩
  rw [h1, h2, q_c_some, q_c_some, if_neg i1, if_neg i1]
  rcases in_cases y 4 (by omega) with ⟨c, hc, rfl⟩ | h
  rotate_left
  · have ne : ∀ j : Nat, j ≤ 4 → ¬ y = nI j := by
      intro j hj q
      rw [q] at h
      rcases h with h | h
      · exact absurd h (nI_nlt (by omega) (by omega))
      · exact absurd h (nI_nlt (by omega) (by omega))
    rw [show f7_in y 0 4 = _ from r_inF h, q_c_some, if_pos i0, if_neg (show ¬ y = 0 from ne 0 (by omega)), if_neg (show ¬ y = 1 from ne 1 (by omega)), if_neg (show ¬ y = 2 from ne 2 (by omega)), if_neg (show ¬ y = 3 from ne 3 (by omega)), if_neg (show ¬ y = 4 from ne 4 (by omega)), f7_writerIs_16, (r_err E).1, (k_err E).1, q_c2_er, q_c2_er]
    exact ⟨_, _, _, rfl, rfl⟩
  obtain ⟨g, g1, g2⟩ := r_undone I hn ub
  rw [show f7_in (nI c) 0 4 = _ from r_inT 0 4 c (Nat.zero_le _) hc (by omega), q_c_some, if_neg i1, g1, q_c1_some]
  obtain rfl | rfl | rfl | rfl | rfl : c = 0 ∨ c = 1 ∨ c = 2 ∨ c = 3 ∨ c = 4 := by omega
  · rw [if_neg (show ¬ nI 0 = 4 by decide), if_pos (show nI 0 = 0 from rfl), f7_writerIs_60, if_pos (show nI 0 = 0 from rfl), r_wordsOf I hn, q_c_some, f7_writerIs_77, if_pos (show nI 0 = 0 from rfl), k_wordsBy I R hn (Nat.le_refl _), q_c_some]
    exact ⟨_, _, _, rfl, rfl⟩
  · have l := loop_sum0 (fun k a i => f7_writerIs_83 n s k (nI w) (nI 1) a i E g) (fun a => some (a, E, g)) (fun a => if s (10 + 5 * a + 1) = nI w then cStay s (nI a) (a + 1) (dn s - a) else nI 0) (dn s) n (by omega) (by
      intro k a
      show f7_writerIs_83 n s (k + 1) (nI w) (nI 1) a (nI (dn s)) E g = _
      rw [f7_writerIs_83.eq_2, q_ldE 1 z_1 (by omega) (by omega), I.done, if_pos (Int32.le_refl _)]) (by
      intro k a j hj
      show f7_writerIs_83 n s (k + 1) (nI w) (nI 1) a (nI j) E g = _
      rw [f7_writerIs_83.eq_2, q_ldE 1 z_1 (by omega) (by omega), I.done, if_neg (nI_ge hj (by omega)), show f7_actIs1 (nI j) 1 s = _ from r_actIs1 j 1 (by omega), q_c_some]
      by_cases q : s (10 + 5 * j + 1) = nI w
      · rw [if_pos q, f7_writerIs_110, if_neg (show ¬ (1 : Int32) = 0 by decide), if_pos (show nI 1 = 1 from rfl), r_staysOf I hn hj, q_c_some, f7_writerIs_151, q_ltP, q_ltP, nI_1, if_pos q]
      · rw [if_neg q, f7_writerIs_110, if_pos rfl, f7_writerIs_151, q_ltP, q_ltP, nI_1, if_neg q]
        rfl)
    rw [if_neg (show ¬ nI 1 = 4 by decide), if_neg (show ¬ nI 1 = 0 by decide), if_neg (show ¬ nI 1 = 3 by decide), l, if_neg (show ¬ nI 1 = 0 by decide), if_pos (show nI 1 = 1 from rfl), I.now, k_staysBy I R hn, q_c_some, stays_eq I]
    exact ⟨_, _, _, rfl, rfl⟩
  · have l := loop_sum0 (fun k a i => f7_writerIs_83 n s k (nI w) (nI 2) a i E g) (fun a => some (a, E, g)) (fun j => if s (10 + 5 * j + 1) = nI w ∧ ¬ UN s (dn s) j < nI 0 then nI 1 else nI 0) (dn s) n (by omega) (by
      intro k a
      show f7_writerIs_83 n s (k + 1) (nI w) (nI 2) a (nI (dn s)) E g = _
      rw [f7_writerIs_83.eq_2, q_ldE 1 z_1 (by omega) (by omega), I.done, if_pos (Int32.le_refl _)]) (by
      intro k a j hj
      show f7_writerIs_83 n s (k + 1) (nI w) (nI 2) a (nI j) E g = _
      rw [f7_writerIs_83.eq_2, q_ldE 1 z_1 (by omega) (by omega), I.done, if_neg (nI_ge hj (by omega)), show f7_actIs1 (nI j) 1 s = _ from r_actIs1 j 1 (by omega), q_c_some]
      by_cases q : s (10 + 5 * j + 1) = nI w
      · rw [if_pos q, f7_writerIs_110, if_neg (show ¬ (1 : Int32) = 0 by decide), if_neg (show ¬ nI 2 = 1 by decide), q_ldI (by omega) (by omega), g2 j hj]
        by_cases q2 : UN s (dn s) j < 0
        · rw [if_pos q2, f7_writerIs_151, q_ltP, q_ltP, nI_1, if_neg (fun h => h.2 q2)]
          rfl
        · rw [if_neg q2, f7_writerIs_151, q_ltP, q_ltP, nI_1, if_pos ⟨q, q2⟩]
          rfl
      · rw [if_neg q, f7_writerIs_110, if_pos rfl, f7_writerIs_151, q_ltP, q_ltP, nI_1, if_neg (fun h => q h.1)]
        rfl)
    rw [if_neg (show ¬ nI 2 = 4 by decide), if_neg (show ¬ nI 2 = 0 by decide), if_neg (show ¬ nI 2 = 3 by decide), l, if_neg (show ¬ nI 2 = 0 by decide), if_neg (show ¬ nI 2 = 1 by decide), if_pos (show nI 2 = 2 from rfl), k_undoneOf I R hn, q_c_some]
    exact ⟨_, _, _, rfl, rfl⟩
  · rw [if_neg (show ¬ nI 3 = 4 by decide), if_neg (show ¬ nI 3 = 0 by decide), if_pos (show nI 3 = 3 from rfl), f7_writerIs_60, if_neg (show ¬ nI 3 = 0 by decide), r_backsOf I hn, q_c_some, f7_writerIs_77, if_neg (show ¬ nI 3 = 0 by decide), if_neg (show ¬ nI 3 = 1 by decide), if_neg (show ¬ nI 3 = 2 by decide), if_pos (show nI 3 = 3 from rfl), k_backsBy I R hn, q_c_some]
    exact ⟨_, _, _, rfl, rfl⟩
  · rw [if_pos (show nI 4 = 4 from rfl), r_off I g2 hn, q_c_some, if_neg (show ¬ nI 4 = 0 by decide), if_neg (show ¬ nI 4 = 1 by decide), if_neg (show ¬ nI 4 = 2 by decide), if_neg (show ¬ nI 4 = 3 by decide), if_pos (show nI 4 = 4 from rfl), k_off I R hn, q_c_some]
    by_cases q : 0 ≤ off s (nI w) 0 (dn s) 0
    · rw [if_pos q, if_pos q]
      exact ⟨_, _, _, rfl, rfl⟩
    · rw [if_neg q, if_neg q, (r_err E).2.1, (k_err E).2.1, q_c2_er, q_c2_er]
      exact ⟨_, _, _, rfl, rfl⟩
