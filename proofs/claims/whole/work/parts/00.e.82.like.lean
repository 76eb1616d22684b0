/-! ===== likeness ===== -/
def rw1 (eq : Nat → Bool) (p : Nat → Nat) : Nat → Nat
  | 0 => 0
  | j + 1 => if eq j = true then p j + 1 else max (p (j + 1)) (rw1 eq p j)
def lc (eq : Nat → Nat → Bool) : Nat → Nat → Nat
  | 0 => fun _ => 0
  | i + 1 => rw1 (eq i) (lc eq i)
theorem lc_0 (eq : Nat → Nat → Bool) : ∀ i, lc eq i 0 = 0
  | 0 => rfl
  | _ + 1 => rfl
theorem lc_s (eq : Nat → Nat → Bool) (i j : Nat) : lc eq (i + 1) (j + 1) = if eq i j = true then lc eq i j + 1 else max (lc eq i (j + 1)) (lc eq (i + 1) j) := rfl
theorem lc_sym (eq : Nat → Nat → Bool) : ∀ (m i j : Nat), i + j ≤ m → lc eq i j = lc (fun a b => eq b a) j i
  | 0, i, j, h => by
    have e1 : i = 0 := by omega
    have e2 : j = 0 := by omega
    subst e1; subst e2; rfl
  | m + 1, 0, j, h => by rw [lc_0]; rfl
  | m + 1, i + 1, 0, h => by rw [lc_0]; rfl
  | m + 1, i + 1, j + 1, h => by
    rw [lc_s, lc_s, lc_sym eq m i j (by omega), lc_sym eq m i (j + 1) (by omega), lc_sym eq m (i + 1) j (by omega), Nat.max_comm]
theorem lc_le (eq : Nat → Nat → Bool) : ∀ (m i j : Nat), i + j ≤ m → lc eq i j ≤ i
  | 0, i, j, h => by
    have e1 : i = 0 := by omega
    subst e1; exact Nat.le_refl 0
  | m + 1, 0, j, h => Nat.le_refl 0
  | m + 1, i + 1, 0, h => by rw [lc_0]; omega
  | m + 1, i + 1, j + 1, h => by
    rw [lc_s]
    have a := lc_le eq m i j (by omega)
    have b := lc_le eq m i (j + 1) (by omega)
    have c := lc_le eq m (i + 1) j (by omega)
    split <;> omega
/-- words of versions v, w that are the same -/
def eqw (s : Nat → Int32) (v w i j : Nat) : Bool := decide (s (380 + 20 * v + i) = s (380 + 20 * w + j))
def LK (s : Nat → Int32) (v w : Nat) : Nat := if nv s (310 + v) + nv s (310 + w) = 0 then 100 else 100 * lc (eqw s v w) (nv s (310 + v)) (nv s (310 + w)) / max (nv s (310 + v)) (nv s (310 + w))
theorem LK_sym (s : Nat → Int32) (v w : Nat) : LK s v w = LK s w v := by
  unfold LK
  rw [lc_sym (eqw s v w) _ _ _ (Nat.le_refl _), Nat.max_comm, Nat.add_comm]
  have : (fun a b => eqw s v w b a) = eqw s w v := by
    funext a b
    unfold eqw
    exact decide_eq_decide.mpr eq_comm
  rw [this]
theorem LK_le (s : Nat → Int32) (v w : Nat) : LK s v w ≤ 100 := by
  unfold LK
  split
  · exact Nat.le_refl _
  · have h := lc_le (eqw s v w) _ _ _ (Nat.le_refl (nv s (310 + v) + nv s (310 + w)))
    refine Nat.div_le_of_le_mul ?_
    have : lc (eqw s v w) (nv s (310 + v)) (nv s (310 + w)) ≤ max (nv s (310 + v)) (nv s (310 + w)) := by omega
    calc 100 * lc (eqw s v w) (nv s (310 + v)) (nv s (310 + w)) ≤ 100 * max (nv s (310 + v)) (nv s (310 + w)) := Nat.mul_le_mul_left _ this
      _ = max (nv s (310 + v)) (nv s (310 + w)) * 100 := Nat.mul_comm _ _
theorem r_likenessOf {s : Nat → Int32} (I : IV s) {n v w : Nat} (hn : 4100 ≤ n) (hv : v ≤ dn s) (hw : w ≤ dn s) (common : Nat → Int32) : ∃ c', f7_likenessOf n (nI v) (nI w) s common = some (nI (LK s v w), c') := by
  have hd := I.doneB
  have za := I.sizeB hv
  have zb := I.sizeB hw
  have lb : ∀ i j, i ≤ 20 → lc (eqw s v w) i j ≤ 20 := fun i j h => Nat.le_trans (lc_le _ _ _ _ (Nat.le_refl _)) h
  have inner : ∀ (i : Nat), i < nv s (310 + v) → ∀ (K : Int32 → Int32 → Int32 → Int32 → Int32 → (Nat → Int32) → Option (Int32 × (Nat → Int32))) (m j kk : Nat) (c : Nat → Int32), j + m = nv s (310 + w) + 1 → 1 ≤ j → m < kk → (∀ t, t < j → c t = nI (lc (eqw s v w) (i + 1) t)) → (∀ t, j ≤ t → t ≤ nv s (310 + w) → c t = nI (lc (eqw s v w) i t)) → ∃ c', f7_likenessOf_62 n s K kk (nI v) (nI w) (nI (nv s (310 + v))) (nI (nv s (310 + w))) (nI i) (nI (lc (eqw s v w) i (j - 1))) (nI j) c = K (nI v) (nI w) (nI (nv s (310 + v))) (nI (nv s (310 + w))) (nI (i + 1)) c' ∧ ∀ t, t ≤ nv s (310 + w) → c' t = nI (lc (eqw s v w) (i + 1) t) := by
    intro i hi K m
    induction m with
    | zero =>
      intro j kk c h1 h0 h2 h3 h4
      obtain ⟨kk, rfl⟩ : ∃ q, kk = q + 1 := ⟨kk - 1, by omega⟩
      refine ⟨c, ?_, fun t ht => h3 t (by omega)⟩
      rw [f7_likenessOf_62.eq_2, if_pos (nI_lt (by omega) (by omega)), q_ltP, nI_1]
    | succ m ih =>
      intro j kk c h1 h0 h2 h3 h4
      obtain ⟨kk, rfl⟩ : ∃ q, kk = q + 1 := ⟨kk - 1, by omega⟩
      obtain ⟨p, rfl⟩ : ∃ p, j = p + 1 := ⟨j - 1, by omega⟩
      have b1 := lb i (p + 1) (by omega)
      have b2 := lb (i + 1) p (by omega)
      have b3 := lb i p (by omega)
      obtain ⟨c', g1, g2⟩ := ih (p + 1 + 1) kk (upd c (p + 1) (nI (lc (eqw s v w) (i + 1) (p + 1)))) (by omega) (by omega) (by omega) (by
        intro t ht
        by_cases q : t = p + 1
        · rw [q, pk_us]
        · rw [pk_un q]; exact h3 t (by omega)) (by
        intro t t1 t2
        rw [pk_un (by omega)]; exact h4 t (by omega) t2)
      refine ⟨c', ?_, g2⟩
      rw [Nat.add_sub_cancel] at g1 ⊢
      have e106 : ∀ up, f7_likenessOf_106 n s K (f7_likenessOf_62 n s K kk) (nI v) (nI w) (nI (nv s (310 + v))) (nI (nv s (310 + w))) (nI i) (nI (lc (eqw s v w) i p)) (nI (p + 1)) (nI (lc (eqw s v w) i (p + 1))) (nI up) c = f7_likenessOf_62 n s K kk (nI v) (nI w) (nI (nv s (310 + v))) (nI (nv s (310 + w))) (nI i) (nI (lc (eqw s v w) i (p + 1))) (nI (p + 1 + 1)) (upd c (p + 1) (if eqw s v w i p = true then nI (lc (eqw s v w) i p + 1) else nI up)) := by
        intro up
        rw [f7_likenessOf_106, r_wordAt v i (by omega), q_c_some, nI_pred, r_wordAt w p (by omega), q_c_some]
        by_cases q : s (380 + 20 * v + i) = s (380 + 20 * w + p)
        · rw [if_pos q, f7_likenessOf_142, q_stI (by omega) (by omega), q_ltP, nI_1, nI_1, if_pos (show eqw s v w i p = true from decide_eq_true q)]
        · rw [if_neg q, f7_likenessOf_142, q_stI (by omega) (by omega), q_ltP, nI_1, if_neg (show ¬ eqw s v w i p = true from fun h => q (of_decide_eq_true h))]
      have ev : (if eqw s v w i p = true then nI (lc (eqw s v w) i p + 1) else nI (max (lc (eqw s v w) i (p + 1)) (lc (eqw s v w) (i + 1) p))) = nI (lc (eqw s v w) (i + 1) (p + 1)) := by
        rw [lc_s]
        split <;> rfl
      rw [f7_likenessOf_62.eq_2, if_neg (nI_nlt (by omega) (by omega)), q_ldI (by omega) (by omega), h4 (p + 1) (by omega) (by omega), nI_pred, q_ldI (by omega) (by omega), h3 p (by omega), q_ldI (by omega) (by omega), h3 p (by omega)]
      by_cases hle : lc (eqw s v w) (i + 1) p ≤ lc (eqw s v w) i (p + 1)
      · rw [if_pos (nI_le hle (by omega)), e106, ← g1, ← ev, show max (lc (eqw s v w) i (p + 1)) (lc (eqw s v w) (i + 1) p) = lc (eqw s v w) i (p + 1) by omega]
      · rw [if_neg (nI_ge (by omega) (by omega)), e106, ← g1, ← ev, show max (lc (eqw s v w) i (p + 1)) (lc (eqw s v w) (i + 1) p) = lc (eqw s v w) (i + 1) p by omega]
  have outer : 0 < nv s (310 + v) + nv s (310 + w) → ∀ (m i kk : Nat) (c : Nat → Int32), i + m = nv s (310 + v) → m < kk → (∀ t, t ≤ nv s (310 + w) → c t = nI (lc (eqw s v w) i t)) → ∃ c', f7_likenessOf_50 n s kk (nI v) (nI w) (nI (nv s (310 + v))) (nI (nv s (310 + w))) (nI i) c = some (nI (LK s v w), c') := by
    intro hpos m
    induction m with
    | zero =>
      intro i kk c h1 h2 h3
      obtain ⟨kk, rfl⟩ : ∃ q, kk = q + 1 := ⟨kk - 1, by omega⟩
      have ei : i = nv s (310 + v) := by omega
      subst ei
      have b := lb (nv s (310 + v)) (nv s (310 + w)) (by omega)
      have e100 : (100 : Int32) * nI (lc (eqw s v w) (nv s (310 + v)) (nv s (310 + w))) = nI (100 * lc (eqw s v w) (nv s (310 + v)) (nv s (310 + w))) := by rw [show (100 : Int32) = nI 100 from by decide, pk_mul]
      have lk : LK s v w = 100 * lc (eqw s v w) (nv s (310 + v)) (nv s (310 + w)) / max (nv s (310 + v)) (nv s (310 + w)) := by unfold LK; rw [if_neg (by omega)]
      refine ⟨c, ?_⟩
      rw [f7_likenessOf_50.eq_2, if_pos (Int32.le_refl _), q_ldI (by omega) (by omega), h3 _ (Nat.le_refl _), e100, lk]
      by_cases q : nv s (310 + v) ≤ nv s (310 + w)
      · rw [if_pos (nI_le q (by omega)), f7_likenessOf_181, q_dvI (by omega) (by omega), pk_div (by omega) (by omega) (by omega), show max (nv s (310 + v)) (nv s (310 + w)) = nv s (310 + w) by omega]
      · rw [if_neg (nI_ge (by omega) (by omega)), f7_likenessOf_181, q_dvI (by omega) (by omega), pk_div (by omega) (by omega) (by omega), show max (nv s (310 + v)) (nv s (310 + w)) = nv s (310 + v) by omega]
    | succ m ih =>
      intro i kk c h1 h2 h3
      obtain ⟨kk, rfl⟩ : ∃ q, kk = q + 1 := ⟨kk - 1, by omega⟩
      obtain ⟨c', g1, g2⟩ := inner i (by omega) (f7_likenessOf_50 n s kk) (nv s (310 + w)) 1 n c (by omega) (by omega) (by omega) (by
        intro t ht
        rw [show t = 0 by omega, h3 0 (by omega), lc_0, lc_0]) (fun t _ t2 => h3 t t2)
      obtain ⟨c2, k1⟩ := ih (i + 1) kk c' (by omega) (by omega) g2
      refine ⟨c2, ?_⟩
      rw [f7_likenessOf_50.eq_2, if_neg (nI_ge (by omega) (by omega)), ← k1, ← g1, show lc (eqw s v w) i (1 - 1) = 0 from lc_0 _ _]
      rfl
  have zero : ∀ (m j kk : Nat) (c : Nat → Int32), j + m = nv s (310 + w) + 1 → m < kk → (∀ t, t < j → c t = nI 0) → ∃ c', f7_likenessOf_26 n s kk (nI v) (nI w) (nI (nv s (310 + v))) (nI (nv s (310 + w))) (nI j) c = f7_likenessOf_50 n s n (nI v) (nI w) (nI (nv s (310 + v))) (nI (nv s (310 + w))) 0 c' ∧ ∀ t, t ≤ nv s (310 + w) → c' t = nI 0 := by
    intro m
    induction m with
    | zero =>
      intro j kk c h1 h2 h3
      obtain ⟨kk, rfl⟩ : ∃ q, kk = q + 1 := ⟨kk - 1, by omega⟩
      refine ⟨c, ?_, fun t ht => h3 t (by omega)⟩
      rw [f7_likenessOf_26.eq_2, if_pos (nI_lt (by omega) (by omega))]
    | succ m ih =>
      intro j kk c h1 h2 h3
      obtain ⟨kk, rfl⟩ : ∃ q, kk = q + 1 := ⟨kk - 1, by omega⟩
      rw [f7_likenessOf_26.eq_2, if_neg (nI_nlt (by omega) (by omega)), q_stI (by omega) (by omega), q_ltP, nI_1]
      exact ih (j + 1) kk (upd c j 0) (by omega) (by omega) (fun t ht => by
        by_cases q : t = j
        · rw [q, pk_us]; rfl
        · rw [pk_un q]; exact h3 t (by omega))
  rw [f7_likenessOf, r_sizeOf v (by omega), q_c_some, r_sizeOf w (by omega), q_c_some, I.size hv, I.size hw, nI_add]
  by_cases h0 : nv s (310 + v) + nv s (310 + w) = 0
  · rw [if_pos (show nI (nv s (310 + v) + nv s (310 + w)) = 0 by rw [h0]; rfl)]
    refine ⟨common, ?_⟩
    unfold LK
    rw [if_pos h0]
    rfl
  · rw [if_neg (nI_ne0 (by omega) (by omega))]
    obtain ⟨c', g1, g2⟩ := zero (nv s (310 + w) + 1) 0 n common (by omega) (by omega) (fun t ht => absurd ht (Nat.not_lt_zero t))
    obtain ⟨c2, k1⟩ := outer (by omega) (nv s (310 + v)) 0 n c' (by omega) (by omega) g2
    exact ⟨c2, (show f7_likenessOf_26 n s n (nI v) (nI w) (nI (nv s (310 + v))) (nI (nv s (310 + w))) 0 common = _ from g1).trans k1⟩
