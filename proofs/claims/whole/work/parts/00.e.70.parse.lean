/-! ===== reading a text: both sides, step by step ===== -/
/-- running m steps from step k at depth e -/
def rn (W : Nat → Int32) : Nat → Nat → Nat → Option Nat
  | _, 0, e => some e
  | k, m + 1, e => if W k = nI 0 ∨ W k = nI 1 then rn W (k + 1) m (e + 1) else if W k = nI 2 then (if 1 ≤ e then rn W (k + 1) m e else none) else (if 2 ≤ e then rn W (k + 1) m (e - 1) else none)
theorem rn_add (W : Nat → Int32) : ∀ (m1 k m2 e : Nat), rn W k (m1 + m2) e = (rn W k m1 e).bind (rn W (k + m1) m2)
  | 0, k, m2, e => by rw [Nat.zero_add, Nat.add_zero]; rfl
  | m1 + 1, k, m2, e => by
    rw [show m1 + 1 + m2 = (m1 + m2) + 1 by omega, show k + (m1 + 1) = k + 1 + m1 by omega]
    unfold rn
    simp only [rn_add W m1 (k + 1) m2]
    (repeat' split) <;> rfl
theorem rn_congr {W V : Nat → Int32} : ∀ (m k e : Nat), (∀ j, k ≤ j → j < k + m → W j = V j) → rn W k m e = rn V k m e
  | 0, _, _, _ => rfl
  | m + 1, k, e, h => by
    unfold rn
    rw [h k (Nat.le_refl _) (by omega), rn_congr m (k + 1) (e + 1) (fun j h1 h2 => h j (by omega) (by omega)), rn_congr m (k + 1) e (fun j h1 h2 => h j (by omega) (by omega)), rn_congr m (k + 1) (e - 1) (fun j h1 h2 => h j (by omega) (by omega))]
/-- a whole piece: one value more -/
def SG (W : Nat → Int32) (c c' : Nat) : Prop := c ≤ c' ∧ ∀ e, rn W c (c' - c) e = some (e + 1)
theorem SG.congr {W V : Nat → Int32} {c c' : Nat} (h : SG W c c') (g : ∀ j, c ≤ j → j < c' → V j = W j) : SG V c c' := ⟨h.1, fun e => (rn_congr _ _ _ (fun j h1 h2 => g j h1 (by have := h.1; omega))).trans (h.2 e)⟩
theorem SG.val {W : Nat → Int32} {c : Nat} (h : W c = nI 0 ∨ W c = nI 1) : SG W c (c + 1) := ⟨by omega, fun e => by
  rw [show c + 1 - c = 0 + 1 by omega]
  unfold rn
  rw [if_pos h]
  rfl⟩
theorem SG.neg {W : Nat → Int32} {c c' : Nat} (h : SG W c c') (g : W c' = nI 2) : SG W c (c' + 1) := ⟨by have := h.1; omega, fun e => by
  have := h.1
  rw [show c' + 1 - c = (c' - c) + 1 by omega, rn_add, h.2 e, Option.bind_some, show c + (c' - c) = c' by omega]
  unfold rn
  rw [g, if_neg (by decide), if_pos rfl, if_pos (by omega)]
  rfl⟩
theorem SG.two {W : Nat → Int32} {c c1 c2 : Nat} (h : SG W c c1) (h' : SG W c1 c2) (g : W c2 = nI 3) : SG W c (c2 + 1) := ⟨by have := h.1; have := h'.1; omega, fun e => by
  have a1 := h.1
  have a2 := h'.1
  rw [show c2 + 1 - c = (c1 - c) + ((c2 - c1) + 1) by omega, rn_add, h.2 e, Option.bind_some, rn_add, show c + (c1 - c) = c1 by omega, h'.2 (e + 1), Option.bind_some, show c1 + (c2 - c1) = c2 by omega]
  unfold rn
  rw [g, if_neg (by decide), if_neg (by decide), if_pos (by omega)]
  rfl⟩
theorem rn_valid {W : Nat → Int32} : ∀ (m k r : Nat), rn W k m (dpt W k) = some r → ∀ j, k ≤ j → j < k + m → (W j = nI 2 → 1 ≤ dpt W j) ∧ (W j = nI 3 → 2 ≤ dpt W j)
  | 0, k, r, h, j, h1, h2 => absurd h2 (by omega)
  | m + 1, k, r, h, j, h1, h2 => by
    have ds := dpt_succ W k
    unfold rn at h
    by_cases q : W k = nI 0 ∨ W k = nI 1
    · rw [if_pos q] at h ds
      rw [← ds] at h
      by_cases e : j = k
      · subst e
        rcases q with q | q <;> (rw [q]; exact ⟨fun x => absurd x (by decide), fun x => absurd x (by decide)⟩)
      · exact rn_valid m (k + 1) r h j (by omega) (by omega)
    · rw [if_neg q] at h ds
      by_cases q2 : W k = nI 2
      · rw [if_pos q2] at h ds
        by_cases q3 : 1 ≤ dpt W k
        · rw [if_pos q3, ← ds] at h
          by_cases e : j = k
          · subst e
            exact ⟨fun _ => q3, fun x => absurd (q2.symm.trans x) (by decide)⟩
          · exact rn_valid m (k + 1) r h j (by omega) (by omega)
        · rw [if_neg q3] at h; cases h
      · rw [if_neg q2] at h ds
        by_cases q3 : 2 ≤ dpt W k
        · rw [if_pos q3, ← ds] at h
          by_cases e : j = k
          · subst e
            exact ⟨fun x => absurd x q2, fun _ => q3⟩
          · exact rn_valid m (k + 1) r h j (by omega) (by omega)
        · rw [if_neg q3] at h; cases h
/-- the byte at a place, or -1 -/
def sg (s : Nat → Int32) (a : Nat) : Int32 := if a < nv s 4 then s (3890 + a) else -1
/-- tapes of both sides -/
def TP (s tape : Nat → Int32) : Prop := isN s 4 60 ∧ (∀ i, i < nv s 4 → isN s (3890 + i) 255) ∧ (∀ i, i < nv s 4 → tape i = s (3890 + i))
theorem sg_cases {s tape : Nat → Int32} (T : TP s tape) (a : Nat) : (nv s 4 ≤ a ∧ sg s a = -1) ∨ (a < nv s 4 ∧ ∃ b, b ≤ 255 ∧ sg s a = nI b) := by
  unfold sg
  by_cases h : a < nv s 4
  · rw [if_pos h]
    exact Or.inr ⟨h, nv s (3890 + a), (T.2.1 a h).2, (T.2.1 a h).1⟩
  · rw [if_neg h]
    exact Or.inl ⟨by omega, rfl⟩
theorem r_look {s tape : Nat → Int32} (T : TP s tape) {a : Nat} (ha : a ≤ 60) : f7_look (nI a) s = some (sg s a) := by
  have hL := T.1.2
  unfold f7_look sg
  rw [q_ldE 4 z_4 (by omega) (by omega), T.1.1]
  by_cases h : a < nv s 4
  · rw [if_neg (nI_ge h (by omega)), if_pos h, show (3890 : Int32) + nI a = nI (3890 + a) from nI_add 3890 a, q_ldI (by omega) (by omega)]
    rfl
  · rw [if_pos (nI_le (by omega) (by omega)), if_neg h]
    rfl
theorem k_sign {s tape : Nat → Int32} (T : TP s tape) {a : Nat} (ha : a ≤ 60) : f2_sign (nI a) (nI (nv s 4)) tape = some (sg s a) := by
  have hL := T.1.2
  unfold f2_sign sg
  by_cases h : a < nv s 4
  · rw [if_neg (nI_ge h (by omega)), if_neg (show ¬ (60 : Int32) ≤ nI a from nI_ge (b := 60) (by omega) (by omega)), if_pos h, q_ldI (by omega) (by omega), T.2.2 a h]
    rfl
  · rw [if_pos (nI_le (by omega) (by omega)), if_neg h]
    rfl
/-- what both sides have laid so far -/
def PS (u : Nat) (step code : Nat → Int32) (c : Nat) : Prop := ∀ k, k < c → PR u (step (2 * k)) (step (2 * k + 1)) (code k)
def KP (step step' code code' : Nat → Int32) (c : Nat) : Prop := (∀ k, k < 2 * c → step' k = step k) ∧ ∀ k, k < c → code' k = code k
theorem KP.refl (step code : Nat → Int32) (c : Nat) : KP step step code code c := ⟨fun _ _ => rfl, fun _ _ => rfl⟩
theorem KP.trans {a b d x y z : Nat → Int32} {c c' : Nat} (h : KP a b x y c) (g : KP b d y z c') (hc : c ≤ c') : KP a d x z c := ⟨fun k hk => (g.1 k (by omega)).trans (h.1 k hk), fun k hk => (g.2 k (by omega)).trans (h.2 k hk)⟩
abbrev O7 : Type := Option (Int32 × Int32 × Int32 × Int32 × (Nat → Int32))
abbrev O2 : Type := Option (Int32 × Int32 × Int32 × (Nat → Int32))
/-- how a piece ends on both sides -/
def Out (L u o a c : Nat) (step code : Nat → Int32) (X : O7) (Y : O2) : Prop :=
  (∃ a' op st step' cd code', X = some (0, nI a', op, st, step') ∧ Y = some (0, nI a', cd, code') ∧ a' ≤ L) ∨ (∃ a' c' step' code', X = some (1, nI a', nI o, nI c', step') ∧ Y = some (1, nI a', nI c', code') ∧ a < a' ∧ a' ≤ L ∧ c < c' ∧ c' + a ≤ a' + c ∧ KP step step' code code' c ∧ PS u step' code' c' ∧ SG (fun k => step' (2 * k)) c c')
def Sim (L u o : Nat) (F7 : Int32 → Int32 → Int32 → (Nat → Int32) → O7) (F2 : Int32 → Int32 → (Nat → Int32) → O2) : Prop := ∀ (a c : Nat) (step code : Nat → Int32), c ≤ a → a ≤ L → PS u step code c → Out L u o a c step code (F7 (nI a) (nI o) (nI c) step) (F2 (nI a) (nI c) code)
/-- one more step laid -/
theorem lay_both {u c : Nat} {step code : Nat → Int32} {w v d : Int32} (hc : c < 60) (P : PS u step code c) (h : PR u w v d) : ∃ step' code', f7_lay w v (nI c) step = some (nI (c + 1), step') ∧ f2_adds d (nI c) code = some (nI (c + 1), code') ∧ KP step step' code code' c ∧ PS u step' code' (c + 1) ∧ step' (2 * c) = w := by
  have e60 : ¬ 60 ≤ c := by omega
  refine ⟨upd (upd step (2 * c) w) (2 * c + 1) v, upd code c d, ?_, ?_, ⟨fun k hk => ?_, fun k hk => pk_un (by omega)⟩, ?_, ?_⟩
  · simp (disch := omega) only [z_0, z_1, z_2, z_3, z_4, z_5, z_6, z_7, z_8, z_9, z_10, z_11, z_12, z_13, z_16, z_20, z_21, z_24, z_30, z_31, z_32, z_33, z_37, z_38, z_39, z_40, z_41, z_42, z_43, z_44, z_45, z_46, z_47, z_48, z_49, z_50, z_51, z_52, z_53, z_54, z_55, z_56, z_57, z_58, z_59, z_60, z_61, z_62, z_63, z_70, z_80, z_81, z_97, z_98, z_99, z_100, z_101, z_107, z_108, z_109, z_111, z_114, z_117, z_119, z_124, z_125, z_255, z_310, z_380, z_480, z_999, z_1440, z_1600, z_2820, z_2890, z_3890, z_3950, z_3974, z_9999, z_12345, z_29999, pk_mul, nI_add, q_ldI, q_stI, nI_leI, nI_ltI, nI_eq, q_c_some, q_c1_some, q_c2_some, q_c3_some, q_c4_some, q_c5_some, q_c7_some, q_c8_some, q_c9_some, q_c10_some, q_c11_some, q_c12_some, q_ltP, q_bzN0, q_bzN1, q_dvI, b_eq0, b_eq1, n10, Nat.reduceEqDiff, Nat.reduceLeDiff, ↓reduceIte, if_true, if_false, f7_lay]
  · simp (disch := omega) only [z_0, z_1, z_2, z_3, z_4, z_5, z_6, z_7, z_8, z_9, z_10, z_11, z_12, z_13, z_16, z_20, z_21, z_24, z_30, z_31, z_32, z_33, z_37, z_38, z_39, z_40, z_41, z_42, z_43, z_44, z_45, z_46, z_47, z_48, z_49, z_50, z_51, z_52, z_53, z_54, z_55, z_56, z_57, z_58, z_59, z_60, z_61, z_62, z_63, z_70, z_80, z_81, z_97, z_98, z_99, z_100, z_101, z_107, z_108, z_109, z_111, z_114, z_117, z_119, z_124, z_125, z_255, z_310, z_380, z_480, z_999, z_1440, z_1600, z_2820, z_2890, z_3890, z_3950, z_3974, z_9999, z_12345, z_29999, pk_mul, nI_add, q_ldI, q_stI, nI_leI, nI_ltI, nI_eq, q_c_some, q_c1_some, q_c2_some, q_c3_some, q_c4_some, q_c5_some, q_c7_some, q_c8_some, q_c9_some, q_c10_some, q_c11_some, q_c12_some, q_ltP, q_bzN0, q_bzN1, q_dvI, b_eq0, b_eq1, n10, Nat.reduceEqDiff, Nat.reduceLeDiff, ↓reduceIte, if_true, if_false, f2_adds, f2_adds_29, e60]
  · rw [pk_un (by omega), pk_un (by omega)]
  · intro k hk
    by_cases q : k = c
    · subst q
      rw [pk_un (by omega), pk_us, pk_us, pk_us]
      exact h
    · rw [pk_un (by omega), pk_un (by omega), pk_un (by omega), pk_un (by omega), pk_un q]
      exact P k (by omega)
  · rw [pk_un (by omega), pk_us]
/-- signs that join on a level -/
def JS : Nat → Int32 → Bool
  | 0, t => decide (t = 124)
  | 1, t => decide (t = 38)
  | 2, t => decide (t = 60 ∨ t = 61 ∨ t = 62)
  | 3, t => decide (t = 43 ∨ t = 45)
  | _, t => decide (t = 42 ∨ t = 47 ∨ t = 37)
theorem JS_OP {l : Nat} {t : Int32} (h : JS l t = true) : OP t := by
  unfold OP
  match l, h with
  | 0, h => simp only [JS, decide_eq_true_eq] at h; subst h; exact Or.inl rfl
  | 1, h => simp only [JS, decide_eq_true_eq] at h; subst h; exact Or.inr (Or.inl rfl)
  | 2, h =>
    simp only [JS, decide_eq_true_eq] at h
    rcases h with rfl | rfl | rfl
    · exact Or.inr (Or.inr (Or.inl rfl))
    · exact Or.inr (Or.inr (Or.inr (Or.inl rfl)))
    · exact Or.inr (Or.inr (Or.inr (Or.inr (Or.inl rfl))))
  | 3, h =>
    simp only [JS, decide_eq_true_eq] at h
    rcases h with rfl | rfl
    · exact Or.inr (Or.inr (Or.inr (Or.inr (Or.inr (Or.inl rfl)))))
    · exact Or.inr (Or.inr (Or.inr (Or.inr (Or.inr (Or.inr (Or.inl rfl))))))
  | n + 4, h =>
    simp only [JS, decide_eq_true_eq] at h
    rcases h with rfl | rfl | rfl
    · exact Or.inr (Or.inr (Or.inr (Or.inr (Or.inr (Or.inr (Or.inr (Or.inl rfl)))))))
    · exact Or.inr (Or.inr (Or.inr (Or.inr (Or.inr (Or.inr (Or.inr (Or.inr (Or.inl rfl))))))))
    · exact Or.inr (Or.inr (Or.inr (Or.inr (Or.inr (Or.inr (Or.inr (Or.inr (Or.inr rfl))))))))
theorem k_isJoining {s tape : Nat → Int32} (T : TP s tape) {a l : Nat} (ha : a ≤ 60) (hl : l ≤ 4) : f2_isJoining (nI l) (nI a) (nI (nv s 4)) tape = some (if JS l (sg s a) = true then nI 1 else nI 0) := by
  unfold f2_isJoining
  rw [k_sign T ha, q_c_some]
  generalize sg s a = t
  obtain rfl | rfl | rfl | rfl | rfl : l = 0 ∨ l = 1 ∨ l = 2 ∨ l = 3 ∨ l = 4 := by omega
  · rw [if_pos (show nI 0 = 0 from rfl)]
    by_cases h : t = 124 <;> simp only [JS, h, if_true, if_false, f2_isJoining_47, decide_true, decide_false] <;> rfl
  · rw [if_neg (show ¬ nI 1 = 0 by decide), if_pos (show nI 1 = 1 from rfl)]
    by_cases h : t = 38 <;> simp only [JS, h, if_true, if_false, f2_isJoining_59, decide_true, decide_false] <;> rfl
  · rw [if_neg (show ¬ nI 2 = 0 by decide), if_neg (show ¬ nI 2 = 1 by decide), if_pos (show nI 2 = 2 from rfl)]
    by_cases h1 : t = 60
    · simp only [JS, h1, if_true, f2_isJoining_78, f2_isJoining_83, true_or, decide_true]; rfl
    by_cases h2 : t = 61
    · simp only [JS, h2, if_true, if_false, f2_isJoining_78, f2_isJoining_83, true_or, or_true, decide_true]; rfl
    by_cases h3 : t = 62
    · simp only [JS, h3, if_true, if_false, f2_isJoining_78, f2_isJoining_83, or_true, decide_true]; rfl
    simp only [JS, h1, h2, h3, if_false, f2_isJoining_83, or_self, decide_false]; rfl
  · rw [if_neg (show ¬ nI 3 = 0 by decide), if_neg (show ¬ nI 3 = 1 by decide), if_neg (show ¬ nI 3 = 2 by decide), if_pos (show nI 3 = 3 from rfl)]
    by_cases h1 : t = 43
    · simp only [JS, h1, if_true, f2_isJoining_96, f2_isJoining_101, true_or, decide_true]; rfl
    by_cases h2 : t = 45
    · simp only [JS, h2, if_true, if_false, f2_isJoining_96, f2_isJoining_101, or_true, decide_true]; rfl
    simp only [JS, h1, h2, if_false, f2_isJoining_101, or_self, decide_false]; rfl
  · rw [if_neg (show ¬ nI 4 = 0 by decide), if_neg (show ¬ nI 4 = 1 by decide), if_neg (show ¬ nI 4 = 2 by decide), if_neg (show ¬ nI 4 = 3 by decide)]
    by_cases h1 : t = 42
    · simp only [JS, h1, if_true, f2_isJoining_120, f2_isJoining_125, true_or, decide_true]; rfl
    by_cases h2 : t = 47
    · simp only [JS, h2, if_true, if_false, f2_isJoining_120, f2_isJoining_125, true_or, or_true, decide_true]; rfl
    by_cases h3 : t = 37
    · simp only [JS, h3, if_true, if_false, f2_isJoining_120, f2_isJoining_125, or_true, decide_true]; rfl
    simp only [JS, h1, h2, h3, if_false, f2_isJoining_125, or_self, decide_false]; rfl
