/-! ===== the innermost piece ===== -/
theorem nuse_lt (u : Nat) : nuse u < 3 := by unfold nuse; (repeat' split) <;> omega
theorem isName_u (x : Int32) {u : Nat} (hu : u < 8) : f7_isName x (nI u) = f7_isName x (nI (nuse u)) := by
  unfold nuse
  by_cases h0 : u = 0
  · rw [if_pos h0, h0]
  by_cases h1 : u = 1
  · rw [if_neg h0, if_pos h1, h1]
  rw [if_neg h0, if_neg h1]
  unfold f7_isName
  rw [if_neg (show ¬ nI u = 0 from fun q => h0 ((nI_eq (a := u) (b := 0) (by omega) (by omega)).mp q)), if_neg (show ¬ nI u = 1 from fun q => h1 ((nI_eq (a := u) (b := 1) (by omega) (by omega)).mp q)), if_neg (show ¬ nI 2 = 0 by decide), if_neg (show ¬ nI 2 = 1 by decide)]
  rfl
theorem nm_all : ∀ (v : Fin 3) (b : Fin 256), (∃ i : Fin 5, b.val = nb v.val i.val ∧ f7_isName (nI b.val) (nI v.val) = some (nI 1) ∧ t_ix (t_byt.getD v.val []) 0 (((nI b.val).toUInt32 % 65536).toInt32) = nI i.val ∧ ¬ (48 ≤ b.val ∧ b.val ≤ 57)) ∨ (f7_isName (nI b.val) (nI v.val) = some (nI 0) ∧ t_ix (t_byt.getD v.val []) 0 (((nI b.val).toUInt32 % 65536).toInt32) = -1) := by decide +kernel
theorem nm_byte {u b : Nat} (hu : u < 8) (hb : b ≤ 255) : (∃ i, i < 5 ∧ b = nb (nuse u) i ∧ f7_isName (nI b) (nI u) = some (nI 1) ∧ t_ix (t_byt.getD (nuse u) []) 0 (((nI b).toUInt32 % 65536).toInt32) = nI i ∧ ¬ (48 ≤ b ∧ b ≤ 57)) ∨ (f7_isName (nI b) (nI u) = some (nI 0) ∧ t_ix (t_byt.getD (nuse u) []) 0 (((nI b).toUInt32 % 65536).toInt32) = -1) := by
  rw [isName_u _ hu]
  rcases nm_all ⟨nuse u, nuse_lt u⟩ ⟨b, by omega⟩ with ⟨i, h⟩ | h
  · exact Or.inl ⟨i.val, i.isLt, h⟩
  · exact Or.inr h
theorem nm_m1 {u : Nat} (hu : u < 8) : f7_isName (-1) (nI u) = some (nI 0) := by
  rw [isName_u _ hu]
  have : ∀ v : Fin 3, f7_isName (-1) (nI v.val) = some (nI 0) := by decide +kernel
  exact this ⟨nuse u, nuse_lt u⟩
theorem dg7 {b : Nat} (hb : b ≤ 255) : f7_in (nI b) 48 57 = some (if 48 ≤ b ∧ b ≤ 57 then nI 1 else nI 0) := by
  by_cases h : 48 ≤ b ∧ b ≤ 57
  · rw [if_pos h]; exact r_inT 48 57 b h.1 h.2 (by omega)
  · rw [if_neg h]
    refine r_inF ?_
    by_cases h2 : b < 48
    · exact Or.inl (nI_lt (b := 48) h2 (by omega))
    · exact Or.inr (nI_lt (a := 57) (by omega) (by omega))
theorem dg2 {b : Nat} (hb : b ≤ 255) : f2_isDigit (nI b) = some (if 48 ≤ b ∧ b ≤ 57 then nI 1 else nI 0) := by
  unfold f2_isDigit
  by_cases h1 : b < 48
  · rw [if_pos (show nI b < 48 from nI_lt (b := 48) h1 (by omega)), if_neg (by omega)]; rfl
  · rw [if_neg (show ¬ nI b < 48 from nI_nlt (b := 48) (by omega) (by omega))]
    by_cases h2 : 57 < b
    · rw [if_pos (show 57 < nI b from nI_lt (a := 57) h2 (by omega)), if_neg (by omega)]; rfl
    · rw [if_neg (show ¬ 57 < nI b from nI_nlt (a := 57) (by omega) (by omega)), if_pos (by omega)]; rfl
theorem dg7m : f7_in (-1) 48 57 = some (nI 0) := r_inF (Or.inl (by decide))
theorem dg2m : f2_isDigit (-1) = some (nI 0) := by decide
/-- digits, four at most -/
theorem num_both {s tape : Nat → Int32} (T : TP s tape) {n : Nat} (FS : G7t) (use op st : Int32) (step code : Nat → Int32) (cd : Int32) : ∀ (m j z a kk : Nat), j + m = 4 → m < kk → z < 10 ^ j → a ≤ nv s 4 → ∃ y a', y ≤ 9999 ∧ a ≤ a' ∧ a' ≤ nv s 4 ∧ f7_one_46 n FS use s kk (nI z) (nI j) (nI a) op st step = f7_one_94 n FS use s (nI y) (nI a') op st step ∧ f2_readsNumber_4 n (nI (nv s 4)) tape kk (nI z) (nI j) (nI a) cd code = f2_readsNumber_48 n (nI (nv s 4)) tape (nI y) (nI a') cd code := by
  have hL := T.1.2
  intro m
  induction m with
  | zero =>
    intro j z a kk h1 h2 h3 h4
    obtain ⟨kk, rfl⟩ : ∃ q, kk = q + 1 := ⟨kk - 1, by omega⟩
    have ej : j = 4 := by omega
    subst ej
    refine ⟨z, a, by omega, Nat.le_refl _, h4, ?_, ?_⟩
    · rw [f7_one_46.eq_2, if_pos (by decide)]
    · rw [f2_readsNumber_4.eq_2, if_pos (by decide)]
  | succ m ih =>
    intro j z a kk h1 h2 h3 h4
    obtain ⟨kk, rfl⟩ : ∃ q, kk = q + 1 := ⟨kk - 1, by omega⟩
    have hz4 : 10 ^ j ≤ 10 ^ 3 := Nat.pow_le_pow_right (by omega) (by omega)
    rw [f7_one_46.eq_2, if_neg (show ¬ (4 : Int32) ≤ nI j from nI_ge (b := 4) (by omega) (by omega)), f2_readsNumber_4.eq_2, if_neg (show ¬ (4 : Int32) ≤ nI j from nI_ge (b := 4) (by omega) (by omega)), r_look T (by omega), k_sign T (by omega)]
    rcases sg_cases T a with ⟨_, e⟩ | ⟨hlt, b, hb, e⟩
    · rw [e]
      simp only [q_c_some, dg7m, dg2m]
      rw [if_pos i0, if_pos i0]
      exact ⟨z, a, by omega, Nat.le_refl _, h4, rfl, rfl⟩
    · rw [e]
      simp only [q_c_some, dg7 hb, dg2 hb]
      by_cases hd : 48 ≤ b ∧ b ≤ 57
      rotate_left
      · rw [if_neg hd, if_pos i0, if_pos i0]
        exact ⟨z, a, by omega, Nat.le_refl _, h4, rfl, rfl⟩
      rw [if_pos hd, if_neg i1, if_neg i1]
      simp only [q_ltP]
      rw [show (10 : Int32) * nI z + nI b - 48 = nI (10 * z + b - 48) from by rw [show (10 : Int32) = nI 10 from by decide, show (48 : Int32) = nI 48 from by decide, pk_mul, nI_add, pk_sub (by omega)], show nI z * (10 : Int32) + nI b - 48 = nI (10 * z + b - 48) from by rw [show (10 : Int32) = nI 10 from by decide, show (48 : Int32) = nI 48 from by decide, pk_mul, nI_add, pk_sub (by omega), Nat.mul_comm], nI_1, nI_1]
      have hp : 10 ^ (j + 1) = 10 ^ j * 10 := Nat.pow_succ ..
      obtain ⟨y, a', q1, q2, q3, q4, q5⟩ := ih (j + 1) (10 * z + b - 48) (a + 1) kk (by omega) (by omega) (by omega) (by omega)
      exact ⟨y, a', q1, by omega, q3, q4, q5⟩
theorem one_sim {s tape : Nat → Int32} (T : TP s tape) {u n : Nat} (hu : u < 8) (hn : 4100 ≤ n) : ∀ (d o : Nat), o ≤ 5 → 6 ≤ o + d → Sim (nv s 4) u o (fun a op st step => f7_one n d a op st (nI u) s step) (fun a cd code => f2_readsInnermost n d (nI o) a cd (nI (nv s 4)) (nuse u) tape code) := by
  have hL := T.1.2
  intro d
  induction d with
  | zero => intro o h1 h2; omega
  | succ d ih =>
    intro o ho hod a c step code hc ha P
    show Out _ _ _ _ _ _ _ (f7_one n (d + 1) (nI a) (nI o) (nI c) (nI u) s step) (f2_readsInnermost n (d + 1) (nI o) (nI a) (nI c) (nI (nv s 4)) (nuse u) tape code)
    rw [f7_one.eq_2, f2_readsInnermost.eq_2, r_look T (by omega), k_sign T (by omega), q_c_some, q_c_some]
    have fail7 : ∀ x, f7_one_171 n (f7_one n d) (nI u) s x (nI o) (nI c) step = some (0, x, nI o, nI c, step) := fun x => by rw [f7_one_171, bz0]
    have fail2 : ∀ x, f2_readsInnermost_76 n (f2_readsInnermost n d) (nI (nv s 4)) (nuse u) tape x (nI c) code = some (0, x, nI c, code) := fun x => by rw [f2_readsInnermost_76, bz0]
    rcases sg_cases T a with ⟨_, e⟩ | ⟨hlt, b, hb, e⟩
    · rw [e, nm_m1 hu, dg2m, q_c_some, q_c_some, if_pos i0, if_pos i0, dg7m, q_c_some, if_pos i0, if_neg (show ¬ (-1 : Int32) = 33 by decide), if_neg (show ¬ (-1 : Int32) = 40 by decide), fail7, if_neg (show ¬ (0 : Int32) ≤ -1 by decide), f2_readsInnermost_35, if_pos (show (-1 : Int32) < 0 by decide), if_neg (show ¬ (-1 : Int32) = 33 by decide), if_neg (show ¬ (-1 : Int32) = 40 by decide), ite_self, fail2]
      exact Or.inl ⟨a, _, _, _, _, _, rfl, rfl, ha⟩
    rw [e]
    have hq : ∀ (K : Int32 → O2), q_ix (nuse u) (((nI b).toUInt32 % 65536).toInt32) K = K (t_ix (t_byt.getD (nuse u) []) 0 (((nI b).toUInt32 % 65536).toInt32)) := fun K => by rw [q_ix, if_pos (nuse_lt u)]
    rw [dg2 hb, q_c_some]
    rcases nm_byte hu hb with ⟨i, hi, eb, n7, n2, nd⟩ | ⟨n7, n2⟩
    · obtain ⟨step', code', l1, l2, l3, l4, l5⟩ := lay_both (u := u) (c := c) (step := step) (code := code) (w := nI 1) (v := nI b) (d := -nI 1 - nI i) (by omega) P (Or.inr (Or.inl ⟨rfl, i, hi, by rw [eb], rfl⟩))
      rw [n7, q_c_some, if_neg i1, q_ltP, nI_1, show f7_lay 1 (nI b) (nI c) step = _ from l1, q_c2_some, bz1, if_neg nd, if_pos i0, if_pos (nI_pos' (by omega)), hq, n2, f2_readsInnermost_35, if_neg (nI_pos (by omega)), q_ltP, nI_1, show f2_adds (-1 - nI i) (nI c) code = _ from l2, q_c2_some, bz1]
      exact Or.inr ⟨a + 1, c + 1, step', code', rfl, rfl, by omega, by omega, by omega, by omega, l3, l4, SG.val (Or.inr l5)⟩
    rw [n7, q_c_some, if_pos i0, dg7 hb, q_c_some]
    by_cases hd : 48 ≤ b ∧ b ≤ 57
    · rw [if_pos hd, if_neg i1, if_neg i1]
      obtain ⟨n1, en⟩ : ∃ q, n = q + 1 := ⟨n - 1, by omega⟩
      obtain ⟨y, a', q1, q2, q3, q4, q5⟩ := num_both (n := n) T (f7_one n d) (nI u) (nI o) (nI c) step code (nI c) 3 1 (10 * 0 + b - 48) (a + 1) n1 (by omega) (by omega) (by omega) (by omega)
      have f7e : f7_one_46 n (f7_one n d) (nI u) s n 0 0 (nI a) (nI o) (nI c) step = f7_one_94 n (f7_one n d) (nI u) s (nI y) (nI a') (nI o) (nI c) step := by
        rw [← q4]
        conv => lhs; arg 5; rw [en]
        rw [f7_one_46.eq_2, if_neg (show ¬ (4 : Int32) ≤ 0 by decide), r_look T (by omega), e, q_c_some, dg7 hb, q_c_some, if_pos hd, if_neg i1, q_c_some, q_ltP, q_ltP, q_ltP, nI_1, show (10 : Int32) * 0 + nI b - 48 = nI (10 * 0 + b - 48) from by rw [show (10 : Int32) * 0 = nI 0 from by decide, show (48 : Int32) = nI 48 from by decide, nI_add, pk_sub (by omega)]]
        rfl
      have f2e : f2_readsNumber n (nI a) (nI c) (nI (nv s 4)) tape code = f2_readsNumber_48 n (nI (nv s 4)) tape (nI y) (nI a') (nI c) code := by
        rw [← q5, f2_readsNumber]
        conv => lhs; arg 4; rw [en]
        rw [f2_readsNumber_4.eq_2, if_neg (show ¬ (4 : Int32) ≤ 0 by decide), k_sign T (by omega), e, q_c_some, dg2 hb, q_c_some, if_pos hd, if_neg i1, q_c_some, q_ltP, q_ltP, q_ltP, nI_1, show (0 : Int32) * 10 + nI b - 48 = nI (10 * 0 + b - 48) from by rw [show (0 : Int32) * 10 = nI 0 from by decide, show (48 : Int32) = nI 48 from by decide, nI_add, pk_sub (by omega)]]
        rfl
      obtain ⟨step', code', l1, l2, l3, l4, l5⟩ := lay_both (u := u) (c := c) (step := step) (code := code) (w := nI 0) (v := nI y) (d := nI y) (by omega) P (Or.inl ⟨rfl, rfl, y, q1, rfl⟩)
      rw [f7e, f2e, f7_one_94, f2_readsNumber_48, show f7_lay 0 (nI y) (nI c) step = _ from l1, l2, q_c2_some, q_c2_some, q_c3_some, bz1, bz1]
      exact Or.inr ⟨a', c + 1, step', code', rfl, rfl, by omega, q3, by omega, by omega, l3, l4, SG.val (Or.inl l5)⟩
    rw [if_neg hd, if_pos i0, if_pos i0, if_pos (nI_pos' (by omega)), hq, n2, f2_readsInnermost_35, if_pos (show (-1 : Int32) < 0 by decide)]
    by_cases ho5 : o = 5
    · have op7 : f7_opens (nI a) (nI o) = some (0, nI a, nI o) := by
        rw [f7_opens, ho5, if_pos (show nI 5 = 5 from rfl), bz0]
      have f122 : f7_one_122 n (f7_one n d) (nI u) s (nI a) (nI o) (nI c) step = some (0, nI a, nI o, nI c, step) := by rw [f7_one_122, bz0]
      rw [op7, q_c3_some, q_c3_some, if_pos rfl, if_pos rfl, f122, fail7, ite_self, ite_self, if_pos (show (5 : Int32) ≤ nI o by rw [ho5]; decide), fail2]
      exact Or.inl ⟨a, _, _, _, _, _, rfl, rfl, ha⟩
    have op7 : f7_opens (nI a) (nI o) = some (1, nI (a + 1), nI (o + 1)) := by
      rw [f7_opens, if_neg (show ¬ nI o = 5 from fun q => ho5 ((nI_eq (a := o) (b := 5) (by omega) (by omega)).mp q)), q_ltP, q_ltP, bz1, nI_1, nI_1]
    rw [if_neg (show ¬ (5 : Int32) ≤ nI o from nI_ge (b := 5) (by omega) (by omega)), op7, q_c3_some, q_c3_some, if_neg (show ¬ (1 : Int32) = 0 by decide), if_neg (show ¬ (1 : Int32) = 0 by decide)]
    have IH := ih (o + 1) (by omega) (by omega)
    by_cases h33 : b = 33
    · rw [if_pos (show nI b = 33 by rw [h33]; rfl), if_pos (show nI b = 33 by rw [h33]; rfl), f2_readsInnermost_78, q_ltP, nI_1, nI_1, if_pos (show nI b = 33 by rw [h33]; rfl), g2_readsDenied]
      rcases IH (a + 1) c step code (by omega) (by omega) P with ⟨a', op, st, step', cd, code', x, y, z⟩ | ⟨a', c', step', code', x, y, g1, g2, g3, g4, g5, g6, g7⟩
      · rw [show f7_one n d (nI (a + 1)) (nI (o + 1)) (nI c) (nI u) s step = _ from x, show f2_readsInnermost n d (nI (o + 1)) (nI (a + 1)) (nI c) (nI (nv s 4)) (nuse u) tape code = _ from y, q_c5_some, q_c4_some, if_pos rfl, if_pos rfl, bz0, q_c4_some, f7_one_122, bz0, f2_readsInnermost_111, bz0]
        exact Or.inl ⟨a', _, _, _, _, _, rfl, rfl, z⟩
      · obtain ⟨step2, code2, l1, l2, l3, l4, l5⟩ := lay_both (u := u) (c := c') (step := step') (code := code') (w := nI 2) (v := 0) (d := -nI 33) (by omega) g6 (Or.inr (Or.inr (Or.inl ⟨rfl, rfl⟩)))
        rw [show f7_one n d (nI (a + 1)) (nI (o + 1)) (nI c) (nI u) s step = _ from x, show f2_readsInnermost n d (nI (o + 1)) (nI (a + 1)) (nI c) (nI (nv s 4)) (nuse u) tape code = _ from y, q_c5_some, q_c4_some, if_neg (by decide), if_neg (by decide), q_ltP, show nI (o + 1) - 1 = nI o from nI_pred o, show f7_lay 2 0 (nI c') step' = _ from l1, show f2_adds (-33) (nI c') code' = _ from l2, q_c2_some, q_c2_some, bz1, bz1, q_c4_some, f2_readsInnermost_111, bz1]
        refine Or.inr ⟨a', c' + 1, step2, code2, rfl, rfl, by omega, g2, by omega, by omega, g5.trans l3 (by omega), l4, ?_⟩
        exact SG.neg (g7.congr (fun k q1 q2 => l3.1 _ (by omega))) l5
    · rw [if_neg (show ¬ nI b = 33 from fun q => h33 ((nI_eq (a := b) (b := 33) (by omega) (by omega)).mp q)), if_neg (show ¬ nI b = 33 from fun q => h33 ((nI_eq (a := b) (b := 33) (by omega) (by omega)).mp q))]
      by_cases h40 : b = 40
      rotate_left
      · rw [if_neg (show ¬ nI b = 40 from fun q => h40 ((nI_eq (a := b) (b := 40) (by omega) (by omega)).mp q)), if_neg (show ¬ nI b = 40 from fun q => h40 ((nI_eq (a := b) (b := 40) (by omega) (by omega)).mp q)), fail7, fail2]
        exact Or.inl ⟨a, _, _, _, _, _, rfl, rfl, ha⟩
      have W := whole_sim T hn (f7_one n d) (f2_readsInnermost n d) IH
      rw [if_pos (show nI b = 40 by rw [h40]; rfl), if_pos (show nI b = 40 by rw [h40]; rfl), f2_readsInnermost_78, q_ltP, nI_1, nI_1, if_neg (show ¬ nI b = 33 from fun q => h33 ((nI_eq (a := b) (b := 33) (by omega) (by omega)).mp q)), g2_readsInside]
      rcases W (a + 1) c step code (by omega) (by omega) P with ⟨a', op, st, step', cd, code', x, y, z⟩ | ⟨a', c', step', code', x, y, g1, g2, g3, g4, g5, g6, g7⟩
      · rw [show g7_whole n (f7_one n d) (nI (a + 1)) (nI (o + 1)) (nI c) (nI u) s step = _ from x, show g2_readsLevel n (f2_readsInnermost n d) 8 0 (nI (o + 1)) (nI (a + 1)) (nI c) (nI (nv s 4)) (nuse u) tape code = _ from y, q_c5_some, q_c4_some, if_pos rfl, if_pos rfl, g2_readsInside_18, bz0, q_c4_some, f7_one_171, bz0, f2_readsInnermost_111, bz0]
        exact Or.inl ⟨a', _, _, _, _, _, rfl, rfl, z⟩
      · rw [show g7_whole n (f7_one n d) (nI (a + 1)) (nI (o + 1)) (nI c) (nI u) s step = _ from x, show g2_readsLevel n (f2_readsInnermost n d) 8 0 (nI (o + 1)) (nI (a + 1)) (nI c) (nI (nv s 4)) (nuse u) tape code = _ from y, q_c5_some, q_c4_some, if_neg (by decide), if_neg (by decide), r_look T (by omega), k_sign T (by omega), q_c_some, q_c_some]
        by_cases h41 : sg s a' = 41
        · have haL : a' < nv s 4 := by
            rcases sg_cases T a' with ⟨_, q⟩ | ⟨q, _⟩
            · rw [q] at h41; exact absurd h41 (by decide)
            · exact q
          rw [if_pos h41, if_pos h41, q_ltP, q_ltP, q_ltP, show nI (o + 1) - 1 = nI o from nI_pred o, nI_1, bz1, bz1, q_c4_some, f2_readsInnermost_111, bz1]
          exact Or.inr ⟨a' + 1, c', step', code', rfl, rfl, by omega, by omega, g3, by omega, g5, g6, g7⟩
        · rw [if_neg h41, if_neg h41, g2_readsInside_18, bz0, q_c4_some, f7_one_171, bz0, f2_readsInnermost_111, bz0]
          exact Or.inl ⟨a', _, _, _, _, _, rfl, rfl, g2⟩
