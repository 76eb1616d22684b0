/-! ===== wars ===== -/
/-- the acts of a war from cur on -/
def Chain (s : Nat → Int32) (d : Nat) : Int32 → List Nat → Prop
  | cur, [] => cur = -1
  | cur, i :: r => cur = nI i ∧ i < d ∧ Chain s d (UN s d i) r
theorem chain_ex {s : Nat → Int32} {d : Nat} (hd : d ≤ 60) : ∀ (m i : Nat), i < d → d ≤ i + m → ∃ l, Chain s d (nI i) l ∧ l.length ≤ m ∧ l ≠ []
  | 0, i, h1, h2 => absurd h1 (by omega)
  | m + 1, i, h1, h2 => by
    rcases UN_range (s := s) hd h1 with h | ⟨k, k1, k2, k3⟩
    · exact ⟨[i], ⟨rfl, h1, h⟩, by simp, by simp⟩
    · obtain ⟨l, g1, g2, g3⟩ := chain_ex hd m k k2 (by omega)
      refine ⟨i :: l, ⟨rfl, h1, ?_⟩, by simp; omega, by simp⟩
      rw [k3]; exact g1
def lastOf : Int32 → List Nat → Int32
  | x, [] => x
  | _, i :: r => lastOf (nI i) r
def bitOf (s : Nat → Int32) (i : Nat) : Int32 := (1 : Int32) <<< (s (10 + 5 * i + 1) &&& 31)
def orS (s : Nat → Int32) (side : Nat) : Int32 → Nat → List Nat → Int32
  | x, _, [] => x
  | x, k, i :: r => orS s side (if k % 2 = side then x ||| bitOf s i else x) (k + 1) r
theorem rem2 {k : Nat} (hk : k ≤ 100) : nI k - nI k / 2 * 2 = nI (k % 2) := by
  rw [show (2 : Int32) = nI 2 from by decide]
  exact pk_rem (by omega) (by omega) (by omega)
theorem r_warloop {s : Nat → Int32} (I : IV s) {n : Nat} {ub : Nat → Int32} (hg : ∀ i, i < dn s → ub i = UN s (dn s) i) (x2 : Int32) : ∀ (l : List Nat) (cur last e o : Int32) (k kk : Nat), Chain s (dn s) cur l → l.length < kk → k + l.length ≤ 60 → f7_warOf_14 n s ub kk x2 (nI k) last e o cur = some (if x2 = 0 then nI (k + l.length) else if x2 = 1 then lastOf last l else if x2 = 2 then orS s 0 e k l else orS s 1 o k l)
  | [], cur, last, e, o, k, kk, h1, h2, h3 => by
    obtain ⟨kk, rfl⟩ : ∃ q, kk = q + 1 := ⟨kk - 1, by simp at h2; omega⟩
    rw [f7_warOf_14.eq_2, show cur = -1 from h1, if_pos (by decide)]
    simp only [f7_warOf_114, lastOf, orS, List.length_nil, Nat.add_zero]
    (repeat' split) <;> rfl
  | i :: r, cur, last, e, o, k, kk, h1, h2, h3 => by
    have hd := I.doneB
    simp only [List.length_cons] at h2 h3
    obtain ⟨kk, rfl⟩ : ∃ q, kk = q + 1 := ⟨kk - 1, by omega⟩
    obtain ⟨rfl, hi, hc⟩ := h1
    have ih := fun e o => r_warloop I (n := n) hg x2 r (UN s (dn s) i) (nI i) e o (k + 1) kk hc (by omega) (by omega)
    rw [f7_warOf_14.eq_2, if_neg (nI_pos (by omega)), show f7_actIs1 (nI i) 1 s = _ from r_actIs1 i 1 (by omega), q_c_some, q_ltP, q_dv2, rem2 (by omega)]
    simp only [lastOf, orS, List.length_cons]
    rw [show k + (r.length + 1) = k + 1 + r.length by omega]
    rcases Nat.mod_two_eq_zero_or_one k with h | h
    · rw [h, if_pos (show nI 0 = 0 from rfl), f7_warOf_44, q_ltP, q_dv2, rem2 (by omega), h, if_neg (show ¬ nI 0 = 1 by decide), f7_warOf_62, q_ltP, q_ltP, nI_1, q_ldI (by omega) (by omega), hg i hi, Int32.or_zero, ih]
      simp only [if_true, show ¬ (0 = 1) from by omega, if_false]
      rfl
    · rw [h, if_neg (show ¬ nI 1 = 0 by decide), f7_warOf_44, q_ltP, q_dv2, rem2 (by omega), h, if_pos (show nI 1 = 1 from rfl), f7_warOf_62, q_ltP, q_ltP, nI_1, q_ldI (by omega) (by omega), hg i hi, Int32.or_zero, ih]
      simp only [if_true, show ¬ (1 = 0) from by omega, if_false]
      rfl
theorem k_warLen {s kinds writers minutes matters undoers scores sizes cells : Nat → Int32} (I : IV s) (R : RA s kinds writers minutes matters undoers scores sizes cells) {n : Nat} : ∀ (l : List Nat) (cur : Int32) (k kk : Nat), Chain s (dn s) cur l → l.length < kk → k + l.length ≤ 60 → f0_warLength_4 n undoers kk (nI k) cur = some (nI (k + l.length))
  | [], cur, k, kk, h1, h2, h3 => by
    obtain ⟨kk, rfl⟩ : ∃ q, kk = q + 1 := ⟨kk - 1, by simp at h2; omega⟩
    rw [f0_warLength_4.eq_2, show cur = -1 from h1, if_pos (by decide)]
    rfl
  | i :: r, cur, k, kk, h1, h2, h3 => by
    have hd := I.doneB
    simp only [List.length_cons] at h2 h3
    obtain ⟨kk, rfl⟩ : ∃ q, kk = q + 1 := ⟨kk - 1, by omega⟩
    obtain ⟨rfl, hi, hc⟩ := h1
    rw [f0_warLength_4.eq_2, if_neg (nI_pos (by omega)), if_neg (show ¬ (60 : Int32) ≤ nI k from nI_ge (b := 60) (by omega) (by omega)), q_ltP, nI_1, q_ldI (by omega) (by omega), R.undoer hi, k_warLen I R r _ (k + 1) kk hc (by omega) (by omega), List.length_cons, show k + 1 + r.length = k + (r.length + 1) by omega]
theorem k_warEnd {s kinds writers minutes matters undoers scores sizes cells : Nat → Int32} (I : IV s) (R : RA s kinds writers minutes matters undoers scores sizes cells) {n : Nat} : ∀ (r : List Nat) (i k kk : Nat), i < dn s → Chain s (dn s) (UN s (dn s) i) r → r.length < kk → k + r.length ≤ 60 → f0_warEnd_4 n undoers kk (nI i) (nI k) = some (lastOf (nI i) r)
  | [], i, k, kk, hi, h1, h2, h3 => by
    have hd := I.doneB
    obtain ⟨kk, rfl⟩ : ∃ q, kk = q + 1 := ⟨kk - 1, by simp at h2; omega⟩
    rw [f0_warEnd_4.eq_2, q_ldI (by omega) (by omega), R.undoer hi, show UN s (dn s) i = -1 from h1, if_pos (show (-1 : Int32) < 0 by decide), ite_self]
    rfl
  | j :: r, i, k, kk, hi, h1, h2, h3 => by
    have hd := I.doneB
    simp only [List.length_cons] at h2 h3
    obtain ⟨kk, rfl⟩ : ∃ q, kk = q + 1 := ⟨kk - 1, by omega⟩
    obtain ⟨e, hj, hc⟩ := h1
    rw [f0_warEnd_4.eq_2, if_neg (show ¬ (60 : Int32) ≤ nI k from nI_ge (b := 60) (by omega) (by omega)), q_ldI (by omega) (by omega), R.undoer hi, e, if_neg (nI_pos (by omega)), q_ldI (by omega) (by omega), R.undoer hi, e, q_ltP, nI_1, k_warEnd I R r j (k + 1) kk hj hc (by omega) (by omega)]
    rfl
theorem k_warSide {s kinds writers minutes matters undoers scores sizes cells : Nat → Int32} (I : IV s) (R : RA s kinds writers minutes matters undoers scores sizes cells) {n side : Nat} (hs : side ≤ 1) : ∀ (l : List Nat) (cur x : Int32) (k kk : Nat), Chain s (dn s) cur l → l.length < kk → k + l.length ≤ 60 → f0_warSide_8 n writers undoers kk (nI side) x cur (nI k) = some (orS s side x k l)
  | [], cur, x, k, kk, h1, h2, h3 => by
    obtain ⟨kk, rfl⟩ : ∃ q, kk = q + 1 := ⟨kk - 1, by simp at h2; omega⟩
    rw [f0_warSide_8.eq_2, show cur = -1 from h1, if_pos (show (-1 : Int32) < 0 by decide), ite_self]
    rfl
  | i :: r, cur, x, k, kk, h1, h2, h3 => by
    have hd := I.doneB
    simp only [List.length_cons] at h2 h3
    obtain ⟨kk, rfl⟩ : ∃ q, kk = q + 1 := ⟨kk - 1, by omega⟩
    obtain ⟨rfl, hi, hc⟩ := h1
    have hm : k % 2 < 2 := Nat.mod_lt _ (by omega)
    rw [f0_warSide_8.eq_2, if_neg (show ¬ (60 : Int32) ≤ nI k from nI_ge (b := 60) (by omega) (by omega)), if_neg (nI_pos (by omega)), q_dv2, rem2 (by omega), orS]
    by_cases q : k % 2 = side
    · rw [if_pos (by rw [q]), q_ldI (by omega) (by omega), R.writer hi, q_ltP, f0_warSide_40, q_ldI (by omega) (by omega), R.undoer hi, q_ltP, nI_1, if_pos q, k_warSide I R hs r _ _ (k + 1) kk hc (by omega) (by omega)]
      rfl
    · rw [if_neg (fun h => q ((nI_eq (by omega) (by omega)).mp h)), f0_warSide_40, q_ldI (by omega) (by omega), R.undoer hi, q_ltP, nI_1, if_neg q, k_warSide I R hs r _ _ (k + 1) kk hc (by omega) (by omega)]
theorem p_war {s kinds writers minutes matters undoers scores sizes cells : Nat → Int32} (I : IV s) (R : RA s kinds writers minutes matters undoers scores sizes cells) {n : Nat} {E ub : Nat → Int32} (hn : 4100 ≤ n) (x y : Int32) : ∃ a E' ub', f7_war n x y s E ub = some (a, E', ub') ∧ f6_war n x y (nI (dn s)) E writers undoers = some (a, E') := by
  have hd := I.doneB
  unfold f7_war f6_war
  rcases act_cases I x with ⟨v, hv, rfl, h1, h2⟩ | ⟨h1, h2⟩
  rotate_left
  · rw [h1, h2, q_c_some, q_c_some, if_pos i0, if_pos i0, f7_war_17, (r_err E).1, (k_err E).1, q_c2_er, q_c2_er]
    exact ⟨_, _, _, rfl, rfl⟩
  rw [h1, h2, q_c_some, q_c_some, if_neg i1, if_neg i1]
  rcases in_cases y 3 (by omega) with ⟨c, hc, rfl⟩ | h
  rotate_left
  · have ne : ∀ j : Nat, j ≤ 3 → ¬ y = nI j := by
      intro j hj q
      rw [q] at h
      rcases h with h | h
      · exact absurd h (nI_nlt (by omega) (by omega))
      · exact absurd h (nI_nlt (by omega) (by omega))
    rw [show f7_in y 0 3 = _ from r_inF h, q_c_some, if_pos i0, if_neg (show ¬ y = 0 from ne 0 (by omega)), if_neg (show ¬ y = 1 from ne 1 (by omega)), if_neg (show ¬ y = 2 from ne 2 (by omega)), if_neg (show ¬ y = 3 from ne 3 (by omega)), f7_war_17, (r_err E).1, (k_err E).1, q_c2_er, q_c2_er]
    exact ⟨_, _, _, rfl, rfl⟩
  rw [show f7_in (nI c) 0 3 = _ from r_inT 0 3 c (Nat.zero_le _) hc (by omega), q_c_some, if_neg i1]
  obtain ⟨g, g1, g2⟩ := r_undone I hn ub
  obtain ⟨l, l1, l2, l3⟩ := chain_ex (s := s) hd (dn s) v hv (by omega)
  have w7 := r_warloop (n := n) I g2 (nI c) l (nI v) (nI v) 0 0 0 n l1 (by omega) (by omega)
  rw [g1, q_c1_some, f7_warOf, show f7_warOf_14 n s g n (nI c) 0 (nI v) 0 0 (nI v) = _ from w7, q_c_some]
  obtain rfl | rfl | rfl | rfl : c = 0 ∨ c = 1 ∨ c = 2 ∨ c = 3 := by omega
  · have k := k_warLen (n := n) I R l (nI v) 0 n l1 (by omega) (by omega)
    rw [if_pos (show nI 0 = 0 from rfl), if_pos (show nI 0 = 0 from rfl), f0_warLength, show f0_warLength_4 n undoers n 0 (nI v) = _ from k, q_c_some]
    exact ⟨_, _, _, rfl, rfl⟩
  · cases l with
    | nil => exact absurd rfl l3
    | cons i r =>
      obtain ⟨ei, hi, hr⟩ := l1
      have ev : v = i := (nI_eq (by omega) (by omega)).mp ei
      subst ev
      simp only [List.length_cons] at l2
      have k := k_warEnd (n := n) I R r v 0 n hv hr (by omega) (by omega)
      rw [if_neg (show ¬ nI 1 = 0 by decide), if_pos (show nI 1 = 1 from rfl), if_neg (show ¬ nI 1 = 0 by decide), if_pos (show nI 1 = 1 from rfl), f0_warEnd, show f0_warEnd_4 n undoers n (nI v) 0 = _ from k, q_c_some]
      exact ⟨_, _, _, rfl, rfl⟩
  · have k := k_warSide (n := n) (side := 0) I R (by omega) l (nI v) 0 0 n l1 (by omega) (by omega)
    rw [if_neg (show ¬ nI 2 = 0 by decide), if_neg (show ¬ nI 2 = 1 by decide), if_pos (show nI 2 = 2 from rfl), if_neg (show ¬ nI 2 = 0 by decide), if_neg (show ¬ nI 2 = 1 by decide), if_pos (show nI 2 = 2 from rfl), f0_warSide, show f0_warSide_8 n writers undoers n 0 0 (nI v) 0 = _ from k, q_c_some]
    exact ⟨_, _, _, rfl, rfl⟩
  · have k := k_warSide (n := n) (side := 1) I R (by omega) l (nI v) 0 0 n l1 (by omega) (by omega)
    rw [if_neg (show ¬ nI 3 = 0 by decide), if_neg (show ¬ nI 3 = 1 by decide), if_neg (show ¬ nI 3 = 2 by decide), if_neg (show ¬ nI 3 = 0 by decide), if_neg (show ¬ nI 3 = 1 by decide), if_neg (show ¬ nI 3 = 2 by decide), if_pos (show nI 3 = 3 from rfl), f0_warSide, show f0_warSide_8 n writers undoers n 1 0 (nI v) 0 = _ from k, q_c_some]
    exact ⟨_, _, _, rfl, rfl⟩
theorem p_longest {s kinds writers minutes matters undoers scores sizes cells : Nat → Int32} (I : IV s) (R : RA s kinds writers minutes matters undoers scores sizes cells) {n : Nat} {E ub : Nat → Int32} (hn : 4100 ≤ n) : ∃ a E' ub', f7_longest n s E ub = some (a, E', ub') ∧ f6_longest n (nI (dn s)) E undoers = some (a, E') := by
  have hd := I.doneB
  unfold f7_longest f6_longest
  rw [q_ldE 1 z_1 (by omega) (by omega), I.done]
  by_cases h0 : dn s = 0
  · rw [if_pos (show nI (dn s) = 0 by rw [h0]; rfl), if_pos (show nI (dn s) = 0 by rw [h0]; rfl), (r_err E).2.1, (k_err E).2.1, q_c2_er, q_c2_er]
    exact ⟨_, _, _, rfl, rfl⟩
  rw [if_neg (nI_ne0 (by omega) (by omega)), if_neg (nI_ne0 (by omega) (by omega))]
  obtain ⟨g, g1, g2⟩ := r_undone I hn ub
  rw [g1, q_c1_some, f0_longestWar]
  have len : ∀ v, v < dn s → ∃ z, z ≤ 60 ∧ f7_warOf n (nI v) 0 s g = some (nI z) ∧ f0_warLength n (nI v) undoers = some (nI z) := by
    intro v hv
    obtain ⟨l, l1, l2, l3⟩ := chain_ex (s := s) hd (dn s) v hv (by omega)
    refine ⟨0 + l.length, by omega, ?_, ?_⟩
    · exact (r_warloop (n := n) I g2 0 l (nI v) (nI v) 0 0 0 n l1 (by omega) (by omega)).trans (by rw [if_pos rfl])
    · exact k_warLen (n := n) I R l (nI v) 0 n l1 (by omega) (by omega)
  have both : ∀ (m j kk b : Nat), j + m = dn s → m < kk → b < dn s → ∃ a, f7_longest_23 n s kk (nI b) (nI j) E g = some (a, E, g) ∧ f0_longestWar_4 n (nI (dn s)) undoers kk (nI b) (nI j) = some a := by
    intro m
    induction m with
    | zero =>
      intro j kk b q1 q2 q3
      obtain ⟨kk, rfl⟩ : ∃ q, kk = q + 1 := ⟨kk - 1, by omega⟩
      rw [f7_longest_23.eq_2, f0_longestWar_4.eq_2, q_ldE 1 z_1 (by omega) (by omega), I.done, if_pos (nI_le (by omega) (by omega)), if_pos (nI_le (by omega) (by omega))]
      exact ⟨_, rfl, rfl⟩
    | succ m ih =>
      intro j kk b q1 q2 q3
      obtain ⟨kk, rfl⟩ : ∃ q, kk = q + 1 := ⟨kk - 1, by omega⟩
      obtain ⟨zj, a1, a2, a3⟩ := len j (by omega)
      obtain ⟨zb, b1, b2, b3⟩ := len b q3
      rw [f7_longest_23.eq_2, f0_longestWar_4.eq_2, q_ldE 1 z_1 (by omega) (by omega), I.done, if_neg (nI_ge (by omega) (by omega)), if_neg (nI_ge (by omega) (by omega)), a2, a3, q_c_some, q_c_some, b2, b3, q_c_some, q_c_some]
      by_cases q : zj ≤ zb
      · rw [if_pos (nI_le q (by omega)), if_pos (nI_le q (by omega)), f7_longest_53, f0_longestWar_27, q_ltP, q_ltP, nI_1]
        exact ih (j + 1) kk b (by omega) (by omega) q3
      · rw [if_neg (nI_ge (by omega) (by omega)), if_neg (nI_ge (by omega) (by omega)), f7_longest_53, f0_longestWar_27, q_ltP, q_ltP, nI_1]
        exact ih (j + 1) kk j (by omega) (by omega) (by omega)
  obtain ⟨a, r1, r2⟩ := both (dn s - 1) 1 n 0 (by omega) (by omega) (by omega)
  rw [show f7_longest_23 n s n 0 1 E g = _ from r1, show f0_longestWar_4 n (nI (dn s)) undoers n 0 1 = _ from r2, q_c_some]
  exact ⟨_, _, _, rfl, rfl⟩
