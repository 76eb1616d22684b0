/-! ===== live ===== -/
def FL (s s' : Nat → Int32) : Prop := ∀ j, ((2 ≤ j ∧ j < 6) ∨ (7 ≤ j ∧ j < 10) ∨ 2820 ≤ j) → s' j = s j
def OKL (s s' lengths codes kinds writers minutes matters undoers scores sizes cells : Nat → Int32) : Prop := IV s' ∧ RA s' kinds writers minutes matters undoers scores sizes cells ∧ RXA s' lengths codes ∧ FL s s'
theorem live_in {s0 lengths codes E : Nat → Int32} {n : Nat} (hn : 4100 ≤ n) (K7 : Int32 → Int32 → Int32 → (Nat → Int32) → (Nat → Int32) → (Nat → Int32) → (Nat → Int32) → (Nat → Int32) → (Nat → Int32) → (Nat → Int32) → Option (Int32 × Int32 × (Nat → Int32) × (Nat → Int32) × (Nat → Int32) × (Nat → Int32) × (Nat → Int32) × (Nat → Int32) × (Nat → Int32))) (K6 : Int32 → Int32 → Int32 → Int32 → Int32 → (Nat → Int32) → (Nat → Int32) → (Nat → Int32) → (Nat → Int32) → (Nat → Int32) → (Nat → Int32) → (Nat → Int32) → (Nat → Int32) → (Nat → Int32) → (Nat → Int32) → (Nat → Int32) → Option (Int32 × (Nat → Int32) × (Nat → Nat → Int32))) (x k : Int32) : ∀ (m w kk : Nat) (s kinds1 writers1 minutes1 matters1 undoers1 scores1 sizes1 cells1 nW nO named pile ub nc stack : Nat → Int32) (nm : Int32), w + m = 6 → m < kk → nv s 0 < 29999 → OKL s0 s lengths codes kinds1 writers1 minutes1 matters1 undoers1 scores1 sizes1 cells1 → ∃ s' nm' nW' nO' named' pile' ub' kinds2 writers2 minutes2 matters2 undoers2 scores2 sizes2 cells2 nc' stack', f7_live_45 n K7 kk x k (nI w) nm s E nW nO named pile ub = K7 x (k + 1) nm' s' E nW' nO' named' pile' ub' ∧ f6_live_47 n (s0 2) (s0 3) codes lengths K6 kk x k (nI w) (s 0) (s 6) (nI (dn s)) E kinds1 writers1 minutes1 matters1 undoers1 scores1 sizes1 cells1 nc stack = K6 x (k + 1) (s' 0) (s' 6) (nI (dn s')) E kinds2 writers2 minutes2 matters2 undoers2 scores2 sizes2 cells2 nc' stack' ∧ OKL s0 s' lengths codes kinds2 writers2 minutes2 matters2 undoers2 scores2 sizes2 cells2 ∧ nv s' 0 = nv s 0 + 1 := by
  intro m
  induction m with
  | zero =>
    intro w kk s kinds1 writers1 minutes1 matters1 undoers1 scores1 sizes1 cells1 nW nO named pile ub nc stack nm h1 h2 h3 O
    obtain ⟨kk, rfl⟩ : ∃ q, kk = q + 1 := ⟨kk - 1, by omega⟩
    obtain ⟨I, R, X, F⟩ := O
    let t := upd s 0 (nI (nv s 0 + 1))
    have tj : ∀ j, j ≠ 0 → t j = s j := fun j h => pk_un h
    have t0 : t 0 = nI (nv s 0 + 1) := pk_us
    have n0 : nv t 0 = nv s 0 + 1 := nv_of t0 (by omega)
    have dt : dn t = dn s := nv_congr (tj 1 (by omega))
    have It : IV t := IV_row I (tj 1 (by omega)) (fun j _ _ => tj j (by omega)) (isN.mk _ t0 (by omega) (by omega)) (by omega) (isN_congr (tj 2 (by omega)) I.1.2.2.1) (isN_congr (tj 4 (by omega)) I.1.2.2.2.1) (isN_congr (tj 5 (by omega)) I.1.2.2.2.2)
    have Rt := RA_congr I R (tj 1 (by omega)) (fun j _ _ => tj j (by omega))
    have Xt := RXA_row (fun j _ _ => tj j (by omega)) X
    rw [f7_live_45.eq_2, f6_live_47.eq_2, if_pos (show (6 : Int32) ≤ nI w from nI_le (a := 6) (by omega) (by omega)), if_pos (show (6 : Int32) ≤ nI w from nI_le (a := 6) (by omega) (by omega)), q_ldE 0 z_0 (by omega) (by omega), I.now, nI_1, q_stE 0 z_0 (by omega) (by omega), q_ltP, q_ltP, q_ltP]
    refine ⟨t, nm, nW, nO, named, pile, ub, kinds1, writers1, minutes1, matters1, undoers1, scores1, sizes1, cells1, nc, stack, rfl, ?_, ⟨It, Rt, Xt, fun j hj => (tj j (by omega)).trans (F j hj)⟩, n0⟩
    rw [t0, tj 6 (by omega), dt]
  | succ m ih =>
    intro w kk s kinds1 writers1 minutes1 matters1 undoers1 scores1 sizes1 cells1 nW nO named pile ub nc stack nm h1 h2 h3 O
    obtain ⟨kk, rfl⟩ : ∃ q, kk = q + 1 := ⟨kk - 1, by omega⟩
    obtain ⟨I, R, X, F⟩ := O
    have e2 : (2 : Int32) + nI w = nI (2 + w) := by rw [show (2 : Int32) = nI 2 from by decide, nI_add]
    rw [f7_live_45.eq_2, f6_live_47.eq_2, if_neg (show ¬ (6 : Int32) ≤ nI w from nI_ge (b := 6) (by omega) (by omega)), if_neg (show ¬ (6 : Int32) ≤ nI w from nI_ge (b := 6) (by omega) (by omega)), e2, ← F 2 (by omega), ← F 3 (by omega)]
    rcases lives_both (nW := nW) (nO := nO) (named := named) (pile := pile) (ub := ub) (nc := nc) (stack := stack) (nm := nm) I R X (w := w) hn (by omega) with ⟨h7, g6⟩ | ⟨h7, t, nm', s', nW', nO', named', pile', ub', kinds2, writers2, minutes2, matters2, undoers2, scores2, sizes2, cells2, nc', stack', g7, g6, ⟨I2, R2, X2, F2⟩, tj⟩
    · rw [h7, q_c_some, if_pos i0, f7_live_66, q_ltP, nI_1, g6, q_c12_some, q_ltP, F 2 (by omega), F 3 (by omega)]
      exact ih (w + 1) kk s kinds1 writers1 minutes1 matters1 undoers1 scores1 sizes1 cells1 nW nO named pile ub nc stack nm (by omega) (by omega) h3 ⟨I, R, X, F⟩
    · have F9 : FL s0 s' := fun j hj => by rw [F2 j (by omega), tj j (by omega)]; exact F j hj
      have e0 : s' 0 = s 0 := by rw [F2 0 (by omega), tj 0 (by omega)]
      rw [h7, q_c_some, if_neg i1, g7, q_c7_some, f7_live_66, q_ltP, nI_1, g6, q_c12_some, q_ltP, ← e0, F 2 (by omega), F 3 (by omega)]
      rw [← nv_congr e0] at h3 ⊢
      exact ih (w + 1) kk s' kinds2 writers2 minutes2 matters2 undoers2 scores2 sizes2 cells2 nW' nO' named' pile' ub' nc' stack' nm' (by omega) (by omega) h3 ⟨I2, R2, X2, F9⟩
theorem live_out {s0 lengths codes E : Nat → Int32} {n : Nat} (hn : 4100 ≤ n) {x : Nat} (hx : x ≤ 60) : ∀ (m k kk : Nat) (s kinds1 writers1 minutes1 matters1 undoers1 scores1 sizes1 cells1 nW nO named pile ub nc stack : Nat → Int32) (nm : Int32), k + m = x → m < kk → nv s 0 + m ≤ 29999 → OKL s0 s lengths codes kinds1 writers1 minutes1 matters1 undoers1 scores1 sizes1 cells1 → ∃ s' nm' nW' nO' named' pile' ub' kinds2 writers2 minutes2 matters2 undoers2 scores2 sizes2 cells2 nc' stack', f7_live_38 n kk (nI x) (nI k) nm s E nW nO named pile ub = some (s' 0, nm', s', E, nW', nO', named', pile', ub') ∧ f6_live_40 n (s0 2) (s0 3) codes lengths kk (nI x) (nI k) (s 0) (s 6) (nI (dn s)) E kinds1 writers1 minutes1 matters1 undoers1 scores1 sizes1 cells1 nc stack = some (s' 0, fun k => ([s' 0, s' 6, nI (dn s')] : List Int32).getD k 0, fun k => ([E, kinds2, writers2, minutes2, matters2, undoers2, scores2, sizes2, cells2, nc', stack'] : List (Nat → Int32)).getD k (fun _ => 0)) ∧ OKL s0 s' lengths codes kinds2 writers2 minutes2 matters2 undoers2 scores2 sizes2 cells2 := by
  intro m
  induction m with
  | zero =>
    intro k kk s kinds1 writers1 minutes1 matters1 undoers1 scores1 sizes1 cells1 nW nO named pile ub nc stack nm h1 h2 h3 O
    obtain ⟨kk, rfl⟩ : ∃ q, kk = q + 1 := ⟨kk - 1, by omega⟩
    rw [f7_live_38.eq_2, f6_live_40.eq_2, if_pos (nI_le (by omega) (by omega)), if_pos (nI_le (by omega) (by omega)), q_ldE 0 z_0 (by omega) (by omega)]
    exact ⟨s, nm, nW, nO, named, pile, ub, kinds1, writers1, minutes1, matters1, undoers1, scores1, sizes1, cells1, nc, stack, rfl, rfl, O⟩
  | succ m ih =>
    intro k kk s kinds1 writers1 minutes1 matters1 undoers1 scores1 sizes1 cells1 nW nO named pile ub nc stack nm h1 h2 h3 O
    obtain ⟨kk, rfl⟩ : ∃ q, kk = q + 1 := ⟨kk - 1, by omega⟩
    rw [f7_live_38.eq_2, f6_live_40.eq_2, if_neg (nI_ge (by omega) (by omega)), if_neg (nI_ge (by omega) (by omega))]
    obtain ⟨s', nm', nW', nO', named', pile', ub', kinds2, writers2, minutes2, matters2, undoers2, scores2, sizes2, cells2, nc', stack', g7, g6, O2, e⟩ := live_in (E := E) hn (f7_live_38 n kk) (f6_live_40 n (s0 2) (s0 3) codes lengths kk) (nI x) (nI k) 6 0 n s kinds1 writers1 minutes1 matters1 undoers1 scores1 sizes1 cells1 nW nO named pile ub nc stack nm (by omega) (by omega) (by omega) O
    rw [show f7_live_45 n (f7_live_38 n kk) n (nI x) (nI k) 0 nm s E nW nO named pile ub = _ from g7, show f6_live_47 n (s0 2) (s0 3) codes lengths (f6_live_40 n (s0 2) (s0 3) codes lengths kk) n (nI x) (nI k) 0 (s 0) (s 6) (nI (dn s)) E kinds1 writers1 minutes1 matters1 undoers1 scores1 sizes1 cells1 nc stack = _ from g6, nI_1]
    exact ih (k + 1) kk s' kinds2 writers2 minutes2 matters2 undoers2 scores2 sizes2 cells2 nW' nO' named' pile' ub' nc' stack' nm' (by omega) (by omega) (by omega) O2
theorem p_live {s kinds writers minutes matters undoers scores sizes cells : Nat → Int32} (I : IV s) (R : RA s kinds writers minutes matters undoers scores sizes cells) {lengths codes nW nO named pile ub nc stack E : Nat → Int32} (X : RXA s lengths codes) {n : Nat} {nm : Int32} (hn : 4100 ≤ n) (x : Int32) : ∃ a E' s' nm' nW' nO' named' pile' ub' kinds2 writers2 minutes2 matters2 undoers2 scores2 sizes2 cells2 nc' stack', f7_live n x nm s E nW nO named pile ub = some (a, nm', s', E', nW', nO', named', pile', ub') ∧ f6_live n x (s 0) (s 2) (s 3) (s 6) (nI (dn s)) E kinds writers minutes matters undoers scores sizes cells codes lengths nc stack = some (a, fun k => ([s' 0, s' 6, nI (dn s')] : List Int32).getD k 0, fun k => ([E', kinds2, writers2, minutes2, matters2, undoers2, scores2, sizes2, cells2, nc', stack'] : List (Nat → Int32)).getD k (fun _ => 0)) ∧ OKL s s' lengths codes kinds2 writers2 minutes2 matters2 undoers2 scores2 sizes2 cells2 := by
  have same : OKL s s lengths codes kinds writers minutes matters undoers scores sizes cells := ⟨I, R, X, fun _ _ => rfl⟩
  have hnow := I.nowB
  unfold f7_live f6_live
  by_cases hlo : x < 1
  · rw [r_inF (Or.inl hlo), q_c_some, if_pos i0, if_pos hlo]
    simp only [f6_live_11, (r_err E).1, (k_err E).1, q_c2_er]
    exact ⟨_, _, s, _, _, _, _, _, _, _, _, _, _, _, _, _, _, _, _, rfl, rfl, same⟩
  rw [if_neg hlo]
  by_cases hhi : x ≤ 60
  rotate_left
  · rw [r_inF (Or.inr (Int32.not_le.mp hhi)), q_c_some, if_pos i0, if_neg hhi]
    simp only [f6_live_11, (r_err E).1, (k_err E).1, q_c2_er]
    exact ⟨_, _, s, _, _, _, _, _, _, _, _, _, _, _, _, _, _, _, _, rfl, rfl, same⟩
  rw [r_inY (Int32.not_lt.mp hlo) hhi, q_c_some, if_neg i1, if_pos hhi, q_ldE 0 z_0 (by omega) (by omega)]
  obtain ⟨z, hz, rfl⟩ := nI_of2 (M := 60) (n := 60) (by decide) (fun q => hlo (Int32.lt_trans q (by decide))) hhi
  have e1 : (s 0 + nI z ≤ 29999) = (nv s 0 + z ≤ 29999) := by
    rw [I.now, nI_add]; exact propext (nI_leI (b := 29999) (by omega) (by omega))
  have e2 : (s 0 ≤ 29999 - nI z) = (nv s 0 + z ≤ 29999) := by
    rw [I.now, show (29999 : Int32) - nI z = nI (29999 - z) from pk_sub (a := 29999) (by omega), nI_leI (by omega) (by omega)]
    exact propext ⟨fun _ => by omega, fun _ => by omega⟩
  by_cases ht : nv s 0 + z ≤ 29999
  rotate_left
  · rw [if_neg (by rw [e1]; exact ht), if_neg (by rw [e2]; exact ht)]
    rw [(r_err E).2.2.1, (k_err E).2.2.1, q_c2_er, q_c2_er]
    exact ⟨_, _, s, _, _, _, _, _, _, _, _, _, _, _, _, _, _, _, _, rfl, rfl, same⟩
  rw [if_pos (by rw [e1]; exact ht), if_pos (by rw [e2]; exact ht)]
  obtain ⟨s', nm', nW', nO', named', pile', ub', kinds2, writers2, minutes2, matters2, undoers2, scores2, sizes2, cells2, nc', stack', g7, g6, O2⟩ := live_out (E := E) hn hz z 0 n s kinds writers minutes matters undoers scores sizes cells nW nO named pile ub nc stack nm (by omega) (by omega) ht same
  exact ⟨_, E, s', nm', nW', nO', named', pile', ub', kinds2, writers2, minutes2, matters2, undoers2, scores2, sizes2, cells2, nc', stack', g7, g6, O2⟩
