/-! ===== living ===== -/
def lt (s : Nat → Int32) (w : Int32) : Nat → Int32
  | 0 => -1
  | d + 1 => if s (10 + 5 * d + 1) = w ∧ nv s (10 + 5 * d + 0) < 6 then nI d else lt s w d
theorem lt_range (s : Nat → Int32) (w : Int32) : ∀ d, lt s w d = -1 ∨ ∃ a, a < d ∧ lt s w d = nI a
  | 0 => Or.inl rfl
  | d + 1 => by
    unfold lt
    split
    · exact Or.inr ⟨d, by omega, rfl⟩
    · rcases lt_range s w d with h | ⟨a, h1, h2⟩
      · exact Or.inl h
      · exact Or.inr ⟨a, by omega, h2⟩
theorem lat_both {s kinds writers minutes matters undoers scores sizes cells : Nat → Int32} (I : IV s) (R : RA s kinds writers minutes matters undoers scores sizes cells) {n : Nat} (hn : 4100 ≤ n) (w : Int32) : f7_latest n w s = some (lt s w (dn s)) ∧ f0_latestOnPage n w (nI (dn s)) kinds writers = some (lt s w (dn s)) := by
  have hd := I.doneB
  have ref : ∀ (m i k : Nat), i + m = dn s → m < k → f7_latest_4 n s k w (lt s w i) (nI i) = some (lt s w (dn s)) := by
    intro m
    induction m with
    | zero =>
      intro i k h1 h2
      obtain ⟨k, rfl⟩ : ∃ q, k = q + 1 := ⟨k - 1, by omega⟩
      have e : i = dn s := by omega
      subst e
      rw [f7_latest_4.eq_2, q_ldE 1 z_1 (by omega) (by omega), I.done, if_pos (Int32.le_refl _)]
    | succ m ih =>
      intro i k h1 h2
      obtain ⟨k, rfl⟩ : ∃ q, k = q + 1 := ⟨k - 1, by omega⟩
      have hk := I.kindB (i := i) (by omega)
      rw [f7_latest_4.eq_2, q_ldE 1 z_1 (by omega) (by omega), I.done, if_neg (nI_ge (by omega) (by omega)), show f7_actIs1 (nI i) 1 s = some (s (10 + 5 * i + 1)) from r_actIs1 i 1 (by omega), q_c_some]
      have nx : f7_latest_4 n s k w (lt s w (i + 1)) (nI (i + 1)) = some (lt s w (dn s)) := ih (i + 1) k (by omega) (by omega)
      rw [lt] at nx
      by_cases h : s (10 + 5 * i + 1) = w
      · rw [if_pos h, show f7_actIs1 (nI i) 0 s = some (s (10 + 5 * i + 0)) from r_actIs1 i 0 (by omega), q_c_some, I.kind (by omega)]
        by_cases h6 : nv s (10 + 5 * i + 0) < 6
        · rw [if_pos ⟨h, h6⟩] at nx
          rw [if_neg (show ¬ (6 : Int32) ≤ nI (nv s (10 + 5 * i + 0)) from nI_ge (b := 6) h6 (by omega)), f7_latest_40, q_ltP, nI_1]
          exact nx
        · rw [if_neg (fun q => h6 q.2)] at nx
          rw [if_pos (show (6 : Int32) ≤ nI (nv s (10 + 5 * i + 0)) from nI_le (a := 6) (by omega) (by omega)), f7_latest_39, f7_latest_40, q_ltP, nI_1]
          exact nx
      · rw [if_neg (fun q => h q.1)] at nx
        rw [if_neg h, f7_latest_39, f7_latest_40, q_ltP, nI_1]
        exact nx
  have cls : ∀ (i k : Nat), i ≤ dn s → i < k → f0_latestOnPage_7 n (nI (dn s)) kinds writers k w (nI i - 1) = some (lt s w i) := by
    intro i
    induction i with
    | zero =>
      intro k h1 h2
      obtain ⟨k, rfl⟩ : ∃ q, k = q + 1 := ⟨k - 1, by omega⟩
      rw [f0_latestOnPage_7.eq_2, if_pos (by decide)]
      rfl
    | succ i ih =>
      intro k h1 h2
      obtain ⟨k, rfl⟩ : ∃ q, k = q + 1 := ⟨k - 1, by omega⟩
      have hk := I.kindB (i := i) (by omega)
      have nx := ih k (by omega) (by omega)
      have e3 : nI i + (-1 : Int32) = nI i - 1 := by rw [Int32.sub_eq_add_neg]
      rw [nI_pred, f0_latestOnPage_7.eq_2, if_neg (nI_pos (by omega)), q_ldI (by omega) (by omega), R.writer (by omega), lt]
      by_cases h : s (10 + 5 * i + 1) = w
      · rw [if_pos h, q_ldI (by omega) (by omega), R.kind (by omega), I.kind (by omega)]
        by_cases h7 : nv s (10 + 5 * i + 0) = 7
        · rw [if_pos (show nI (nv s (10 + 5 * i + 0)) = 7 by rw [h7]; rfl), if_neg (fun q => absurd q.2 (by omega)), f0_latestOnPage_45, q_ltP, e3]
          exact nx
        · rw [if_neg (show ¬ nI (nv s (10 + 5 * i + 0)) = 7 from fun q => h7 ((nI_eq (a := nv s (10 + 5 * i + 0)) (b := 7) (by omega) (by omega)).mp q)), q_ldI (by omega) (by omega), R.kind (by omega), I.kind (by omega)]
          by_cases h6 : nv s (10 + 5 * i + 0) = 6
          · rw [if_pos (show nI (nv s (10 + 5 * i + 0)) = 6 by rw [h6]; rfl), if_neg (fun q => absurd q.2 (by omega)), f0_latestOnPage_45, q_ltP, e3]
            exact nx
          · rw [if_neg (show ¬ nI (nv s (10 + 5 * i + 0)) = 6 from fun q => h6 ((nI_eq (a := nv s (10 + 5 * i + 0)) (b := 6) (by omega) (by omega)).mp q)), if_pos ⟨h, by omega⟩]
      · rw [if_neg h, if_neg (fun q => h q.1), f0_latestOnPage_45, q_ltP, e3]
        exact nx
  refine ⟨?_, ?_⟩
  · exact ref (dn s) 0 n (by omega) (by omega)
  · rw [f0_latestOnPage, q_ltP]
    exact cls (dn s) n (Nat.le_refl _) (by omega)
/-- a draw -/
def dz (z : Int32) : Int32 := z * 1103515245 + 12345
def dr (z : Int32) : Int32 := (z.toUInt32 >>> ((8 : Int32).toUInt32 &&& Int32.toUInt32 31)).toInt32
theorem r_draw (s : Nat → Int32) : f7_draw s = some (dr (dz (s 6)), upd s 6 (dz (s 6))) := by
  unfold f7_draw
  rw [q_ldE 6 z_6 (by omega) (by omega), q_stE 6 z_6 (by omega) (by omega), q_ldE 6 z_6 (by omega) (by omega), pk_us]
  rfl
theorem k_draws (z : Int32) : f1_draws z = some (dr (dz z), dz z) := by
  unfold f1_draws
  rw [q_ltP]
  rfl
/-- the way that is gone, once the draw is made -/
theorem way_both {s kinds writers minutes matters undoers scores sizes cells : Nat → Int32} (I : IV s) (R : RA s kinds writers minutes matters undoers scores sizes cells) {lengths codes nW nO named pile ub nc stack : Nat → Int32} (X : RXA s lengths codes) {n w : Nat} {nm v : Int32} (hn : 4100 ≤ n) (hw : w ≤ 5) (hd : dn s < 60) : ∃ nm' s' nW' nO' named' pile' ub' kinds2 writers2 minutes2 matters2 undoers2 scores2 sizes2 cells2 nc' stack', (if v = 1 then (q_c (f7_page s) fun t110 => if 20 ≤ t110 then f7_lives_136 n (nI w) v nm s nW nO named pile ub else q_c (f7_page s) fun t122 => q_c8 (f7_writes n 1 (nI w) t122 (nI w + 1) nm s nW nO named pile ub) fun t128 a b c d e f g => f7_lives_207 n a b c d e f g) else f7_lives_136 n (nI w) v nm s nW nO named pile ub) = some (nm', s', nW', nO', named', pile', ub') ∧ (q_c10 (f1_goesWay n (nI w) v (s 0) (nI (dn s)) kinds writers minutes matters undoers scores sizes cells) fun t105 d k w m t u c z l => f1_livesAs_112 n (s 0) (s 2) (s 3) codes lengths t105 (s 6) d k w m t u c z l nc stack) = some (s' 6, nI (dn s'), kinds2, writers2, minutes2, matters2, undoers2, scores2, sizes2, cells2, nc', stack') ∧ OK s s' lengths codes kinds2 writers2 minutes2 matters2 undoers2 scores2 sizes2 cells2 := by
  have same : OK s s lengths codes kinds writers minutes matters undoers scores sizes cells := ⟨I, R, X, FR.refl s⟩
  have zd := I.sizeB (Nat.le_refl (dn s))
  have nn : ∀ (p q : Nat → Int32), f1_livesAs_112 n (s 0) (s 2) (s 3) codes lengths (-1) (s 6) (nI (dn s)) kinds writers minutes matters undoers scores sizes cells p q = some (s 6, nI (dn s), kinds, writers, minutes, matters, undoers, scores, sizes, cells, p, q) := by
    intro p q
    rw [f1_livesAs_112, if_pos (by decide), f1_livesAs_125]
  have pos : ¬ nI (dn s) < 0 := nI_pos (by omega)
  unfold f1_goesWay
  rw [k_pageSize I R, r_page I, I.size (Nat.le_refl _), q_c_some, q_c_some, q_c_some]
  by_cases v1 : v = 1
  · rw [if_pos v1, if_pos v1]
    by_cases h20 : 20 ≤ nv s (310 + dn s)
    · rw [if_pos (show (20 : Int32) ≤ nI (nv s (310 + dn s)) from nI_le (a := 20) h20 (by omega)), if_pos (show (20 : Int32) ≤ nI (nv s (310 + dn s)) from nI_le (a := 20) h20 (by omega)), f7_lives_136, v1, if_neg (by decide), f7_lives_164, if_neg (by decide), f7_lives_194, if_neg (by decide), f1_goesWay_64, q_c10_some, nn]
      exact ⟨_, _, _, _, _, _, _, _, _, _, _, _, _, _, _, _, _, rfl, rfl, same⟩
    rw [if_neg (show ¬ (20 : Int32) ≤ nI (nv s (310 + dn s)) from nI_ge (b := 20) (by omega) (by omega)), if_neg (show ¬ (20 : Int32) ≤ nI (nv s (310 + dn s)) from nI_ge (b := 20) (by omega) (by omega))]
    obtain ⟨s1, kinds3, writers3, minutes3, matters3, undoers3, scores3, sizes3, cells3, nm2, s2, nW2, nO2, named2, pile2, ub2, kinds2, writers2, minutes2, matters2, undoers2, scores2, sizes2, cells2, nc2, stack2, g1, g2, g3, O⟩ := do_put (nW := nW) (nO := nO) (named := named) (pile := pile) (ub := ub) (nc := nc) (stack := stack) (nm := nm) I R X (w := w) (p := nv s (310 + dn s)) (x := w + 1) (k := 1) hd hn (by omega) (by omega) (Nat.le_refl _) (by omega) (by omega) (by omega)
    rw [nI_1, show f7_writes n 1 (nI w) (nI (nv s (310 + dn s))) (nI (w + 1)) nm s nW nO named pile ub = _ from g1, q_c8_some, f7_lives_207]
    rw [show (100 : Int32) * nI w + nI (nv s (310 + dn s)) = nI (w * 100 + nv s (310 + dn s)) from by rw [show (100 : Int32) = nI 100 from by decide, pk_mul, nI_add, Nat.mul_comm]]
    rw [show f1_puts n 1 (nI (w * 100 + nv s (310 + dn s))) (nI (w + 1)) (s 0) (nI (dn s)) kinds writers minutes matters undoers scores sizes cells = _ from g2, q_c10_some, f1_goesWay_64, q_c10_some, f1_livesAs_112, if_neg pos, g3, q_c11_some, f1_livesAs_125, ← O.2.2.2 6 (by omega)]
    exact ⟨_, _, _, _, _, _, _, _, _, _, _, _, _, _, _, _, _, rfl, rfl, O⟩
  rw [if_neg v1, if_neg v1, f7_lives_136]
  by_cases v2 : v = 2
  · rw [if_pos v2, if_pos v2, r_page I, I.size (Nat.le_refl _), q_c_some, q_c_some]
    by_cases h0 : nv s (310 + dn s) = 0
    · rw [h0, if_pos (by decide), if_pos (by decide), f7_lives_164, v2, if_neg (by decide), f7_lives_194, if_neg (by decide), f1_goesWay_81, q_c10_some, nn]
      exact ⟨_, _, _, _, _, _, _, _, _, _, _, _, _, _, _, _, _, rfl, rfl, same⟩
    rw [if_neg (nI_nle (by omega) (by omega)), if_neg (nI_nle (by omega) (by omega))]
    obtain ⟨p, hp⟩ : ∃ p, nv s (310 + dn s) = p + 1 := ⟨nv s (310 + dn s) - 1, by omega⟩
    obtain ⟨s1, kinds3, writers3, minutes3, matters3, undoers3, scores3, sizes3, cells3, nm2, s2, nW2, nO2, named2, pile2, ub2, kinds2, writers2, minutes2, matters2, undoers2, scores2, sizes2, cells2, nc2, stack2, g1, g2, g3, O⟩ := do_take (nW := nW) (nO := nO) (named := named) (pile := pile) (ub := ub) (nc := nc) (stack := stack) (nm := nm) I R X (w := w) (p := p) hd hn (by omega) (by omega)
    rw [hp, nI_pred, g1, q_c8_some, f7_lives_207, g2, q_c10_some, f1_goesWay_81, q_c10_some, f1_livesAs_112, if_neg pos, g3, q_c11_some, f1_livesAs_125, ← O.2.2.2 6 (by omega)]
    exact ⟨_, _, _, _, _, _, _, _, _, _, _, _, _, _, _, _, _, rfl, rfl, O⟩
  rw [if_neg v2, if_neg v2, f7_lives_164]
  by_cases v3 : v = 3
  · obtain ⟨l1, l2⟩ := lat_both I R hn (nI w)
    rw [if_pos v3, if_pos v3, l1, l2, q_c_some, q_c_some, q_c_some]
    rcases lt_range s (nI w) (dn s) with h | ⟨a, ha, h⟩
    · rw [h, if_pos (by decide), if_pos (by decide), f7_lives_194, v3, if_neg (by decide), f1_goesWay_113, q_c10_some, nn]
      exact ⟨_, _, _, _, _, _, _, _, _, _, _, _, _, _, _, _, _, rfl, rfl, same⟩
    obtain ⟨s1, kinds3, writers3, minutes3, matters3, undoers3, scores3, sizes3, cells3, nm2, s2, nW2, nO2, named2, pile2, ub2, kinds2, writers2, minutes2, matters2, undoers2, scores2, sizes2, cells2, nc2, stack2, g1, g2, g3, O⟩ := do_back (nW := nW) (nO := nO) (named := named) (pile := pile) (ub := ub) (nc := nc) (stack := stack) (nm := nm) I R X (w := w) (v := a + 1) hd hn (by omega) (by omega)
    rw [h, if_neg (nI_pos (by omega)), if_neg (nI_pos (by omega)), nI_1, g1, q_c8_some, f7_lives_207, show f1_putsBack n 2 (nI w) (nI (a + 1)) 20 (s 0) (nI (dn s)) kinds writers minutes matters undoers scores sizes cells = _ from g2, q_c10_some, f1_goesWay_113, q_c10_some, f1_livesAs_112, if_neg pos, g3, q_c11_some, f1_livesAs_125, ← O.2.2.2 6 (by omega)]
    exact ⟨_, _, _, _, _, _, _, _, _, _, _, _, _, _, _, _, _, rfl, rfl, O⟩
  rw [if_neg v3, if_neg v3, f7_lives_194]
  by_cases v4 : v = 4
  · obtain ⟨s1, kinds3, writers3, minutes3, matters3, undoers3, scores3, sizes3, cells3, nm2, s2, nW2, nO2, named2, pile2, ub2, kinds2, writers2, minutes2, matters2, undoers2, scores2, sizes2, cells2, nc2, stack2, g1, g2, g3, O⟩ := do_back (nW := nW) (nO := nO) (named := named) (pile := pile) (ub := ub) (nc := nc) (stack := stack) (nm := nm) I R X (w := w) (v := 0) hd hn (by omega) (by omega)
    rw [if_pos v4, if_pos v4, show f7_goesBack n (nI w) 0 nm s nW nO named pile ub = _ from g1, q_c8_some, f7_lives_207, show f1_putsBack n 2 (nI w) 0 20 (s 0) (nI (dn s)) kinds writers minutes matters undoers scores sizes cells = _ from g2, q_c10_some, q_c10_some, f1_livesAs_112, if_neg pos, g3, q_c11_some, f1_livesAs_125, ← O.2.2.2 6 (by omega)]
    exact ⟨_, _, _, _, _, _, _, _, _, _, _, _, _, _, _, _, _, rfl, rfl, O⟩
  rw [if_neg v4, if_neg v4, f7_lives_207, q_c10_some, nn]
  exact ⟨_, _, _, _, _, _, _, _, _, _, _, _, _, _, _, _, _, rfl, rfl, same⟩
theorem lives_both {s kinds writers minutes matters undoers scores sizes cells : Nat → Int32} (I : IV s) (R : RA s kinds writers minutes matters undoers scores sizes cells) {lengths codes nW nO named pile ub nc stack : Nat → Int32} (X : RXA s lengths codes) {n w : Nat} {nm : Int32} (hn : 4100 ≤ n) (hw : w ≤ 5) : (f7_hasText (nI (2 + w)) s = some (nI 0) ∧ f1_livesAs n (nI w) (s 0) (s 2) (s 3) (s 6) (nI (dn s)) kinds writers minutes matters undoers scores sizes cells codes lengths nc stack = some (s 6, nI (dn s), kinds, writers, minutes, matters, undoers, scores, sizes, cells, nc, stack)) ∨ (f7_hasText (nI (2 + w)) s = some (nI 1) ∧ ∃ t nm' s' nW' nO' named' pile' ub' kinds2 writers2 minutes2 matters2 undoers2 scores2 sizes2 cells2 nc' stack', f7_lives n (nI w) nm s nW nO named pile ub = some (nm', s', nW', nO', named', pile', ub') ∧ f1_livesAs n (nI w) (s 0) (s 2) (s 3) (s 6) (nI (dn s)) kinds writers minutes matters undoers scores sizes cells codes lengths nc stack = some (s' 6, nI (dn s'), kinds2, writers2, minutes2, matters2, undoers2, scores2, sizes2, cells2, nc', stack') ∧ OK t s' lengths codes kinds2 writers2 minutes2 matters2 undoers2 scores2 sizes2 cells2 ∧ ∀ j, j ≠ 6 → t j = s j) := by
  have e2 : (2 : Int32) + nI w = nI (2 + w) := by rw [show (2 : Int32) = nI 2 from by decide, nI_add]
  rcases has_cases X (u := 2 + w) (by omega) with ⟨h1, h2, h3⟩ | ⟨h1, h2, h3⟩
  rotate_left
  · refine Or.inl ⟨h1, ?_⟩
    rw [f1_livesAs, e2, h2, q_c_some, if_pos i0]
  refine Or.inr ⟨h1, ?_⟩
  let t := upd s 6 (dz (s 6))
  have tj : ∀ j, j ≠ 6 → t j = s j := fun j h => pk_un h
  have t6 : t 6 = dz (s 6) := pk_us
  have dt : dn t = dn s := nv_congr (tj 1 (by omega))
  have It : IV t := IV_same I (tj 1 (by omega)) (fun j _ _ => tj j (by omega)) (tj 0 (by omega)) (isN_congr (tj 2 (by omega)) I.1.2.2.1) (isN_congr (tj 4 (by omega)) I.1.2.2.2.1) (isN_congr (tj 5 (by omega)) I.1.2.2.2.2)
  have Rt := RA_congr I R (tj 1 (by omega)) (fun j _ _ => tj j (by omega))
  have Xt := RXA_row (fun j _ _ => tj j (by omega)) X
  have same : OK t t lengths codes kinds writers minutes matters undoers scores sizes cells := ⟨It, Rt, Xt, FR.refl t⟩
  have L3 : 0 < nv t (2890 + 125 * (2 + w)) := by rw [nv_congr (tj _ (by omega))]; exact h3
  have nn : ∀ (p q : Nat → Int32), f1_livesAs_112 n (t 0) (t 2) (t 3) codes lengths (-1) (t 6) (nI (dn t)) kinds writers minutes matters undoers scores sizes cells p q = some (t 6, nI (dn t), kinds, writers, minutes, matters, undoers, scores, sizes, cells, p, q) := by
    intro p q
    rw [f1_livesAs_112, if_pos (by decide), f1_livesAs_125]
  rw [f1_livesAs, e2, h2, q_c_some, if_neg i1, k_draws, q_c2_some, q_dv100, q_ltP, ← tj 0 (by omega), ← tj 2 (by omega), ← tj 3 (by omega), ← dt, ← t6, k_hasRoom It, q_c_some]
  unfold f7_lives
  rw [r_draw, q_c2_some, show upd s 6 (dz (s 6)) = t from rfl, ← t6, q_dv100, q_ltP, r_page It, q_c_some, q_stE 108 z_108 (by omega) (by omega), q_ldE 0 z_0 (by omega) (by omega), show ∀ (K : Option (Int32 × (Nat → Int32) × (Nat → Int32) × (Nat → Int32) × (Nat → Int32) × (Nat → Int32) × (Nat → Int32))), q_dv 1440 K = K from fun K => by unfold q_dv; rw [if_neg (by decide)], q_stE 109 z_109 (by omega) (by omega), r_backsOf It hn, q_c_some, q_stE 98 z_98 (by omega) (by omega), r_wordsOf It hn, q_c_some, q_stE 111 z_111 (by omega) (by omega), q_stE 114 z_114 (by omega) (by omega), e2]
  generalize hx2 : dr (t 6) - dr (t 6) / 100 * 100 = x2
  generalize hnm : upd (upd (upd (upd (upd named 108 (t (310 + dn t))) 109 (t 0 - t 0 / 1440 * 1440)) 98 (cBack t (nI w))) 111 (cWBy t (nI w) (dn t))) 114 x2 = named1
  obtain ⟨nc1, n1, c0, c1, c2, c3, c4⟩ := k_names (t (310 + dn t)) (t 0 - t 0 / 1440 * 1440) (cBack t (nI w)) (cWBy t (nI w) (dn t)) x2 nc
  have nu : nuse (2 + w) = 2 := by unfold nuse; rw [if_neg (by omega), if_neg (by omega)]
  obtain ⟨v, p1, p2, k1, k2⟩ := worked_eq (pile := pile) (stack := stack) (nm := named1) (nc := nc1) (n := n) (Xt (2 + w) (by omega)) (by omega) (by rw [nu]; exact five (by rw [c0, ← hnm]; simp [upd, nb]) (by rw [c1, ← hnm]; simp [upd, nb]) (by rw [c2, ← hnm]; simp [upd, nb]) (by rw [c3, ← hnm]; simp [upd, nb]) (by rw [c4, ← hnm]; simp [upd, nb])) L3 hn
  rw [k1, q_c2_some, r_isFull It, q_c_some]
  by_cases h60 : dn t = 60
  · rw [if_pos h60, if_pos h60, if_neg i1, if_pos i0]
    have e : (q_c (f7_in v 1 4) fun t79 => if t79 = 0 then f7_lives_100 n nm t nW nO named1 p1 ub else f7_lives_100 n nm t nW nO named1 p1 ub) = some (nm, t, nW, nO, named1, p1, ub) := by
      rw [r_in, q_c_some, ite_self, f7_lives_100]
    rw [e]
    exact ⟨t, _, _, _, _, _, _, _, _, _, _, _, _, _, _, _, _, _, rfl, rfl, same, tj⟩
  have hdt : dn t < 60 := by have := It.doneB; omega
  rw [if_neg h60, if_neg h60, if_neg i1, if_pos i0, k_pageSize It Rt, q_c_some, show ∀ (K : Option (Int32 × Int32 × (Nat → Int32) × (Nat → Int32) × (Nat → Int32) × (Nat → Int32) × (Nat → Int32) × (Nat → Int32) × (Nat → Int32) × (Nat → Int32) × (Nat → Int32) × (Nat → Int32))), q_dv 1440 K = K from fun K => by unfold q_dv; rw [if_neg (by decide)], k_backsBy It Rt hn, q_c_some, k_wordsBy It Rt hn (Nat.le_refl _), q_c_some, n1, q_c1_some, k2, q_c2_some]
  obtain ⟨r, nm', pile', nc', stack', hr, m1, m2⟩ := may_both (nm := named1) (pile := p1) (nc := nc1) (stack := p2) It Rt Xt (w := w) hn (by omega)
  rw [m1, m2, q_c3_some, q_c3_some]
  rcases hr with rfl | rfl
  · rw [if_pos i0, if_pos i0, nn]
    by_cases hin : (1 : Int32) ≤ v ∧ v ≤ 4
    · rw [r_inY hin.1 hin.2, q_c_some, if_neg i1, f7_lives_100]
      exact ⟨t, _, _, _, _, _, _, _, _, _, _, _, _, _, _, _, _, _, rfl, rfl, same, tj⟩
    · rw [r_in, if_neg hin, q_c_some, if_pos rfl, f7_lives_100]
      exact ⟨t, _, _, _, _, _, _, _, _, _, _, _, _, _, _, _, _, _, rfl, rfl, same, tj⟩
  rw [if_neg i1, if_neg i1]
  obtain ⟨nm2, s2, nW2, nO2, named2, pile2, ub2, kinds2, writers2, minutes2, matters2, undoers2, scores2, sizes2, cells2, nc2, stack2, g1, g2, O⟩ := way_both (nW := nW) (nO := nO) (named := nm') (pile := pile') (ub := ub) (nc := nc') (stack := stack') (nm := nm) (v := v) It Rt Xt hn hw hdt
  by_cases hin : (1 : Int32) ≤ v ∧ v ≤ 4
  · rw [r_page It] at g1
    rw [r_inY hin.1 hin.2, q_c_some, if_neg i1, g1, g2]
    exact ⟨t, _, _, _, _, _, _, _, _, _, _, _, _, _, _, _, _, _, rfl, rfl, O, tj⟩
  · rw [r_in, if_neg hin, q_c_some, if_pos rfl, f7_lives_100]
    have h1 : ¬ v = 1 := fun q => hin (by rw [q]; exact ⟨by decide, by decide⟩)
    have h2 : ¬ v = 2 := fun q => hin (by rw [q]; exact ⟨by decide, by decide⟩)
    have h3 : ¬ v = 3 := fun q => hin (by rw [q]; exact ⟨by decide, by decide⟩)
    have h4 : ¬ v = 4 := fun q => hin (by rw [q]; exact ⟨by decide, by decide⟩)
    have e : f1_goesWay n (nI w) v (t 0) (nI (dn t)) kinds writers minutes matters undoers scores sizes cells = some (-1, nI (dn t), kinds, writers, minutes, matters, undoers, scores, sizes, cells) := by
      unfold f1_goesWay
      rw [k_pageSize It Rt, q_c_some, if_neg h1, if_neg h2, if_neg h3, if_neg h4]
    rw [e, q_c10_some, nn]
    exact ⟨t, _, _, _, _, _, _, _, _, _, _, _, _, _, _, _, _, _, rfl, rfl, same, tj⟩
