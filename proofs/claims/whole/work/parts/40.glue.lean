/-! ===== glue: every call over the whole book ===== -/
theorem RB_ok {s waiting worths kinds writers minutes matters undoers scores sizes cells tape codes lengths : Nat → Int32} {now shutTill shutBy z waits done taped : Int32} (B : RB s now shutTill shutBy z waits done taped waiting worths kinds writers minutes matters undoers scores sizes cells tape codes lengths) {s' kinds2 writers2 minutes2 matters2 undoers2 scores2 sizes2 cells2 : Nat → Int32} (O : OK s s' lengths codes kinds2 writers2 minutes2 matters2 undoers2 scores2 sizes2 cells2) : RB s' now shutTill shutBy z waits (nI (dn s')) taped waiting worths kinds2 writers2 minutes2 matters2 undoers2 scores2 sizes2 cells2 tape codes lengths := by
  obtain ⟨I, T, X, R, ⟨e0, e2, e3, e6, e5, e1, e4⟩, W, V⟩ := B
  obtain ⟨I', R', X', F⟩ := O
  refine ⟨I', TP_congr (F 4 (by omega)) (fun j _ _ => F j (by omega)) T, X', R', ⟨?_, ?_, ?_, ?_, ?_, rfl, ?_⟩, ?_, ?_⟩
  · rw [F 0 (by omega)]; exact e0
  · rw [F 2 (by omega)]; exact e2
  · rw [F 3 (by omega)]; exact e3
  · rw [F 6 (by omega)]; exact e6
  · rw [F 5 (by omega)]; exact e5
  · rw [F 4 (by omega)]; exact e4
  · intro i hi; rw [F _ (by omega)]; exact W i hi
  · intro w hw; rw [F _ (by omega)]; exact V w hw
theorem RB_shut {s waiting worths kinds writers minutes matters undoers scores sizes cells tape codes lengths : Nat → Int32} {now shutTill shutBy z waits done taped : Int32} (B : RB s now shutTill shutBy z waits done taped waiting worths kinds writers minutes matters undoers scores sizes cells tape codes lengths) {t s' kinds2 writers2 minutes2 matters2 undoers2 scores2 sizes2 cells2 : Nat → Int32} (O : OK t s' lengths codes kinds2 writers2 minutes2 matters2 undoers2 scores2 sizes2 cells2) (ht : ∀ j, j ≠ 2 → j ≠ 3 → t j = s j) : RB s' now (s' 2) (s' 3) z waits (nI (dn s')) taped waiting worths kinds2 writers2 minutes2 matters2 undoers2 scores2 sizes2 cells2 tape codes lengths := by
  obtain ⟨I, T, X, R, ⟨e0, e2, e3, e6, e5, e1, e4⟩, W, V⟩ := B
  obtain ⟨I', R', X', F⟩ := O
  have G : ∀ j, (j = 0 ∨ (4 ≤ j ∧ j < 10) ∨ 2820 ≤ j) → s' j = s j := fun j hj => (F j (by omega)).trans (ht j (by omega) (by omega))
  refine ⟨I', TP_congr (G 4 (by omega)) (fun j _ _ => G j (by omega)) T, X', R', ⟨?_, rfl, rfl, ?_, ?_, rfl, ?_⟩, ?_, ?_⟩
  · rw [G 0 (by omega)]; exact e0
  · rw [G 6 (by omega)]; exact e6
  · rw [G 5 (by omega)]; exact e5
  · rw [G 4 (by omega)]; exact e4
  · intro i hi; rw [G _ (by omega)]; exact W i hi
  · intro w hw; rw [G _ (by omega)]; exact V w hw
theorem RB_live {s waiting worths kinds writers minutes matters undoers scores sizes cells tape codes lengths : Nat → Int32} {now shutTill shutBy z waits done taped : Int32} (B : RB s now shutTill shutBy z waits done taped waiting worths kinds writers minutes matters undoers scores sizes cells tape codes lengths) {s' kinds2 writers2 minutes2 matters2 undoers2 scores2 sizes2 cells2 : Nat → Int32} (O : OKL s s' lengths codes kinds2 writers2 minutes2 matters2 undoers2 scores2 sizes2 cells2) : RB s' (s' 0) shutTill shutBy (s' 6) waits (nI (dn s')) taped waiting worths kinds2 writers2 minutes2 matters2 undoers2 scores2 sizes2 cells2 tape codes lengths := by
  obtain ⟨I, T, X, R, ⟨e0, e2, e3, e6, e5, e1, e4⟩, W, V⟩ := B
  obtain ⟨I', R', X', F⟩ := O
  refine ⟨I', TP_congr (F 4 (by omega)) (fun j _ _ => F j (by omega)) T, X', R', ⟨rfl, ?_, ?_, rfl, ?_, rfl, ?_⟩, ?_, ?_⟩
  · rw [F 2 (by omega)]; exact e2
  · rw [F 3 (by omega)]; exact e3
  · rw [F 5 (by omega)]; exact e5
  · rw [F 4 (by omega)]; exact e4
  · intro i hi; rw [F _ (by omega)]; exact W i hi
  · intro w hw; rw [F _ (by omega)]; exact V w hw
/-- all of the row but 0, 2, 3, 4, 5, 6 and what lies behind 2820 as it was: the acts' side of the relation stays -/
theorem RB_row {s waiting worths kinds writers minutes matters undoers scores sizes cells tape codes lengths : Nat → Int32} {now shutTill shutBy z waits done taped : Int32} (B : RB s now shutTill shutBy z waits done taped waiting worths kinds writers minutes matters undoers scores sizes cells tape codes lengths) {s' waiting' worths' tape' codes' lengths' : Nat → Int32} (h1 : s' 1 = s 1) (h : ∀ j, 10 ≤ j → j < 2820 → s' j = s j) (h0 : isN s' 0 29999) (hle : nv s 0 ≤ nv s' 0) (h2 : s' 2 = s 2) (h5 : isN s' 5 24) (T' : TP s' tape') (X' : RXA s' lengths' codes') (W' : ∀ i, i < 24 → waiting' i = s' (3950 + i)) (V' : ∀ w, w ≤ 60 → worths' w = s' (2820 + w)) : RB s' (s' 0) (s' 2) (s' 3) (s' 6) (s' 5) done (s' 4) waiting' worths' kinds writers minutes matters undoers scores sizes cells tape' codes' lengths' := by
  obtain ⟨I, T, X, R, ⟨e0, e2, e3, e6, e5, e1, e4⟩, W, V⟩ := B
  refine ⟨IV_row I h1 h h0 hle (isN_congr h2 I.1.2.2.1) T'.1 h5, T', X', RA_congr I R h1 h, ⟨rfl, rfl, rfl, rfl, rfl, ?_, rfl⟩, W', V'⟩
  rw [e1]
  exact congrArg nI (nv_congr h1).symm
theorem t_alike {s waiting worths kinds writers minutes matters undoers scores sizes cells tape codes lengths : Nat → Int32} {now shutTill shutBy z waits done taped : Int32} (B : RB s now shutTill shutBy z waits done taped waiting worths kinds writers minutes matters undoers scores sizes cells tape codes lengths) {E : Nat → Int32} {n : Nat} (hn : 4100 ≤ n) (x y : Int32) : ∃ a E', f7_alike n x y s E = some (a, E') ∧ f6_alike n x y done E sizes cells = some (a, E') := by
  obtain ⟨I, T, X, R, ⟨e0, rfl, rfl, rfl, rfl, rfl, rfl⟩, W, V⟩ := B
  subst e0
  exact p_alike I R hn x y
theorem t_best {s waiting worths kinds writers minutes matters undoers scores sizes cells tape codes lengths : Nat → Int32} {now shutTill shutBy z waits done taped : Int32} (B : RB s now shutTill shutBy z waits done taped waiting worths kinds writers minutes matters undoers scores sizes cells tape codes lengths)  {n : Nat} (hn : 4100 ≤ n)  : ∃ a, f7_best n s = some a ∧ f6_best n done worths sizes cells = some a := by
  obtain ⟨I, T, X, R, ⟨e0, rfl, rfl, rfl, rfl, rfl, rfl⟩, W, V⟩ := B
  subst e0
  exact p_best I R V hn
theorem t_got {s waiting worths kinds writers minutes matters undoers scores sizes cells tape codes lengths : Nat → Int32} {now shutTill shutBy z waits done taped : Int32} (B : RB s now shutTill shutBy z waits done taped waiting worths kinds writers minutes matters undoers scores sizes cells tape codes lengths) {E : Nat → Int32} {n : Nat} (hn : 4100 ≤ n) (x y : Int32) : ∃ a E', f7_got n x y s E = some (a, E') ∧ f6_got n x y now done E worths minutes sizes cells = some (a, E') := by
  obtain ⟨I, T, X, R, ⟨e0, rfl, rfl, rfl, rfl, rfl, rfl⟩, W, V⟩ := B
  subst e0
  have q := p_got I R (E := E) V hn x y
  rw [← I.1.1.1] at q
  exact q
theorem t_stays {s waiting worths kinds writers minutes matters undoers scores sizes cells tape codes lengths : Nat → Int32} {now shutTill shutBy z waits done taped : Int32} (B : RB s now shutTill shutBy z waits done taped waiting worths kinds writers minutes matters undoers scores sizes cells tape codes lengths) {E : Nat → Int32} {n : Nat} (hn : 4100 ≤ n) (x : Int32) : ∃ a E', f7_stays n x s E = some (a, E') ∧ f6_stays n x now done E minutes sizes cells = some (a, E') := by
  obtain ⟨I, T, X, R, ⟨e0, rfl, rfl, rfl, rfl, rfl, rfl⟩, W, V⟩ := B
  subst e0
  have q := p_stays I R (E := E) hn x
  rw [← I.1.1.1] at q
  exact q
theorem t_value {s waiting worths kinds writers minutes matters undoers scores sizes cells tape codes lengths : Nat → Int32} {now shutTill shutBy z waits done taped : Int32} (B : RB s now shutTill shutBy z waits done taped waiting worths kinds writers minutes matters undoers scores sizes cells tape codes lengths) {E : Nat → Int32} {n : Nat} (hn : 4100 ≤ n) (x : Int32) : ∃ a E', f7_value n x s E = some (a, E') ∧ f6_value n x done E worths sizes cells = some (a, E') := by
  obtain ⟨I, T, X, R, ⟨e0, rfl, rfl, rfl, rfl, rfl, rfl⟩, W, V⟩ := B
  subst e0
  exact p_value I R V hn x
theorem t_wrong {s waiting worths kinds writers minutes matters undoers scores sizes cells tape codes lengths : Nat → Int32} {now shutTill shutBy z waits done taped : Int32} (B : RB s now shutTill shutBy z waits done taped waiting worths kinds writers minutes matters undoers scores sizes cells tape codes lengths) {E : Nat → Int32} {n : Nat} (hn : 4100 ≤ n) (x y w : Int32) : ∃ a E', f7_wrong n x y w s E = some (a, E') ∧ f6_wrong n x y w now done E minutes sizes cells = some (a, E') := by
  obtain ⟨I, T, X, R, ⟨e0, rfl, rfl, rfl, rfl, rfl, rfl⟩, W, V⟩ := B
  subst e0
  have q := p_wrong I R (E := E) hn x y w
  rw [← I.1.1.1] at q
  exact q
theorem t_hand {s waiting worths kinds writers minutes matters undoers scores sizes cells tape codes lengths : Nat → Int32} {now shutTill shutBy z waits done taped : Int32} (B : RB s now shutTill shutBy z waits done taped waiting worths kinds writers minutes matters undoers scores sizes cells tape codes lengths) {E : Nat → Int32} {n : Nat} (hn : 4100 ≤ n) (x y : Int32) : ∃ a E', f7_hand n x y s E = some (a, E') ∧ f6_hand n x y done E writers minutes = some (a, E') := by
  obtain ⟨I, T, X, R, ⟨e0, rfl, rfl, rfl, rfl, rfl, rfl⟩, W, V⟩ := B
  subst e0
  exact p_hand I R hn x y
theorem t_line {s waiting worths kinds writers minutes matters undoers scores sizes cells tape codes lengths : Nat → Int32} {now shutTill shutBy z waits done taped : Int32} (B : RB s now shutTill shutBy z waits done taped waiting worths kinds writers minutes matters undoers scores sizes cells tape codes lengths) {E : Nat → Int32} {n : Nat} (hn : 4100 ≤ n) (x y w : Int32) : ∃ a E', f7_line n x y w s E = some (a, E') ∧ f6_line n x y w done E kinds scores = some (a, E') := by
  obtain ⟨I, T, X, R, ⟨e0, rfl, rfl, rfl, rfl, rfl, rfl⟩, W, V⟩ := B
  subst e0
  exact p_line I R hn x y w
theorem t_read {s waiting worths kinds writers minutes matters undoers scores sizes cells tape codes lengths : Nat → Int32} {now shutTill shutBy z waits done taped : Int32} (B : RB s now shutTill shutBy z waits done taped waiting worths kinds writers minutes matters undoers scores sizes cells tape codes lengths) {E : Nat → Int32} {n : Nat} (hn : 4100 ≤ n) (x : Int32) : ∃ a E', f7_read n x s E = some (a, E') ∧ f6_read n x now done E minutes = some (a, E') := by
  obtain ⟨I, T, X, R, ⟨e0, rfl, rfl, rfl, rfl, rfl, rfl⟩, W, V⟩ := B
  subst e0
  have q := p_read I R (E := E) hn x
  rw [← I.1.1.1] at q
  exact q
theorem t_may {s waiting worths kinds writers minutes matters undoers scores sizes cells tape codes lengths : Nat → Int32} {now shutTill shutBy z waits done taped : Int32} (B : RB s now shutTill shutBy z waits done taped waiting worths kinds writers minutes matters undoers scores sizes cells tape codes lengths) {E nm pile nc stack : Nat → Int32} {n : Nat} (hn : 4100 ≤ n) (x : Int32) : ∃ a E' nm' pile' nc' stack', f7_may n x s E nm pile = some (a, E', nm', pile') ∧ f6_may n x now shutTill shutBy done E kinds writers minutes sizes codes lengths nc stack = some (a, E', nc', stack') := by
  obtain ⟨I, T, X, R, ⟨e0, rfl, rfl, rfl, rfl, rfl, rfl⟩, W, V⟩ := B
  subst e0
  exact p_may I R X hn x
theorem t_as {s waiting worths kinds writers minutes matters undoers scores sizes cells tape codes lengths : Nat → Int32} {now shutTill shutBy z waits done taped : Int32} (B : RB s now shutTill shutBy z waits done taped waiting worths kinds writers minutes matters undoers scores sizes cells tape codes lengths) {E : Nat → Int32} {n : Nat} (hn : 4100 ≤ n) (x y : Int32) : ∃ a E', f7_as x y s E = some (a, E') ∧ f6_as n x y done E kinds writers = some (a, E') := by
  obtain ⟨I, T, X, R, ⟨e0, rfl, rfl, rfl, rfl, rfl, rfl⟩, W, V⟩ := B
  subst e0
  exact p_as I R hn x y
theorem t_origin {s waiting worths kinds writers minutes matters undoers scores sizes cells tape codes lengths : Nat → Int32} {now shutTill shutBy z waits done taped : Int32} (B : RB s now shutTill shutBy z waits done taped waiting worths kinds writers minutes matters undoers scores sizes cells tape codes lengths) {E : Nat → Int32} {n : Nat} (hn : 4100 ≤ n) (x y : Int32) : ∃ a E', f7_origin x y s E = some (a, E') ∧ f6_origin x y done E sizes cells = some (a, E') := by
  obtain ⟨I, T, X, R, ⟨e0, rfl, rfl, rfl, rfl, rfl, rfl⟩, W, V⟩ := B
  subst e0
  exact p_origin I R x y
theorem t_word {s waiting worths kinds writers minutes matters undoers scores sizes cells tape codes lengths : Nat → Int32} {now shutTill shutBy z waits done taped : Int32} (B : RB s now shutTill shutBy z waits done taped waiting worths kinds writers minutes matters undoers scores sizes cells tape codes lengths) {E : Nat → Int32} {n : Nat} (hn : 4100 ≤ n) (x y : Int32) : ∃ a E', f7_word x y s E = some (a, E') ∧ f6_word x y done E sizes cells = some (a, E') := by
  obtain ⟨I, T, X, R, ⟨e0, rfl, rfl, rfl, rfl, rfl, rfl⟩, W, V⟩ := B
  subst e0
  exact p_word I R x y
theorem t_actIs {s waiting worths kinds writers minutes matters undoers scores sizes cells tape codes lengths : Nat → Int32} {now shutTill shutBy z waits done taped : Int32} (B : RB s now shutTill shutBy z waits done taped waiting worths kinds writers minutes matters undoers scores sizes cells tape codes lengths) {E ub : Nat → Int32} {n : Nat} (hn : 4100 ≤ n) (x y : Int32) : ∃ a E' ub', f7_actIs n x y s E ub = some (a, E', ub') ∧ f6_actIs x y done E kinds writers minutes matters undoers scores = some (a, E') := by
  obtain ⟨I, T, X, R, ⟨e0, rfl, rfl, rfl, rfl, rfl, rfl⟩, W, V⟩ := B
  subst e0
  exact p_actIs I R hn x y
theorem t_war {s waiting worths kinds writers minutes matters undoers scores sizes cells tape codes lengths : Nat → Int32} {now shutTill shutBy z waits done taped : Int32} (B : RB s now shutTill shutBy z waits done taped waiting worths kinds writers minutes matters undoers scores sizes cells tape codes lengths) {E ub : Nat → Int32} {n : Nat} (hn : 4100 ≤ n) (x y : Int32) : ∃ a E' ub', f7_war n x y s E ub = some (a, E', ub') ∧ f6_war n x y done E writers undoers = some (a, E') := by
  obtain ⟨I, T, X, R, ⟨e0, rfl, rfl, rfl, rfl, rfl, rfl⟩, W, V⟩ := B
  subst e0
  exact p_war I R hn x y
theorem t_longest {s waiting worths kinds writers minutes matters undoers scores sizes cells tape codes lengths : Nat → Int32} {now shutTill shutBy z waits done taped : Int32} (B : RB s now shutTill shutBy z waits done taped waiting worths kinds writers minutes matters undoers scores sizes cells tape codes lengths) {E ub : Nat → Int32} {n : Nat} (hn : 4100 ≤ n)  : ∃ a E' ub', f7_longest n s E ub = some (a, E', ub') ∧ f6_longest n done E undoers = some (a, E') := by
  obtain ⟨I, T, X, R, ⟨e0, rfl, rfl, rfl, rfl, rfl, rfl⟩, W, V⟩ := B
  subst e0
  exact p_longest I R hn
theorem t_writerIs {s waiting worths kinds writers minutes matters undoers scores sizes cells tape codes lengths : Nat → Int32} {now shutTill shutBy z waits done taped : Int32} (B : RB s now shutTill shutBy z waits done taped waiting worths kinds writers minutes matters undoers scores sizes cells tape codes lengths) {E ub : Nat → Int32} {n : Nat} (hn : 4100 ≤ n) (x y : Int32) : ∃ a E' ub', f7_writerIs n x y s E ub = some (a, E', ub') ∧ f6_writerIs n x y now done E kinds writers minutes undoers sizes cells = some (a, E') := by
  obtain ⟨I, T, X, R, ⟨e0, rfl, rfl, rfl, rfl, rfl, rfl⟩, W, V⟩ := B
  subst e0
  exact p_writerIs I R hn x y
theorem t_from {s waiting worths kinds writers minutes matters undoers scores sizes cells tape codes lengths : Nat → Int32} {now shutTill shutBy z waits done taped : Int32} (B : RB s now shutTill shutBy z waits done taped waiting worths kinds writers minutes matters undoers scores sizes cells tape codes lengths) {E c7 c6 : Nat → Int32} {n : Nat} (hn : 4100 ≤ n) (x : Int32) : ∃ a E' c7' c6', f7_from n x s E c7 = some (a, E', c7') ∧ f6_from n x done E sizes cells c6 = some (a, E', c6') := by
  obtain ⟨I, T, X, R, ⟨e0, rfl, rfl, rfl, rfl, rfl, rfl⟩, W, V⟩ := B
  subst e0
  exact p_from I R hn x
theorem t_likeness {s waiting worths kinds writers minutes matters undoers scores sizes cells tape codes lengths : Nat → Int32} {now shutTill shutBy z waits done taped : Int32} (B : RB s now shutTill shutBy z waits done taped waiting worths kinds writers minutes matters undoers scores sizes cells tape codes lengths) {E c7 c6 : Nat → Int32} {n : Nat} (hn : 4100 ≤ n) (x y : Int32) : ∃ a E' c7' c6', f7_likeness n x y s E c7 = some (a, E', c7') ∧ f6_likeness n x y done E sizes cells c6 = some (a, E', c6') := by
  obtain ⟨I, T, X, R, ⟨e0, rfl, rfl, rfl, rfl, rfl, rfl⟩, W, V⟩ := B
  subst e0
  exact p_likeness I R hn x y
theorem t_count {s waiting worths kinds writers minutes matters undoers scores sizes cells tape codes lengths : Nat → Int32} {now shutTill shutBy z waits done taped : Int32} (B : RB s now shutTill shutBy z waits done taped waiting worths kinds writers minutes matters undoers scores sizes cells tape codes lengths) {E : Nat → Int32} {t : Nat} {n : Nat} (hn : 4100 ≤ n) (x : Int32) : ∃ a E', f7_count x (nI t) s E = some (a, E') ∧ f6_count x now shutTill z waits done taped (nI t) E sizes = some (a, E') := by
  obtain ⟨I, T, X, R, ⟨e0, rfl, rfl, rfl, rfl, rfl, rfl⟩, W, V⟩ := B
  subst e0
  exact p_count I R x
theorem t_voice {s waiting worths kinds writers minutes matters undoers scores sizes cells tape codes lengths : Nat → Int32} {now shutTill shutBy z waits done taped : Int32} (B : RB s now shutTill shutBy z waits done taped waiting worths kinds writers minutes matters undoers scores sizes cells tape codes lengths) {E tr : Nat → Int32} {t : Nat} {sp ip kd nu wr pa : Int32} (ht : t ≤ 30) {n : Nat} (hn : 4100 ≤ n) (x y w : Int32) : ∃ a E' sp' ip' kd' nu' wr' pa' t' tr', f7_voice x y w (nI t) sp ip s E tr = some (a, nI t', sp', ip', E', tr') ∧ f6_voice n x y w done kd nu wr pa (nI t) E kinds writers tr = some (a, kd', nu', wr', pa', nI t', E', tr') ∧ t' ≤ 30 := by
  obtain ⟨I, T, X, R, ⟨e0, rfl, rfl, rfl, rfl, rfl, rfl⟩, W, V⟩ := B
  subst e0
  exact p_voice I R hn ht x y w
theorem t_back {s waiting worths kinds writers minutes matters undoers scores sizes cells tape codes lengths : Nat → Int32} {now shutTill shutBy z waits done taped : Int32} (B : RB s now shutTill shutBy z waits done taped waiting worths kinds writers minutes matters undoers scores sizes cells tape codes lengths) {nW nO named pile ub nc stack E : Nat → Int32} {nm : Int32} {n : Nat} (hn : 4100 ≤ n) (x y : Int32) : ∃ a E' s' nm' nW' nO' named' pile' ub' kinds2 writers2 minutes2 matters2 undoers2 scores2 sizes2 cells2 nc' stack', f7_back n x y nm s E nW nO named pile ub = some (a, nm', s', E', nW', nO', named', pile', ub') ∧ f6_back n x y now shutTill shutBy done E kinds writers minutes matters undoers scores sizes cells codes lengths nc stack = some (a, nI (dn s'), E', kinds2, writers2, minutes2, matters2, undoers2, scores2, sizes2, cells2, nc', stack') ∧ RB s' now shutTill shutBy z waits (nI (dn s')) taped waiting worths kinds2 writers2 minutes2 matters2 undoers2 scores2 sizes2 cells2 tape codes lengths := by
  have B0 := B
  obtain ⟨I, T, X, R, ⟨rfl, rfl, rfl, rfl, rfl, rfl, rfl⟩, W, V⟩ := B
  obtain ⟨a, E', s', nm', nW', nO', named', pile', ub', kinds2, writers2, minutes2, matters2, undoers2, scores2, sizes2, cells2, nc', stack', q7, q6, O⟩ := p_back I R (nm := nm) (nW := nW) (nO := nO) (named := named) (pile := pile) (ub := ub) (nc := nc) (stack := stack) (E := E) X hn x y
  exact ⟨a, E', s', nm', nW', nO', named', pile', ub', kinds2, writers2, minutes2, matters2, undoers2, scores2, sizes2, cells2, nc', stack', q7, q6, RB_ok B0 O⟩
theorem t_half {s waiting worths kinds writers minutes matters undoers scores sizes cells tape codes lengths : Nat → Int32} {now shutTill shutBy z waits done taped : Int32} (B : RB s now shutTill shutBy z waits done taped waiting worths kinds writers minutes matters undoers scores sizes cells tape codes lengths) {nW nO named pile ub nc stack E : Nat → Int32} {nm : Int32} {n : Nat} (hn : 4100 ≤ n) (x y w : Int32) : ∃ a E' s' nm' nW' nO' named' pile' ub' kinds2 writers2 minutes2 matters2 undoers2 scores2 sizes2 cells2 nc' stack', f7_half n x y w nm s E nW nO named pile ub = some (a, nm', s', E', nW', nO', named', pile', ub') ∧ f6_half n x y w now shutTill shutBy done E kinds writers minutes matters undoers scores sizes cells codes lengths nc stack = some (a, nI (dn s'), E', kinds2, writers2, minutes2, matters2, undoers2, scores2, sizes2, cells2, nc', stack') ∧ RB s' now shutTill shutBy z waits (nI (dn s')) taped waiting worths kinds2 writers2 minutes2 matters2 undoers2 scores2 sizes2 cells2 tape codes lengths := by
  have B0 := B
  obtain ⟨I, T, X, R, ⟨rfl, rfl, rfl, rfl, rfl, rfl, rfl⟩, W, V⟩ := B
  obtain ⟨a, E', s', nm', nW', nO', named', pile', ub', kinds2, writers2, minutes2, matters2, undoers2, scores2, sizes2, cells2, nc', stack', q7, q6, O⟩ := p_half I R (nm := nm) (nW := nW) (nO := nO) (named := named) (pile := pile) (ub := ub) (nc := nc) (stack := stack) (E := E) X hn x y w
  exact ⟨a, E', s', nm', nW', nO', named', pile', ub', kinds2, writers2, minutes2, matters2, undoers2, scores2, sizes2, cells2, nc', stack', q7, q6, RB_ok B0 O⟩
theorem t_talk {s waiting worths kinds writers minutes matters undoers scores sizes cells tape codes lengths : Nat → Int32} {now shutTill shutBy z waits done taped : Int32} (B : RB s now shutTill shutBy z waits done taped waiting worths kinds writers minutes matters undoers scores sizes cells tape codes lengths) {nW nO named pile ub nc stack E : Nat → Int32} {nm : Int32} {n : Nat} (hn : 4100 ≤ n) (x y : Int32) : ∃ a E' s' nm' nW' nO' named' pile' ub' kinds2 writers2 minutes2 matters2 undoers2 scores2 sizes2 cells2 nc' stack', f7_talk n x y nm s E nW nO named pile ub = some (a, nm', s', E', nW', nO', named', pile', ub') ∧ f6_talk n x y now shutTill shutBy done E kinds writers minutes matters undoers scores sizes cells codes lengths nc stack = some (a, nI (dn s'), E', kinds2, writers2, minutes2, matters2, undoers2, scores2, sizes2, cells2, nc', stack') ∧ RB s' now shutTill shutBy z waits (nI (dn s')) taped waiting worths kinds2 writers2 minutes2 matters2 undoers2 scores2 sizes2 cells2 tape codes lengths := by
  have B0 := B
  obtain ⟨I, T, X, R, ⟨rfl, rfl, rfl, rfl, rfl, rfl, rfl⟩, W, V⟩ := B
  obtain ⟨a, E', s', nm', nW', nO', named', pile', ub', kinds2, writers2, minutes2, matters2, undoers2, scores2, sizes2, cells2, nc', stack', q7, q6, O⟩ := p_talk I R (nm := nm) (nW := nW) (nO := nO) (named := named) (pile := pile) (ub := ub) (nc := nc) (stack := stack) (E := E) X hn x y
  exact ⟨a, E', s', nm', nW', nO', named', pile', ub', kinds2, writers2, minutes2, matters2, undoers2, scores2, sizes2, cells2, nc', stack', q7, q6, RB_ok B0 O⟩
theorem t_cut {s waiting worths kinds writers minutes matters undoers scores sizes cells tape codes lengths : Nat → Int32} {now shutTill shutBy z waits done taped : Int32} (B : RB s now shutTill shutBy z waits done taped waiting worths kinds writers minutes matters undoers scores sizes cells tape codes lengths) {nW nO named pile ub nc stack E : Nat → Int32} {nm : Int32} {n : Nat} (hn : 4100 ≤ n) (x : Int32) : ∃ a E' s' nm' nW' nO' named' pile' ub' kinds2 writers2 minutes2 matters2 undoers2 scores2 sizes2 cells2 nc' stack', f7_cut n x nm s E nW nO named pile ub = some (a, nm', s', E', nW', nO', named', pile', ub') ∧ f6_cut n x now shutTill shutBy done E kinds writers minutes matters undoers scores sizes cells codes lengths nc stack = some (a, nI (dn s'), E', kinds2, writers2, minutes2, matters2, undoers2, scores2, sizes2, cells2, nc', stack') ∧ RB s' now shutTill shutBy z waits (nI (dn s')) taped waiting worths kinds2 writers2 minutes2 matters2 undoers2 scores2 sizes2 cells2 tape codes lengths := by
  have B0 := B
  obtain ⟨I, T, X, R, ⟨rfl, rfl, rfl, rfl, rfl, rfl, rfl⟩, W, V⟩ := B
  obtain ⟨a, E', s', nm', nW', nO', named', pile', ub', kinds2, writers2, minutes2, matters2, undoers2, scores2, sizes2, cells2, nc', stack', q7, q6, O⟩ := p_cut I R (nm := nm) (nW := nW) (nO := nO) (named := named) (pile := pile) (ub := ub) (nc := nc) (stack := stack) (E := E) X hn x
  exact ⟨a, E', s', nm', nW', nO', named', pile', ub', kinds2, writers2, minutes2, matters2, undoers2, scores2, sizes2, cells2, nc', stack', q7, q6, RB_ok B0 O⟩
theorem t_write {s waiting worths kinds writers minutes matters undoers scores sizes cells tape codes lengths : Nat → Int32} {now shutTill shutBy z waits done taped : Int32} (B : RB s now shutTill shutBy z waits done taped waiting worths kinds writers minutes matters undoers scores sizes cells tape codes lengths) {nW nO named pile ub nc stack E : Nat → Int32} {nm : Int32} {n : Nat} (hn : 4100 ≤ n) (x y w : Int32) : ∃ a E' s' nm' nW' nO' named' pile' ub' kinds2 writers2 minutes2 matters2 undoers2 scores2 sizes2 cells2 nc' stack', f7_write n x y w nm s E nW nO named pile ub = some (a, nm', s', E', nW', nO', named', pile', ub') ∧ f6_write n x y w now shutTill shutBy done E kinds writers minutes matters undoers scores sizes cells codes lengths nc stack = some (a, nI (dn s'), E', kinds2, writers2, minutes2, matters2, undoers2, scores2, sizes2, cells2, nc', stack') ∧ RB s' now shutTill shutBy z waits (nI (dn s')) taped waiting worths kinds2 writers2 minutes2 matters2 undoers2 scores2 sizes2 cells2 tape codes lengths := by
  have B0 := B
  obtain ⟨I, T, X, R, ⟨rfl, rfl, rfl, rfl, rfl, rfl, rfl⟩, W, V⟩ := B
  obtain ⟨a, E', s', nm', nW', nO', named', pile', ub', kinds2, writers2, minutes2, matters2, undoers2, scores2, sizes2, cells2, nc', stack', q7, q6, O⟩ := p_write I R (nm := nm) (nW := nW) (nO := nO) (named := named) (pile := pile) (ub := ub) (nc := nc) (stack := stack) (E := E) X hn x y w
  exact ⟨a, E', s', nm', nW', nO', named', pile', ub', kinds2, writers2, minutes2, matters2, undoers2, scores2, sizes2, cells2, nc', stack', q7, q6, RB_ok B0 O⟩
theorem t_words {s waiting worths kinds writers minutes matters undoers scores sizes cells tape codes lengths : Nat → Int32} {now shutTill shutBy z waits done taped : Int32} (B : RB s now shutTill shutBy z waits done taped waiting worths kinds writers minutes matters undoers scores sizes cells tape codes lengths) {nW nO named pile ub nc stack E : Nat → Int32} {nm : Int32} {bits hsz num hnum : Nat → Int32} (H : SH bits hsz num hnum) {n : Nat} (hn : 4100 ≤ n) (x y : Int32) : ∃ a E' s' nm' nW' nO' named' pile' ub' kinds2 writers2 minutes2 matters2 undoers2 scores2 sizes2 cells2 nc' stack', f7_words n x y nm s E nW nO named pile ub bits hsz num = some (a, nm', s', E', nW', nO', named', pile', ub') ∧ f6_words n x y now shutTill shutBy done E kinds writers minutes matters undoers scores sizes cells codes lengths nc stack bits hsz hnum = some (a, nI (dn s'), E', kinds2, writers2, minutes2, matters2, undoers2, scores2, sizes2, cells2, nc', stack') ∧ RB s' now shutTill shutBy z waits (nI (dn s')) taped waiting worths kinds2 writers2 minutes2 matters2 undoers2 scores2 sizes2 cells2 tape codes lengths := by
  have B0 := B
  obtain ⟨I, T, X, R, ⟨rfl, rfl, rfl, rfl, rfl, rfl, rfl⟩, W, V⟩ := B
  obtain ⟨a, E', s', nm', nW', nO', named', pile', ub', kinds2, writers2, minutes2, matters2, undoers2, scores2, sizes2, cells2, nc', stack', q7, q6, O⟩ := p_words I R (nm := nm) (nW := nW) (nO := nO) (named := named) (pile := pile) (ub := ub) (nc := nc) (stack := stack) (E := E) X hn H x y
  exact ⟨a, E', s', nm', nW', nO', named', pile', ub', kinds2, writers2, minutes2, matters2, undoers2, scores2, sizes2, cells2, nc', stack', q7, q6, RB_ok B0 O⟩
theorem t_shut {s waiting worths kinds writers minutes matters undoers scores sizes cells tape codes lengths : Nat → Int32} {now shutTill shutBy z waits done taped : Int32} (B : RB s now shutTill shutBy z waits done taped waiting worths kinds writers minutes matters undoers scores sizes cells tape codes lengths) {nW nO named pile ub nc stack E : Nat → Int32} {nm : Int32} {n : Nat} (hn : 4100 ≤ n) (x y : Int32) : ∃ a E' s' nm' nW' nO' named' pile' ub' kinds2 writers2 minutes2 matters2 undoers2 scores2 sizes2 cells2 nc' stack', f7_shut n x y nm s E nW nO named pile ub = some (a, nm', s', E', nW', nO', named', pile', ub') ∧ f6_shut n x y now shutTill shutBy done E kinds writers minutes matters undoers scores sizes cells codes lengths nc stack = some (a, fun k => ([s' 2, s' 3, nI (dn s')] : List Int32).getD k 0, fun k => ([E', kinds2, writers2, minutes2, matters2, undoers2, scores2, sizes2, cells2, nc', stack'] : List (Nat → Int32)).getD k (fun _ => 0)) ∧ RB s' now (s' 2) (s' 3) z waits (nI (dn s')) taped waiting worths kinds2 writers2 minutes2 matters2 undoers2 scores2 sizes2 cells2 tape codes lengths := by
  have B0 := B
  obtain ⟨I, T, X, R, ⟨rfl, rfl, rfl, rfl, rfl, rfl, rfl⟩, W, V⟩ := B
  obtain ⟨a, E', t, s', nm', nW', nO', named', pile', ub', kinds2, writers2, minutes2, matters2, undoers2, scores2, sizes2, cells2, nc', stack', q7, q6, O, ht⟩ := p_shut I R (nm := nm) (nW := nW) (nO := nO) (named := named) (pile := pile) (ub := ub) (nc := nc) (stack := stack) (E := E) X hn x y
  exact ⟨a, E', s', nm', nW', nO', named', pile', ub', kinds2, writers2, minutes2, matters2, undoers2, scores2, sizes2, cells2, nc', stack', q7, q6, RB_shut B0 O ht⟩
theorem t_live {s waiting worths kinds writers minutes matters undoers scores sizes cells tape codes lengths : Nat → Int32} {now shutTill shutBy z waits done taped : Int32} (B : RB s now shutTill shutBy z waits done taped waiting worths kinds writers minutes matters undoers scores sizes cells tape codes lengths) {nW nO named pile ub nc stack E : Nat → Int32} {nm : Int32} {n : Nat} (hn : 4100 ≤ n) (x : Int32) : ∃ a E' s' nm' nW' nO' named' pile' ub' kinds2 writers2 minutes2 matters2 undoers2 scores2 sizes2 cells2 nc' stack', f7_live n x nm s E nW nO named pile ub = some (a, nm', s', E', nW', nO', named', pile', ub') ∧ f6_live n x now shutTill shutBy z done E kinds writers minutes matters undoers scores sizes cells codes lengths nc stack = some (a, fun k => ([s' 0, s' 6, nI (dn s')] : List Int32).getD k 0, fun k => ([E', kinds2, writers2, minutes2, matters2, undoers2, scores2, sizes2, cells2, nc', stack'] : List (Nat → Int32)).getD k (fun _ => 0)) ∧ RB s' (s' 0) shutTill shutBy (s' 6) waits (nI (dn s')) taped waiting worths kinds2 writers2 minutes2 matters2 undoers2 scores2 sizes2 cells2 tape codes lengths := by
  have B0 := B
  obtain ⟨I, T, X, R, ⟨rfl, rfl, rfl, rfl, rfl, rfl, rfl⟩, W, V⟩ := B
  obtain ⟨a, E', s', nm', nW', nO', named', pile', ub', kinds2, writers2, minutes2, matters2, undoers2, scores2, sizes2, cells2, nc', stack', q7, q6, O⟩ := p_live I R (nm := nm) (nW := nW) (nO := nO) (named := named) (pile := pile) (ub := ub) (nc := nc) (stack := stack) (E := E) X hn x
  exact ⟨a, E', s', nm', nW', nO', named', pile', ub', kinds2, writers2, minutes2, matters2, undoers2, scores2, sizes2, cells2, nc', stack', q7, q6, RB_live B0 O⟩
theorem t_go {s waiting worths kinds writers minutes matters undoers scores sizes cells tape codes lengths : Nat → Int32} {now shutTill shutBy z waits done taped : Int32} (B : RB s now shutTill shutBy z waits done taped waiting worths kinds writers minutes matters undoers scores sizes cells tape codes lengths) {E : Nat → Int32} {n : Nat} (hn : 4100 ≤ n) (x : Int32) : ∃ a E' s', f7_go x s E = some (a, s', E') ∧ f6_go x now E = some (a, s' 0, E') ∧ RB s' (s' 0) shutTill shutBy z waits done taped waiting worths kinds writers minutes matters undoers scores sizes cells tape codes lengths := by
  have B0 := B
  obtain ⟨I, T, X, R, ⟨rfl, rfl, rfl, rfl, rfl, rfl, rfl⟩, W, V⟩ := B
  obtain ⟨a, E', s', q7, q6, h0, hle, F⟩ := p_go I (E := E) x
  have q := RB_row B0 (s' := s') (waiting' := waiting) (worths' := worths) (F 1 (by omega)) (fun j _ _ => F j (by omega)) (h0) hle (F 2 (by omega)) (isN_congr (F 5 (by omega)) I.1.2.2.2.2) (TP_congr (F 4 (by omega)) (fun j _ _ => F j (by omega)) T) (RXA_row (fun j _ _ => F j (by omega)) X) (fun i hi => by rw [F _ (by omega)]; exact W i hi) (fun w hw => by rw [F _ (by omega)]; exact V w hw)
  rw [F 2 (by omega), F 3 (by omega), F 6 (by omega), F 5 (by omega), F 4 (by omega)] at q
  exact ⟨a, E', s', q7, q6, q⟩
theorem t_seed {s waiting worths kinds writers minutes matters undoers scores sizes cells tape codes lengths : Nat → Int32} {now shutTill shutBy z waits done taped : Int32} (B : RB s now shutTill shutBy z waits done taped waiting worths kinds writers minutes matters undoers scores sizes cells tape codes lengths)  {n : Nat} (hn : 4100 ≤ n) (x : Int32) : ∃ a s', f7_seed x s = some (a, s') ∧ f6_seed x z = some (a, s' 6) ∧ RB s' now shutTill shutBy (s' 6) waits done taped waiting worths kinds writers minutes matters undoers scores sizes cells tape codes lengths := by
  have B0 := B
  obtain ⟨I, T, X, R, ⟨rfl, rfl, rfl, rfl, rfl, rfl, rfl⟩, W, V⟩ := B
  obtain ⟨a, s', q7, q6, F⟩ := p_seed (s := s) x
  have q := RB_row B0 (s' := s') (waiting' := waiting) (worths' := worths) (F 1 (by omega)) (fun j _ _ => F j (by omega)) (isN_congr (F 0 (by omega)) I.1.1) (by rw [nv_congr (F 0 (by omega))]; exact Nat.le_refl _) (F 2 (by omega)) (isN_congr (F 5 (by omega)) I.1.2.2.2.2) (TP_congr (F 4 (by omega)) (fun j _ _ => F j (by omega)) T) (RXA_row (fun j _ _ => F j (by omega)) X) (fun i hi => by rw [F _ (by omega)]; exact W i hi) (fun w hw => by rw [F _ (by omega)]; exact V w hw)
  rw [F 0 (by omega), F 2 (by omega), F 3 (by omega), F 5 (by omega), F 4 (by omega)] at q
  exact ⟨a, s', q7, q6, q⟩
theorem t_feed {s waiting worths kinds writers minutes matters undoers scores sizes cells tape codes lengths : Nat → Int32} {now shutTill shutBy z waits done taped : Int32} (B : RB s now shutTill shutBy z waits done taped waiting worths kinds writers minutes matters undoers scores sizes cells tape codes lengths) {E : Nat → Int32} {n : Nat} (hn : 4100 ≤ n) (x : Int64) (y : Int32) : ∃ a E' s' tape', f7_feed n x y s E = some (a, s', E') ∧ f6_feed n x y taped E tape = some (a, s' 4, E', tape') ∧ RB s' now shutTill shutBy z waits done (s' 4) waiting worths kinds writers minutes matters undoers scores sizes cells tape' codes lengths := by
  have B0 := B
  obtain ⟨I, T, X, R, ⟨rfl, rfl, rfl, rfl, rfl, rfl, rfl⟩, W, V⟩ := B
  obtain ⟨a, E', s', tape', q7, q6, T', F⟩ := p_feed T (E := E) hn x y
  have q := RB_row B0 (s' := s') (waiting' := waiting) (worths' := worths) (F 1 (by omega) (by omega)) (fun j _ _ => F j (by omega) (by omega)) (isN_congr (F 0 (by omega) (by omega)) I.1.1) (by rw [nv_congr (F 0 (by omega) (by omega))]; exact Nat.le_refl _) (F 2 (by omega) (by omega)) (isN_congr (F 5 (by omega) (by omega)) I.1.2.2.2.2) T' (RXA_row (fun j _ _ => F j (by omega) (by omega)) X) (fun i hi => by rw [F _ (by omega) (by omega)]; exact W i hi) (fun w hw => by rw [F _ (by omega) (by omega)]; exact V w hw)
  rw [F 0 (by omega) (by omega), F 2 (by omega) (by omega), F 3 (by omega) (by omega), F 6 (by omega) (by omega), F 5 (by omega) (by omega)] at q
  exact ⟨a, E', s', tape', q7, q6, q⟩
theorem t_untell {s waiting worths kinds writers minutes matters undoers scores sizes cells tape codes lengths : Nat → Int32} {now shutTill shutBy z waits done taped : Int32} (B : RB s now shutTill shutBy z waits done taped waiting worths kinds writers minutes matters undoers scores sizes cells tape codes lengths) {E : Nat → Int32} {n : Nat} (hn : 4100 ≤ n) (x : Int32) : ∃ a E' s' lengths', f7_untell x s E = some (a, s', E') ∧ f6_untell x E lengths = some (a, E', lengths') ∧ RB s' now shutTill shutBy z waits done taped waiting worths kinds writers minutes matters undoers scores sizes cells tape codes lengths' := by
  have B0 := B
  obtain ⟨I, T, X, R, ⟨rfl, rfl, rfl, rfl, rfl, rfl, rfl⟩, W, V⟩ := B
  obtain ⟨a, E', s', lengths', q7, q6, X', F⟩ := p_untell X (E := E) x
  have q := RB_row B0 (s' := s') (waiting' := waiting) (worths' := worths) (F 1 (by omega)) (fun j _ _ => F j (by omega)) (isN_congr (F 0 (by omega)) I.1.1) (by rw [nv_congr (F 0 (by omega))]; exact Nat.le_refl _) (F 2 (by omega)) (isN_congr (F 5 (by omega)) I.1.2.2.2.2) (TP_congr (F 4 (by omega)) (fun j _ _ => F j (by omega)) T) X' (fun i hi => by rw [F _ (by omega)]; exact W i hi) (fun w hw => by rw [F _ (by omega)]; exact V w hw)
  rw [F 0 (by omega), F 2 (by omega), F 3 (by omega), F 6 (by omega), F 5 (by omega), F 4 (by omega)] at q
  exact ⟨a, E', s', lengths', q7, q6, q⟩
theorem t_tell {s waiting worths kinds writers minutes matters undoers scores sizes cells tape codes lengths : Nat → Int32} {now shutTill shutBy z waits done taped : Int32} (B : RB s now shutTill shutBy z waits done taped waiting worths kinds writers minutes matters undoers scores sizes cells tape codes lengths) {E : Nat → Int32} {n : Nat} (hn : 4100 ≤ n) (x : Int32) : ∃ a E' s' waiting', f7_tell x s E = some (a, s', E') ∧ f6_tell x waits E waiting = some (a, s' 5, E', waiting') ∧ RB s' now shutTill shutBy z (s' 5) done taped waiting' worths kinds writers minutes matters undoers scores sizes cells tape codes lengths := by
  have B0 := B
  obtain ⟨I, T, X, R, ⟨rfl, rfl, rfl, rfl, rfl, rfl, rfl⟩, W, V⟩ := B
  obtain ⟨a, E', s', waiting', q7, q6, W', h5, F⟩ := p_tell I (E := E) W x
  have q := RB_row B0 (s' := s') (worths' := worths) (F 1 (by omega) (by omega)) (fun j _ _ => F j (by omega) (by omega)) (isN_congr (F 0 (by omega) (by omega)) I.1.1) (by rw [nv_congr (F 0 (by omega) (by omega))]; exact Nat.le_refl _) (F 2 (by omega) (by omega)) (h5) (TP_congr (F 4 (by omega) (by omega)) (fun j _ _ => F j (by omega) (by omega)) T) (RXA_row (fun j _ _ => F j (by omega) (by omega)) X) W' (fun w hw => by rw [F _ (by omega) (by omega)]; exact V w hw)
  rw [F 0 (by omega) (by omega), F 2 (by omega) (by omega), F 3 (by omega) (by omega), F 6 (by omega) (by omega), F 4 (by omega) (by omega)] at q
  exact ⟨a, E', s', waiting', q7, q6, q⟩
theorem t_worth {s waiting worths kinds writers minutes matters undoers scores sizes cells tape codes lengths : Nat → Int32} {now shutTill shutBy z waits done taped : Int32} (B : RB s now shutTill shutBy z waits done taped waiting worths kinds writers minutes matters undoers scores sizes cells tape codes lengths) {E : Nat → Int32} {n : Nat} (hn : 4100 ≤ n) (x y : Int32) : ∃ a E' s' worths', f7_worth x y s E = some (a, s', E') ∧ f6_worth x y E worths = some (a, E', worths') ∧ RB s' now shutTill shutBy z waits done taped waiting worths' kinds writers minutes matters undoers scores sizes cells tape codes lengths := by
  have B0 := B
  obtain ⟨I, T, X, R, ⟨rfl, rfl, rfl, rfl, rfl, rfl, rfl⟩, W, V⟩ := B
  obtain ⟨a, E', s', worths', q7, q6, V', F⟩ := p_worth (E := E) V x y
  have q := RB_row B0 (s' := s') (waiting' := waiting) (F 1 (by omega)) (fun j _ _ => F j (by omega)) (isN_congr (F 0 (by omega)) I.1.1) (by rw [nv_congr (F 0 (by omega))]; exact Nat.le_refl _) (F 2 (by omega)) (isN_congr (F 5 (by omega)) I.1.2.2.2.2) (TP_congr (F 4 (by omega)) (fun j _ _ => F j (by omega)) T) (RXA_row (fun j _ _ => F j (by omega)) X) (fun i hi => by rw [F _ (by omega)]; exact W i hi) V'
  rw [F 0 (by omega), F 2 (by omega), F 3 (by omega), F 6 (by omega), F 5 (by omega), F 4 (by omega)] at q
  exact ⟨a, E', s', worths', q7, q6, q⟩
theorem t_text {s waiting worths kinds writers minutes matters undoers scores sizes cells tape codes lengths : Nat → Int32} {now shutTill shutBy z waits done taped : Int32} (B : RB s now shutTill shutBy z waits done taped waiting worths kinds writers minutes matters undoers scores sizes cells tape codes lengths) {E step code : Nat → Int32} {art rt ni : Nat} {at_ op st us ra rc rtp : Int32} (hni : ni < 3) {n : Nat} (hn : 4100 ≤ n) (x : Int32) : ∃ a E' s' at' op' st' us' step' ra' rc' rtp' rt' ni' codes' lengths' code', f7_text n x at_ op st us s E step = some (a, at', op', st', us', s', E', step') ∧ f6_text n art x taped ra rc rtp rt ni E tape codes lengths code = some (a, s' 4, ra', rc', rtp', rt', ni', E', codes', lengths', code') ∧ ni' < 3 ∧ RB s' now shutTill shutBy z waits done (s' 4) waiting worths kinds writers minutes matters undoers scores sizes cells tape codes' lengths' := by
  have B0 := B
  obtain ⟨I, T, X, R, ⟨rfl, rfl, rfl, rfl, rfl, rfl, rfl⟩, W, V⟩ := B
  obtain ⟨a, E', s', at', op', st', us', step', ra', rc', rtp', rt', ni', codes', lengths', code', q7, q6', X', T', -, hn', F⟩ := p_text X T (E := E) (step := step) (code := code) (art := art) (rt := rt) (ni := ni) (at_ := at_) (op := op) (st := st) (us := us) (ra := ra) (rc := rc) (rtp := rtp) hn x
  have q := RB_row B0 (s' := s') (waiting' := waiting) (worths' := worths) (F 1 (by omega) (by omega)) (fun j _ _ => F j (by omega) (by omega)) (isN_congr (F 0 (by omega) (by omega)) I.1.1) (by rw [nv_congr (F 0 (by omega) (by omega))]; exact Nat.le_refl _) (F 2 (by omega) (by omega)) (isN_congr (F 5 (by omega) (by omega)) I.1.2.2.2.2) T' X' (fun i hi => by rw [F _ (by omega) (by omega)]; exact W i hi) (fun w hw => by rw [F _ (by omega) (by omega)]; exact V w hw)
  have q6 := And.intro q6' (show ni' < 3 by omega)
  rw [F 0 (by omega) (by omega), F 2 (by omega) (by omega), F 3 (by omega) (by omega), F 6 (by omega) (by omega), F 5 (by omega) (by omega)] at q
  exact ⟨a, E', s', at', op', st', us', step', ra', rc', rtp', rt', ni', codes', lengths', code', q7, q6.1, q6.2, q⟩
theorem t_score {s waiting worths kinds writers minutes matters undoers scores sizes cells tape codes lengths : Nat → Int32} {now shutTill shutBy z waits done taped : Int32} (B : RB s now shutTill shutBy z waits done taped waiting worths kinds writers minutes matters undoers scores sizes cells tape codes lengths) {E : Nat → Int32} {n : Nat} (hn : 4100 ≤ n) (x y : Int32) : ∃ a E' s' scores', f7_score x y s E = some (a, s', E') ∧ f6_score x y done E scores = some (a, E', scores') ∧ RB s' now shutTill shutBy z waits done taped waiting worths kinds writers minutes matters undoers scores' sizes cells tape codes lengths := by
  obtain ⟨I, T, X, R, ⟨rfl, rfl, rfl, rfl, rfl, rfl, rfl⟩, W, V⟩ := B
  obtain ⟨a, E', s', scores', q7, q6, I', R', ed, F⟩ := p_score I R (E := E) x y
  refine ⟨a, E', s', scores', q7, q6, I', TP_congr (F 4 (by omega)) (fun j _ _ => F j (by omega)) T, RXA_row (fun j _ _ => F j (by omega)) X, R', ⟨(F 0 (by omega)).symm, (F 2 (by omega)).symm, (F 3 (by omega)).symm, (F 6 (by omega)).symm, (F 5 (by omega)).symm, by rw [ed], (F 4 (by omega)).symm⟩, fun i hi => by rw [F _ (by omega)]; exact W i hi, fun w hw => by rw [F _ (by omega)]; exact V w hw⟩
theorem t_check {s waiting worths kinds writers minutes matters undoers scores sizes cells tape codes lengths : Nat → Int32} {now shutTill shutBy z waits done taped : Int32} (B : RB s now shutTill shutBy z waits done taped waiting worths kinds writers minutes matters undoers scores sizes cells tape codes lengths) {E : Nat → Int32} {n : Nat} (hn : 4100 ≤ n) (x : Int32) : ∃ a E' s', f7_check n x s E = some (a, s', E') ∧ f6_check n x waits done E waiting sizes cells = some (a, 0, E') ∧ RB s' now shutTill shutBy z 0 done taped waiting worths kinds writers minutes matters undoers scores sizes cells tape codes lengths := by
  have B0 := B
  obtain ⟨I, T, X, R, ⟨rfl, rfl, rfl, rfl, rfl, rfl, rfl⟩, W, V⟩ := B
  obtain ⟨a, E', q7, q6⟩ := p_check I R (E := E) W hn x
  have F : ∀ j, j ≠ 5 → upd s 5 0 j = s j := fun j hj => if_neg hj
  have F5 : upd s 5 0 5 = 0 := if_pos rfl
  have q := RB_row B0 (s' := upd s 5 0) (waiting' := waiting) (worths' := worths) (F 1 (by omega)) (fun j _ _ => F j (by omega)) (isN_congr (F 0 (by omega)) I.1.1) (by rw [nv_congr (F 0 (by omega))]; exact Nat.le_refl _) (F 2 (by omega)) ⟨by unfold nv; rw [F5]; rfl, by unfold nv; rw [F5]; exact Nat.zero_le _⟩ (TP_congr (F 4 (by omega)) (fun j _ _ => F j (by omega)) T) (RXA_row (fun j _ _ => F j (by omega)) X) (fun i hi => by rw [F _ (by omega)]; exact W i hi) (fun w hw => by rw [F _ (by omega)]; exact V w hw)
  rw [F 0 (by omega), F 2 (by omega), F 3 (by omega), F 6 (by omega), F5, F 4 (by omega)] at q
  exact ⟨a, E', _, q7, q6, q⟩
/-- restore before any image: both tell error 2 -/
theorem t_restoreN {n : Nat} {s kept E : Nat → Int32} : ∃ a E', f7_restore n 0 s kept E = some (a, s, E') ∧ f6_restoreN E = some (a, E') := by
  exact ⟨_, _, rfl, rfl⟩
