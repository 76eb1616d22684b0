/-! ===== the whole book; image, restore ===== -/
def RB (s : Nat → Int32) (now shutTill shutBy z waits done taped : Int32) (waiting worths kinds writers minutes matters undoers scores sizes cells tape codes lengths : Nat → Int32) : Prop :=
  IV s ∧ TP s tape ∧ RXA s lengths codes ∧ RA s kinds writers minutes matters undoers scores sizes cells ∧ (now = s 0 ∧ shutTill = s 2 ∧ shutBy = s 3 ∧ z = s 6 ∧ waits = s 5 ∧ done = nI (dn s) ∧ taped = s 4) ∧ (∀ i, i < 24 → waiting i = s (3950 + i)) ∧ ∀ w, w ≤ 60 → worths w = s (2820 + w)
theorem TP_congr {s s' tape : Nat → Int32} (h4 : s' 4 = s 4) (h : ∀ j, 3890 ≤ j → j < 3950 → s' j = s j) (T : TP s tape) : TP s' tape := by
  have hL := T.1.2
  refine ⟨isN_congr h4 T.1, ?_, ?_⟩
  · intro i hi
    rw [nv_congr h4] at hi
    exact isN_congr (h _ (by omega) (by omega)) (T.2.1 i hi)
  · intro i hi
    rw [nv_congr h4] at hi
    rw [h _ (by omega) (by omega)]
    exact T.2.2 i hi
theorem RB_congr {s s' : Nat → Int32} {now shutTill shutBy z waits done taped : Int32} {waiting worths kinds writers minutes matters undoers scores sizes cells tape codes lengths : Nat → Int32} (h : ∀ j, j < 3974 → s' j = s j) (B : RB s now shutTill shutBy z waits done taped waiting worths kinds writers minutes matters undoers scores sizes cells tape codes lengths) : RB s' now shutTill shutBy z waits done taped waiting worths kinds writers minutes matters undoers scores sizes cells tape codes lengths := by
  obtain ⟨I, T, X, R, ⟨e1, e2, e3, e4, e5, e6, e7⟩, W, V⟩ := B
  have ed : dn s' = dn s := nv_congr (h 1 (by omega))
  refine ⟨IV_same I (h 1 (by omega)) (fun j _ _ => h j (by omega)) (h 0 (by omega)) (isN_congr (h 2 (by omega)) I.1.2.2.1) (isN_congr (h 4 (by omega)) I.1.2.2.2.1) (isN_congr (h 5 (by omega)) I.1.2.2.2.2), TP_congr (h 4 (by omega)) (fun j _ _ => h j (by omega)) T, RXA_row (fun j _ _ => h j (by omega)) X, RA_congr I R (h 1 (by omega)) (fun j _ _ => h j (by omega)), ?_, ?_, ?_⟩
  · rw [h 0 (by omega), h 2 (by omega), h 3 (by omega), h 6 (by omega), h 5 (by omega), ed, h 4 (by omega)]
    exact ⟨e1, e2, e3, e4, e5, e6, e7⟩
  · intro i hi; rw [h _ (by omega)]; exact W i hi
  · intro w hw; rw [h _ (by omega)]; exact V w hw
theorem k_becomes {s : Nat → Int32} {now shutTill shutBy z waits done taped onow oshutTill oshutBy oz owaits odone otaped : Int32} {waiting worths kinds writers minutes matters undoers scores sizes cells tape codes lengths owaiting oworths okinds owriters ominutes omatters oundoers oscores osizes ocells otape ocodes olengths : Nat → Int32} (B : RB s onow oshutTill oshutBy oz owaits odone otaped owaiting oworths okinds owriters ominutes omatters oundoers oscores osizes ocells otape ocodes olengths) : ∃ gi ga, f1_becomes now shutTill shutBy z waits done taped onow oshutTill oshutBy oz owaits odone otaped waiting worths kinds writers minutes matters undoers scores sizes cells tape codes lengths owaiting oworths okinds owriters ominutes omatters oundoers oscores osizes ocells otape ocodes olengths = some (gi, ga) ∧ RB s (gi 0) (gi 1) (gi 2) (gi 3) (gi 4) (gi 5) (gi 6) (ga 0) (ga 1) (ga 2) (ga 3) (ga 4) (ga 5) (ga 6) (ga 7) (ga 8) (ga 9) (ga 10) (ga 11) (ga 12) := by
  obtain ⟨I, T, X, R, ⟨e1, e2, e3, e4, e5, e6, e7⟩, W, V⟩ := B
  have hd := I.doneB
  have z0 : (0 : Int32) = nI 0 := by decide
  have c0 : ∀ {f g : Nat → Int32} {m j : Nat}, j < m → va_cpy f g 0 0 m j = f j := fun {f g m j} hj => by rw [pk_cpy_in (by omega) (by omega), Nat.zero_add, Nat.sub_zero]
  have b0 : f0_becomes done odone kinds writers minutes matters undoers scores sizes cells okinds owriters ominutes omatters oundoers oscores osizes ocells = some (nI (dn s), va_cpy okinds kinds 0 0 (dn s), va_cpy owriters writers 0 0 (dn s), va_cpy ominutes minutes 0 0 (dn s), va_cpy omatters matters 0 0 (dn s), va_cpy oundoers undoers 0 0 (dn s), va_cpy oscores scores 0 0 (dn s), va_cpy osizes sizes 0 0 (dn s + 1), va_cpy ocells cells 0 0 ((dn s + 1) * 20)) := by
    rw [f0_becomes, e6, z0, nI_1, show nI (dn s + 1) * 20 = nI ((dn s + 1) * 20) from by rw [show (20 : Int32) = nI 20 from by decide, pk_mul]]
    rw [q_cpI (by omega) (by omega) (by omega) (by omega), q_cpI (by omega) (by omega) (by omega) (by omega), q_cpI (by omega) (by omega) (by omega) (by omega), q_cpI (by omega) (by omega) (by omega) (by omega), q_cpI (by omega) (by omega) (by omega) (by omega), q_cpI (by omega) (by omega) (by omega) (by omega), q_cpI (by omega) (by omega) (by omega) (by omega), q_cpI (by omega) (by omega) (by omega) (by omega)]
  have b4 : f4_becomes taped otaped tape codes lengths otape ocodes olengths = some (otaped, va_cpy otape tape 0 0 60, va_cpy ocodes codes 0 0 480, va_cpy olengths lengths 0 0 8) := by
    rw [f4_becomes, z0, show (60 : Int32) = nI 60 from by decide, show (480 : Int32) = nI 480 from by decide, show (8 : Int32) = nI 8 from by decide, q_cpI (by omega) (by omega) (by omega) (by omega), q_cpI (by omega) (by omega) (by omega) (by omega), q_cpI (by omega) (by omega) (by omega) (by omega)]
  rw [f1_becomes, show q_cp owaiting 24 0 waiting 24 0 24 = q_cp owaiting 24 (nI 0) waiting 24 (nI 0) (nI 24) from rfl, q_cpI (by omega) (by omega) (by omega) (by omega), show q_cp oworths 61 0 worths 61 0 61 = q_cp oworths 61 (nI 0) worths 61 (nI 0) (nI 61) from rfl, q_cpI (by omega) (by omega) (by omega) (by omega), b0, q_c9_some, b4, q_c4_some]
  refine ⟨_, _, rfl, ?_⟩
  · have hL := T.1.2
    refine ⟨I, ?_, ?_, ?_, ⟨e1, e2, e3, e4, e5, rfl, e7⟩, fun i hi => (c0 hi).trans (W i hi), fun w hw => (c0 (by omega)).trans (V w hw)⟩
    · exact ⟨T.1, T.2.1, fun i hi => (c0 (by omega)).trans (T.2.2 i hi)⟩
    · intro u hu
      exact RX_cong2 (fun _ _ _ => rfl) (c0 hu) (fun k hk => c0 (by omega)) (X u hu)
    · refine ⟨fun i hi => (c0 hi).trans (R.kind hi), fun i hi => (c0 hi).trans (R.writer hi), fun i hi => (c0 hi).trans (R.minute hi), fun i hi => (c0 hi).trans (R.matter hi), fun i hi => (c0 hi).trans (R.undoer hi), fun i hi => (c0 hi).trans (R.score hi), fun v hv => (c0 (by omega)).trans (R.size hv), fun v i hv hi => ?_, fun v i hv hi => ?_⟩
      · have := I.sizeB hv
        show va_cpy ocells cells 0 0 ((dn s + 1) * 20) (v * 20 + i) &&& nI 63 = _
        rw [c0 (by omega)]; exact R.word hv hi
      · have := I.sizeB hv
        show va_cpy ocells cells 0 0 ((dn s + 1) * 20) (v * 20 + i) >>> (nI 6 &&& nI 31) = _
        rw [c0 (by omega)]; exact R.origin hv hi
theorem r_image {n : Nat} {s : Nat → Int32} (hn : 4100 ≤ n) (images : Int32) : ∀ (kept : Nat → Int32), ∃ kept', f7_image n images s kept = some (images + 1, images + 1, kept') ∧ ∀ j, j < 3974 → kept' j = s j := by
  have loop : ∀ (m i kk : Nat) (kept : Nat → Int32), i + m = 3974 → m < kk → (∀ j, j < i → kept j = s j) → ∃ kept', f7_image_2 n s kk (nI i) images kept = some (images + 1, images + 1, kept') ∧ ∀ j, j < 3974 → kept' j = s j := by
    intro m
    induction m with
    | zero =>
      intro i kk kept h1 h2 h3
      obtain ⟨kk, rfl⟩ : ∃ q, kk = q + 1 := ⟨kk - 1, by omega⟩
      refine ⟨kept, ?_, fun j hj => h3 j (by omega)⟩
      rw [f7_image_2.eq_2, if_pos (show (3974 : Int32) ≤ nI i from nI_le (a := 3974) (by omega) (by omega)), q_ltP]
    | succ m ih =>
      intro i kk kept h1 h2 h3
      obtain ⟨kk, rfl⟩ : ∃ q, kk = q + 1 := ⟨kk - 1, by omega⟩
      rw [f7_image_2.eq_2, if_neg (show ¬ (3974 : Int32) ≤ nI i from nI_ge (b := 3974) (by omega) (by omega)), q_ldI (by omega) (by omega), q_stI (by omega) (by omega), q_ltP, nI_1]
      exact ih (i + 1) kk (upd kept i (s i)) (by omega) (by omega) (fun j hj => by
        by_cases q : j = i
        · rw [q, pk_us]
        · rw [pk_un q]; exact h3 j (by omega))
  intro kept
  exact loop 3974 0 n kept (by omega) (by omega) (fun j hj => absurd hj (Nat.not_lt_zero j))
theorem r_restore {n : Nat} {kept E : Nat → Int32} {images : Int32} (hn : 4100 ≤ n) (hi : ¬ images = 0) : ∀ (s : Nat → Int32), ∃ s', f7_restore n images s kept E = some (s' 0, s', E) ∧ ∀ j, j < 3974 → s' j = kept j := by
  have loop : ∀ (m i kk : Nat) (s : Nat → Int32), i + m = 3974 → m < kk → (∀ j, j < i → s j = kept j) → ∃ s', f7_restore_15 n images kept kk (nI i) s E = some (s' 0, s', E) ∧ ∀ j, j < 3974 → s' j = kept j := by
    intro m
    induction m with
    | zero =>
      intro i kk s h1 h2 h3
      obtain ⟨kk, rfl⟩ : ∃ q, kk = q + 1 := ⟨kk - 1, by omega⟩
      refine ⟨s, ?_, fun j hj => h3 j (by omega)⟩
      rw [f7_restore_15.eq_2, if_pos (show (3974 : Int32) ≤ nI i from nI_le (a := 3974) (by omega) (by omega)), q_ldE 0 z_0 (by omega) (by omega)]
    | succ m ih =>
      intro i kk s h1 h2 h3
      obtain ⟨kk, rfl⟩ : ∃ q, kk = q + 1 := ⟨kk - 1, by omega⟩
      rw [f7_restore_15.eq_2, if_neg (show ¬ (3974 : Int32) ≤ nI i from nI_ge (b := 3974) (by omega) (by omega)), q_ldI (by omega) (by omega), q_stI (by omega) (by omega), q_ltP, nI_1]
      exact ih (i + 1) kk (upd s i (kept i)) (by omega) (by omega) (fun j hj => by
        by_cases q : j = i
        · rw [q, pk_us]
        · rw [pk_un q]; exact h3 j (by omega))
  intro s
  rw [f7_restore, if_neg hi]
  exact loop 3974 0 n s (by omega) (by omega) (fun j hj => absurd hj (Nat.not_lt_zero j))
theorem p_image {n : Nat} {s kept : Nat → Int32} {images : Int32} {now shutTill shutBy z waits done taped know kshutTill kshutBy kz kwaits kdone ktaped : Int32} {waiting worths kinds writers minutes matters undoers scores sizes cells tape codes lengths kwaiting kworths kkinds kwriters kminutes kmatters kundoers kscores ksizes kcells ktape kcodes klengths : Nat → Int32} (hn : 4100 ≤ n) (B : RB s now shutTill shutBy z waits done taped waiting worths kinds writers minutes matters undoers scores sizes cells tape codes lengths) : ∃ kept' gi ga, f7_image n images s kept = some (images + 1, images + 1, kept') ∧ f6_imageK images now shutTill shutBy z waits done taped know kshutTill kshutBy kz kwaits kdone ktaped waiting worths kinds writers minutes matters undoers scores sizes cells tape codes lengths kwaiting kworths kkinds kwriters kminutes kmatters kundoers kscores ksizes kcells ktape kcodes klengths = some (images + 1, gi, ga) ∧ gi 0 = images + 1 ∧ RB kept' (gi 1) (gi 2) (gi 3) (gi 4) (gi 5) (gi 6) (gi 7) (ga 0) (ga 1) (ga 2) (ga 3) (ga 4) (ga 5) (ga 6) (ga 7) (ga 8) (ga 9) (ga 10) (ga 11) (ga 12) := by
  obtain ⟨kept', g1, g2⟩ := r_image (n := n) (s := s) hn images kept
  obtain ⟨gi, ga, b1, b2⟩ := k_becomes (now := know) (shutTill := kshutTill) (shutBy := kshutBy) (z := kz) (waits := kwaits) (done := kdone) (taped := ktaped) (waiting := kwaiting) (worths := kworths) (kinds := kkinds) (writers := kwriters) (minutes := kminutes) (matters := kmatters) (undoers := kundoers) (scores := kscores) (sizes := ksizes) (cells := kcells) (tape := ktape) (codes := kcodes) (lengths := klengths) B
  rw [f6_imageK, b1, q_c2_some, q_ltP]
  exact ⟨kept', _, _, g1, rfl, rfl, RB_congr g2 b2⟩
theorem p_restore {n : Nat} {s kept E : Nat → Int32} {images : Int32} {now shutTill shutBy z waits done taped know kshutTill kshutBy kz kwaits kdone ktaped : Int32} {waiting worths kinds writers minutes matters undoers scores sizes cells tape codes lengths kwaiting kworths kkinds kwriters kminutes kmatters kundoers kscores ksizes kcells ktape kcodes klengths : Nat → Int32} (hn : 4100 ≤ n) (hi : ¬ images = 0) (B : RB kept know kshutTill kshutBy kz kwaits kdone ktaped kwaiting kworths kkinds kwriters kminutes kmatters kundoers kscores ksizes kcells ktape kcodes klengths) : ∃ s' gi ga, f7_restore n images s kept E = some (s' 0, s', E) ∧ f6_restoreK now shutTill shutBy z waits done taped know kshutTill kshutBy kz kwaits kdone ktaped waiting worths kinds writers minutes matters undoers scores sizes cells tape codes lengths kwaiting kworths kkinds kwriters kminutes kmatters kundoers kscores ksizes kcells ktape kcodes klengths = some (s' 0, gi, ga) ∧ RB s' (gi 0) (gi 1) (gi 2) (gi 3) (gi 4) (gi 5) (gi 6) (ga 0) (ga 1) (ga 2) (ga 3) (ga 4) (ga 5) (ga 6) (ga 7) (ga 8) (ga 9) (ga 10) (ga 11) (ga 12) := by
  obtain ⟨s', g1, g2⟩ := r_restore (n := n) (kept := kept) (E := E) hn hi s
  obtain ⟨gi, ga, b1, b2⟩ := k_becomes (now := now) (shutTill := shutTill) (shutBy := shutBy) (z := z) (waits := waits) (done := done) (taped := taped) (waiting := waiting) (worths := worths) (kinds := kinds) (writers := writers) (minutes := minutes) (matters := matters) (undoers := undoers) (scores := scores) (sizes := sizes) (cells := cells) (tape := tape) (codes := codes) (lengths := lengths) B
  have b3 := RB_congr g2 b2
  rw [f6_restoreK, b1, q_c2_some, b3.2.2.2.2.1.1]
  refine ⟨s', _, _, g1, rfl, ?_⟩
  rw [← b3.2.2.2.2.1.1]
  exact b3
