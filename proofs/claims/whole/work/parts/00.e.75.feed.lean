/-! ===== untell, feed ===== -/
theorem p_untell {s lengths codes E : Nat → Int32} (X : RXA s lengths codes) (x : Int32) : ∃ a E' s' lengths', f7_untell x s E = some (a, s', E') ∧ f6_untell x E lengths = some (a, E', lengths') ∧ RXA s' lengths' codes ∧ ∀ j, (j < 2890 ∨ 3890 ≤ j) → s' j = s j := by
  unfold f7_untell f6_untell
  rcases use_cases x with ⟨u, hu, rfl, h1, h2⟩ | ⟨h1, h2⟩
  rotate_left
  · rw [h1, h2, q_c_some, q_c_some, if_pos i0, if_pos i0, (r_err E).1, (k_err E).1, q_c2_er, q_c2_er]
    exact ⟨_, _, s, lengths, rfl, rfl, X, fun _ _ => rfl⟩
  rw [h1, h2, q_c_some, q_c_some, if_neg i1, if_neg i1, f4_drops]
  have e125 : (2890 : Int32) + 125 * nI u = nI (2890 + 125 * u) := by rw [show (2890 : Int32) = nI 2890 from by decide, show (125 : Int32) = nI 125 from by decide, pk_mul, nI_add]
  let t := upd s (2890 + 125 * u) (nI 0)
  have Xt : RXA t (upd lengths u (nI 0)) codes := by
    intro v hv
    by_cases q : v = u
    · subst q
      have e : t (2890 + 125 * v) = nI 0 := pk_us
      exact ⟨isN.mk 0 e (by omega) (by omega), by rw [pk_us, e], fun k hk => absurd hk (by rw [nv_of e (by omega)]; omega)⟩
    · exact RX_cong2 (fun j h1 h2 => pk_un (by omega)) (pk_un q) (fun _ _ => rfl) (X v hv)
  rcases has_cases X (u := u) (by omega) with ⟨g1, g2, g3⟩ | ⟨g1, g2, g3⟩
  · rw [g1, g2, q_c_some, q_c_some, if_neg i1, q_stI (by omega) (by omega), q_bzN1, q_c2_some, if_neg i1, f7_untell_29, e125, q_stI (by omega) (by omega), f6_untell_32]
    exact ⟨_, _, t, _, rfl, rfl, Xt, fun j h => pk_un (by omega)⟩
  · rw [g1, g2, q_c_some, q_c_some, if_pos i0, q_stI (by omega) (by omega), q_bzN0, q_c2_some, if_pos i0, f7_untell_29, e125, q_stI (by omega) (by omega), f6_untell_32]
    exact ⟨_, _, t, _, rfl, rfl, Xt, fun j h => pk_un (by omega)⟩
theorem byte_bits (x : BitVec 64) (k : Nat) (hk : k ≤ 56) : ((x.sshiftRight k) &&& 255#64).setWidth 32 = ((x >>> k).setWidth 32) &&& 255#32 := by
  apply BitVec.eq_of_getLsbD_eq
  intro i hi
  have c64 : (255#64).getLsbD i = decide (i < 8) := (by decide : ∀ i : Fin 32, (255#64).getLsbD i.val = decide (i.val < 8)) ⟨i, hi⟩
  have c32 : (255#32).getLsbD i = decide (i < 8) := (by decide : ∀ i : Fin 32, (255#32).getLsbD i.val = decide (i.val < 8)) ⟨i, hi⟩
  simp only [BitVec.getLsbD_setWidth, BitVec.getLsbD_and, BitVec.getLsbD_sshiftRight, BitVec.getLsbD_ushiftRight, c64, c32]
  by_cases h8 : i < 8
  · have a : decide (64 ≤ i) = false := by simp; omega
    have b : k + i < 64 := by omega
    simp [hi, h8, a, b]
  · simp [h8]
theorem byte_eq (x : Int64) {k : Nat} (hk : k < 8) : ((x >>> ((8 * nI k).toInt64 &&& 63)) &&& 255).toInt32 = (((x.toUInt64 >>> ((8 * nI k).toInt64.toUInt64 &&& Int64.toUInt64 63)).toInt64).toInt32) &&& 255 := by
  apply Int32.toBitVec_inj.mp
  have a1 : (((8 * nI k).toInt64 &&& 63).toBitVec.smod 64).toNat = 8 * k := (by decide +kernel : ∀ k : Fin 8, (((8 * nI k.val).toInt64 &&& 63).toBitVec.smod 64).toNat = 8 * k.val) ⟨k, hk⟩
  have a2 : (((8 * nI k).toInt64.toUInt64 &&& Int64.toUInt64 63).toBitVec % 64).toNat = 8 * k := (by decide +kernel : ∀ k : Fin 8, (((8 * nI k.val).toInt64.toUInt64 &&& Int64.toUInt64 63).toBitVec % 64).toNat = 8 * k.val) ⟨k, hk⟩
  have L : ((x >>> ((8 * nI k).toInt64 &&& 63)) &&& 255).toInt32.toBitVec = (x.toBitVec.sshiftRight (((8 * nI k).toInt64 &&& 63).toBitVec.smod 64).toNat &&& 255#64).setWidth 32 := by
    rw [Int64.toBitVec_toInt32, BitVec.signExtend_eq_setWidth_of_le _ (by omega)]
    rfl
  have R : ((((x.toUInt64 >>> ((8 * nI k).toInt64.toUInt64 &&& Int64.toUInt64 63)).toInt64).toInt32) &&& 255).toBitVec = ((x.toBitVec >>> (((8 * nI k).toInt64.toUInt64 &&& Int64.toUInt64 63).toBitVec % 64).toNat).setWidth 32) &&& 255#32 := by
    rw [Int32.toBitVec_and, Int64.toBitVec_toInt32, BitVec.signExtend_eq_setWidth_of_le _ (by omega)]
    rfl
  rw [L, R, a1, a2]
  exact byte_bits x.toBitVec (8 * k) (by omega)
theorem feed_both {n : Nat} (x : Int64) {m : Nat} (hm : m ≤ 8) (E : Nat → Int32) : ∀ (r i kk : Nat) (s tape : Nat → Int32), i + r = m → r < kk → TP s tape → nv s 4 + r ≤ 60 → ∃ s' tape', f7_feed_38 n kk x (nI m) (nI i) s E = some (s' 4, s', E) ∧ f4_takes_3 n kk x (nI m) (nI i) (s 4) tape = some (s' 4, s' 4, tape') ∧ TP s' tape' ∧ ∀ j, j ≠ 4 → (j < 3890 ∨ 3950 ≤ j) → s' j = s j := by
  intro r
  induction r with
  | zero =>
    intro i kk s tape h1 h2 T h4
    obtain ⟨kk, rfl⟩ : ∃ q, kk = q + 1 := ⟨kk - 1, by omega⟩
    refine ⟨s, tape, ?_, ?_, T, fun _ _ _ => rfl⟩
    · rw [f7_feed_38.eq_2, if_pos (nI_le (by omega) (by omega)), q_ldE 4 z_4 (by omega) (by omega)]
    · rw [f4_takes_3.eq_2, if_pos (nI_le (by omega) (by omega))]
  | succ r ih =>
    intro i kk s tape h1 h2 T h4
    obtain ⟨kk, rfl⟩ : ∃ q, kk = q + 1 := ⟨kk - 1, by omega⟩
    obtain ⟨b, hb, eb⟩ := pk_andE ((((x.toUInt64 >>> ((8 * nI i).toInt64.toUInt64 &&& Int64.toUInt64 63)).toInt64).toInt32)) (m := 255) 8 (by decide)
    let t := upd (upd s (3890 + nv s 4) (nI b)) 4 (nI (nv s 4 + 1))
    have t4 : t 4 = nI (nv s 4 + 1) := pk_us
    have n4 : nv t 4 = nv s 4 + 1 := nv_of t4 (by omega)
    have Tt : TP t (upd tape (nv s 4) (nI b)) := by
      refine ⟨isN.mk _ t4 (by omega) (by omega), ?_, ?_⟩
      · intro j hj
        rw [n4] at hj
        by_cases q : j = nv s 4
        · subst q
          exact isN.mk b (show t (3890 + nv s 4) = nI b from (pk_un (by omega)).trans pk_us) (by omega) (by omega)
        · exact isN_congr (show t (3890 + j) = s (3890 + j) from (pk_un (by omega)).trans (pk_un (by omega))) (T.2.1 j (by omega))
      · intro j hj
        rw [n4] at hj
        by_cases q : j = nv s 4
        · subst q
          rw [pk_us, show t (3890 + nv s 4) = nI b from (pk_un (by omega)).trans pk_us]
        · rw [pk_un q, show t (3890 + j) = s (3890 + j) from (pk_un (by omega)).trans (pk_un (by omega))]
          exact T.2.2 j (by omega)
    obtain ⟨s', tape', g1, g2, g3, g4⟩ := ih (i + 1) kk t (upd tape (nv s 4) (nI b)) (by omega) (by omega) Tt (by omega)
    refine ⟨s', tape', ?_, ?_, g3, fun j h5 h6 => (g4 j h5 h6).trans ((pk_un h5).trans (pk_un (by omega)))⟩
    · rw [f7_feed_38.eq_2, if_neg (nI_ge (by omega) (by omega)), q_ldE 4 z_4 (by omega) (by omega), T.1.1, show (3890 : Int32) + nI (nv s 4) = nI (3890 + nv s 4) from nI_add 3890 _, q_stI (by omega) (by omega), q_ldE 4 z_4 (by omega) (by omega), pk_un (by omega), T.1.1, nI_1, q_stE 4 z_4 (by omega) (by omega), q_ltP, nI_1, byte_eq x (by omega), eb]
      exact g1
    · rw [f4_takes_3.eq_2, if_neg (nI_ge (by omega) (by omega)), T.1.1, q_stI (by omega) (by omega), q_ltP, nI_1, q_ltP, nI_1, eb]
      rw [t4] at g2
      exact g2
theorem p_feed {s tape E : Nat → Int32} (T : TP s tape) {n : Nat} (hn : 4100 ≤ n) (x : Int64) (y : Int32) : ∃ a E' s' tape', f7_feed n x y s E = some (a, s', E') ∧ f6_feed n x y (s 4) E tape = some (a, s' 4, E', tape') ∧ TP s' tape' ∧ ∀ j, j ≠ 4 → (j < 3890 ∨ 3950 ≤ j) → s' j = s j := by
  have hL := T.1.2
  unfold f7_feed f6_feed
  by_cases hlo : y < 1
  · rw [r_inF (Or.inl hlo), q_c_some, if_pos i0, if_pos hlo, f6_feed_11, (r_err E).1, (k_err E).1, q_c2_er, q_c2_er]
    exact ⟨_, _, s, tape, rfl, rfl, T, fun _ _ _ => rfl⟩
  rw [if_neg hlo]
  by_cases hhi : y ≤ 8
  rotate_left
  · rw [r_inF (Or.inr (Int32.not_le.mp hhi)), q_c_some, if_pos i0, if_neg hhi, f6_feed_11, (r_err E).1, (k_err E).1, q_c2_er, q_c2_er]
    exact ⟨_, _, s, tape, rfl, rfl, T, fun _ _ _ => rfl⟩
  rw [r_inY (Int32.not_lt.mp hlo) hhi, q_c_some, if_neg i1, if_pos hhi, q_ldE 4 z_4 (by omega) (by omega)]
  obtain ⟨z, hz, rfl⟩ := nI_of2 (M := 8) (n := 8) (by decide) (fun q => hlo (Int32.lt_trans q (by decide))) hhi
  have e1 : (s 4 + nI z ≤ 60) = (nv s 4 + z ≤ 60) := by
    rw [T.1.1, nI_add]; exact propext (nI_leI (b := 60) (by omega) (by omega))
  have e2 : (s 4 ≤ 60 - nI z) = (nv s 4 + z ≤ 60) := by
    rw [T.1.1, show (60 : Int32) - nI z = nI (60 - z) from pk_sub (a := 60) (by omega), nI_leI (by omega) (by omega)]
    exact propext ⟨fun _ => by omega, fun _ => by omega⟩
  by_cases ht : nv s 4 + z ≤ 60
  rotate_left
  · rw [if_neg (by rw [e1]; exact ht), if_neg (by rw [e2]; exact ht), (r_err E).2.2.2.1, (k_err E).2.2.2.1, q_c2_er, q_c2_er]
    exact ⟨_, _, s, tape, rfl, rfl, T, fun _ _ _ => rfl⟩
  rw [if_pos (by rw [e1]; exact ht), if_pos (by rw [e2]; exact ht), f4_takes]
  obtain ⟨s', tape', g1, g2, g3, g4⟩ := feed_both (n := n) x hz E z 0 n s tape (by omega) (by omega) T ht
  rw [show f7_feed_38 n n x (nI z) 0 s E = _ from g1, show f4_takes_3 n n x (nI z) 0 (s 4) tape = _ from g2, q_c3_some]
  exact ⟨_, _, s', tape', rfl, rfl, g3, g4⟩
