/-! ===== an act of the class ===== -/
/-- a version drafted behind the last: m cells, words nw, origins no -/
def CD (s : Nat → Int32) (m : Nat) (nw no : Nat → Nat) (sizes cells sizes' cells' : Nat → Int32) : Prop := sizes' (dn s + 1) = nI m ∧ (∀ v, v ≤ dn s → sizes' v = sizes v) ∧ (∀ j, j < (dn s + 1) * 20 → cells' j = cells j) ∧ (∀ i, i < m → cells' ((dn s + 1) * 20 + i) &&& nI 63 = nI (nw i) ∧ cells' ((dn s + 1) * 20 + i) >>> (nI 6 &&& nI 31) = nI (no i))
theorem RA_of {s sizes cells : Nat → Int32} (h1 : ∀ v, v ≤ dn s → sizes v = s (310 + v)) (h2 : ∀ v i, v ≤ dn s → i < nv s (310 + v) → cells (v * 20 + i) &&& nI 63 = s (380 + 20 * v + i)) (h3 : ∀ v i, v ≤ dn s → i < nv s (310 + v) → cells (v * 20 + i) >>> (nI 6 &&& nI 31) = s (1600 + 20 * v + i)) : RA s (fun i => s (10 + 5 * i + 0)) (fun i => s (10 + 5 * i + 1)) (fun i => s (10 + 5 * i + 2)) (fun i => s (10 + 5 * i + 3)) (fun i => UN s (dn s) i) (fun i => s (10 + 5 * i + 4)) sizes cells :=
  ⟨fun _ _ => rfl, fun _ _ => rfl, fun _ _ => rfl, fun _ _ => rfl, fun _ _ => rfl, fun _ _ => rfl, h1, h2, h3⟩
theorem k_records {s kinds writers minutes matters undoers scores sizes cells : Nat → Int32} (I : IV s) (R : RA s kinds writers minutes matters undoers scores sizes cells) {s' sizes' cells' : Nat → Int32} {k w of : Int32} {m n : Nat} {nw no : Nat → Nat} (A : ACT s s' k w of m nw no) (I' : IV s') (hd : dn s < 60) (hm : m ≤ 20) (C : CD s m nw no sizes cells sizes' cells') (hn : 4100 ≤ n) : ∃ kinds' writers' minutes' matters' undoers' scores', f0_records n k w (s 0) of (nI (dn s)) kinds writers minutes matters undoers scores sizes' cells' = some (nI (dn s), nI (dn s'), kinds', writers', minutes', matters', undoers', scores') ∧ RA s' kinds' writers' minutes' matters' undoers' scores' sizes' cells' := by
  have hdn := A.dn' hd
  obtain ⟨c1, c2, c3, c4⟩ := C
  have hsz : ∀ v, v ≤ dn s' → sizes' v = s' (310 + v) := by
    intro v hv
    rw [hdn] at hv
    rcases Nat.lt_or_ge v (dn s + 1) with q | q
    · rw [c2 v (by omega), R.size (by omega), A.same (by omega) (by omega) (by omega) (by omega) (by omega)]
    · rw [show v = dn s + 1 by omega, c1]; exact A.2.2.2.2.2.2.1.symm
  have hz7 : nv s' (310 + (dn s + 1)) = m := nv_of A.2.2.2.2.2.2.1 (by omega)
  have hwd : ∀ v i, v ≤ dn s' → i < nv s' (310 + v) → cells' (v * 20 + i) &&& nI 63 = s' (380 + 20 * v + i) := by
    intro v i hv hi
    rw [hdn] at hv
    rcases Nat.lt_or_ge v (dn s + 1) with q | q
    · have ez := nv_congr (A.same (j := 310 + v) (by omega) (by omega) (by omega) (by omega) (by omega))
      rw [ez] at hi
      have := I.sizeB (v := v) (by omega)
      rw [c3 _ (by omega), R.word (by omega) hi, A.same (by omega) (by omega) (by omega) (by omega) (by omega)]
    · have ev : v = dn s + 1 := by omega
      subst ev
      rw [hz7] at hi
      rw [(c4 i hi).1, (A.2.2.2.2.2.2.2.1 i hi).1]
  have hog : ∀ v i, v ≤ dn s' → i < nv s' (310 + v) → cells' (v * 20 + i) >>> (nI 6 &&& nI 31) = s' (1600 + 20 * v + i) := by
    intro v i hv hi
    rw [hdn] at hv
    rcases Nat.lt_or_ge v (dn s + 1) with q | q
    · have ez := nv_congr (A.same (j := 310 + v) (by omega) (by omega) (by omega) (by omega) (by omega))
      rw [ez] at hi
      have := I.sizeB (v := v) (by omega)
      rw [c3 _ (by omega), R.origin (by omega) hi, A.same (by omega) (by omega) (by omega) (by omega) (by omega)]
    · have ev : v = dn s + 1 := by omega
      subst ev
      rw [hz7] at hi
      rw [(c4 i hi).2, (A.2.2.2.2.2.2.2.1 i hi).2]
  have R0 := RA_of hsz hwd hog
  have hUN : ∀ i, i < dn s → UN s' (dn s) i = UN s (dn s) i := by
    intro i hi
    refine UN_congr hi (fun w hw => AL_congr (A.same (by omega) (by omega) (by omega) (by omega) (by omega)) (A.same (by omega) (by omega) (by omega) (by omega) (by omega)) ?_)
    intro j hj
    have := I.sizeB (v := i) (by omega)
    exact ⟨A.same (by omega) (by omega) (by omega) (by omega) (by omega), A.same (by omega) (by omega) (by omega) (by omega) (by omega)⟩
  have m1 : ¬ (0 : Int32) ≤ -1 := by decide
  have loop : ∀ (r i kk : Nat) (K W M T U S : Nat → Int32), i + r = dn s → r < kk → (∀ j, j < i → U j = UN s' (dn s + 1) j) → (∀ j, i ≤ j → j < dn s → U j = UN s (dn s) j) → U (dn s) = -1 → ∃ U', f0_records_66 n sizes' cells' kk (nI (dn s)) (nI i) (nI (dn s + 1)) K W M T U S = some (nI (dn s), nI (dn s + 1), K, W, M, T, U', S) ∧ ∀ j, j < dn s + 1 → U' j = UN s' (dn s + 1) j := by
    intro r
    induction r with
    | zero =>
      intro i kk K W M T U S h1 h2 h3 h4 h5
      obtain ⟨kk, rfl⟩ : ∃ q, kk = q + 1 := ⟨kk - 1, by omega⟩
      have e : dn s ≤ i := by omega
      refine ⟨U, ?_, ?_⟩
      · simp (disch := omega) only [z_0, z_1, z_2, z_3, z_4, z_5, z_6, z_7, z_8, z_9, z_10, z_11, z_12, z_13, z_16, z_20, z_21, z_24, z_30, z_31, z_32, z_33, z_37, z_38, z_39, z_40, z_41, z_42, z_43, z_44, z_45, z_46, z_47, z_48, z_49, z_50, z_51, z_52, z_53, z_54, z_55, z_56, z_57, z_58, z_59, z_60, z_61, z_62, z_63, z_70, z_80, z_81, z_97, z_98, z_99, z_100, z_101, z_107, z_108, z_109, z_111, z_114, z_117, z_119, z_124, z_125, z_255, z_310, z_380, z_480, z_999, z_1440, z_1600, z_2820, z_2890, z_3890, z_3950, z_3974, z_9999, z_12345, z_29999, pk_mul, nI_add, q_ldI, q_stI, nI_leI, nI_ltI, nI_eq, q_c_some, q_c1_some, q_c2_some, q_c3_some, q_c4_some, q_c5_some, q_c7_some, q_c8_some, q_c9_some, q_c10_some, q_c11_some, q_c12_some, q_ltP, q_bzN0, q_bzN1, q_dvI, b_eq0, b_eq1, n10, Nat.reduceEqDiff, Nat.reduceLeDiff, ↓reduceIte, if_true, if_false, f0_records_66, e]
      · intro j hj
        by_cases q : j = dn s
        · rw [q, h5, UN_new]
        · exact h3 j (by omega)
    | succ r ih =>
      intro i kk K W M T U S h1 h2 h3 h4 h5
      obtain ⟨kk, rfl⟩ : ∃ q, kk = q + 1 := ⟨kk - 1, by omega⟩
      have e : ¬ dn s ≤ i := by omega
      have hi : i < dn s := by omega
      have eU := h4 i (Nat.le_refl _) hi
      have eL := UN_last (s := s') hd hi
      rw [hUN i hi] at eL
      have al1 := cls_areAlike I' R0 hn (v := i) (w := i + 1) (by omega) (by omega)
      have al2 := cls_areAlike I' R0 hn (v := i) (w := dn s + 1) (by omega) (by omega)
      have go : ∀ (U2 : Nat → Int32), (U2 i = UN s' (dn s + 1) i) → (∀ j, j ≠ i → U2 j = U j) → ∃ U', f0_records_66 n sizes' cells' kk (nI (dn s)) (nI (i + 1)) (nI (dn s + 1)) K W M T U2 S = some (nI (dn s), nI (dn s + 1), K, W, M, T, U', S) ∧ ∀ j, j < dn s + 1 → U' j = UN s' (dn s + 1) j := by
        intro U2 g1 g2
        refine ih (i + 1) kk K W M T U2 S (by omega) (by omega) ?_ ?_ ?_
        · intro j hj
          by_cases q : j = i
          · rw [q]; exact g1
          · rw [g2 j q]; exact h3 j (by omega)
        · intro j q1 q2
          rw [g2 j (by omega)]; exact h4 j (by omega) q2
        · rw [g2 _ (by omega)]; exact h5
      rw [f0_records_66.eq_2, if_neg (nI_ge hi (by omega)), q_ldI (by omega) (by omega), eU]
      by_cases q0 : (0 : Int32) ≤ UN s (dn s) i
      · rw [if_pos q0] at eL ⊢
        rw [f0_records_118, q_ltP, nI_1]
        exact go U (eU.trans eL.symm) (fun _ _ => rfl)
      · rw [if_neg q0] at eL ⊢
        have eU1 : UN s (dn s) i = -1 := by
          rcases UN_range (s := s) (d := dn s) (i := i) (by omega) hi with h | ⟨z, z1, z2, z3⟩
          · exact h
          · exact absurd (by rw [z3]; exact nI_pos' (by omega)) q0
        rw [nI_1, al1, q_c_some]
        by_cases q1 : AL s' i (i + 1)
        · rw [if_neg (fun h => h.1 q1)] at eL
          rw [if_pos q1, if_neg (by decide), f0_records_118, q_ltP, nI_1]
          exact go U (by rw [eU, eU1, eL]) (fun _ _ => rfl)
        · rw [if_neg q1, if_pos (by decide), al2, q_c_some]
          by_cases q2 : AL s' i (dn s + 1)
          · rw [if_pos ⟨q1, q2⟩] at eL
            rw [if_pos q2, if_neg (by decide), q_stI (by omega) (by omega), f0_records_118, q_ltP, nI_1]
            exact go _ (by rw [pk_us, eL]) (fun j hj => pk_un hj)
          · rw [if_neg (fun h => q2 h.2)] at eL
            rw [if_neg q2, if_pos (by decide), f0_records_118, q_ltP, nI_1]
            exact go U (by rw [eU, eU1, eL]) (fun _ _ => rfl)
  obtain ⟨U', g1, g2⟩ := loop (dn s) 0 n (upd kinds (dn s) k) (upd writers (dn s) w) (upd minutes (dn s) (s 0)) (upd matters (dn s) of) (upd undoers (dn s) (-1)) (upd scores (dn s) (-1)) (by omega) (by omega) (fun j hj => absurd hj (Nat.not_lt_zero j)) (fun j _ hj => by rw [pk_un (by omega)]; exact R.undoer hj) pk_us
  refine ⟨upd kinds (dn s) k, upd writers (dn s) w, upd minutes (dn s) (s 0), upd matters (dn s) of, U', upd scores (dn s) (-1), ?_, ?_⟩
  · rw [hdn]
    unfold f0_records
    rw [q_stI (by omega) (by omega), q_stI (by omega) (by omega), q_stI (by omega) (by omega), q_stI (by omega) (by omega), q_stI (by omega) (by omega), q_stI (by omega) (by omega), q_ltP, nI_1]
    exact g1
  · obtain ⟨a1, a2, a3, a4, a5, a6, a7, a8, a9⟩ := A
    have six : ∀ (t : Nat) (f : Nat → Int32) (x : Int32), t < 5 → s' (10 + 5 * dn s + t) = x → (∀ i, i < dn s → f i = s (10 + 5 * i + t)) → ∀ i, i < dn s' → upd f (dn s) x i = s' (10 + 5 * i + t) := by
      intro t f x ht hx hf i hi
      rw [hdn] at hi
      by_cases q : i = dn s
      · rw [q, pk_us, hx]
      · rw [pk_un q, hf i (by omega), a9 _ (by omega) (by omega) (by omega) (by omega) (by omega)]
    exact ⟨six 0 _ _ (by omega) a2 R.1, six 1 _ _ (by omega) a3 R.2.1, six 2 _ _ (by omega) a4 R.2.2.1, six 3 _ _ (by omega) a5 R.2.2.2.1, fun i hi => by rw [hdn] at hi ⊢; exact g2 i hi, six 4 _ _ (by omega) a6 R.2.2.2.2.2.1, hsz, hwd, hog⟩
