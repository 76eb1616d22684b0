theorem and63 (x : Int32) : ∃ v : Nat, v < 64 ∧ x &&& 63 = nI v := by
  refine ⟨(x.toBitVec &&& 63#32).toNat, ?_, ?_⟩
  · rw [BitVec.toNat_and]
    exact Nat.lt_of_le_of_lt Nat.and_le_right (by decide)
  · apply Int32.toBitVec_inj.mp
    show x.toBitVec &&& 63#32 = BitVec.ofNat 32 _
    rw [BitVec.ofNat_toNat, BitVec.setWidth_eq]
theorem sub6 {L i : Nat} (hL : L ≤ 384) (hi : i ≤ L) (h : ¬ nI L - 6 < nI i) : i + 6 ≤ L := by
  rcases Nat.lt_or_ge L 6 with q | q
  · exact absurd ((by decide : ∀ L : Nat, L < 6 → ∀ i : Nat, i < 6 → nI L - 6 < nI i) L q i (by omega)) h
  · have e : nI L - 6 = nI (L - 6) := by
      have q2 : nI L = nI (L - 6) + 6 := by
        rw [show (6 : Int32) = nI 6 from rfl, nI_add]
        congr 1
        omega
      rw [q2, Int32.add_sub_cancel]
    rw [e, nI_ltI (by omega) (by omega)] at h
    omega
set_option maxHeartbeats 4000000 in
set_option maxRecDepth 100000 in
/-- the loop, from its head -/
theorem law_loop {p : Program} {l : Launch} {e : Env} {s : State} {m : MethodId} {below : List Frame} {meth : Method} {c : Code} {D : va_G} {cI : ClassId} {ad qp qb qa qt qr qv qh qm : Nat → Nat} {b L : Nat} {xs : Nat → Int32} (hr : meth.sig.returnType = ret) (hlocks : meth.locks = false) (C : LC p s m c b L xs D cI ad) (hL : L ≤ 384) :
    ∀ (n i : Nat), i ≤ L → L + 1 ≤ i + n → ∀ (H : Heap) (locs : List Loc) (cells slots : Nat), LI D cI ad qp qb qa qt qr qv qh qm s i H locs cells slots → ∀ (ls : Array Slot), lv_has ls 4 [(0, .ref b), (1, .ref (qp 0)), (2, .ref (qm 0)), (3, .int (nI i))] → W p l e room_1 s m #[Value.ref b] below meth c H locs cells slots (lw_Z below #[Value.ref b] s) (F0 m 18 ls []) := by
  obtain ⟨hx, hb, hml, hown, hts, hK, hEv, hX, hbl⟩ := id C
  have hbA : ¬ lA s b := Nat.not_le.mpr hbl
  intro n
  induction n with
  | zero =>
    intro i h1 h2
    exact absurd h2 (by omega)
  | succ n ih =>
    intro i hi hin H locs cells slots I ls hl
    have hS : va_S (lA s) s.heap H locs := LI_elim I (fun _ _ _ _ _ _ _ _ _ _ _ _ _ _ _ _ _ _ _ _ _ _ _ _ _ _ _ _ _ _ _ _ _ _ _ _ _ _ _ _ _ _ _ _ _ _ _ _ _ _ _ _ _ _ _ _ _ _ _ _ _ _ _ _ _ _ _ hS => hS)
    have hf : cells ≤ room_1.cells ∧ slots ≤ room_1.slots := LI_elim I (fun _ _ _ _ _ _ _ _ _ _ _ _ _ _ _ _ _ _ _ _ _ _ _ _ _ _ _ _ _ _ _ _ _ _ _ _ _ _ _ _ _ _ _ _ _ _ _ _ _ _ _ _ _ _ _ _ _ _ _ _ _ _ _ _ hKP _ _ _ => lKP_room hKP)
    refine lv_iload_n hx hb dL_law_18 rfl (lv_at hl 3 rfl) ?_
    refine lv_aload_n hx hb dL_law_19 rfl (lv_at hl 0 rfl) ?_
    refine va_slen hx hb hX hbl hbA hS dL_law_20 ?_
    refine lv_bipush (v := (6 : Int32)) hx hb dL_law_21 (by decide) ?_
    refine lv_isub hx hb dL_law_23 ?_
    refine lv_icmp_gt (tgt := 1609) hx hb dL_law_24 (by decide) (fun _ => ?_) (fun hc => ?_)
    · refine lv_iconst (v := 1) hx hb dL_law_1609 (by decide) ?_
      refine va_forget (fun q hq => hS.2.2 q hq) ?_
      refine W.widen (k := 600000) (n := 7302250) hf.1 hf.2 ?_
      exact lw_ret hx hb hr hlocks dL_law_1610
    · have hi6 : i + 6 ≤ L := sub6 hL hi hc
      have kk : ∀ (H : Heap) (locs : List Loc) (cells slots : Nat), LI D cI ad qp qb qa qt qr qv qh qm s (i + 6) H locs cells slots → W p l e room_1 s m #[Value.ref b] below meth c H locs cells slots (lw_Z below #[Value.ref b] s) (F0 m 1603 ls []) := by
        intro H locs cells slots I
        refine lv_iinc (v := nI (i + 6)) (lv' := [(3, .int (nI (i + 6))), (0, .ref b), (1, .ref (qp 0)), (2, .ref (qm 0))]) hx hb dL_law_1603 hl (k := 3) rfl (nI_add i 6) (by decide) rfl (fun ls hl => ?_)
        refine lv_goto (tgt := 18) hx hb dL_law_1606 (by decide) ?_
        exact ih (i + 6) hi6 (by omega) H locs cells slots I ls (lv_sub hl [1, 2, 3, 0] rfl)
      refine lv_aload_n hx hb dL_law_27 rfl (lv_at hl 0 rfl) ?_
      refine lv_iload_n hx hb dL_law_28 rfl (lv_at hl 3 rfl) ?_
      refine va_sld hx hb hX hbl hbA hS (vp_in_nI (by omega) (by omega)) dL_law_29 ?_
      refine lv_bipush (v := (63 : Int32)) hx hb dL_law_30 (by decide) ?_
      refine lv_iand hx hb dL_law_32 ?_
      obtain ⟨v, hv, ev⟩ := and63 (xs (nI i).toNatClampNeg)
      rw [ev]
      clear ev
      rcases Nat.lt_or_ge v 45 with hv2 | hv2
      case inr =>
        refine lv_tableOut (tgt := 1603) hx hb dL_law_33 (Or.inr ?_) (by decide) ?_
        · rw [nI_toInt (by omega)]; omega
        · refine kk _ _ _ _ ?_
          exact LI_elim I (fun p_kept K t r_rt r_ni images b_now b_shutTill b_shutBy b_z b_waits a_done t_taped r_at r_coded r_taped v_kind v_number v_writer v_parted m_newMany m_at m_open m_steps m_use m_speaks m_isParted E tr bits hsz b_waiting b_worths a_kinds a_writers a_minutes a_matters a_undoers a_scores a_sizes a_cells a_common t_tape t_codes t_lengths t_named t_stack r_code h_numbers m_s m_kept m_newWord m_newOrigin m_step m_named m_pile m_common m_undoneBy m_number m_aside B Hs ht hni hKP hP hD hS => ⟨p_kept, K, t, r_rt, r_ni, images, b_now, b_shutTill, b_shutBy, b_z, b_waits, a_done, t_taped, r_at, r_coded, r_taped, v_kind, v_number, v_writer, v_parted, m_newMany, m_at, m_open, m_steps, m_use, m_speaks, m_isParted, E, tr, bits, hsz, b_waiting, b_worths, a_kinds, a_writers, a_minutes, a_matters, a_undoers, a_scores, a_sizes, a_cells, a_common, t_tape, t_codes, t_lengths, t_named, t_stack, r_code, h_numbers, m_s, m_kept, m_newWord, m_newOrigin, m_step, m_named, m_pile, m_common, m_undoneBy, m_number, m_aside, B, Hs, ht, hni, lKP_mono (by omega) hKP, hP, hD, hS⟩)
      match v, hv2 with
      | 0, _ => exact lv_tableIn (off := 195) (tgt := 228) hx hb dL_law_33 (by decide) (by decide) rfl (by decide) (k_go C hi6 hL hl I kk)
      | 1, _ => exact lv_tableIn (off := 218) (tgt := 251) hx hb dL_law_33 (by decide) (by decide) rfl (by decide) (k_write C hi6 hL hl I kk)
      | 2, _ => exact lv_tableIn (off := 261) (tgt := 294) hx hb dL_law_33 (by decide) (by decide) rfl (by decide) (k_cut C hi6 hL hl I kk)
      | 3, _ => exact lv_tableIn (off := 284) (tgt := 317) hx hb dL_law_33 (by decide) (by decide) rfl (by decide) (k_back C hi6 hL hl I kk)
      | 4, _ => exact lv_tableIn (off := 317) (tgt := 350) hx hb dL_law_33 (by decide) (by decide) rfl (by decide) (k_half C hi6 hL hl I kk)
      | 5, _ => exact lv_tableIn (off := 360) (tgt := 393) hx hb dL_law_33 (by decide) (by decide) rfl (by decide) (k_shut C hi6 hL hl I kk)
      | 6, _ => exact lv_tableIn (off := 393) (tgt := 426) hx hb dL_law_33 (by decide) (by decide) rfl (by decide) (k_talk C hi6 hL hl I kk)
      | 7, _ => exact lv_tableIn (off := 426) (tgt := 459) hx hb dL_law_33 (by decide) (by decide) rfl (by decide) (k_actIs C hi6 hL hl I kk)
      | 8, _ => exact lv_tableIn (off := 459) (tgt := 492) hx hb dL_law_33 (by decide) (by decide) rfl (by decide) (k_as C hi6 hL hl I kk)
      | 9, _ => exact lv_tableIn (off := 492) (tgt := 525) hx hb dL_law_33 (by decide) (by decide) rfl (by decide) (k_word C hi6 hL hl I kk)
      | 10, _ => exact lv_tableIn (off := 525) (tgt := 558) hx hb dL_law_33 (by decide) (by decide) rfl (by decide) (k_origin C hi6 hL hl I kk)
      | 11, _ => exact lv_tableIn (off := 558) (tgt := 591) hx hb dL_law_33 (by decide) (by decide) rfl (by decide) (k_may C hi6 hL hl I kk)
      | 12, _ => exact lv_tableIn (off := 581) (tgt := 614) hx hb dL_law_33 (by decide) (by decide) rfl (by decide) (k_feed C hi6 hL hl I kk)
      | 13, _ => exact lv_tableIn (off := 644) (tgt := 677) hx hb dL_law_33 (by decide) (by decide) rfl (by decide) (k_text C hi6 hL hl I kk)
      | 14, _ => exact lv_tableIn (off := 667) (tgt := 700) hx hb dL_law_33 (by decide) (by decide) rfl (by decide) (k_untell C hi6 hL hl I kk)
      | 15, _ => exact lv_tableIn (off := 690) (tgt := 723) hx hb dL_law_33 (by decide) (by decide) rfl (by decide) (k_live C hi6 hL hl I kk)
      | 16, _ => exact lv_tableIn (off := 713) (tgt := 746) hx hb dL_law_33 (by decide) (by decide) rfl (by decide) (k_seed C hi6 hL hl I kk)
      | 17, _ => exact lv_tableIn (off := 736) (tgt := 769) hx hb dL_law_33 (by decide) (by decide) rfl (by decide) (k_alike C hi6 hL hl I kk)
      | 18, _ => exact lv_tableIn (off := 769) (tgt := 802) hx hb dL_law_33 (by decide) (by decide) rfl (by decide) (k_likeness C hi6 hL hl I kk)
      | 19, _ => exact lv_tableIn (off := 802) (tgt := 835) hx hb dL_law_33 (by decide) (by decide) rfl (by decide) (k_from C hi6 hL hl I kk)
      | 20, _ => exact lv_tableIn (off := 825) (tgt := 858) hx hb dL_law_33 (by decide) (by decide) rfl (by decide) (k_war C hi6 hL hl I kk)
      | 21, _ => exact lv_tableIn (off := 858) (tgt := 891) hx hb dL_law_33 (by decide) (by decide) rfl (by decide) (k_longest C hi6 hL hl I kk)
      | 22, _ => exact lv_tableIn (off := 871) (tgt := 904) hx hb dL_law_33 (by decide) (by decide) rfl (by decide) (k_stays C hi6 hL hl I kk)
      | 23, _ => exact lv_tableIn (off := 894) (tgt := 927) hx hb dL_law_33 (by decide) (by decide) rfl (by decide) (k_writerIs C hi6 hL hl I kk)
      | 24, _ => exact lv_tableIn (off := 927) (tgt := 960) hx hb dL_law_33 (by decide) (by decide) rfl (by decide) (k_read C hi6 hL hl I kk)
      | 25, _ => exact lv_tableIn (off := 950) (tgt := 983) hx hb dL_law_33 (by decide) (by decide) rfl (by decide) (k_wrong C hi6 hL hl I kk)
      | 26, _ => exact lv_tableIn (off := 993) (tgt := 1026) hx hb dL_law_33 (by decide) (by decide) rfl (by decide) (k_hand C hi6 hL hl I kk)
      | 27, _ => exact lv_tableIn (off := 1026) (tgt := 1059) hx hb dL_law_33 (by decide) (by decide) rfl (by decide) (k_score C hi6 hL hl I kk)
      | 28, _ => exact lv_tableIn (off := 1059) (tgt := 1092) hx hb dL_law_33 (by decide) (by decide) rfl (by decide) (k_line C hi6 hL hl I kk)
      | 29, _ => exact lv_tableIn (off := 1102) (tgt := 1135) hx hb dL_law_33 (by decide) (by decide) rfl (by decide) (k_worth C hi6 hL hl I kk)
      | 30, _ => exact lv_tableIn (off := 1135) (tgt := 1168) hx hb dL_law_33 (by decide) (by decide) rfl (by decide) (k_value C hi6 hL hl I kk)
      | 31, _ => exact lv_tableIn (off := 1158) (tgt := 1191) hx hb dL_law_33 (by decide) (by decide) rfl (by decide) (k_best C hi6 hL hl I kk)
      | 32, _ => exact lv_tableIn (off := 1171) (tgt := 1204) hx hb dL_law_33 (by decide) (by decide) rfl (by decide) (k_got C hi6 hL hl I kk)
      | 33, _ => exact lv_tableIn (off := 1204) (tgt := 1237) hx hb dL_law_33 (by decide) (by decide) rfl (by decide) (k_voice C hi6 hL hl I kk)
      | 34, _ => exact lv_tableIn (off := 1247) (tgt := 1280) hx hb dL_law_33 (by decide) (by decide) rfl (by decide) (k_body C hi6 hL hl I kk)
      | 35, _ => exact lv_tableIn (off := 1270) (tgt := 1303) hx hb dL_law_33 (by decide) (by decide) rfl (by decide) (k_sheet C hi6 hL hl I kk)
      | 36, _ => exact lv_tableIn (off := 1313) (tgt := 1346) hx hb dL_law_33 (by decide) (by decide) rfl (by decide) (k_put C hi6 hL hl I kk)
      | 37, _ => exact lv_tableIn (off := 1356) (tgt := 1389) hx hb dL_law_33 (by decide) (by decide) rfl (by decide) (k_move C hi6 hL hl I kk)
      | 38, _ => exact lv_tableIn (off := 1419) (tgt := 1452) hx hb dL_law_33 (by decide) (by decide) rfl (by decide) (k_words C hi6 hL hl I kk)
      | 39, _ => exact lv_tableIn (off := 1452) (tgt := 1485) hx hb dL_law_33 (by decide) (by decide) rfl (by decide) (k_image C hi6 hL hl I kk)
      | 40, _ => exact lv_tableIn (off := 1465) (tgt := 1498) hx hb dL_law_33 (by decide) (by decide) rfl (by decide) (k_restore C hi6 hL hl I kk)
      | 41, _ => exact lv_tableIn (off := 1478) (tgt := 1511) hx hb dL_law_33 (by decide) (by decide) rfl (by decide) (k_tell C hi6 hL hl I kk)
      | 42, _ => exact lv_tableIn (off := 1501) (tgt := 1534) hx hb dL_law_33 (by decide) (by decide) rfl (by decide) (k_check C hi6 hL hl I kk)
      | 43, _ => exact lv_tableIn (off := 1524) (tgt := 1557) hx hb dL_law_33 (by decide) (by decide) rfl (by decide) (k_count C hi6 hL hl I kk)
      | 44, _ => exact lv_tableIn (off := 1547) (tgt := 1580) hx hb dL_law_33 (by decide) (by decide) rfl (by decide) (k_told C hi6 hL hl I kk)
      | k + 45, h => exact absurd h (by omega)
