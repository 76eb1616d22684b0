set_option maxHeartbeats 4000000 in
set_option maxRecDepth 100000 in
theorem c6_writerIs (l : Launch) (D : va_G) (cI : ClassId) (ad : Nat → Nat) (qp qb qa qt qr qv qh : Nat → Nat) (p_kept : Value) (p_timesKept b_now b_shutTill b_shutBy b_z b_waits a_done : Int32) (p_errors a_kinds a_writers a_minutes a_undoers a_sizes a_cells : Nat → Int32) (x1 : Int32) (x2 : Int32) (n : Nat) (u : Int32 × (Nat → Int32)) (h : f6_writerIs n x1 x2 b_now a_done p_errors a_kinds a_writers a_minutes a_undoers a_sizes a_cells = some u) : q_RW (cE ad) l yX6_writerIs wsX6_writerIs (rmq (3)) D cI [.ref (qp 0), .int x1, .int x2] [(qp 0, .inr (6, oX6 qp (qb 0) (qr 0) (qv 0) (qh 0) p_kept p_timesKept)), (qb 0, .inr (1, oX1 qb b_now b_shutTill b_shutBy b_z b_waits (qa 0) (qt 0))), (qa 0, .inr (0, oX0 qa a_done)), (qp 5, .inl (cI, 7, .inl p_errors)), (qa 2, .inl (cI, 60, .inl a_kinds)), (qa 3, .inl (cI, 60, .inl a_writers)), (qa 4, .inl (cI, 60, .inl a_minutes)), (qa 6, .inl (cI, 60, .inl a_undoers)), (qa 8, .inl (cI, 61, .inl a_sizes)), (qa 9, .inl (cI, 1220, .inl a_cells))] [(qp 0, .inr (6, oX6 qp (qb 0) (qr 0) (qv 0) (qh 0) p_kept p_timesKept)), (qb 0, .inr (1, oX1 qb b_now b_shutTill b_shutBy b_z b_waits (qa 0) (qt 0))), (qa 0, .inr (0, oX0 qa a_done)), (qp 5, .inl (cI, 7, .inl u.2)), (qa 2, .inl (cI, 60, .inl a_kinds)), (qa 3, .inl (cI, 60, .inl a_writers)), (qa 4, .inl (cI, 60, .inl a_minutes)), (qa 6, .inl (cI, 60, .inl a_undoers)), (qa 8, .inl (cI, 61, .inl a_sizes)), (qa 9, .inl (cI, 1220, .inl a_cells))] u.1 := by
  refine q_startW (fun u : Int32 × (Nat → Int32) => [(qp 0, .inr (6, oX6 qp (qb 0) (qr 0) (qv 0) (qh 0) p_kept p_timesKept)), (qb 0, .inr (1, oX1 qb b_now b_shutTill b_shutBy b_z b_waits (qa 0) (qt 0))), (qa 0, .inr (0, oX0 qa a_done)), (qp 5, .inl (cI, 7, .inl u.2)), (qa 2, .inl (cI, 60, .inl a_kinds)), (qa 3, .inl (cI, 60, .inl a_writers)), (qa 4, .inl (cI, 60, .inl a_minutes)), (qa 6, .inl (cI, 60, .inl a_undoers)), (qa 8, .inl (cI, 61, .inl a_sizes)), (qa 9, .inl (cI, 1220, .inl a_cells))]) (fun u => u.1) (cc := cX6_writerIs) (maxL := 4) (ty := .int) (own := RX6) (by decide) rfl rfl (Nat.le_of_ble_eq_true rfl) rfl (fun p e s m args below meth c Q A hx hb hml hown hts hK hEv hA hret hP hD hS ls hl => ?_)
  have in0 : ∀ w ∈ wsX00, w ∈ wsX6_writerIs := fun w h => List.mem_cons_of_mem _ (List.mem_append_right _ (h))
  have in1 : ∀ w ∈ wsX10, w ∈ wsX6_writerIs := fun w h => List.mem_cons_of_mem _ (List.mem_append_left _ (List.mem_append_right _ (h)))
  have in6 : ∀ w ∈ wsX60, w ∈ wsX6_writerIs := fun w h => List.mem_cons_of_mem _ (List.mem_append_left _ (List.mem_append_left _ (List.mem_append_right _ (h))))
  have l10 := hts (.fieldLink RX6 10 "PageWars" "book" "LPageWars$Book;") (List.mem_of_getElem? (i := 1) rfl)
  have l45 : (Cond.fieldLinkNest RX6 45 "PageWars$Book" "now" "I" "PageWars").before args s = true := cE_f6_45 hEv
  have l63 : (Cond.fieldLinkNest RX6 63 "PageWars$Book" "acts" "LPageWars$Acts;" "PageWars").before args s = true := cE_f6_63 hEv
  have l181 : (Cond.fieldLinkNest RX6 181 "PageWars$Acts" "done" "I" "PageWars").before args s = true := cE_f6_181 hEv
  have J145 : ∀ (s0 : Int32) (p_errors : (Nat → Int32)) (H : Heap) (locs : List Loc) (ls : Array Slot), lv_has ls 4 [(0, .ref (qp 0))] → va_P D vwCl [(qp 0, .inr (6, oX6 qp (qb 0) (qr 0) (qv 0) (qh 0) p_kept p_timesKept)), (qb 0, .inr (1, oX1 qb b_now b_shutTill b_shutBy b_z b_waits (qa 0) (qt 0))), (qa 0, .inr (0, oX0 qa a_done)), (qp 5, .inl (cI, 7, .inl p_errors)), (qa 2, .inl (cI, 60, .inl a_kinds)), (qa 3, .inl (cI, 60, .inl a_writers)), (qa 4, .inl (cI, 60, .inl a_minutes)), (qa 6, .inl (cI, 60, .inl a_undoers)), (qa 8, .inl (cI, 61, .inl a_sizes)), (qa 9, .inl (cI, 1220, .inl a_cells))] H → va_D A [(qp 0, .inr (6, oX6 qp (qb 0) (qr 0) (qv 0) (qh 0) p_kept p_timesKept)), (qb 0, .inr (1, oX1 qb b_now b_shutTill b_shutBy b_z b_waits (qa 0) (qt 0))), (qa 0, .inr (0, oX0 qa a_done)), (qp 5, .inl (cI, 7, .inl p_errors)), (qa 2, .inl (cI, 60, .inl a_kinds)), (qa 3, .inl (cI, 60, .inl a_writers)), (qa 4, .inl (cI, 60, .inl a_minutes)), (qa 6, .inl (cI, 60, .inl a_undoers)), (qa 8, .inl (cI, 61, .inl a_sizes)), (qa 9, .inl (cI, 1220, .inl a_cells))] → va_S A s.heap H locs → f6_writerIs_145 n b_now a_done a_kinds a_writers a_minutes a_undoers a_sizes a_cells s0 p_errors = some u → W p l e (rmq (3)) s m args below meth c H locs 0 0 Q (F0 m 145 ls [.int s0]) := by
    intro s0 p_errors H locs ls hl hP hD hS h
    unfold f6_writerIs_145 at h
    exact hret (s0, p_errors) _ _ _ _ (vp_nar_int _) h hP hD hS dX6_writerIs_145
  unfold f6_writerIs at h
  refine lv_iload_n hx hb dX6_writerIs_0 rfl (lv_at hl 1 rfl) ?_
  refine q_callRS (cEok ad) (rest := []) ⟨hx, hb, hml, hown, hts⟩ (fun r hr => c6_isWriter l D cI ad x1 r hr) (va_cwS 1 hts gX6_writerIs_X6_isWriter rfl rfl rfl hdX6_isWriter (rmq_ok (Nat.le_of_ble_eq_true rfl) (Nat.le_of_ble_eq_true rfl))) hK hP hEv hS [] rfl rfl rfl hl.1 (Nat.le_of_ble_eq_true rfl) ⟨Nat.zero_le _, Nat.zero_le _⟩ h dX6_writerIs_1 (fun t1 h => ?_)
  refine q_ifne hx hb 13 h dX6_writerIs_4 (by decide) (fun h => ?_) (fun h => ?_)
  · refine lv_iload_n hx hb dX6_writerIs_13 rfl (lv_at hl 2 rfl) ?_
    rcases Decidable.em (x2 = (0 : Int32)) with w0 | w0
    · have h := q_t h w0
      refine lv_tableIn hx hb dX6_writerIs_14 (off := 34) (tgt := 48) (by rw [w0]; decide) (by rw [w0]; decide) (by rw [w0]; rfl) (by decide) ?_
      refine lv_aload_n hx hb dX6_writerIs_48 rfl (lv_at hl 0 rfl) ?_
      refine va_get (D := D) (ci := 6) (v := .ref (qb 0)) (C := RX6) (T := TX6) (N := 7) hx hb hts in6 hown hK hP 0 rfl rfl 0 (by decide) l10 (fun _ h9 => h9) rfl dX6_writerIs_49 ?_
      refine va_getN (D := D) (ci := 1) (v := .ref (qa 0)) (C := RX1) (T := TX1) (N := 9) hx hb hts in1 hown hK hP 1 rfl rfl 7 (by decide) l63 (fun _ h9 => h9) rfl dX6_writerIs_52 ?_
      refine lv_iload_n hx hb dX6_writerIs_55 rfl (lv_at hl 1 rfl) ?_
      refine lv_aload_n hx hb dX6_writerIs_56 rfl (lv_at hl 0 rfl) ?_
      refine va_get (D := D) (ci := 6) (v := .ref (qb 0)) (C := RX6) (T := TX6) (N := 7) hx hb hts in6 hown hK hP 0 rfl rfl 0 (by decide) l10 (fun _ h9 => h9) rfl dX6_writerIs_57 ?_
      refine va_getN (D := D) (ci := 1) (v := .ref (qa 0)) (C := RX1) (T := TX1) (N := 9) hx hb hts in1 hown hK hP 1 rfl rfl 7 (by decide) l63 (fun _ h9 => h9) rfl dX6_writerIs_60 ?_
      refine va_getN (D := D) (ci := 0) (v := .int a_done) (C := RX0) (T := TX0) (N := 10) hx hb hts in0 hown hK hP 2 rfl rfl 0 (by decide) l181 (fun _ h9 => h9) rfl dX6_writerIs_63 ?_
      refine q_callR (cEok ad) (rest := []) ⟨hx, hb, hml, hown, hts⟩ (fun r hr => c0_wordsBy l D cI ad qa a_done a_writers a_sizes a_cells x1 a_done n r hr) (cwV 2 hts gX6_writerIs_X0_wordsBy rfl rfl rfl hdX0_wordsBy (rmq_ok (Nat.le_of_ble_eq_true rfl) (Nat.le_of_ble_eq_true rfl))) hK hP hEv hS [2, 5, 8, 9] rfl (va_recv hK hP (ci := 0) (q0 := 2) rfl rfl) rfl rfl hl.1 (Nat.le_of_ble_eq_true rfl) ⟨Nat.zero_le _, Nat.zero_le _⟩ h dX6_writerIs_66 (fun t66 h => ?_)
      exact hret (t66, p_errors) _ _ _ _ (vp_nar_int _) h hP hD hS dX6_writerIs_69
    have h := q_f h w0
    rcases Decidable.em (x2 = (1 : Int32)) with w1 | w1
    · have h := q_t h w1
      refine lv_tableIn hx hb dX6_writerIs_14 (off := 56) (tgt := 70) (by rw [w1]; decide) (by rw [w1]; decide) (by rw [w1]; rfl) (by decide) ?_
      refine lv_aload_n hx hb dX6_writerIs_70 rfl (lv_at hl 0 rfl) ?_
      refine va_get (D := D) (ci := 6) (v := .ref (qb 0)) (C := RX6) (T := TX6) (N := 7) hx hb hts in6 hown hK hP 0 rfl rfl 0 (by decide) l10 (fun _ h9 => h9) rfl dX6_writerIs_71 ?_
      refine va_getN (D := D) (ci := 1) (v := .ref (qa 0)) (C := RX1) (T := TX1) (N := 9) hx hb hts in1 hown hK hP 1 rfl rfl 7 (by decide) l63 (fun _ h9 => h9) rfl dX6_writerIs_74 ?_
      refine lv_iload_n hx hb dX6_writerIs_77 rfl (lv_at hl 1 rfl) ?_
      refine lv_aload_n hx hb dX6_writerIs_78 rfl (lv_at hl 0 rfl) ?_
      refine va_get (D := D) (ci := 6) (v := .ref (qb 0)) (C := RX6) (T := TX6) (N := 7) hx hb hts in6 hown hK hP 0 rfl rfl 0 (by decide) l10 (fun _ h9 => h9) rfl dX6_writerIs_79 ?_
      refine va_getN (D := D) (ci := 1) (v := .int b_now) (C := RX1) (T := TX1) (N := 9) hx hb hts in1 hown hK hP 1 rfl rfl 0 (by decide) l45 (fun _ h9 => h9) rfl dX6_writerIs_82 ?_
      refine q_callR (cEok ad) (rest := []) ⟨hx, hb, hml, hown, hts⟩ (fun r hr => c0_staysBy l D cI ad qa a_done a_writers a_minutes a_sizes a_cells x1 b_now n r hr) (cwV 2 hts gX6_writerIs_X0_staysBy rfl rfl rfl hdX0_staysBy (rmq_ok (Nat.le_of_ble_eq_true rfl) (Nat.le_of_ble_eq_true rfl))) hK hP hEv hS [2, 5, 6, 8, 9] rfl (va_recv hK hP (ci := 0) (q0 := 2) rfl rfl) rfl rfl hl.1 (Nat.le_of_ble_eq_true rfl) ⟨Nat.zero_le _, Nat.zero_le _⟩ h dX6_writerIs_85 (fun t85 h => ?_)
      exact hret (t85, p_errors) _ _ _ _ (vp_nar_int _) h hP hD hS dX6_writerIs_88
    have h := q_f h w1
    rcases Decidable.em (x2 = (2 : Int32)) with w2 | w2
    · have h := q_t h w2
      refine lv_tableIn hx hb dX6_writerIs_14 (off := 75) (tgt := 89) (by rw [w2]; decide) (by rw [w2]; decide) (by rw [w2]; rfl) (by decide) ?_
      refine lv_aload_n hx hb dX6_writerIs_89 rfl (lv_at hl 0 rfl) ?_
      refine va_get (D := D) (ci := 6) (v := .ref (qb 0)) (C := RX6) (T := TX6) (N := 7) hx hb hts in6 hown hK hP 0 rfl rfl 0 (by decide) l10 (fun _ h9 => h9) rfl dX6_writerIs_90 ?_
      refine va_getN (D := D) (ci := 1) (v := .ref (qa 0)) (C := RX1) (T := TX1) (N := 9) hx hb hts in1 hown hK hP 1 rfl rfl 7 (by decide) l63 (fun _ h9 => h9) rfl dX6_writerIs_93 ?_
      refine lv_iload_n hx hb dX6_writerIs_96 rfl (lv_at hl 1 rfl) ?_
      refine q_callR (cEok ad) (rest := []) ⟨hx, hb, hml, hown, hts⟩ (fun r hr => c0_undoneOf l D cI ad qa a_done a_writers a_undoers x1 n r hr) (cwV 1 hts gX6_writerIs_X0_undoneOf rfl rfl rfl hdX0_undoneOf (rmq_ok (Nat.le_of_ble_eq_true rfl) (Nat.le_of_ble_eq_true rfl))) hK hP hEv hS [2, 5, 7] rfl (va_recv hK hP (ci := 0) (q0 := 2) rfl rfl) rfl rfl hl.1 (Nat.le_of_ble_eq_true rfl) ⟨Nat.zero_le _, Nat.zero_le _⟩ h dX6_writerIs_97 (fun t97 h => ?_)
      exact hret (t97, p_errors) _ _ _ _ (vp_nar_int _) h hP hD hS dX6_writerIs_100
    have h := q_f h w2
    rcases Decidable.em (x2 = (3 : Int32)) with w3 | w3
    · have h := q_t h w3
      refine lv_tableIn hx hb dX6_writerIs_14 (off := 87) (tgt := 101) (by rw [w3]; decide) (by rw [w3]; decide) (by rw [w3]; rfl) (by decide) ?_
      refine lv_aload_n hx hb dX6_writerIs_101 rfl (lv_at hl 0 rfl) ?_
      refine va_get (D := D) (ci := 6) (v := .ref (qb 0)) (C := RX6) (T := TX6) (N := 7) hx hb hts in6 hown hK hP 0 rfl rfl 0 (by decide) l10 (fun _ h9 => h9) rfl dX6_writerIs_102 ?_
      refine va_getN (D := D) (ci := 1) (v := .ref (qa 0)) (C := RX1) (T := TX1) (N := 9) hx hb hts in1 hown hK hP 1 rfl rfl 7 (by decide) l63 (fun _ h9 => h9) rfl dX6_writerIs_105 ?_
      refine lv_iload_n hx hb dX6_writerIs_108 rfl (lv_at hl 1 rfl) ?_
      refine lv_aload_n hx hb dX6_writerIs_109 rfl (lv_at hl 0 rfl) ?_
      refine va_get (D := D) (ci := 6) (v := .ref (qb 0)) (C := RX6) (T := TX6) (N := 7) hx hb hts in6 hown hK hP 0 rfl rfl 0 (by decide) l10 (fun _ h9 => h9) rfl dX6_writerIs_110 ?_
      refine va_getN (D := D) (ci := 1) (v := .int b_now) (C := RX1) (T := TX1) (N := 9) hx hb hts in1 hown hK hP 1 rfl rfl 0 (by decide) l45 (fun _ h9 => h9) rfl dX6_writerIs_113 ?_
      refine q_callR (cEok ad) (rest := []) ⟨hx, hb, hml, hown, hts⟩ (fun r hr => c0_backsBy l D cI ad qa a_done a_kinds a_writers a_minutes x1 b_now n r hr) (cwV 2 hts gX6_writerIs_X0_backsBy rfl rfl rfl hdX0_backsBy (rmq_ok (Nat.le_of_ble_eq_true rfl) (Nat.le_of_ble_eq_true rfl))) hK hP hEv hS [2, 4, 5, 6] rfl (va_recv hK hP (ci := 0) (q0 := 2) rfl rfl) rfl rfl hl.1 (Nat.le_of_ble_eq_true rfl) ⟨Nat.zero_le _, Nat.zero_le _⟩ h dX6_writerIs_116 (fun t116 h => ?_)
      exact hret (t116, p_errors) _ _ _ _ (vp_nar_int _) h hP hD hS dX6_writerIs_119
    have h := q_f h w3
    rcases Decidable.em (x2 = (4 : Int32)) with w4 | w4
    · have h := q_t h w4
      refine lv_tableIn hx hb dX6_writerIs_14 (off := 106) (tgt := 120) (by rw [w4]; decide) (by rw [w4]; decide) (by rw [w4]; rfl) (by decide) ?_
      refine lv_aload_n hx hb dX6_writerIs_120 rfl (lv_at hl 0 rfl) ?_
      refine va_get (D := D) (ci := 6) (v := .ref (qb 0)) (C := RX6) (T := TX6) (N := 7) hx hb hts in6 hown hK hP 0 rfl rfl 0 (by decide) l10 (fun _ h9 => h9) rfl dX6_writerIs_121 ?_
      refine va_getN (D := D) (ci := 1) (v := .ref (qa 0)) (C := RX1) (T := TX1) (N := 9) hx hb hts in1 hown hK hP 1 rfl rfl 7 (by decide) l63 (fun _ h9 => h9) rfl dX6_writerIs_124 ?_
      refine lv_iload_n hx hb dX6_writerIs_127 rfl (lv_at hl 1 rfl) ?_
      refine q_callR (cEok ad) (rest := []) ⟨hx, hb, hml, hown, hts⟩ (fun r hr => c0_offFrom l D cI ad qa a_done a_writers a_minutes a_undoers x1 n r hr) (cwV 1 hts gX6_writerIs_X0_offFrom rfl rfl rfl hdX0_offFrom (rmq_ok (Nat.le_of_ble_eq_true rfl) (Nat.le_of_ble_eq_true rfl))) hK hP hEv hS [2, 5, 6, 7] rfl (va_recv hK hP (ci := 0) (q0 := 2) rfl rfl) rfl rfl hl.1 (Nat.le_of_ble_eq_true rfl) ⟨Nat.zero_le _, Nat.zero_le _⟩ h dX6_writerIs_128 (fun t128 h => ?_)
      refine lv_istore_n (lv' := [(3, .int t128), (0, .ref (qp 0)), (1, .int x1), (2, .int x2)]) hx hb dX6_writerIs_131 rfl hl (by decide) rfl (fun ls hl => ?_)
      refine lv_iload_n hx hb dX6_writerIs_132 rfl (lv_at hl 0 rfl) ?_
      refine q_ifge hx hb 144 h dX6_writerIs_133 (by decide) (fun h => ?_) (fun h => ?_)
      · refine lv_iload_n hx hb dX6_writerIs_144 rfl (lv_at hl 0 rfl) ?_
        exact J145 t128 p_errors _ _ _ (lv_sub hl [1] rfl) hP hD hS h
      · refine lv_aload_n hx hb dX6_writerIs_136 rfl (lv_at hl 1 rfl) ?_
        refine lv_iconst (v := (2 : Int32)) hx hb dX6_writerIs_137 (by decide) ?_
        refine q_callW2 (cEok ad) (rest := []) (fun u => [(qp 0, .inr (6, oX6 qp (qb 0) (qr 0) (qv 0) (qh 0) p_kept p_timesKept)), (qp 5, .inl (cI, 7, .inl u.2))]) (fun u => u.1) ⟨hx, hb, hml, hown, hts⟩ (fun u hu => c6_error l D cI ad qp qb qr qv qh p_kept p_timesKept p_errors ((2 : Int32)) u hu) (cwV 1 hts gX6_writerIs_X6_error rfl rfl rfl hdX6_error (rmq_ok (Nat.le_of_ble_eq_true rfl) (Nat.le_of_ble_eq_true rfl))) hK hEv hA hP hD hS [0, 3] (by decide) rfl (fun _ => rfl) (va_recv hK hP (ci := 6) (q0 := 0) rfl rfl) rfl rfl hl.1 (Nat.le_of_ble_eq_true rfl) ⟨Nat.zero_le _, Nat.zero_le _⟩ h dX6_writerIs_138 (fun t138 p_errors_138 H locs h hP hD hS => ?_)
        have hP : va_P D vwCl [(qp 0, .inr (6, oX6 qp (qb 0) (qr 0) (qv 0) (qh 0) p_kept p_timesKept)), (qb 0, .inr (1, oX1 qb b_now b_shutTill b_shutBy b_z b_waits (qa 0) (qt 0))), (qa 0, .inr (0, oX0 qa a_done)), (qp 5, .inl (cI, 7, .inl p_errors_138)), (qa 2, .inl (cI, 60, .inl a_kinds)), (qa 3, .inl (cI, 60, .inl a_writers)), (qa 4, .inl (cI, 60, .inl a_minutes)), (qa 6, .inl (cI, 60, .inl a_undoers)), (qa 8, .inl (cI, 61, .inl a_sizes)), (qa 9, .inl (cI, 1220, .inl a_cells))] H := hP
        have hD : va_D A [(qp 0, .inr (6, oX6 qp (qb 0) (qr 0) (qv 0) (qh 0) p_kept p_timesKept)), (qb 0, .inr (1, oX1 qb b_now b_shutTill b_shutBy b_z b_waits (qa 0) (qt 0))), (qa 0, .inr (0, oX0 qa a_done)), (qp 5, .inl (cI, 7, .inl p_errors_138)), (qa 2, .inl (cI, 60, .inl a_kinds)), (qa 3, .inl (cI, 60, .inl a_writers)), (qa 4, .inl (cI, 60, .inl a_minutes)), (qa 6, .inl (cI, 60, .inl a_undoers)), (qa 8, .inl (cI, 61, .inl a_sizes)), (qa 9, .inl (cI, 1220, .inl a_cells))] := hD
        refine lv_goto (tgt := 145) hx hb dX6_writerIs_141 (by decide) ?_
        exact J145 t138 p_errors_138 _ _ _ (lv_sub hl [1] rfl) hP hD hS h
    have h := q_f h w4
    refine lv_tableOut hx hb dX6_writerIs_14 (tgt := 146) (q_out (fun k hk e => ?_)) (by decide) ?_
    · rcases (show k = 0 ∨ k = 1 ∨ k = 2 ∨ k = 3 ∨ k = 4 by omega) with rfl | rfl | rfl | rfl | rfl
      · exact w0 (Int32.toInt_inj.mp (e.trans (by decide)))
      · exact w1 (Int32.toInt_inj.mp (e.trans (by decide)))
      · exact w2 (Int32.toInt_inj.mp (e.trans (by decide)))
      · exact w3 (Int32.toInt_inj.mp (e.trans (by decide)))
      · exact w4 (Int32.toInt_inj.mp (e.trans (by decide)))
    · refine lv_aload_n hx hb dX6_writerIs_146 rfl (lv_at hl 0 rfl) ?_
      refine lv_iconst (v := (1 : Int32)) hx hb dX6_writerIs_147 (by decide) ?_
      refine q_callW2 (cEok ad) (rest := []) (fun u => [(qp 0, .inr (6, oX6 qp (qb 0) (qr 0) (qv 0) (qh 0) p_kept p_timesKept)), (qp 5, .inl (cI, 7, .inl u.2))]) (fun u => u.1) ⟨hx, hb, hml, hown, hts⟩ (fun u hu => c6_error l D cI ad qp qb qr qv qh p_kept p_timesKept p_errors ((1 : Int32)) u hu) (cwV 1 hts gX6_writerIs_X6_error rfl rfl rfl hdX6_error (rmq_ok (Nat.le_of_ble_eq_true rfl) (Nat.le_of_ble_eq_true rfl))) hK hEv hA hP hD hS [0, 3] (by decide) rfl (fun _ => rfl) (va_recv hK hP (ci := 6) (q0 := 0) rfl rfl) rfl rfl hl.1 (Nat.le_of_ble_eq_true rfl) ⟨Nat.zero_le _, Nat.zero_le _⟩ h dX6_writerIs_148 (fun t148 p_errors_148 H locs h hP hD hS => ?_)
      have hP : va_P D vwCl [(qp 0, .inr (6, oX6 qp (qb 0) (qr 0) (qv 0) (qh 0) p_kept p_timesKept)), (qb 0, .inr (1, oX1 qb b_now b_shutTill b_shutBy b_z b_waits (qa 0) (qt 0))), (qa 0, .inr (0, oX0 qa a_done)), (qp 5, .inl (cI, 7, .inl p_errors_148)), (qa 2, .inl (cI, 60, .inl a_kinds)), (qa 3, .inl (cI, 60, .inl a_writers)), (qa 4, .inl (cI, 60, .inl a_minutes)), (qa 6, .inl (cI, 60, .inl a_undoers)), (qa 8, .inl (cI, 61, .inl a_sizes)), (qa 9, .inl (cI, 1220, .inl a_cells))] H := hP
      have hD : va_D A [(qp 0, .inr (6, oX6 qp (qb 0) (qr 0) (qv 0) (qh 0) p_kept p_timesKept)), (qb 0, .inr (1, oX1 qb b_now b_shutTill b_shutBy b_z b_waits (qa 0) (qt 0))), (qa 0, .inr (0, oX0 qa a_done)), (qp 5, .inl (cI, 7, .inl p_errors_148)), (qa 2, .inl (cI, 60, .inl a_kinds)), (qa 3, .inl (cI, 60, .inl a_writers)), (qa 4, .inl (cI, 60, .inl a_minutes)), (qa 6, .inl (cI, 60, .inl a_undoers)), (qa 8, .inl (cI, 61, .inl a_sizes)), (qa 9, .inl (cI, 1220, .inl a_cells))] := hD
      exact hret (t148, p_errors_148) _ _ _ _ (vp_nar_int _) h hP hD hS dX6_writerIs_151
  · refine lv_aload_n hx hb dX6_writerIs_7 rfl (lv_at hl 0 rfl) ?_
    refine lv_iconst (v := (1 : Int32)) hx hb dX6_writerIs_8 (by decide) ?_
    refine q_callW2 (cEok ad) (rest := []) (fun u => [(qp 0, .inr (6, oX6 qp (qb 0) (qr 0) (qv 0) (qh 0) p_kept p_timesKept)), (qp 5, .inl (cI, 7, .inl u.2))]) (fun u => u.1) ⟨hx, hb, hml, hown, hts⟩ (fun u hu => c6_error l D cI ad qp qb qr qv qh p_kept p_timesKept p_errors ((1 : Int32)) u hu) (cwV 1 hts gX6_writerIs_X6_error rfl rfl rfl hdX6_error (rmq_ok (Nat.le_of_ble_eq_true rfl) (Nat.le_of_ble_eq_true rfl))) hK hEv hA hP hD hS [0, 3] (by decide) rfl (fun _ => rfl) (va_recv hK hP (ci := 6) (q0 := 0) rfl rfl) rfl rfl hl.1 (Nat.le_of_ble_eq_true rfl) ⟨Nat.zero_le _, Nat.zero_le _⟩ h dX6_writerIs_9 (fun t9 p_errors_9 H locs h hP hD hS => ?_)
    have hP : va_P D vwCl [(qp 0, .inr (6, oX6 qp (qb 0) (qr 0) (qv 0) (qh 0) p_kept p_timesKept)), (qb 0, .inr (1, oX1 qb b_now b_shutTill b_shutBy b_z b_waits (qa 0) (qt 0))), (qa 0, .inr (0, oX0 qa a_done)), (qp 5, .inl (cI, 7, .inl p_errors_9)), (qa 2, .inl (cI, 60, .inl a_kinds)), (qa 3, .inl (cI, 60, .inl a_writers)), (qa 4, .inl (cI, 60, .inl a_minutes)), (qa 6, .inl (cI, 60, .inl a_undoers)), (qa 8, .inl (cI, 61, .inl a_sizes)), (qa 9, .inl (cI, 1220, .inl a_cells))] H := hP
    have hD : va_D A [(qp 0, .inr (6, oX6 qp (qb 0) (qr 0) (qv 0) (qh 0) p_kept p_timesKept)), (qb 0, .inr (1, oX1 qb b_now b_shutTill b_shutBy b_z b_waits (qa 0) (qt 0))), (qa 0, .inr (0, oX0 qa a_done)), (qp 5, .inl (cI, 7, .inl p_errors_9)), (qa 2, .inl (cI, 60, .inl a_kinds)), (qa 3, .inl (cI, 60, .inl a_writers)), (qa 4, .inl (cI, 60, .inl a_minutes)), (qa 6, .inl (cI, 60, .inl a_undoers)), (qa 8, .inl (cI, 61, .inl a_sizes)), (qa 9, .inl (cI, 1220, .inl a_cells))] := hD
    exact hret (t9, p_errors_9) _ _ _ _ (vp_nar_int _) h hP hD hS dX6_writerIs_12
set_option maxHeartbeats 4000000 in
set_option maxRecDepth 100000 in
theorem c0_thereAt (l : Launch) (D : va_G) (cI : ClassId) (ad : Nat → Nat) (qa : Nat → Nat) (a_done : Int32) (a_minutes : Nat → Int32) (x1 : Int32) (n : Nat) (u : Int32) (h : f0_thereAt n x1 a_done a_minutes = some u) : q_RO (cE ad) l yX0_thereAt wsX0_thereAt (rmq (0)) D cI [.ref (qa 0), .int x1] [(qa 0, .inr (0, oX0 qa a_done)), (qa 4, .inl (cI, 60, .inl a_minutes))] u := by
  refine q_startR (cc := cX0_thereAt) (maxL := 3) (ty := .int) (own := RX0) (by decide) rfl rfl (Nat.le_of_ble_eq_true rfl) rfl (fun p e s m args below meth c Q hx hb hml hown hts hP hK hEv hret ls hl => ?_)
  have in0 : ∀ w ∈ wsX00, w ∈ wsX0_thereAt := fun w h => List.mem_cons_of_mem _ (List.mem_append_right _ (h))
  have l18 := hts (.fieldLink RX0 18 "PageWars$Acts" "minutes" "[I") (List.mem_of_getElem? (i := 2) rfl)
  have l39 := hts (.fieldLink RX0 39 "PageWars$Acts" "done" "I") (List.mem_of_getElem? (i := 1) rfl)
  have J27 : ∀ (x2 : Int32) (ls : Array Slot), lv_has ls 3 [(0, .ref (qa 0)), (2, .int x2)] → f0_thereAt_27 n a_done a_minutes x2 = some u → W p l e (rmq (0)) s m args below meth c s.heap [] 0 0 Q (F0 m 27 ls []) := by
    intro x2  ls hl h
    unfold f0_thereAt_27 at h
    refine lv_iload_n hx hb dX0_thereAt_27 rfl (lv_at hl 1 rfl) ?_
    exact hret _ _ _ (vp_nar_int _) h dX0_thereAt_28
  have J5 : ∀ (kk5 : Nat) (x1 : Int32) (x2 : Int32) (ls : Array Slot), lv_has ls 3 [(0, .ref (qa 0)), (1, .int x1), (2, .int x2)] → f0_thereAt_5 n a_done a_minutes kk5 x1 x2 = some u → W p l e (rmq (0)) s m args below meth c s.heap [] 0 0 Q (F0 m 5 ls []) := by
    intro kk5
    induction kk5 with
    | zero => intro x1 x2  ls hl h; exact nomatch (show (none : Option (Int32)) = some u from h)
    | succ kk5 ih5 =>
      intro x1 x2  ls hl h
      rw [f0_thereAt_5.eq_2] at h
      refine lv_iload_n hx hb dX0_thereAt_5 rfl (lv_at hl 2 rfl) ?_
      refine q_ifle hx hb 27 h dX0_thereAt_6 (by decide) (fun h => ?_) (fun h => ?_)
      · exact J27 x2 _ (lv_sub hl [0, 2] rfl) h
      · refine lv_aload_n hx hb dX0_thereAt_9 rfl (lv_at hl 0 rfl) ?_
        refine va_get (D := D) (ci := 0) (v := .ref (qa 4)) (C := RX0) (T := TX0) (N := 10) hx hb hts in0 hown hK hP 0 rfl rfl 3 (by decide) l18 (fun _ h9 => h9) rfl dX0_thereAt_10 ?_
        refine lv_iload_n hx hb dX0_thereAt_13 rfl (lv_at hl 2 rfl) ?_
        refine lv_iconst (v := (1 : Int32)) hx hb dX0_thereAt_14 (by decide) ?_
        refine lv_isub hx hb dX0_thereAt_15 ?_
        refine q_iald hx hb hK hP 1 0 rfl rfl h dX0_thereAt_16 (fun t16 h => ?_)
        refine lv_iload_n hx hb dX0_thereAt_17 rfl (lv_at hl 1 rfl) ?_
        refine q_cle hx hb 27 h dX0_thereAt_18 (by decide) (fun h => ?_) (fun h => ?_)
        · exact J27 x2 _ (lv_sub hl [0, 2] rfl) h
        · refine q_iinc (fun v => [(2, .int v), (0, .ref (qa 0)), (1, .int x1)]) hx hb h dX0_thereAt_21 (by decide) hl (k := 2) rfl (by decide) (fun _ => rfl) (fun x2_21 ls h hl => ?_)
          refine lv_goto (tgt := 5) hx hb dX0_thereAt_24 (by decide) ?_
          exact ih5 x1 x2_21 _ (lv_sub hl [1, 2, 0] rfl) h
  unfold f0_thereAt at h
  refine lv_aload_n hx hb dX0_thereAt_0 rfl (lv_at hl 0 rfl) ?_
  refine va_get (D := D) (ci := 0) (v := .int a_done) (C := RX0) (T := TX0) (N := 10) hx hb hts in0 hown hK hP 0 rfl rfl 0 (by decide) l39 (fun _ h9 => h9) rfl dX0_thereAt_1 ?_
  refine lv_istore_n (lv' := [(2, .int a_done), (0, .ref (qa 0)), (1, .int x1)]) hx hb dX0_thereAt_4 rfl hl (by decide) rfl (fun ls hl => ?_)
  exact J5 n x1 a_done _ (lv_sub hl [1, 2, 0] rfl) h
set_option maxHeartbeats 4000000 in
set_option maxRecDepth 100000 in
theorem c6_read (l : Launch) (D : va_G) (cI : ClassId) (ad : Nat → Nat) (qp qb qa qt qr qv qh : Nat → Nat) (p_kept : Value) (p_timesKept b_now b_shutTill b_shutBy b_z b_waits a_done : Int32) (p_errors a_minutes : Nat → Int32) (x1 : Int32) (n : Nat) (u : Int32 × (Nat → Int32)) (h : f6_read n x1 b_now a_done p_errors a_minutes = some u) : q_RW (cE ad) l yX6_read wsX6_read (rmq (1)) D cI [.ref (qp 0), .int x1] [(qp 0, .inr (6, oX6 qp (qb 0) (qr 0) (qv 0) (qh 0) p_kept p_timesKept)), (qb 0, .inr (1, oX1 qb b_now b_shutTill b_shutBy b_z b_waits (qa 0) (qt 0))), (qa 0, .inr (0, oX0 qa a_done)), (qp 5, .inl (cI, 7, .inl p_errors)), (qa 4, .inl (cI, 60, .inl a_minutes))] [(qp 0, .inr (6, oX6 qp (qb 0) (qr 0) (qv 0) (qh 0) p_kept p_timesKept)), (qb 0, .inr (1, oX1 qb b_now b_shutTill b_shutBy b_z b_waits (qa 0) (qt 0))), (qa 0, .inr (0, oX0 qa a_done)), (qp 5, .inl (cI, 7, .inl u.2)), (qa 4, .inl (cI, 60, .inl a_minutes))] u.1 := by
  refine q_startW (fun u : Int32 × (Nat → Int32) => [(qp 0, .inr (6, oX6 qp (qb 0) (qr 0) (qv 0) (qh 0) p_kept p_timesKept)), (qb 0, .inr (1, oX1 qb b_now b_shutTill b_shutBy b_z b_waits (qa 0) (qt 0))), (qa 0, .inr (0, oX0 qa a_done)), (qp 5, .inl (cI, 7, .inl u.2)), (qa 4, .inl (cI, 60, .inl a_minutes))]) (fun u => u.1) (cc := cX6_read) (maxL := 2) (ty := .int) (own := RX6) (by decide) rfl rfl (Nat.le_of_ble_eq_true rfl) rfl (fun p e s m args below meth c Q A hx hb hml hown hts hK hEv hA hret hP hD hS ls hl => ?_)
  have in0 : ∀ w ∈ wsX00, w ∈ wsX6_read := fun w h => List.mem_cons_of_mem _ (List.mem_append_right _ (h))
  have in1 : ∀ w ∈ wsX10, w ∈ wsX6_read := fun w h => List.mem_cons_of_mem _ (List.mem_append_left _ (List.mem_append_right _ (h)))
  have in6 : ∀ w ∈ wsX60, w ∈ wsX6_read := fun w h => List.mem_cons_of_mem _ (List.mem_append_left _ (List.mem_append_left _ (List.mem_append_right _ (h))))
  have l10 := hts (.fieldLink RX6 10 "PageWars" "book" "LPageWars$Book;") (List.mem_of_getElem? (i := 1) rfl)
  have l45 : (Cond.fieldLinkNest RX6 45 "PageWars$Book" "now" "I" "PageWars").before args s = true := cE_f6_45 hEv
  have l63 : (Cond.fieldLinkNest RX6 63 "PageWars$Book" "acts" "LPageWars$Acts;" "PageWars").before args s = true := cE_f6_63 hEv
  have J15 : ∀ (p_errors : (Nat → Int32)) (H : Heap) (locs : List Loc) (ls : Array Slot), lv_has ls 2 [(0, .ref (qp 0))] → va_P D vwCl [(qp 0, .inr (6, oX6 qp (qb 0) (qr 0) (qv 0) (qh 0) p_kept p_timesKept)), (qb 0, .inr (1, oX1 qb b_now b_shutTill b_shutBy b_z b_waits (qa 0) (qt 0))), (qa 0, .inr (0, oX0 qa a_done)), (qp 5, .inl (cI, 7, .inl p_errors)), (qa 4, .inl (cI, 60, .inl a_minutes))] H → va_D A [(qp 0, .inr (6, oX6 qp (qb 0) (qr 0) (qv 0) (qh 0) p_kept p_timesKept)), (qb 0, .inr (1, oX1 qb b_now b_shutTill b_shutBy b_z b_waits (qa 0) (qt 0))), (qa 0, .inr (0, oX0 qa a_done)), (qp 5, .inl (cI, 7, .inl p_errors)), (qa 4, .inl (cI, 60, .inl a_minutes))] → va_S A s.heap H locs → f6_read_15 n b_now a_done a_minutes p_errors = some u → W p l e (rmq (1)) s m args below meth c H locs 0 0 Q (F0 m 15 ls []) := by
    intro p_errors H locs ls hl hP hD hS h
    unfold f6_read_15 at h
    refine lv_aload_n hx hb dX6_read_15 rfl (lv_at hl 0 rfl) ?_
    refine lv_iconst (v := (1 : Int32)) hx hb dX6_read_16 (by decide) ?_
    refine q_callW2 (cEok ad) (rest := []) (fun u => [(qp 0, .inr (6, oX6 qp (qb 0) (qr 0) (qv 0) (qh 0) p_kept p_timesKept)), (qp 5, .inl (cI, 7, .inl u.2))]) (fun u => u.1) ⟨hx, hb, hml, hown, hts⟩ (fun u hu => c6_error l D cI ad qp qb qr qv qh p_kept p_timesKept p_errors ((1 : Int32)) u hu) (cwV 1 hts gX6_read_X6_error rfl rfl rfl hdX6_error (rmq_ok (Nat.le_of_ble_eq_true rfl) (Nat.le_of_ble_eq_true rfl))) hK hEv hA hP hD hS [0, 3] (by decide) rfl (fun _ => rfl) (va_recv hK hP (ci := 6) (q0 := 0) rfl rfl) rfl rfl hl.1 (Nat.le_of_ble_eq_true rfl) ⟨Nat.zero_le _, Nat.zero_le _⟩ h dX6_read_17 (fun t17 p_errors_17 H locs h hP hD hS => ?_)
    have hP : va_P D vwCl [(qp 0, .inr (6, oX6 qp (qb 0) (qr 0) (qv 0) (qh 0) p_kept p_timesKept)), (qb 0, .inr (1, oX1 qb b_now b_shutTill b_shutBy b_z b_waits (qa 0) (qt 0))), (qa 0, .inr (0, oX0 qa a_done)), (qp 5, .inl (cI, 7, .inl p_errors_17)), (qa 4, .inl (cI, 60, .inl a_minutes))] H := hP
    have hD : va_D A [(qp 0, .inr (6, oX6 qp (qb 0) (qr 0) (qv 0) (qh 0) p_kept p_timesKept)), (qb 0, .inr (1, oX1 qb b_now b_shutTill b_shutBy b_z b_waits (qa 0) (qt 0))), (qa 0, .inr (0, oX0 qa a_done)), (qp 5, .inl (cI, 7, .inl p_errors_17)), (qa 4, .inl (cI, 60, .inl a_minutes))] := hD
    exact hret (t17, p_errors_17) _ _ _ _ (vp_nar_int _) h hP hD hS dX6_read_20
  unfold f6_read at h
  refine lv_iload_n hx hb dX6_read_0 rfl (lv_at hl 1 rfl) ?_
  refine q_iflt hx hb 15 h dX6_read_1 (by decide) (fun h => ?_) (fun h => ?_)
  · exact J15 p_errors _ _ _ (lv_sub hl [0] rfl) hP hD hS h
  · refine lv_iload_n hx hb dX6_read_4 rfl (lv_at hl 1 rfl) ?_
    refine lv_aload_n hx hb dX6_read_5 rfl (lv_at hl 0 rfl) ?_
    refine va_get (D := D) (ci := 6) (v := .ref (qb 0)) (C := RX6) (T := TX6) (N := 7) hx hb hts in6 hown hK hP 0 rfl rfl 0 (by decide) l10 (fun _ h9 => h9) rfl dX6_read_6 ?_
    refine va_getN (D := D) (ci := 1) (v := .int b_now) (C := RX1) (T := TX1) (N := 9) hx hb hts in1 hown hK hP 1 rfl rfl 0 (by decide) l45 (fun _ h9 => h9) rfl dX6_read_9 ?_
    refine q_cle hx hb 21 h dX6_read_12 (by decide) (fun h => ?_) (fun h => ?_)
    · refine lv_aload_n hx hb dX6_read_21 rfl (lv_at hl 0 rfl) ?_
      refine va_get (D := D) (ci := 6) (v := .ref (qb 0)) (C := RX6) (T := TX6) (N := 7) hx hb hts in6 hown hK hP 0 rfl rfl 0 (by decide) l10 (fun _ h9 => h9) rfl dX6_read_22 ?_
      refine va_getN (D := D) (ci := 1) (v := .ref (qa 0)) (C := RX1) (T := TX1) (N := 9) hx hb hts in1 hown hK hP 1 rfl rfl 7 (by decide) l63 (fun _ h9 => h9) rfl dX6_read_25 ?_
      refine lv_iload_n hx hb dX6_read_28 rfl (lv_at hl 1 rfl) ?_
      refine q_callR (cEok ad) (rest := []) ⟨hx, hb, hml, hown, hts⟩ (fun r hr => c0_thereAt l D cI ad qa a_done a_minutes x1 n r hr) (cwV 1 hts gX6_read_X0_thereAt rfl rfl rfl hdX0_thereAt (rmq_ok (Nat.le_of_ble_eq_true rfl) (Nat.le_of_ble_eq_true rfl))) hK hP hEv hS [2, 4] rfl (va_recv hK hP (ci := 0) (q0 := 2) rfl rfl) rfl rfl hl.1 (Nat.le_of_ble_eq_true rfl) ⟨Nat.zero_le _, Nat.zero_le _⟩ h dX6_read_29 (fun t29 h => ?_)
      exact hret (t29, p_errors) _ _ _ _ (vp_nar_int _) h hP hD hS dX6_read_32
    · exact J15 p_errors _ _ _ (lv_sub hl [0] rfl) hP hD hS h
set_option maxHeartbeats 4000000 in
set_option maxRecDepth 100000 in
theorem c6_areMinutes (l : Launch) (D : va_G) (cI : ClassId) (ad : Nat → Nat) (qp qb qa qt qr qv qh : Nat → Nat) (p_kept : Value) (p_timesKept b_now b_shutTill b_shutBy b_z b_waits : Int32) (x1 : Int32) (x2 : Int32) (u : Int32) (h : f6_areMinutes x1 x2 b_now = some u) : q_RO (cE ad) l yX6_areMinutes wsX6_areMinutes (rmq (0)) D cI [.ref (qp 0), .int x1, .int x2] [(qp 0, .inr (6, oX6 qp (qb 0) (qr 0) (qv 0) (qh 0) p_kept p_timesKept)), (qb 0, .inr (1, oX1 qb b_now b_shutTill b_shutBy b_z b_waits (qa 0) (qt 0)))] u := by
  refine q_startR (cc := cX6_areMinutes) (maxL := 3) (ty := .boolean) (own := RX6) (by decide) rfl rfl (Nat.le_of_ble_eq_true rfl) rfl (fun p e s m args below meth c Q hx hb hml hown hts hP hK hEv hret ls hl => ?_)
  have in1 : ∀ w ∈ wsX10, w ∈ wsX6_areMinutes := fun w h => List.mem_cons_of_mem _ (List.mem_append_right _ (h))
  have in6 : ∀ w ∈ wsX60, w ∈ wsX6_areMinutes := fun w h => List.mem_cons_of_mem _ (List.mem_append_left _ (List.mem_append_right _ (h)))
  have l10 := hts (.fieldLink RX6 10 "PageWars" "book" "LPageWars$Book;") (List.mem_of_getElem? (i := 1) rfl)
  have l45 : (Cond.fieldLinkNest RX6 45 "PageWars$Book" "now" "I" "PageWars").before args s = true := cE_f6_45 hEv
  have J25 : ∀ (s0 : Int32) (ls : Array Slot), lv_has ls 3 [(0, .ref (qp 0))] → f6_areMinutes_25 b_now s0 = some u → W p l e (rmq (0)) s m args below meth c s.heap [] 0 0 Q (F0 m 25 ls [.int s0]) := by
    intro s0  ls hl h
    unfold f6_areMinutes_25 at h
    obtain ⟨hz, h⟩ := q_bz_of h
    exact hret _ _ _ (q_nz hz) h dX6_areMinutes_25
  have J24 : ∀  (ls : Array Slot), lv_has ls 3 [(0, .ref (qp 0))] → f6_areMinutes_24 b_now  = some u → W p l e (rmq (0)) s m args below meth c s.heap [] 0 0 Q (F0 m 24 ls []) := by
    intro   ls hl h
    unfold f6_areMinutes_24 at h
    refine lv_iconst (v := (0 : Int32)) hx hb dX6_areMinutes_24 (by decide) ?_
    exact J25 ((0 : Int32)) _ (lv_sub hl [0] rfl) h
  unfold f6_areMinutes at h
  refine lv_iload_n hx hb dX6_areMinutes_0 rfl (lv_at hl 1 rfl) ?_
  refine q_iflt hx hb 24 h dX6_areMinutes_1 (by decide) (fun h => ?_) (fun h => ?_)
  · exact J24  _ (lv_sub hl [0] rfl) h
  · refine lv_iload_n hx hb dX6_areMinutes_4 rfl (lv_at hl 1 rfl) ?_
    refine lv_iload_n hx hb dX6_areMinutes_5 rfl (lv_at hl 2 rfl) ?_
    refine q_cgt hx hb 24 h dX6_areMinutes_6 (by decide) (fun h => ?_) (fun h => ?_)
    · exact J24  _ (lv_sub hl [0] rfl) h
    · refine lv_iload_n hx hb dX6_areMinutes_9 rfl (lv_at hl 2 rfl) ?_
      refine lv_aload_n hx hb dX6_areMinutes_10 rfl (lv_at hl 0 rfl) ?_
      refine va_get (D := D) (ci := 6) (v := .ref (qb 0)) (C := RX6) (T := TX6) (N := 7) hx hb hts in6 hown hK hP 0 rfl rfl 0 (by decide) l10 (fun _ h9 => h9) rfl dX6_areMinutes_11 ?_
      refine va_getN (D := D) (ci := 1) (v := .int b_now) (C := RX1) (T := TX1) (N := 9) hx hb hts in1 hown hK hP 1 rfl rfl 0 (by decide) l45 (fun _ h9 => h9) rfl dX6_areMinutes_14 ?_
      refine q_cgt hx hb 24 h dX6_areMinutes_17 (by decide) (fun h => ?_) (fun h => ?_)
      · exact J24  _ (lv_sub hl [0] rfl) h
      · refine lv_iconst (v := (1 : Int32)) hx hb dX6_areMinutes_20 (by decide) ?_
        refine lv_goto (tgt := 25) hx hb dX6_areMinutes_21 (by decide) ?_
        exact J25 ((1 : Int32)) _ (lv_sub hl [0] rfl) h
set_option maxHeartbeats 4000000 in
set_option maxRecDepth 100000 in
theorem c1_minutesAlike (l : Launch) (D : va_G) (cI : ClassId) (ad : Nat → Nat) (qb qa qt : Nat → Nat) (b_now b_shutTill b_shutBy b_z b_waits a_done : Int32) (a_minutes a_sizes a_cells : Nat → Int32) (x1 : Int32) (x2 : Int32) (x3 : Int32) (n : Nat) (u : Int32) (h : f1_minutesAlike n x1 x2 x3 a_done a_minutes a_sizes a_cells = some u) : q_RO (cE ad) l yX1_minutesAlike wsX1_minutesAlike (rmq (2)) D cI [.ref (qb 0), .int x1, .int x2, .int x3] [(qb 0, .inr (1, oX1 qb b_now b_shutTill b_shutBy b_z b_waits (qa 0) (qt 0))), (qa 0, .inr (0, oX0 qa a_done)), (qa 4, .inl (cI, 60, .inl a_minutes)), (qa 8, .inl (cI, 61, .inl a_sizes)), (qa 9, .inl (cI, 1220, .inl a_cells))] u := by
  refine q_startR (cc := cX1_minutesAlike) (maxL := 6) (ty := .int) (own := RX1) (by decide) rfl rfl (Nat.le_of_ble_eq_true rfl) rfl (fun p e s m args below meth c Q hx hb hml hown hts hP hK hEv hret ls hl => ?_)
  have in0 : ∀ w ∈ wsX00, w ∈ wsX1_minutesAlike := fun w h => List.mem_cons_of_mem _ (List.mem_append_right _ (h))
  have in1 : ∀ w ∈ wsX10, w ∈ wsX1_minutesAlike := fun w h => List.mem_cons_of_mem _ (List.mem_append_left _ (List.mem_append_right _ (h)))
  have l25 := hts (.fieldLink RX1 25 "PageWars$Book" "acts" "LPageWars$Acts;") (List.mem_of_getElem? (i := 1) rfl)
  have l111 : (Cond.fieldLinkNest RX1 111 "PageWars$Acts" "done" "I" "PageWars").before args s = true := cE_f1_111 hEv
  have J6 : ∀ (kk6 : Nat) (x1 : Int32) (x2 : Int32) (x3 : Int32) (x4 : Int32) (x5 : Int32) (ls : Array Slot), lv_has ls 6 [(0, .ref (qb 0)), (1, .int x1), (2, .int x2), (3, .int x3), (4, .int x4), (5, .int x5)] → f1_minutesAlike_6 n a_done a_minutes a_sizes a_cells kk6 x1 x2 x3 x4 x5 = some u → W p l e (rmq (2)) s m args below meth c s.heap [] 0 0 Q (F0 m 6 ls []) := by
    intro kk6
    induction kk6 with
    | zero => intro x1 x2 x3 x4 x5  ls hl h; exact nomatch (show (none : Option (Int32)) = some u from h)
    | succ kk6 ih6 =>
      have J47 : ∀ (x1 : Int32) (x2 : Int32) (x3 : Int32) (x4 : Int32) (x5 : Int32) (ls : Array Slot), lv_has ls 6 [(0, .ref (qb 0)), (1, .int x1), (2, .int x2), (3, .int x3), (4, .int x4), (5, .int x5)] → f1_minutesAlike_47 n a_done a_minutes a_sizes a_cells (f1_minutesAlike_6 n a_done a_minutes a_sizes a_cells kk6) x1 x2 x3 x4 x5 = some u → W p l e (rmq (2)) s m args below meth c s.heap [] 0 0 Q (F0 m 47 ls []) := by
        intro x1 x2 x3 x4 x5  ls hl h
        unfold f1_minutesAlike_47 at h
        refine q_iinc (fun v => [(5, .int v), (0, .ref (qb 0)), (1, .int x1), (2, .int x2), (3, .int x3), (4, .int x4)]) hx hb h dX1_minutesAlike_47 (by decide) hl (k := 5) rfl (by decide) (fun _ => rfl) (fun x5_47 ls h hl => ?_)
        refine lv_goto (tgt := 6) hx hb dX1_minutesAlike_50 (by decide) ?_
        exact ih6 x1 x2 x3 x4 x5_47 _ (lv_sub hl [1, 2, 3, 4, 5, 0] rfl) h
      intro x1 x2 x3 x4 x5  ls hl h
      rw [f1_minutesAlike_6.eq_2] at h
      refine lv_iload hx hb dX1_minutesAlike_6 (lv_at hl 5 rfl) ?_
      refine lv_aload_n hx hb dX1_minutesAlike_8 rfl (lv_at hl 0 rfl) ?_
      refine va_get (D := D) (ci := 1) (v := .ref (qa 0)) (C := RX1) (T := TX1) (N := 9) hx hb hts in1 hown hK hP 0 rfl rfl 7 (by decide) l25 (fun _ h9 => h9) rfl dX1_minutesAlike_9 ?_
      refine va_getN (D := D) (ci := 0) (v := .int a_done) (C := RX0) (T := TX0) (N := 10) hx hb hts in0 hown hK hP 1 rfl rfl 0 (by decide) l111 (fun _ h9 => h9) rfl dX1_minutesAlike_12 ?_
      refine q_cgt hx hb 53 h dX1_minutesAlike_15 (by decide) (fun h => ?_) (fun h => ?_)
      · refine lv_iload hx hb dX1_minutesAlike_53 (lv_at hl 4 rfl) ?_
        exact hret _ _ _ (vp_nar_int _) h dX1_minutesAlike_55
      · refine lv_aload_n hx hb dX1_minutesAlike_18 rfl (lv_at hl 0 rfl) ?_
        refine va_get (D := D) (ci := 1) (v := .ref (qa 0)) (C := RX1) (T := TX1) (N := 9) hx hb hts in1 hown hK hP 0 rfl rfl 7 (by decide) l25 (fun _ h9 => h9) rfl dX1_minutesAlike_19 ?_
        refine lv_iload hx hb dX1_minutesAlike_22 (lv_at hl 5 rfl) ?_
        refine lv_iload_n hx hb dX1_minutesAlike_24 rfl (lv_at hl 1 rfl) ?_
        refine q_callR (cEok ad) (rest := []) ⟨hx, hb, hml, hown, hts⟩ (fun r hr => c0_areAlike l D cI ad qa a_done a_sizes a_cells x5 x1 n r hr) (cwV 2 hts gX1_minutesAlike_X0_areAlike rfl rfl rfl hdX0_areAlike (rmq_ok (Nat.le_of_ble_eq_true rfl) (Nat.le_of_ble_eq_true rfl))) hK hP hEv va_S.rf [1, 3, 4] rfl (va_recv hK hP (ci := 0) (q0 := 1) rfl rfl) rfl rfl hl.1 (Nat.le_of_ble_eq_true rfl) ⟨Nat.zero_le _, Nat.zero_le _⟩ h dX1_minutesAlike_25 (fun t25 h => ?_)
        refine q_ifeq hx hb 47 h dX1_minutesAlike_28 (by decide) (fun h => ?_) (fun h => ?_)
        · exact J47 x1 x2 x3 x4 x5 _ (lv_sub hl [0, 1, 2, 3, 4, 5] rfl) h
        · refine lv_iload hx hb dX1_minutesAlike_31 (lv_at hl 4 rfl) ?_
          refine lv_aload_n hx hb dX1_minutesAlike_33 rfl (lv_at hl 0 rfl) ?_
          refine va_get (D := D) (ci := 1) (v := .ref (qa 0)) (C := RX1) (T := TX1) (N := 9) hx hb hts in1 hown hK hP 0 rfl rfl 7 (by decide) l25 (fun _ h9 => h9) rfl dX1_minutesAlike_34 ?_
          refine lv_iload hx hb dX1_minutesAlike_37 (lv_at hl 5 rfl) ?_
          refine lv_iload_n hx hb dX1_minutesAlike_39 rfl (lv_at hl 2 rfl) ?_
          refine lv_iload_n hx hb dX1_minutesAlike_40 rfl (lv_at hl 3 rfl) ?_
          refine q_callR (cEok ad) (rest := [.int x4]) ⟨hx, hb, hml, hown, hts⟩ (fun r hr => c0_minutesThere l D cI ad qa a_done a_minutes x5 x2 x3 r hr) (cwV 3 hts gX1_minutesAlike_X0_minutesThere rfl rfl rfl hdX0_minutesThere (rmq_ok (Nat.le_of_ble_eq_true rfl) (Nat.le_of_ble_eq_true rfl))) hK hP hEv va_S.rf [1, 2] rfl (va_recv hK hP (ci := 0) (q0 := 1) rfl rfl) rfl rfl hl.1 (Nat.le_of_ble_eq_true rfl) ⟨Nat.zero_le _, Nat.zero_le _⟩ h dX1_minutesAlike_41 (fun t41 h => ?_)
          refine lv_iadd hx hb dX1_minutesAlike_44 ?_
          refine q_let h (fun x4_45 h => ?_)
          refine lv_istore (lv' := [(4, .int x4_45), (0, .ref (qb 0)), (1, .int x1), (2, .int x2), (3, .int x3), (5, .int x5)]) hx hb dX1_minutesAlike_45 hl (by decide) rfl (fun ls hl => ?_)
          exact J47 x1 x2 x3 x4_45 x5 _ (lv_sub hl [1, 2, 3, 4, 0, 5] rfl) h
  unfold f1_minutesAlike at h
  refine lv_iconst (v := (0 : Int32)) hx hb dX1_minutesAlike_0 (by decide) ?_
  refine lv_istore (lv' := [(4, .int ((0 : Int32))), (0, .ref (qb 0)), (1, .int x1), (2, .int x2), (3, .int x3)]) hx hb dX1_minutesAlike_1 hl (by decide) rfl (fun ls hl => ?_)
  refine lv_iconst (v := (0 : Int32)) hx hb dX1_minutesAlike_3 (by decide) ?_
  refine lv_istore (lv' := [(5, .int ((0 : Int32))), (4, .int ((0 : Int32))), (0, .ref (qb 0)), (1, .int x1), (2, .int x2), (3, .int x3)]) hx hb dX1_minutesAlike_4 hl (by decide) rfl (fun ls hl => ?_)
  exact J6 n x1 x2 x3 ((0 : Int32)) ((0 : Int32)) _ (lv_sub hl [2, 3, 4, 5, 1, 0] rfl) h
set_option maxHeartbeats 4000000 in
set_option maxRecDepth 100000 in
theorem c6_wrong (l : Launch) (D : va_G) (cI : ClassId) (ad : Nat → Nat) (qp qb qa qt qr qv qh : Nat → Nat) (p_kept : Value) (p_timesKept b_now b_shutTill b_shutBy b_z b_waits a_done : Int32) (p_errors a_minutes a_sizes a_cells : Nat → Int32) (x1 : Int32) (x2 : Int32) (x3 : Int32) (n : Nat) (u : Int32 × (Nat → Int32)) (h : f6_wrong n x1 x2 x3 b_now a_done p_errors a_minutes a_sizes a_cells = some u) : q_RW (cE ad) l yX6_wrong wsX6_wrong (rmq (3)) D cI [.ref (qp 0), .int x1, .int x2, .int x3] [(qp 0, .inr (6, oX6 qp (qb 0) (qr 0) (qv 0) (qh 0) p_kept p_timesKept)), (qb 0, .inr (1, oX1 qb b_now b_shutTill b_shutBy b_z b_waits (qa 0) (qt 0))), (qa 0, .inr (0, oX0 qa a_done)), (qp 5, .inl (cI, 7, .inl p_errors)), (qa 4, .inl (cI, 60, .inl a_minutes)), (qa 8, .inl (cI, 61, .inl a_sizes)), (qa 9, .inl (cI, 1220, .inl a_cells))] [(qp 0, .inr (6, oX6 qp (qb 0) (qr 0) (qv 0) (qh 0) p_kept p_timesKept)), (qb 0, .inr (1, oX1 qb b_now b_shutTill b_shutBy b_z b_waits (qa 0) (qt 0))), (qa 0, .inr (0, oX0 qa a_done)), (qp 5, .inl (cI, 7, .inl u.2)), (qa 4, .inl (cI, 60, .inl a_minutes)), (qa 8, .inl (cI, 61, .inl a_sizes)), (qa 9, .inl (cI, 1220, .inl a_cells))] u.1 := by
  refine q_startW (fun u : Int32 × (Nat → Int32) => [(qp 0, .inr (6, oX6 qp (qb 0) (qr 0) (qv 0) (qh 0) p_kept p_timesKept)), (qb 0, .inr (1, oX1 qb b_now b_shutTill b_shutBy b_z b_waits (qa 0) (qt 0))), (qa 0, .inr (0, oX0 qa a_done)), (qp 5, .inl (cI, 7, .inl u.2)), (qa 4, .inl (cI, 60, .inl a_minutes)), (qa 8, .inl (cI, 61, .inl a_sizes)), (qa 9, .inl (cI, 1220, .inl a_cells))]) (fun u => u.1) (cc := cX6_wrong) (maxL := 4) (ty := .int) (own := RX6) (by decide) rfl rfl (Nat.le_of_ble_eq_true rfl) rfl (fun p e s m args below meth c Q A hx hb hml hown hts hK hEv hA hret hP hD hS ls hl => ?_)
  have in0 : ∀ w ∈ wsX00, w ∈ wsX6_wrong := fun w h => List.mem_cons_of_mem _ (List.mem_append_right _ (h))
  have in1 : ∀ w ∈ wsX10, w ∈ wsX6_wrong := fun w h => List.mem_cons_of_mem _ (List.mem_append_left _ (List.mem_append_right _ (h)))
  have in6 : ∀ w ∈ wsX60, w ∈ wsX6_wrong := fun w h => List.mem_cons_of_mem _ (List.mem_append_left _ (List.mem_append_left _ (List.mem_append_right _ (h))))
  have l10 := hts (.fieldLink RX6 10 "PageWars" "book" "LPageWars$Book;") (List.mem_of_getElem? (i := 1) rfl)
  have J17 : ∀ (p_errors : (Nat → Int32)) (H : Heap) (locs : List Loc) (ls : Array Slot), lv_has ls 4 [(0, .ref (qp 0))] → va_P D vwCl [(qp 0, .inr (6, oX6 qp (qb 0) (qr 0) (qv 0) (qh 0) p_kept p_timesKept)), (qb 0, .inr (1, oX1 qb b_now b_shutTill b_shutBy b_z b_waits (qa 0) (qt 0))), (qa 0, .inr (0, oX0 qa a_done)), (qp 5, .inl (cI, 7, .inl p_errors)), (qa 4, .inl (cI, 60, .inl a_minutes)), (qa 8, .inl (cI, 61, .inl a_sizes)), (qa 9, .inl (cI, 1220, .inl a_cells))] H → va_D A [(qp 0, .inr (6, oX6 qp (qb 0) (qr 0) (qv 0) (qh 0) p_kept p_timesKept)), (qb 0, .inr (1, oX1 qb b_now b_shutTill b_shutBy b_z b_waits (qa 0) (qt 0))), (qa 0, .inr (0, oX0 qa a_done)), (qp 5, .inl (cI, 7, .inl p_errors)), (qa 4, .inl (cI, 60, .inl a_minutes)), (qa 8, .inl (cI, 61, .inl a_sizes)), (qa 9, .inl (cI, 1220, .inl a_cells))] → va_S A s.heap H locs → f6_wrong_17 n b_now a_done a_minutes a_sizes a_cells p_errors = some u → W p l e (rmq (3)) s m args below meth c H locs 0 0 Q (F0 m 17 ls []) := by
    intro p_errors H locs ls hl hP hD hS h
    unfold f6_wrong_17 at h
    refine lv_aload_n hx hb dX6_wrong_17 rfl (lv_at hl 0 rfl) ?_
    refine lv_iconst (v := (1 : Int32)) hx hb dX6_wrong_18 (by decide) ?_
    refine q_callW2 (cEok ad) (rest := []) (fun u => [(qp 0, .inr (6, oX6 qp (qb 0) (qr 0) (qv 0) (qh 0) p_kept p_timesKept)), (qp 5, .inl (cI, 7, .inl u.2))]) (fun u => u.1) ⟨hx, hb, hml, hown, hts⟩ (fun u hu => c6_error l D cI ad qp qb qr qv qh p_kept p_timesKept p_errors ((1 : Int32)) u hu) (cwV 1 hts gX6_wrong_X6_error rfl rfl rfl hdX6_error (rmq_ok (Nat.le_of_ble_eq_true rfl) (Nat.le_of_ble_eq_true rfl))) hK hEv hA hP hD hS [0, 3] (by decide) rfl (fun _ => rfl) (va_recv hK hP (ci := 6) (q0 := 0) rfl rfl) rfl rfl hl.1 (Nat.le_of_ble_eq_true rfl) ⟨Nat.zero_le _, Nat.zero_le _⟩ h dX6_wrong_19 (fun t19 p_errors_19 H locs h hP hD hS => ?_)
    have hP : va_P D vwCl [(qp 0, .inr (6, oX6 qp (qb 0) (qr 0) (qv 0) (qh 0) p_kept p_timesKept)), (qb 0, .inr (1, oX1 qb b_now b_shutTill b_shutBy b_z b_waits (qa 0) (qt 0))), (qa 0, .inr (0, oX0 qa a_done)), (qp 5, .inl (cI, 7, .inl p_errors_19)), (qa 4, .inl (cI, 60, .inl a_minutes)), (qa 8, .inl (cI, 61, .inl a_sizes)), (qa 9, .inl (cI, 1220, .inl a_cells))] H := hP
    have hD : va_D A [(qp 0, .inr (6, oX6 qp (qb 0) (qr 0) (qv 0) (qh 0) p_kept p_timesKept)), (qb 0, .inr (1, oX1 qb b_now b_shutTill b_shutBy b_z b_waits (qa 0) (qt 0))), (qa 0, .inr (0, oX0 qa a_done)), (qp 5, .inl (cI, 7, .inl p_errors_19)), (qa 4, .inl (cI, 60, .inl a_minutes)), (qa 8, .inl (cI, 61, .inl a_sizes)), (qa 9, .inl (cI, 1220, .inl a_cells))] := hD
    exact hret (t19, p_errors_19) _ _ _ _ (vp_nar_int _) h hP hD hS dX6_wrong_22
  unfold f6_wrong at h
  refine lv_aload_n hx hb dX6_wrong_0 rfl (lv_at hl 0 rfl) ?_
  refine lv_iload_n hx hb dX6_wrong_1 rfl (lv_at hl 1 rfl) ?_
  refine q_callR (cEok ad) (rest := []) ⟨hx, hb, hml, hown, hts⟩ (fun r hr => c6_isVersion l D cI ad qp qb qa qt qr qv qh p_kept p_timesKept b_now b_shutTill b_shutBy b_z b_waits a_done x1 r hr) (cwV 1 hts gX6_wrong_X6_isVersion rfl rfl rfl hdX6_isVersion (rmq_ok (Nat.le_of_ble_eq_true rfl) (Nat.le_of_ble_eq_true rfl))) hK hP hEv hS [0, 1, 2] rfl (va_recv hK hP (ci := 6) (q0 := 0) rfl rfl) rfl rfl hl.1 (Nat.le_of_ble_eq_true rfl) ⟨Nat.zero_le _, Nat.zero_le _⟩ h dX6_wrong_2 (fun t2 h => ?_)
  refine q_ifeq hx hb 17 h dX6_wrong_5 (by decide) (fun h => ?_) (fun h => ?_)
  · exact J17 p_errors _ _ _ (lv_sub hl [0] rfl) hP hD hS h
  · refine lv_aload_n hx hb dX6_wrong_8 rfl (lv_at hl 0 rfl) ?_
    refine lv_iload_n hx hb dX6_wrong_9 rfl (lv_at hl 2 rfl) ?_
    refine lv_iload_n hx hb dX6_wrong_10 rfl (lv_at hl 3 rfl) ?_
    refine q_callR (cEok ad) (rest := []) ⟨hx, hb, hml, hown, hts⟩ (fun r hr => c6_areMinutes l D cI ad qp qb qa qt qr qv qh p_kept p_timesKept b_now b_shutTill b_shutBy b_z b_waits x2 x3 r hr) (cwV 2 hts gX6_wrong_X6_areMinutes rfl rfl rfl hdX6_areMinutes (rmq_ok (Nat.le_of_ble_eq_true rfl) (Nat.le_of_ble_eq_true rfl))) hK hP hEv hS [0, 1] rfl (va_recv hK hP (ci := 6) (q0 := 0) rfl rfl) rfl rfl hl.1 (Nat.le_of_ble_eq_true rfl) ⟨Nat.zero_le _, Nat.zero_le _⟩ h dX6_wrong_11 (fun t11 h => ?_)
    refine q_ifne hx hb 23 h dX6_wrong_14 (by decide) (fun h => ?_) (fun h => ?_)
    · refine lv_aload_n hx hb dX6_wrong_23 rfl (lv_at hl 0 rfl) ?_
      refine va_get (D := D) (ci := 6) (v := .ref (qb 0)) (C := RX6) (T := TX6) (N := 7) hx hb hts in6 hown hK hP 0 rfl rfl 0 (by decide) l10 (fun _ h9 => h9) rfl dX6_wrong_24 ?_
      refine lv_iload_n hx hb dX6_wrong_27 rfl (lv_at hl 1 rfl) ?_
      refine lv_iload_n hx hb dX6_wrong_28 rfl (lv_at hl 2 rfl) ?_
      refine lv_iload_n hx hb dX6_wrong_29 rfl (lv_at hl 3 rfl) ?_
      refine q_callR (cEok ad) (rest := []) ⟨hx, hb, hml, hown, hts⟩ (fun r hr => c1_minutesAlike l D cI ad qb qa qt b_now b_shutTill b_shutBy b_z b_waits a_done a_minutes a_sizes a_cells x1 x2 x3 n r hr) (cwV 3 hts gX6_wrong_X1_minutesAlike rfl rfl rfl hdX1_minutesAlike (rmq_ok (Nat.le_of_ble_eq_true rfl) (Nat.le_of_ble_eq_true rfl))) hK hP hEv hS [1, 2, 4, 5, 6] rfl (va_recv hK hP (ci := 1) (q0 := 1) rfl rfl) rfl rfl hl.1 (Nat.le_of_ble_eq_true rfl) ⟨Nat.zero_le _, Nat.zero_le _⟩ h dX6_wrong_30 (fun t30 h => ?_)
      exact hret (t30, p_errors) _ _ _ _ (vp_nar_int _) h hP hD hS dX6_wrong_33
    · exact J17 p_errors _ _ _ (lv_sub hl [0] rfl) hP hD hS h
set_option maxHeartbeats 4000000 in
set_option maxRecDepth 100000 in
theorem c0_doneInHour (l : Launch) (D : va_G) (cI : ClassId) (ad : Nat → Nat) (qa : Nat → Nat) (a_done : Int32) (a_writers a_minutes : Nat → Int32) (x1 : Int32) (x2 : Int32) (n : Nat) (u : Int32) (h : f0_doneInHour n x1 x2 a_done a_writers a_minutes = some u) : q_RO (cE ad) l yX0_doneInHour wsX0_doneInHour (rmq (0)) D cI [.ref (qa 0), .int x1, .int x2] [(qa 0, .inr (0, oX0 qa a_done)), (qa 3, .inl (cI, 60, .inl a_writers)), (qa 4, .inl (cI, 60, .inl a_minutes))] u := by
  refine q_startR (cc := cX0_doneInHour) (maxL := 5) (ty := .int) (own := RX0) (by decide) rfl rfl (Nat.le_of_ble_eq_true rfl) rfl (fun p e s m args below meth c Q hx hb hml hown hts hP hK hEv hret ls hl => ?_)
  have in0 : ∀ w ∈ wsX00, w ∈ wsX0_doneInHour := fun w h => List.mem_cons_of_mem _ (List.mem_append_right _ (h))
  have l15 := hts (.fieldLink RX0 15 "PageWars$Acts" "writers" "[I") (List.mem_of_getElem? (i := 2) rfl)
  have l18 := hts (.fieldLink RX0 18 "PageWars$Acts" "minutes" "[I") (List.mem_of_getElem? (i := 3) rfl)
  have l39 := hts (.fieldLink RX0 39 "PageWars$Acts" "done" "I") (List.mem_of_getElem? (i := 1) rfl)
  have J5 : ∀ (kk5 : Nat) (x1 : Int32) (x2 : Int32) (x3 : Int32) (x4 : Int32) (ls : Array Slot), lv_has ls 5 [(0, .ref (qa 0)), (1, .int x1), (2, .int x2), (3, .int x3), (4, .int x4)] → f0_doneInHour_5 n a_done a_writers a_minutes kk5 x1 x2 x3 x4 = some u → W p l e (rmq (0)) s m args below meth c s.heap [] 0 0 Q (F0 m 5 ls []) := by
    intro kk5
    induction kk5 with
    | zero => intro x1 x2 x3 x4  ls hl h; exact nomatch (show (none : Option (Int32)) = some u from h)
    | succ kk5 ih5 =>
      have J45 : ∀ (x1 : Int32) (x2 : Int32) (x3 : Int32) (x4 : Int32) (ls : Array Slot), lv_has ls 5 [(0, .ref (qa 0)), (1, .int x1), (2, .int x2), (3, .int x3), (4, .int x4)] → f0_doneInHour_45 n a_done a_writers a_minutes (f0_doneInHour_5 n a_done a_writers a_minutes kk5) x1 x2 x3 x4 = some u → W p l e (rmq (0)) s m args below meth c s.heap [] 0 0 Q (F0 m 45 ls []) := by
        intro x1 x2 x3 x4  ls hl h
        unfold f0_doneInHour_45 at h
        refine q_iinc (fun v => [(4, .int v), (0, .ref (qa 0)), (1, .int x1), (2, .int x2), (3, .int x3)]) hx hb h dX0_doneInHour_45 (by decide) hl (k := 4) rfl (by decide) (fun _ => rfl) (fun x4_45 ls h hl => ?_)
        refine lv_goto (tgt := 5) hx hb dX0_doneInHour_48 (by decide) ?_
        exact ih5 x1 x2 x3 x4_45 _ (lv_sub hl [1, 2, 3, 4, 0] rfl) h
      intro x1 x2 x3 x4  ls hl h
      rw [f0_doneInHour_5.eq_2] at h
      refine lv_iload hx hb dX0_doneInHour_5 (lv_at hl 4 rfl) ?_
      refine lv_aload_n hx hb dX0_doneInHour_7 rfl (lv_at hl 0 rfl) ?_
      refine va_get (D := D) (ci := 0) (v := .int a_done) (C := RX0) (T := TX0) (N := 10) hx hb hts in0 hown hK hP 0 rfl rfl 0 (by decide) l39 (fun _ h9 => h9) rfl dX0_doneInHour_8 ?_
      refine q_cge hx hb 51 h dX0_doneInHour_11 (by decide) (fun h => ?_) (fun h => ?_)
      · refine lv_iload_n hx hb dX0_doneInHour_51 rfl (lv_at hl 3 rfl) ?_
        exact hret _ _ _ (vp_nar_int _) h dX0_doneInHour_52
      · refine lv_aload_n hx hb dX0_doneInHour_14 rfl (lv_at hl 0 rfl) ?_
        refine va_get (D := D) (ci := 0) (v := .ref (qa 3)) (C := RX0) (T := TX0) (N := 10) hx hb hts in0 hown hK hP 0 rfl rfl 2 (by decide) l15 (fun _ h9 => h9) rfl dX0_doneInHour_15 ?_
        refine lv_iload hx hb dX0_doneInHour_18 (lv_at hl 4 rfl) ?_
        refine q_iald hx hb hK hP 1 0 rfl rfl h dX0_doneInHour_20 (fun t20 h => ?_)
        refine lv_iload_n hx hb dX0_doneInHour_21 rfl (lv_at hl 1 rfl) ?_
        refine q_cne hx hb 45 h dX0_doneInHour_22 (by decide) (fun h => ?_) (fun h => ?_)
        · exact J45 x1 x2 x3 x4 _ (lv_sub hl [0, 1, 2, 3, 4] rfl) h
        · refine lv_aload_n hx hb dX0_doneInHour_25 rfl (lv_at hl 0 rfl) ?_
          refine va_get (D := D) (ci := 0) (v := .ref (qa 4)) (C := RX0) (T := TX0) (N := 10) hx hb hts in0 hown hK hP 0 rfl rfl 3 (by decide) l18 (fun _ h9 => h9) rfl dX0_doneInHour_26 ?_
          refine lv_iload hx hb dX0_doneInHour_29 (lv_at hl 4 rfl) ?_
          refine q_iald hx hb hK hP 2 0 rfl rfl h dX0_doneInHour_31 (fun t31 h => ?_)
          refine lv_bipush (v := (60 : Int32)) hx hb dX0_doneInHour_32 (by decide) ?_
          refine q_idiv hx hb h dX0_doneInHour_34 (fun h => ?_)
          refine lv_bipush (v := (24 : Int32)) hx hb dX0_doneInHour_35 (by decide) ?_
          refine q_irem hx hb h dX0_doneInHour_37 (fun h => ?_)
          refine lv_iload_n hx hb dX0_doneInHour_38 rfl (lv_at hl 2 rfl) ?_
          refine q_cne hx hb 45 h dX0_doneInHour_39 (by decide) (fun h => ?_) (fun h => ?_)
          · exact J45 x1 x2 x3 x4 _ (lv_sub hl [0, 1, 2, 3, 4] rfl) h
          · refine q_iinc (fun v => [(3, .int v), (0, .ref (qa 0)), (1, .int x1), (2, .int x2), (4, .int x4)]) hx hb h dX0_doneInHour_42 (by decide) hl (k := 3) rfl (by decide) (fun _ => rfl) (fun x3_42 ls h hl => ?_)
            exact J45 x1 x2 x3_42 x4 _ (lv_sub hl [1, 2, 3, 0, 4] rfl) h
  unfold f0_doneInHour at h
  refine lv_iconst (v := (0 : Int32)) hx hb dX0_doneInHour_0 (by decide) ?_
  refine lv_istore_n (lv' := [(3, .int ((0 : Int32))), (0, .ref (qa 0)), (1, .int x1), (2, .int x2)]) hx hb dX0_doneInHour_1 rfl hl (by decide) rfl (fun ls hl => ?_)
  refine lv_iconst (v := (0 : Int32)) hx hb dX0_doneInHour_2 (by decide) ?_
  refine lv_istore (lv' := [(4, .int ((0 : Int32))), (3, .int ((0 : Int32))), (0, .ref (qa 0)), (1, .int x1), (2, .int x2)]) hx hb dX0_doneInHour_3 hl (by decide) rfl (fun ls hl => ?_)
  exact J5 n x1 x2 ((0 : Int32)) ((0 : Int32)) _ (lv_sub hl [2, 3, 4, 1, 0] rfl) h
set_option maxHeartbeats 4000000 in
set_option maxRecDepth 100000 in
theorem c0_hoursInCommon (l : Launch) (D : va_G) (cI : ClassId) (ad : Nat → Nat) (qa : Nat → Nat) (a_done : Int32) (a_writers a_minutes : Nat → Int32) (x1 : Int32) (x2 : Int32) (n : Nat) (u : Int32) (h : f0_hoursInCommon n x1 x2 a_done a_writers a_minutes = some u) : q_RO (cE ad) l yX0_hoursInCommon wsX0_hoursInCommon (rmq (1)) D cI [.ref (qa 0), .int x1, .int x2] [(qa 0, .inr (0, oX0 qa a_done)), (qa 3, .inl (cI, 60, .inl a_writers)), (qa 4, .inl (cI, 60, .inl a_minutes))] u := by
  refine q_startR (cc := cX0_hoursInCommon) (maxL := 5) (ty := .int) (own := RX0) (by decide) rfl rfl (Nat.le_of_ble_eq_true rfl) rfl (fun p e s m args below meth c Q hx hb hml hown hts hP hK hEv hret ls hl => ?_)
  have in0 : ∀ w ∈ wsX00, w ∈ wsX0_hoursInCommon := fun w h => List.mem_cons_of_mem _ (List.mem_append_right _ (h))
  have J5 : ∀ (kk5 : Nat) (x1 : Int32) (x2 : Int32) (x3 : Int32) (x4 : Int32) (ls : Array Slot), lv_has ls 5 [(0, .ref (qa 0)), (1, .int x1), (2, .int x2), (3, .int x3), (4, .int x4)] → f0_hoursInCommon_5 n a_done a_writers a_minutes kk5 x1 x2 x3 x4 = some u → W p l e (rmq (1)) s m args below meth c s.heap [] 0 0 Q (F0 m 5 ls []) := by
    intro kk5
    induction kk5 with
    | zero => intro x1 x2 x3 x4  ls hl h; exact nomatch (show (none : Option (Int32)) = some u from h)
    | succ kk5 ih5 =>
      intro x1 x2 x3 x4  ls hl h
      rw [f0_hoursInCommon_5.eq_2] at h
      refine lv_iload hx hb dX0_hoursInCommon_5 (lv_at hl 4 rfl) ?_
      refine lv_bipush (v := (24 : Int32)) hx hb dX0_hoursInCommon_7 (by decide) ?_
      refine q_cge hx hb 38 h dX0_hoursInCommon_9 (by decide) (fun h => ?_) (fun h => ?_)
      · refine lv_iload_n hx hb dX0_hoursInCommon_38 rfl (lv_at hl 3 rfl) ?_
        exact hret _ _ _ (vp_nar_int _) h dX0_hoursInCommon_39
      · refine lv_iload_n hx hb dX0_hoursInCommon_12 rfl (lv_at hl 3 rfl) ?_
        refine lv_aload_n hx hb dX0_hoursInCommon_13 rfl (lv_at hl 0 rfl) ?_
        refine lv_iload_n hx hb dX0_hoursInCommon_14 rfl (lv_at hl 1 rfl) ?_
        refine lv_iload hx hb dX0_hoursInCommon_15 (lv_at hl 4 rfl) ?_
        refine q_callR (cEok ad) (rest := [.int x3]) ⟨hx, hb, hml, hown, hts⟩ (fun r hr => c0_doneInHour l D cI ad qa a_done a_writers a_minutes x1 x4 n r hr) (cwV 2 hts gX0_hoursInCommon_X0_doneInHour rfl rfl rfl hdX0_doneInHour (rmq_ok (Nat.le_of_ble_eq_true rfl) (Nat.le_of_ble_eq_true rfl))) hK hP hEv va_S.rf [0, 1, 2] rfl (va_recv hK hP (ci := 0) (q0 := 0) rfl rfl) rfl rfl hl.1 (Nat.le_of_ble_eq_true rfl) ⟨Nat.zero_le _, Nat.zero_le _⟩ h dX0_hoursInCommon_17 (fun t17 h => ?_)
        refine lv_aload_n hx hb dX0_hoursInCommon_20 rfl (lv_at hl 0 rfl) ?_
        refine lv_iload_n hx hb dX0_hoursInCommon_21 rfl (lv_at hl 2 rfl) ?_
        refine lv_iload hx hb dX0_hoursInCommon_22 (lv_at hl 4 rfl) ?_
        refine q_callR (cEok ad) (rest := [.int t17, .int x3]) ⟨hx, hb, hml, hown, hts⟩ (fun r hr => c0_doneInHour l D cI ad qa a_done a_writers a_minutes x2 x4 n r hr) (cwV 2 hts gX0_hoursInCommon_X0_doneInHour rfl rfl rfl hdX0_doneInHour (rmq_ok (Nat.le_of_ble_eq_true rfl) (Nat.le_of_ble_eq_true rfl))) hK hP hEv va_S.rf [0, 1, 2] rfl (va_recv hK hP (ci := 0) (q0 := 0) rfl rfl) rfl rfl hl.1 (Nat.le_of_ble_eq_true rfl) ⟨Nat.zero_le _, Nat.zero_le _⟩ h dX0_hoursInCommon_24 (fun t24 h => ?_)
        refine va_mmin hx hb (hml.trans hl.1.symm) hown (hts (.methodLink RX0 53 Lib.Math.min.name) (List.mem_of_getElem? (i := 1) rfl)) (hts (.static Lib.Math.min.name) (List.mem_of_getElem? (i := 2) rfl)) (hts (.initialized "java/lang/Math") (List.mem_of_getElem? (i := 3) rfl)) (hts (.code Lib.Math.min.name Lib.Math.min.code 2 (some .int)) (List.mem_of_getElem? (i := 4) rfl)) (Nat.le_of_ble_eq_true rfl) (Nat.le_of_ble_eq_true rfl) (Nat.zero_le _) (Nat.zero_le _) dX0_hoursInCommon_27 ?_
        refine q_let h (fun t27 h => ?_)
        refine lv_iadd hx hb dX0_hoursInCommon_30 ?_
        refine q_let h (fun x3_31 h => ?_)
        refine lv_istore_n (lv' := [(3, .int x3_31), (0, .ref (qa 0)), (1, .int x1), (2, .int x2), (4, .int x4)]) hx hb dX0_hoursInCommon_31 rfl hl (by decide) rfl (fun ls hl => ?_)
        refine q_iinc (fun v => [(4, .int v), (3, .int x3_31), (0, .ref (qa 0)), (1, .int x1), (2, .int x2)]) hx hb h dX0_hoursInCommon_32 (by decide) hl (k := 4) rfl (by decide) (fun _ => rfl) (fun x4_32 ls h hl => ?_)
        refine lv_goto (tgt := 5) hx hb dX0_hoursInCommon_35 (by decide) ?_
        exact ih5 x1 x2 x3_31 x4_32 _ (lv_sub hl [2, 3, 4, 1, 0] rfl) h
  unfold f0_hoursInCommon at h
  refine lv_iconst (v := (0 : Int32)) hx hb dX0_hoursInCommon_0 (by decide) ?_
  refine lv_istore_n (lv' := [(3, .int ((0 : Int32))), (0, .ref (qa 0)), (1, .int x1), (2, .int x2)]) hx hb dX0_hoursInCommon_1 rfl hl (by decide) rfl (fun ls hl => ?_)
  refine lv_iconst (v := (0 : Int32)) hx hb dX0_hoursInCommon_2 (by decide) ?_
  refine lv_istore (lv' := [(4, .int ((0 : Int32))), (3, .int ((0 : Int32))), (0, .ref (qa 0)), (1, .int x1), (2, .int x2)]) hx hb dX0_hoursInCommon_3 hl (by decide) rfl (fun ls hl => ?_)
  exact J5 n x1 x2 ((0 : Int32)) ((0 : Int32)) _ (lv_sub hl [2, 3, 4, 1, 0] rfl) h
set_option maxHeartbeats 4000000 in
set_option maxRecDepth 100000 in
theorem c6_hand (l : Launch) (D : va_G) (cI : ClassId) (ad : Nat → Nat) (qp qb qa qt qr qv qh : Nat → Nat) (p_kept : Value) (p_timesKept b_now b_shutTill b_shutBy b_z b_waits a_done : Int32) (p_errors a_writers a_minutes : Nat → Int32) (x1 : Int32) (x2 : Int32) (n : Nat) (u : Int32 × (Nat → Int32)) (h : f6_hand n x1 x2 a_done p_errors a_writers a_minutes = some u) : q_RW (cE ad) l yX6_hand wsX6_hand (rmq (2)) D cI [.ref (qp 0), .int x1, .int x2] [(qp 0, .inr (6, oX6 qp (qb 0) (qr 0) (qv 0) (qh 0) p_kept p_timesKept)), (qb 0, .inr (1, oX1 qb b_now b_shutTill b_shutBy b_z b_waits (qa 0) (qt 0))), (qa 0, .inr (0, oX0 qa a_done)), (qp 5, .inl (cI, 7, .inl p_errors)), (qa 3, .inl (cI, 60, .inl a_writers)), (qa 4, .inl (cI, 60, .inl a_minutes))] [(qp 0, .inr (6, oX6 qp (qb 0) (qr 0) (qv 0) (qh 0) p_kept p_timesKept)), (qb 0, .inr (1, oX1 qb b_now b_shutTill b_shutBy b_z b_waits (qa 0) (qt 0))), (qa 0, .inr (0, oX0 qa a_done)), (qp 5, .inl (cI, 7, .inl u.2)), (qa 3, .inl (cI, 60, .inl a_writers)), (qa 4, .inl (cI, 60, .inl a_minutes))] u.1 := by
  refine q_startW (fun u : Int32 × (Nat → Int32) => [(qp 0, .inr (6, oX6 qp (qb 0) (qr 0) (qv 0) (qh 0) p_kept p_timesKept)), (qb 0, .inr (1, oX1 qb b_now b_shutTill b_shutBy b_z b_waits (qa 0) (qt 0))), (qa 0, .inr (0, oX0 qa a_done)), (qp 5, .inl (cI, 7, .inl u.2)), (qa 3, .inl (cI, 60, .inl a_writers)), (qa 4, .inl (cI, 60, .inl a_minutes))]) (fun u => u.1) (cc := cX6_hand) (maxL := 4) (ty := .int) (own := RX6) (by decide) rfl rfl (Nat.le_of_ble_eq_true rfl) rfl (fun p e s m args below meth c Q A hx hb hml hown hts hK hEv hA hret hP hD hS ls hl => ?_)
  have in0 : ∀ w ∈ wsX00, w ∈ wsX6_hand := fun w h => List.mem_cons_of_mem _ (List.mem_append_right _ (h))
  have in1 : ∀ w ∈ wsX10, w ∈ wsX6_hand := fun w h => List.mem_cons_of_mem _ (List.mem_append_left _ (List.mem_append_right _ (h)))
  have in6 : ∀ w ∈ wsX60, w ∈ wsX6_hand := fun w h => List.mem_cons_of_mem _ (List.mem_append_left _ (List.mem_append_left _ (List.mem_append_right _ (h))))
  have l10 := hts (.fieldLink RX6 10 "PageWars" "book" "LPageWars$Book;") (List.mem_of_getElem? (i := 1) rfl)
  have l63 : (Cond.fieldLinkNest RX6 63 "PageWars$Book" "acts" "LPageWars$Acts;" "PageWars").before args s = true := cE_f6_63 hEv
  have J19 : ∀ (p_errors : (Nat → Int32)) (H : Heap) (locs : List Loc) (ls : Array Slot), lv_has ls 4 [(0, .ref (qp 0))] → va_P D vwCl [(qp 0, .inr (6, oX6 qp (qb 0) (qr 0) (qv 0) (qh 0) p_kept p_timesKept)), (qb 0, .inr (1, oX1 qb b_now b_shutTill b_shutBy b_z b_waits (qa 0) (qt 0))), (qa 0, .inr (0, oX0 qa a_done)), (qp 5, .inl (cI, 7, .inl p_errors)), (qa 3, .inl (cI, 60, .inl a_writers)), (qa 4, .inl (cI, 60, .inl a_minutes))] H → va_D A [(qp 0, .inr (6, oX6 qp (qb 0) (qr 0) (qv 0) (qh 0) p_kept p_timesKept)), (qb 0, .inr (1, oX1 qb b_now b_shutTill b_shutBy b_z b_waits (qa 0) (qt 0))), (qa 0, .inr (0, oX0 qa a_done)), (qp 5, .inl (cI, 7, .inl p_errors)), (qa 3, .inl (cI, 60, .inl a_writers)), (qa 4, .inl (cI, 60, .inl a_minutes))] → va_S A s.heap H locs → f6_hand_19 n a_done a_writers a_minutes p_errors = some u → W p l e (rmq (2)) s m args below meth c H locs 0 0 Q (F0 m 19 ls []) := by
    intro p_errors H locs ls hl hP hD hS h
    unfold f6_hand_19 at h
    refine lv_aload_n hx hb dX6_hand_19 rfl (lv_at hl 0 rfl) ?_
    refine lv_iconst (v := (1 : Int32)) hx hb dX6_hand_20 (by decide) ?_
    refine q_callW2 (cEok ad) (rest := []) (fun u => [(qp 0, .inr (6, oX6 qp (qb 0) (qr 0) (qv 0) (qh 0) p_kept p_timesKept)), (qp 5, .inl (cI, 7, .inl u.2))]) (fun u => u.1) ⟨hx, hb, hml, hown, hts⟩ (fun u hu => c6_error l D cI ad qp qb qr qv qh p_kept p_timesKept p_errors ((1 : Int32)) u hu) (cwV 1 hts gX6_hand_X6_error rfl rfl rfl hdX6_error (rmq_ok (Nat.le_of_ble_eq_true rfl) (Nat.le_of_ble_eq_true rfl))) hK hEv hA hP hD hS [0, 3] (by decide) rfl (fun _ => rfl) (va_recv hK hP (ci := 6) (q0 := 0) rfl rfl) rfl rfl hl.1 (Nat.le_of_ble_eq_true rfl) ⟨Nat.zero_le _, Nat.zero_le _⟩ h dX6_hand_21 (fun t21 p_errors_21 H locs h hP hD hS => ?_)
    have hP : va_P D vwCl [(qp 0, .inr (6, oX6 qp (qb 0) (qr 0) (qv 0) (qh 0) p_kept p_timesKept)), (qb 0, .inr (1, oX1 qb b_now b_shutTill b_shutBy b_z b_waits (qa 0) (qt 0))), (qa 0, .inr (0, oX0 qa a_done)), (qp 5, .inl (cI, 7, .inl p_errors_21)), (qa 3, .inl (cI, 60, .inl a_writers)), (qa 4, .inl (cI, 60, .inl a_minutes))] H := hP
    have hD : va_D A [(qp 0, .inr (6, oX6 qp (qb 0) (qr 0) (qv 0) (qh 0) p_kept p_timesKept)), (qb 0, .inr (1, oX1 qb b_now b_shutTill b_shutBy b_z b_waits (qa 0) (qt 0))), (qa 0, .inr (0, oX0 qa a_done)), (qp 5, .inl (cI, 7, .inl p_errors_21)), (qa 3, .inl (cI, 60, .inl a_writers)), (qa 4, .inl (cI, 60, .inl a_minutes))] := hD
    exact hret (t21, p_errors_21) _ _ _ _ (vp_nar_int _) h hP hD hS dX6_hand_24
  unfold f6_hand at h
  refine lv_iload_n hx hb dX6_hand_0 rfl (lv_at hl 1 rfl) ?_
  refine q_callRS (cEok ad) (rest := []) ⟨hx, hb, hml, hown, hts⟩ (fun r hr => c6_isWriter l D cI ad x1 r hr) (va_cwS 1 hts gX6_hand_X6_isWriter rfl rfl rfl hdX6_isWriter (rmq_ok (Nat.le_of_ble_eq_true rfl) (Nat.le_of_ble_eq_true rfl))) hK hP hEv hS [] rfl rfl rfl hl.1 (Nat.le_of_ble_eq_true rfl) ⟨Nat.zero_le _, Nat.zero_le _⟩ h dX6_hand_1 (fun t1 h => ?_)
  refine q_ifeq hx hb 19 h dX6_hand_4 (by decide) (fun h => ?_) (fun h => ?_)
  · exact J19 p_errors _ _ _ (lv_sub hl [0] rfl) hP hD hS h
  · refine lv_iload_n hx hb dX6_hand_7 rfl (lv_at hl 2 rfl) ?_
    refine q_callRS (cEok ad) (rest := []) ⟨hx, hb, hml, hown, hts⟩ (fun r hr => c6_isWriter l D cI ad x2 r hr) (va_cwS 1 hts gX6_hand_X6_isWriter rfl rfl rfl hdX6_isWriter (rmq_ok (Nat.le_of_ble_eq_true rfl) (Nat.le_of_ble_eq_true rfl))) hK hP hEv hS [] rfl rfl rfl hl.1 (Nat.le_of_ble_eq_true rfl) ⟨Nat.zero_le _, Nat.zero_le _⟩ h dX6_hand_8 (fun t8 h => ?_)
    refine q_ifeq hx hb 19 h dX6_hand_11 (by decide) (fun h => ?_) (fun h => ?_)
    · exact J19 p_errors _ _ _ (lv_sub hl [0] rfl) hP hD hS h
    · refine lv_iload_n hx hb dX6_hand_14 rfl (lv_at hl 1 rfl) ?_
      refine lv_iload_n hx hb dX6_hand_15 rfl (lv_at hl 2 rfl) ?_
      refine q_cne hx hb 25 h dX6_hand_16 (by decide) (fun h => ?_) (fun h => ?_)
      · refine lv_aload_n hx hb dX6_hand_25 rfl (lv_at hl 0 rfl) ?_
        refine va_get (D := D) (ci := 6) (v := .ref (qb 0)) (C := RX6) (T := TX6) (N := 7) hx hb hts in6 hown hK hP 0 rfl rfl 0 (by decide) l10 (fun _ h9 => h9) rfl dX6_hand_26 ?_
        refine va_getN (D := D) (ci := 1) (v := .ref (qa 0)) (C := RX1) (T := TX1) (N := 9) hx hb hts in1 hown hK hP 1 rfl rfl 7 (by decide) l63 (fun _ h9 => h9) rfl dX6_hand_29 ?_
        refine lv_iload_n hx hb dX6_hand_32 rfl (lv_at hl 1 rfl) ?_
        refine q_callR (cEok ad) (rest := []) ⟨hx, hb, hml, hown, hts⟩ (fun r hr => c0_doneBy l D cI ad qa a_done a_writers x1 n r hr) (cwV 1 hts gX6_hand_X0_doneBy rfl rfl rfl hdX0_doneBy (rmq_ok (Nat.le_of_ble_eq_true rfl) (Nat.le_of_ble_eq_true rfl))) hK hP hEv hS [2, 4] rfl (va_recv hK hP (ci := 0) (q0 := 2) rfl rfl) rfl rfl hl.1 (Nat.le_of_ble_eq_true rfl) ⟨Nat.zero_le _, Nat.zero_le _⟩ h dX6_hand_33 (fun t33 h => ?_)
        refine lv_aload_n hx hb dX6_hand_36 rfl (lv_at hl 0 rfl) ?_
        refine va_get (D := D) (ci := 6) (v := .ref (qb 0)) (C := RX6) (T := TX6) (N := 7) hx hb hts in6 hown hK hP 0 rfl rfl 0 (by decide) l10 (fun _ h9 => h9) rfl dX6_hand_37 ?_
        refine va_getN (D := D) (ci := 1) (v := .ref (qa 0)) (C := RX1) (T := TX1) (N := 9) hx hb hts in1 hown hK hP 1 rfl rfl 7 (by decide) l63 (fun _ h9 => h9) rfl dX6_hand_40 ?_
        refine lv_iload_n hx hb dX6_hand_43 rfl (lv_at hl 2 rfl) ?_
        refine q_callR (cEok ad) (rest := [.int t33]) ⟨hx, hb, hml, hown, hts⟩ (fun r hr => c0_doneBy l D cI ad qa a_done a_writers x2 n r hr) (cwV 1 hts gX6_hand_X0_doneBy rfl rfl rfl hdX0_doneBy (rmq_ok (Nat.le_of_ble_eq_true rfl) (Nat.le_of_ble_eq_true rfl))) hK hP hEv hS [2, 4] rfl (va_recv hK hP (ci := 0) (q0 := 2) rfl rfl) rfl rfl hl.1 (Nat.le_of_ble_eq_true rfl) ⟨Nat.zero_le _, Nat.zero_le _⟩ h dX6_hand_44 (fun t44 h => ?_)
        refine va_mmin hx hb (hml.trans hl.1.symm) hown (hts (.methodLink RX6 217 Lib.Math.min.name) (List.mem_of_getElem? (i := 2) rfl)) (hts (.static Lib.Math.min.name) (List.mem_of_getElem? (i := 3) rfl)) (hts (.initialized "java/lang/Math") (List.mem_of_getElem? (i := 4) rfl)) (hts (.code Lib.Math.min.name Lib.Math.min.code 2 (some .int)) (List.mem_of_getElem? (i := 5) rfl)) (Nat.le_of_ble_eq_true rfl) (Nat.le_of_ble_eq_true rfl) (Nat.zero_le _) (Nat.zero_le _) dX6_hand_47 ?_
        refine q_let h (fun t47 h => ?_)
        refine lv_istore_n (lv' := [(3, .int t47), (0, .ref (qp 0)), (1, .int x1), (2, .int x2)]) hx hb dX6_hand_50 rfl hl (by decide) rfl (fun ls hl => ?_)
        refine lv_iload_n hx hb dX6_hand_51 rfl (lv_at hl 0 rfl) ?_
        refine q_ifne hx hb 61 h dX6_hand_52 (by decide) (fun h => ?_) (fun h => ?_)
        · refine lv_bipush (v := (100 : Int32)) hx hb dX6_hand_61 (by decide) ?_
          refine lv_aload_n hx hb dX6_hand_63 rfl (lv_at hl 1 rfl) ?_
          refine va_get (D := D) (ci := 6) (v := .ref (qb 0)) (C := RX6) (T := TX6) (N := 7) hx hb hts in6 hown hK hP 0 rfl rfl 0 (by decide) l10 (fun _ h9 => h9) rfl dX6_hand_64 ?_
          refine va_getN (D := D) (ci := 1) (v := .ref (qa 0)) (C := RX1) (T := TX1) (N := 9) hx hb hts in1 hown hK hP 1 rfl rfl 7 (by decide) l63 (fun _ h9 => h9) rfl dX6_hand_67 ?_
          refine lv_iload_n hx hb dX6_hand_70 rfl (lv_at hl 2 rfl) ?_
          refine lv_iload_n hx hb dX6_hand_71 rfl (lv_at hl 3 rfl) ?_
          refine q_callR (cEok ad) (rest := [.int ((100 : Int32))]) ⟨hx, hb, hml, hown, hts⟩ (fun r hr => c0_hoursInCommon l D cI ad qa a_done a_writers a_minutes x1 x2 n r hr) (cwV 2 hts gX6_hand_X0_hoursInCommon rfl rfl rfl hdX0_hoursInCommon (rmq_ok (Nat.le_of_ble_eq_true rfl) (Nat.le_of_ble_eq_true rfl))) hK hP hEv hS [2, 4, 5] rfl (va_recv hK hP (ci := 0) (q0 := 2) rfl rfl) rfl rfl hl.1 (Nat.le_of_ble_eq_true rfl) ⟨Nat.zero_le _, Nat.zero_le _⟩ h dX6_hand_72 (fun t72 h => ?_)
          refine lv_imul hx hb dX6_hand_75 ?_
          refine lv_iload_n hx hb dX6_hand_76 rfl (lv_at hl 0 rfl) ?_
          refine q_idiv hx hb h dX6_hand_77 (fun h => ?_)
          exact hret ((((100 : Int32)) * t72) / t47, p_errors) _ _ _ _ (vp_nar_int _) h hP hD hS dX6_hand_78
        · refine lv_aload_n hx hb dX6_hand_55 rfl (lv_at hl 1 rfl) ?_
          refine lv_iconst (v := (2 : Int32)) hx hb dX6_hand_56 (by decide) ?_
          refine q_callW2 (cEok ad) (rest := []) (fun u => [(qp 0, .inr (6, oX6 qp (qb 0) (qr 0) (qv 0) (qh 0) p_kept p_timesKept)), (qp 5, .inl (cI, 7, .inl u.2))]) (fun u => u.1) ⟨hx, hb, hml, hown, hts⟩ (fun u hu => c6_error l D cI ad qp qb qr qv qh p_kept p_timesKept p_errors ((2 : Int32)) u hu) (cwV 1 hts gX6_hand_X6_error rfl rfl rfl hdX6_error (rmq_ok (Nat.le_of_ble_eq_true rfl) (Nat.le_of_ble_eq_true rfl))) hK hEv hA hP hD hS [0, 3] (by decide) rfl (fun _ => rfl) (va_recv hK hP (ci := 6) (q0 := 0) rfl rfl) rfl rfl hl.1 (Nat.le_of_ble_eq_true rfl) ⟨Nat.zero_le _, Nat.zero_le _⟩ h dX6_hand_57 (fun t57 p_errors_57 H locs h hP hD hS => ?_)
          have hP : va_P D vwCl [(qp 0, .inr (6, oX6 qp (qb 0) (qr 0) (qv 0) (qh 0) p_kept p_timesKept)), (qb 0, .inr (1, oX1 qb b_now b_shutTill b_shutBy b_z b_waits (qa 0) (qt 0))), (qa 0, .inr (0, oX0 qa a_done)), (qp 5, .inl (cI, 7, .inl p_errors_57)), (qa 3, .inl (cI, 60, .inl a_writers)), (qa 4, .inl (cI, 60, .inl a_minutes))] H := hP
          have hD : va_D A [(qp 0, .inr (6, oX6 qp (qb 0) (qr 0) (qv 0) (qh 0) p_kept p_timesKept)), (qb 0, .inr (1, oX1 qb b_now b_shutTill b_shutBy b_z b_waits (qa 0) (qt 0))), (qa 0, .inr (0, oX0 qa a_done)), (qp 5, .inl (cI, 7, .inl p_errors_57)), (qa 3, .inl (cI, 60, .inl a_writers)), (qa 4, .inl (cI, 60, .inl a_minutes))] := hD
          exact hret (t57, p_errors_57) _ _ _ _ (vp_nar_int _) h hP hD hS dX6_hand_60
      · exact J19 p_errors _ _ _ (lv_sub hl [0] rfl) hP hD hS h
set_option maxHeartbeats 4000000 in
set_option maxRecDepth 100000 in
theorem c6_score (l : Launch) (D : va_G) (cI : ClassId) (ad : Nat → Nat) (qp qb qa qt qr qv qh : Nat → Nat) (p_kept : Value) (p_timesKept b_now b_shutTill b_shutBy b_z b_waits a_done : Int32) (p_errors a_scores : Nat → Int32) (x1 : Int32) (x2 : Int32) (u : Int32 × (Nat → Int32) × (Nat → Int32)) (h : f6_score x1 x2 a_done p_errors a_scores = some u) : q_RW (cE ad) l yX6_score wsX6_score (rmq (1)) D cI [.ref (qp 0), .int x1, .int x2] [(qp 0, .inr (6, oX6 qp (qb 0) (qr 0) (qv 0) (qh 0) p_kept p_timesKept)), (qb 0, .inr (1, oX1 qb b_now b_shutTill b_shutBy b_z b_waits (qa 0) (qt 0))), (qa 0, .inr (0, oX0 qa a_done)), (qp 5, .inl (cI, 7, .inl p_errors)), (qa 7, .inl (cI, 60, .inl a_scores))] [(qp 0, .inr (6, oX6 qp (qb 0) (qr 0) (qv 0) (qh 0) p_kept p_timesKept)), (qb 0, .inr (1, oX1 qb b_now b_shutTill b_shutBy b_z b_waits (qa 0) (qt 0))), (qa 0, .inr (0, oX0 qa a_done)), (qp 5, .inl (cI, 7, .inl u.2.1)), (qa 7, .inl (cI, 60, .inl u.2.2))] u.1 := by
  refine q_startW (fun u : Int32 × (Nat → Int32) × (Nat → Int32) => [(qp 0, .inr (6, oX6 qp (qb 0) (qr 0) (qv 0) (qh 0) p_kept p_timesKept)), (qb 0, .inr (1, oX1 qb b_now b_shutTill b_shutBy b_z b_waits (qa 0) (qt 0))), (qa 0, .inr (0, oX0 qa a_done)), (qp 5, .inl (cI, 7, .inl u.2.1)), (qa 7, .inl (cI, 60, .inl u.2.2))]) (fun u => u.1) (cc := cX6_score) (maxL := 4) (ty := .int) (own := RX6) (by decide) rfl rfl (Nat.le_of_ble_eq_true rfl) rfl (fun p e s m args below meth c Q A hx hb hml hown hts hK hEv hA hret hP hD hS ls hl => ?_)
  have in0 : ∀ w ∈ wsX00, w ∈ wsX6_score := fun w h => List.mem_cons_of_mem _ (List.mem_append_right _ (h))
  have in1 : ∀ w ∈ wsX10, w ∈ wsX6_score := fun w h => List.mem_cons_of_mem _ (List.mem_append_left _ (List.mem_append_right _ (h)))
  have in6 : ∀ w ∈ wsX60, w ∈ wsX6_score := fun w h => List.mem_cons_of_mem _ (List.mem_append_left _ (List.mem_append_left _ (List.mem_append_right _ (h))))
  have l10 := hts (.fieldLink RX6 10 "PageWars" "book" "LPageWars$Book;") (List.mem_of_getElem? (i := 1) rfl)
  have l63 : (Cond.fieldLinkNest RX6 63 "PageWars$Book" "acts" "LPageWars$Acts;" "PageWars").before args s = true := cE_f6_63 hEv
  have l114 : (Cond.fieldLinkNest RX6 114 "PageWars$Acts" "scores" "[I" "PageWars").before args s = true := cE_f6_114 hEv
  have J19 : ∀ (p_errors : (Nat → Int32)) (a_scores : (Nat → Int32)) (H : Heap) (locs : List Loc) (ls : Array Slot), lv_has ls 4 [(0, .ref (qp 0))] → va_P D vwCl [(qp 0, .inr (6, oX6 qp (qb 0) (qr 0) (qv 0) (qh 0) p_kept p_timesKept)), (qb 0, .inr (1, oX1 qb b_now b_shutTill b_shutBy b_z b_waits (qa 0) (qt 0))), (qa 0, .inr (0, oX0 qa a_done)), (qp 5, .inl (cI, 7, .inl p_errors)), (qa 7, .inl (cI, 60, .inl a_scores))] H → va_D A [(qp 0, .inr (6, oX6 qp (qb 0) (qr 0) (qv 0) (qh 0) p_kept p_timesKept)), (qb 0, .inr (1, oX1 qb b_now b_shutTill b_shutBy b_z b_waits (qa 0) (qt 0))), (qa 0, .inr (0, oX0 qa a_done)), (qp 5, .inl (cI, 7, .inl p_errors)), (qa 7, .inl (cI, 60, .inl a_scores))] → va_S A s.heap H locs → f6_score_19 a_done p_errors a_scores = some u → W p l e (rmq (1)) s m args below meth c H locs 0 0 Q (F0 m 19 ls []) := by
    intro p_errors a_scores H locs ls hl hP hD hS h
    unfold f6_score_19 at h
    refine lv_aload_n hx hb dX6_score_19 rfl (lv_at hl 0 rfl) ?_
    refine lv_iconst (v := (1 : Int32)) hx hb dX6_score_20 (by decide) ?_
    refine q_callW2 (cEok ad) (rest := []) (fun u => [(qp 0, .inr (6, oX6 qp (qb 0) (qr 0) (qv 0) (qh 0) p_kept p_timesKept)), (qp 5, .inl (cI, 7, .inl u.2))]) (fun u => u.1) ⟨hx, hb, hml, hown, hts⟩ (fun u hu => c6_error l D cI ad qp qb qr qv qh p_kept p_timesKept p_errors ((1 : Int32)) u hu) (cwV 1 hts gX6_score_X6_error rfl rfl rfl hdX6_error (rmq_ok (Nat.le_of_ble_eq_true rfl) (Nat.le_of_ble_eq_true rfl))) hK hEv hA hP hD hS [0, 3] (by decide) rfl (fun _ => rfl) (va_recv hK hP (ci := 6) (q0 := 0) rfl rfl) rfl rfl hl.1 (Nat.le_of_ble_eq_true rfl) ⟨Nat.zero_le _, Nat.zero_le _⟩ h dX6_score_21 (fun t21 p_errors_21 H locs h hP hD hS => ?_)
    have hP : va_P D vwCl [(qp 0, .inr (6, oX6 qp (qb 0) (qr 0) (qv 0) (qh 0) p_kept p_timesKept)), (qb 0, .inr (1, oX1 qb b_now b_shutTill b_shutBy b_z b_waits (qa 0) (qt 0))), (qa 0, .inr (0, oX0 qa a_done)), (qp 5, .inl (cI, 7, .inl p_errors_21)), (qa 7, .inl (cI, 60, .inl a_scores))] H := hP
    have hD : va_D A [(qp 0, .inr (6, oX6 qp (qb 0) (qr 0) (qv 0) (qh 0) p_kept p_timesKept)), (qb 0, .inr (1, oX1 qb b_now b_shutTill b_shutBy b_z b_waits (qa 0) (qt 0))), (qa 0, .inr (0, oX0 qa a_done)), (qp 5, .inl (cI, 7, .inl p_errors_21)), (qa 7, .inl (cI, 60, .inl a_scores))] := hD
    exact hret (t21, p_errors_21, a_scores) _ _ _ _ (vp_nar_int _) h hP hD hS dX6_score_24
  unfold f6_score at h
  refine lv_aload_n hx hb dX6_score_0 rfl (lv_at hl 0 rfl) ?_
  refine lv_iload_n hx hb dX6_score_1 rfl (lv_at hl 1 rfl) ?_
  refine q_callR (cEok ad) (rest := []) ⟨hx, hb, hml, hown, hts⟩ (fun r hr => c6_isAct l D cI ad qp qb qa qt qr qv qh p_kept p_timesKept b_now b_shutTill b_shutBy b_z b_waits a_done x1 r hr) (cwV 1 hts gX6_score_X6_isAct rfl rfl rfl hdX6_isAct (rmq_ok (Nat.le_of_ble_eq_true rfl) (Nat.le_of_ble_eq_true rfl))) hK hP hEv hS [0, 1, 2] rfl (va_recv hK hP (ci := 6) (q0 := 0) rfl rfl) rfl rfl hl.1 (Nat.le_of_ble_eq_true rfl) ⟨Nat.zero_le _, Nat.zero_le _⟩ h dX6_score_2 (fun t2 h => ?_)
  refine q_ifeq hx hb 19 h dX6_score_5 (by decide) (fun h => ?_) (fun h => ?_)
  · exact J19 p_errors a_scores _ _ _ (lv_sub hl [0] rfl) hP hD hS h
  · refine lv_iload_n hx hb dX6_score_8 rfl (lv_at hl 2 rfl) ?_
    refine lv_iconst (v := (-1 : Int32)) hx hb dX6_score_9 (by decide) ?_
    refine q_clt hx hb 19 h dX6_score_10 (by decide) (fun h => ?_) (fun h => ?_)
    · exact J19 p_errors a_scores _ _ _ (lv_sub hl [0] rfl) hP hD hS h
    · refine lv_iload_n hx hb dX6_score_13 rfl (lv_at hl 2 rfl) ?_
      refine lv_bipush (v := (100 : Int32)) hx hb dX6_score_14 (by decide) ?_
      refine q_cle hx hb 25 h dX6_score_16 (by decide) (fun h => ?_) (fun h => ?_)
      · refine lv_aload_n hx hb dX6_score_25 rfl (lv_at hl 0 rfl) ?_
        refine va_get (D := D) (ci := 6) (v := .ref (qb 0)) (C := RX6) (T := TX6) (N := 7) hx hb hts in6 hown hK hP 0 rfl rfl 0 (by decide) l10 (fun _ h9 => h9) rfl dX6_score_26 ?_
        refine va_getN (D := D) (ci := 1) (v := .ref (qa 0)) (C := RX1) (T := TX1) (N := 9) hx hb hts in1 hown hK hP 1 rfl rfl 7 (by decide) l63 (fun _ h9 => h9) rfl dX6_score_29 ?_
        refine va_getN (D := D) (ci := 0) (v := .ref (qa 7)) (C := RX0) (T := TX0) (N := 10) hx hb hts in0 hown hK hP 2 rfl rfl 6 (by decide) l114 (fun _ h9 => h9) rfl dX6_score_32 ?_
        refine lv_iload_n hx hb dX6_score_35 rfl (lv_at hl 1 rfl) ?_
        refine q_iald hx hb hK hP 4 0 rfl rfl h dX6_score_36 (fun t36 h => ?_)
        refine lv_istore_n (lv' := [(3, .int t36), (0, .ref (qp 0)), (1, .int x1), (2, .int x2)]) hx hb dX6_score_37 rfl hl (by decide) rfl (fun ls hl => ?_)
        refine lv_aload_n hx hb dX6_score_38 rfl (lv_at hl 1 rfl) ?_
        refine va_get (D := D) (ci := 6) (v := .ref (qb 0)) (C := RX6) (T := TX6) (N := 7) hx hb hts in6 hown hK hP 0 rfl rfl 0 (by decide) l10 (fun _ h9 => h9) rfl dX6_score_39 ?_
        refine va_getN (D := D) (ci := 1) (v := .ref (qa 0)) (C := RX1) (T := TX1) (N := 9) hx hb hts in1 hown hK hP 1 rfl rfl 7 (by decide) l63 (fun _ h9 => h9) rfl dX6_score_42 ?_
        refine va_getN (D := D) (ci := 0) (v := .ref (qa 7)) (C := RX0) (T := TX0) (N := 10) hx hb hts in0 hown hK hP 2 rfl rfl 6 (by decide) l114 (fun _ h9 => h9) rfl dX6_score_45 ?_
        refine lv_iload_n hx hb dX6_score_48 rfl (lv_at hl 2 rfl) ?_
        refine lv_iload_n hx hb dX6_score_49 rfl (lv_at hl 3 rfl) ?_
        refine q_iast hx hb hK hP hD hS 4 0 rfl rfl h dX6_score_50 (fun a_scores_50 H locs h hP hD hS => ?_)
        have hP : va_P D vwCl [(qp 0, .inr (6, oX6 qp (qb 0) (qr 0) (qv 0) (qh 0) p_kept p_timesKept)), (qb 0, .inr (1, oX1 qb b_now b_shutTill b_shutBy b_z b_waits (qa 0) (qt 0))), (qa 0, .inr (0, oX0 qa a_done)), (qp 5, .inl (cI, 7, .inl p_errors)), (qa 7, .inl (cI, 60, .inl a_scores_50))] H := hP
        have hD : va_D A [(qp 0, .inr (6, oX6 qp (qb 0) (qr 0) (qv 0) (qh 0) p_kept p_timesKept)), (qb 0, .inr (1, oX1 qb b_now b_shutTill b_shutBy b_z b_waits (qa 0) (qt 0))), (qa 0, .inr (0, oX0 qa a_done)), (qp 5, .inl (cI, 7, .inl p_errors)), (qa 7, .inl (cI, 60, .inl a_scores_50))] := hD
        refine lv_iload_n hx hb dX6_score_51 rfl (lv_at hl 0 rfl) ?_
        exact hret (t36, p_errors, a_scores_50) _ _ _ _ (vp_nar_int _) h hP hD hS dX6_score_52
      · exact J19 p_errors a_scores _ _ _ (lv_sub hl [0] rfl) hP hD hS h
set_option maxHeartbeats 4000000 in
set_option maxRecDepth 100000 in
theorem c0_lineCosts (l : Launch) (D : va_G) (cI : ClassId) (ad : Nat → Nat) (qa : Nat → Nat) (a_done : Int32) (a_kinds a_scores : Nat → Int32) (x1 : Int32) (x2 : Int32) (x3 : Int32) (n : Nat) (u : Int32) (h : f0_lineCosts n x1 x2 x3 a_done a_kinds a_scores = some u) : q_RO (cE ad) l yX0_lineCosts wsX0_lineCosts (rmq (1)) D cI [.ref (qa 0), .int x1, .int x2, .int x3] [(qa 0, .inr (0, oX0 qa a_done)), (qa 2, .inl (cI, 60, .inl a_kinds)), (qa 7, .inl (cI, 60, .inl a_scores))] u := by
  refine q_startR (cc := cX0_lineCosts) (maxL := 7) (ty := .int) (own := RX0) (by decide) rfl rfl (Nat.le_of_ble_eq_true rfl) rfl (fun p e s m args below meth c Q hx hb hml hown hts hP hK hEv hret ls hl => ?_)
  have in0 : ∀ w ∈ wsX00, w ∈ wsX0_lineCosts := fun w h => List.mem_cons_of_mem _ (List.mem_append_right _ (h))
  have l9 := hts (.fieldLink RX0 9 "PageWars$Acts" "kinds" "[I") (List.mem_of_getElem? (i := 3) rfl)
  have l27 := hts (.fieldLink RX0 27 "PageWars$Acts" "scores" "[I") (List.mem_of_getElem? (i := 2) rfl)
  have l39 := hts (.fieldLink RX0 39 "PageWars$Acts" "done" "I") (List.mem_of_getElem? (i := 1) rfl)
  have J6 : ∀ (kk6 : Nat) (x1 : Int32) (x2 : Int32) (x3 : Int32) (x4 : Int32) (x5 : Int32) (ls : Array Slot), lv_has ls 7 [(0, .ref (qa 0)), (1, .int x1), (2, .int x2), (3, .int x3), (4, .int x4), (5, .int x5)] → f0_lineCosts_6 n a_done a_kinds a_scores kk6 x1 x2 x3 x4 x5 = some u → W p l e (rmq (1)) s m args below meth c s.heap [] 0 0 Q (F0 m 6 ls []) := by
    intro kk6
    induction kk6 with
    | zero => intro x1 x2 x3 x4 x5  ls hl h; exact nomatch (show (none : Option (Int32)) = some u from h)
    | succ kk6 ih6 =>
      have J85 : ∀ (x1 : Int32) (x2 : Int32) (x3 : Int32) (x4 : Int32) (x5 : Int32) (ls : Array Slot), lv_has ls 7 [(0, .ref (qa 0)), (1, .int x1), (2, .int x2), (3, .int x3), (4, .int x4), (5, .int x5)] → f0_lineCosts_85 n a_done a_kinds a_scores (f0_lineCosts_6 n a_done a_kinds a_scores kk6) x1 x2 x3 x4 x5 = some u → W p l e (rmq (1)) s m args below meth c s.heap [] 0 0 Q (F0 m 85 ls []) := by
        intro x1 x2 x3 x4 x5  ls hl h
        unfold f0_lineCosts_85 at h
        refine q_iinc (fun v => [(5, .int v), (0, .ref (qa 0)), (1, .int x1), (2, .int x2), (3, .int x3), (4, .int x4)]) hx hb h dX0_lineCosts_85 (by decide) hl (k := 5) rfl (by decide) (fun _ => rfl) (fun x5_85 ls h hl => ?_)
        refine lv_goto (tgt := 6) hx hb dX0_lineCosts_88 (by decide) ?_
        exact ih6 x1 x2 x3 x4 x5_85 _ (lv_sub hl [1, 2, 3, 4, 5, 0] rfl) h
      have J63 : ∀ (x1 : Int32) (x2 : Int32) (x3 : Int32) (x4 : Int32) (x5 : Int32) (x6 : Int32) (ls : Array Slot), lv_has ls 7 [(0, .ref (qa 0)), (1, .int x1), (2, .int x2), (3, .int x3), (4, .int x4), (5, .int x5), (6, .int x6)] → f0_lineCosts_63 n a_done a_kinds a_scores (f0_lineCosts_6 n a_done a_kinds a_scores kk6) x1 x2 x3 x4 x5 x6 = some u → W p l e (rmq (1)) s m args below meth c s.heap [] 0 0 Q (F0 m 63 ls []) := by
        intro x1 x2 x3 x4 x5 x6  ls hl h
        unfold f0_lineCosts_63 at h
        refine lv_aload_n hx hb dX0_lineCosts_63 rfl (lv_at hl 0 rfl) ?_
        refine va_get (D := D) (ci := 0) (v := .ref (qa 7)) (C := RX0) (T := TX0) (N := 10) hx hb hts in0 hown hK hP 0 rfl rfl 6 (by decide) l27 (fun _ h9 => h9) rfl dX0_lineCosts_64 ?_
        refine lv_iload hx hb dX0_lineCosts_67 (lv_at hl 5 rfl) ?_
        refine q_iald hx hb hK hP 2 0 rfl rfl h dX0_lineCosts_69 (fun t69 h => ?_)
        refine lv_iload_n hx hb dX0_lineCosts_70 rfl (lv_at hl 1 rfl) ?_
        refine q_cge hx hb 85 h dX0_lineCosts_71 (by decide) (fun h => ?_) (fun h => ?_)
        · exact J85 x1 x2 x3 x4 x5 _ (lv_sub hl [0, 1, 2, 3, 4, 5] rfl) h
        · refine lv_iload hx hb dX0_lineCosts_74 (lv_at hl 6 rfl) ?_
          refine q_ifeq hx hb 85 h dX0_lineCosts_76 (by decide) (fun h => ?_) (fun h => ?_)
          · exact J85 x1 x2 x3 x4 x5 _ (lv_sub hl [0, 1, 2, 3, 4, 5] rfl) h
          · refine lv_iload hx hb dX0_lineCosts_79 (lv_at hl 4 rfl) ?_
            refine lv_iload_n hx hb dX0_lineCosts_81 rfl (lv_at hl 3 rfl) ?_
            refine lv_iadd hx hb dX0_lineCosts_82 ?_
            refine q_let h (fun x4_83 h => ?_)
            refine lv_istore (lv' := [(4, .int x4_83), (0, .ref (qa 0)), (1, .int x1), (2, .int x2), (3, .int x3), (5, .int x5), (6, .int x6)]) hx hb dX0_lineCosts_83 hl (by decide) rfl (fun ls hl => ?_)
            exact J85 x1 x2 x3 x4_83 x5 _ (lv_sub hl [1, 2, 3, 4, 0, 5] rfl) h
      intro x1 x2 x3 x4 x5  ls hl h
      rw [f0_lineCosts_6.eq_2] at h
      refine lv_iload hx hb dX0_lineCosts_6 (lv_at hl 5 rfl) ?_
      refine lv_aload_n hx hb dX0_lineCosts_8 rfl (lv_at hl 0 rfl) ?_
      refine va_get (D := D) (ci := 0) (v := .int a_done) (C := RX0) (T := TX0) (N := 10) hx hb hts in0 hown hK hP 0 rfl rfl 0 (by decide) l39 (fun _ h9 => h9) rfl dX0_lineCosts_9 ?_
      refine q_cge hx hb 91 h dX0_lineCosts_12 (by decide) (fun h => ?_) (fun h => ?_)
      · refine lv_iload hx hb dX0_lineCosts_91 (lv_at hl 4 rfl) ?_
        exact hret _ _ _ (vp_nar_int _) h dX0_lineCosts_93
      · refine lv_aload_n hx hb dX0_lineCosts_15 rfl (lv_at hl 0 rfl) ?_
        refine va_get (D := D) (ci := 0) (v := .ref (qa 7)) (C := RX0) (T := TX0) (N := 10) hx hb hts in0 hown hK hP 0 rfl rfl 6 (by decide) l27 (fun _ h9 => h9) rfl dX0_lineCosts_16 ?_
        refine lv_iload hx hb dX0_lineCosts_19 (lv_at hl 5 rfl) ?_
        refine q_iald hx hb hK hP 2 0 rfl rfl h dX0_lineCosts_21 (fun t21 h => ?_)
        refine q_iflt hx hb 85 h dX0_lineCosts_22 (by decide) (fun h => ?_) (fun h => ?_)
        · exact J85 x1 x2 x3 x4 x5 _ (lv_sub hl [0, 1, 2, 3, 4, 5] rfl) h
        · refine lv_aload_n hx hb dX0_lineCosts_25 rfl (lv_at hl 0 rfl) ?_
          refine va_get (D := D) (ci := 0) (v := .ref (qa 2)) (C := RX0) (T := TX0) (N := 10) hx hb hts in0 hown hK hP 0 rfl rfl 1 (by decide) l9 (fun _ h9 => h9) rfl dX0_lineCosts_26 ?_
          refine lv_iload hx hb dX0_lineCosts_29 (lv_at hl 5 rfl) ?_
          refine q_iald hx hb hK hP 1 0 rfl rfl h dX0_lineCosts_31 (fun t31 h => ?_)
          refine lv_iconst (v := (4 : Int32)) hx hb dX0_lineCosts_32 (by decide) ?_
          refine q_callRS (cEok ad) (rest := []) ⟨hx, hb, hml, hown, hts⟩ (fun r hr => c0_isUnder l D cI ad t31 ((4 : Int32)) n r hr) (va_cwS 2 hts gX0_lineCosts_X0_isUnder rfl rfl rfl hdX0_isUnder (rmq_ok (Nat.le_of_ble_eq_true rfl) (Nat.le_of_ble_eq_true rfl))) hK hP hEv va_S.rf [] rfl rfl rfl hl.1 (Nat.le_of_ble_eq_true rfl) ⟨Nat.zero_le _, Nat.zero_le _⟩ h dX0_lineCosts_33 (fun t33 h => ?_)
          refine lv_istore (lv' := [(6, .int t33), (0, .ref (qa 0)), (1, .int x1), (2, .int x2), (3, .int x3), (4, .int x4), (5, .int x5)]) hx hb dX0_lineCosts_36 hl (by decide) rfl (fun ls hl => ?_)
          refine lv_aload_n hx hb dX0_lineCosts_38 rfl (lv_at hl 1 rfl) ?_
          refine va_get (D := D) (ci := 0) (v := .ref (qa 7)) (C := RX0) (T := TX0) (N := 10) hx hb hts in0 hown hK hP 0 rfl rfl 6 (by decide) l27 (fun _ h9 => h9) rfl dX0_lineCosts_39 ?_
          refine lv_iload hx hb dX0_lineCosts_42 (lv_at hl 6 rfl) ?_
          refine q_iald hx hb hK hP 2 0 rfl rfl h dX0_lineCosts_44 (fun t44 h => ?_)
          refine lv_iload_n hx hb dX0_lineCosts_45 rfl (lv_at hl 2 rfl) ?_
          refine q_clt hx hb 63 h dX0_lineCosts_46 (by decide) (fun h => ?_) (fun h => ?_)
          · exact J63 x1 x2 x3 x4 x5 t33 _ (lv_sub hl [1, 2, 3, 4, 5, 6, 0] rfl) h
          · refine lv_iload hx hb dX0_lineCosts_49 (lv_at hl 0 rfl) ?_
            refine q_ifne hx hb 63 h dX0_lineCosts_51 (by decide) (fun h => ?_) (fun h => ?_)
            · exact J63 x1 x2 x3 x4 x5 t33 _ (lv_sub hl [1, 2, 3, 4, 5, 6, 0] rfl) h
            · refine lv_iload hx hb dX0_lineCosts_54 (lv_at hl 5 rfl) ?_
              refine lv_iload_n hx hb dX0_lineCosts_56 rfl (lv_at hl 3 rfl) ?_
              refine lv_iadd hx hb dX0_lineCosts_57 ?_
              refine q_let h (fun x4_58 h => ?_)
              refine lv_istore (lv' := [(4, .int x4_58), (6, .int t33), (0, .ref (qa 0)), (1, .int x1), (2, .int x2), (3, .int x3), (5, .int x5)]) hx hb dX0_lineCosts_58 hl (by decide) rfl (fun ls hl => ?_)
              refine lv_goto (tgt := 85) hx hb dX0_lineCosts_60 (by decide) ?_
              exact J85 x1 x2 x3 x4_58 x5 _ (lv_sub hl [2, 3, 4, 5, 0, 6] rfl) h
  unfold f0_lineCosts at h
  refine lv_iconst (v := (0 : Int32)) hx hb dX0_lineCosts_0 (by decide) ?_
  refine lv_istore (lv' := [(4, .int ((0 : Int32))), (0, .ref (qa 0)), (1, .int x1), (2, .int x2), (3, .int x3)]) hx hb dX0_lineCosts_1 hl (by decide) rfl (fun ls hl => ?_)
  refine lv_iconst (v := (0 : Int32)) hx hb dX0_lineCosts_3 (by decide) ?_
  refine lv_istore (lv' := [(5, .int ((0 : Int32))), (4, .int ((0 : Int32))), (0, .ref (qa 0)), (1, .int x1), (2, .int x2), (3, .int x3)]) hx hb dX0_lineCosts_4 hl (by decide) rfl (fun ls hl => ?_)
  exact J6 n x1 x2 x3 ((0 : Int32)) ((0 : Int32)) _ (lv_sub hl [2, 3, 4, 5, 1, 0] rfl) h
set_option maxHeartbeats 4000000 in
set_option maxRecDepth 100000 in
theorem c0_cheapestLine (l : Launch) (D : va_G) (cI : ClassId) (ad : Nat → Nat) (qa : Nat → Nat) (a_done : Int32) (a_kinds a_scores : Nat → Int32) (x1 : Int32) (x2 : Int32) (n : Nat) (u : Int32) (h : f0_cheapestLine n x1 x2 a_done a_kinds a_scores = some u) : q_RO (cE ad) l yX0_cheapestLine wsX0_cheapestLine (rmq (2)) D cI [.ref (qa 0), .int x1, .int x2] [(qa 0, .inr (0, oX0 qa a_done)), (qa 2, .inl (cI, 60, .inl a_kinds)), (qa 7, .inl (cI, 60, .inl a_scores))] u := by
  refine q_startR (cc := cX0_cheapestLine) (maxL := 7) (ty := .int) (own := RX0) (by decide) rfl rfl (Nat.le_of_ble_eq_true rfl) rfl (fun p e s m args below meth c Q hx hb hml hown hts hP hK hEv hret ls hl => ?_)
  have in0 : ∀ w ∈ wsX00, w ∈ wsX0_cheapestLine := fun w h => List.mem_cons_of_mem _ (List.mem_append_right _ (h))
  have J14 : ∀ (kk14 : Nat) (x1 : Int32) (x2 : Int32) (x3 : Int32) (x4 : Int32) (x5 : Int32) (ls : Array Slot), lv_has ls 7 [(0, .ref (qa 0)), (1, .int x1), (2, .int x2), (3, .int x3), (4, .int x4), (5, .int x5)] → f0_cheapestLine_14 n a_done a_kinds a_scores kk14 x1 x2 x3 x4 x5 = some u → W p l e (rmq (2)) s m args below meth c s.heap [] 0 0 Q (F0 m 14 ls []) := by
    intro kk14
    induction kk14 with
    | zero => intro x1 x2 x3 x4 x5  ls hl h; exact nomatch (show (none : Option (Int32)) = some u from h)
    | succ kk14 ih14 =>
      have J45 : ∀ (x1 : Int32) (x2 : Int32) (x3 : Int32) (x4 : Int32) (x5 : Int32) (ls : Array Slot), lv_has ls 7 [(0, .ref (qa 0)), (1, .int x1), (2, .int x2), (3, .int x3), (4, .int x4), (5, .int x5)] → f0_cheapestLine_45 n a_done a_kinds a_scores (f0_cheapestLine_14 n a_done a_kinds a_scores kk14) x1 x2 x3 x4 x5 = some u → W p l e (rmq (2)) s m args below meth c s.heap [] 0 0 Q (F0 m 45 ls []) := by
        intro x1 x2 x3 x4 x5  ls hl h
        unfold f0_cheapestLine_45 at h
        refine q_iinc (fun v => [(5, .int v), (0, .ref (qa 0)), (1, .int x1), (2, .int x2), (3, .int x3), (4, .int x4)]) hx hb h dX0_cheapestLine_45 (by decide) hl (k := 5) rfl (by decide) (fun _ => rfl) (fun x5_45 ls h hl => ?_)
        refine lv_goto (tgt := 14) hx hb dX0_cheapestLine_48 (by decide) ?_
        exact ih14 x1 x2 x3 x4 x5_45 _ (lv_sub hl [1, 2, 3, 4, 5, 0] rfl) h
      intro x1 x2 x3 x4 x5  ls hl h
      rw [f0_cheapestLine_14.eq_2] at h
      refine lv_iload hx hb dX0_cheapestLine_14 (lv_at hl 5 rfl) ?_
      refine lv_bipush (v := (101 : Int32)) hx hb dX0_cheapestLine_16 (by decide) ?_
      refine q_cgt hx hb 51 h dX0_cheapestLine_18 (by decide) (fun h => ?_) (fun h => ?_)
      · refine lv_iload_n hx hb dX0_cheapestLine_51 rfl (lv_at hl 3 rfl) ?_
        exact hret _ _ _ (vp_nar_int _) h dX0_cheapestLine_52
      · refine lv_aload_n hx hb dX0_cheapestLine_21 rfl (lv_at hl 0 rfl) ?_
        refine lv_iload hx hb dX0_cheapestLine_22 (lv_at hl 5 rfl) ?_
        refine lv_iload_n hx hb dX0_cheapestLine_24 rfl (lv_at hl 1 rfl) ?_
        refine lv_iload_n hx hb dX0_cheapestLine_25 rfl (lv_at hl 2 rfl) ?_
        refine q_callR (cEok ad) (rest := []) ⟨hx, hb, hml, hown, hts⟩ (fun r hr => c0_lineCosts l D cI ad qa a_done a_kinds a_scores x5 x1 x2 n r hr) (cwV 3 hts gX0_cheapestLine_X0_lineCosts rfl rfl rfl hdX0_lineCosts (rmq_ok (Nat.le_of_ble_eq_true rfl) (Nat.le_of_ble_eq_true rfl))) hK hP hEv va_S.rf [0, 1, 2] rfl (va_recv hK hP (ci := 0) (q0 := 0) rfl rfl) rfl rfl hl.1 (Nat.le_of_ble_eq_true rfl) ⟨Nat.zero_le _, Nat.zero_le _⟩ h dX0_cheapestLine_26 (fun t26 h => ?_)
        refine lv_istore (lv' := [(6, .int t26), (0, .ref (qa 0)), (1, .int x1), (2, .int x2), (3, .int x3), (4, .int x4), (5, .int x5)]) hx hb dX0_cheapestLine_29 hl (by decide) rfl (fun ls hl => ?_)
        refine lv_iload hx hb dX0_cheapestLine_31 (lv_at hl 0 rfl) ?_
        refine lv_iload hx hb dX0_cheapestLine_33 (lv_at hl 5 rfl) ?_
        refine q_cgt hx hb 45 h dX0_cheapestLine_35 (by decide) (fun h => ?_) (fun h => ?_)
        · exact J45 x1 x2 x3 x4 x5 _ (lv_sub hl [1, 2, 3, 4, 5, 6] rfl) h
        · refine lv_iload hx hb dX0_cheapestLine_38 (lv_at hl 0 rfl) ?_
          refine lv_istore (lv' := [(4, .int t26), (6, .int t26), (0, .ref (qa 0)), (1, .int x1), (2, .int x2), (3, .int x3), (5, .int x5)]) hx hb dX0_cheapestLine_40 hl (by decide) rfl (fun ls hl => ?_)
          refine lv_iload hx hb dX0_cheapestLine_42 (lv_at hl 6 rfl) ?_
          refine lv_istore_n (lv' := [(3, .int x5), (4, .int t26), (6, .int t26), (0, .ref (qa 0)), (1, .int x1), (2, .int x2), (5, .int x5)]) hx hb dX0_cheapestLine_44 rfl hl (by decide) rfl (fun ls hl => ?_)
          exact J45 x1 x2 x5 t26 x5 _ (lv_sub hl [3, 4, 5, 0, 1, 6] rfl) h
  unfold f0_cheapestLine at h
  refine lv_iconst (v := (0 : Int32)) hx hb dX0_cheapestLine_0 (by decide) ?_
  refine lv_istore_n (lv' := [(3, .int ((0 : Int32))), (0, .ref (qa 0)), (1, .int x1), (2, .int x2)]) hx hb dX0_cheapestLine_1 rfl hl (by decide) rfl (fun ls hl => ?_)
  refine lv_aload_n hx hb dX0_cheapestLine_2 rfl (lv_at hl 1 rfl) ?_
  refine lv_iconst (v := (0 : Int32)) hx hb dX0_cheapestLine_3 (by decide) ?_
  refine lv_iload_n hx hb dX0_cheapestLine_4 rfl (lv_at hl 2 rfl) ?_
  refine lv_iload_n hx hb dX0_cheapestLine_5 rfl (lv_at hl 3 rfl) ?_
  refine q_callR (cEok ad) (rest := []) ⟨hx, hb, hml, hown, hts⟩ (fun r hr => c0_lineCosts l D cI ad qa a_done a_kinds a_scores ((0 : Int32)) x1 x2 n r hr) (cwV 3 hts gX0_cheapestLine_X0_lineCosts rfl rfl rfl hdX0_lineCosts (rmq_ok (Nat.le_of_ble_eq_true rfl) (Nat.le_of_ble_eq_true rfl))) hK hP hEv va_S.rf [0, 1, 2] rfl (va_recv hK hP (ci := 0) (q0 := 0) rfl rfl) rfl rfl hl.1 (Nat.le_of_ble_eq_true rfl) ⟨Nat.zero_le _, Nat.zero_le _⟩ h dX0_cheapestLine_6 (fun t6 h => ?_)
  refine lv_istore (lv' := [(4, .int t6), (3, .int ((0 : Int32))), (0, .ref (qa 0)), (1, .int x1), (2, .int x2)]) hx hb dX0_cheapestLine_9 hl (by decide) rfl (fun ls hl => ?_)
  refine lv_iconst (v := (1 : Int32)) hx hb dX0_cheapestLine_11 (by decide) ?_
  refine lv_istore (lv' := [(5, .int ((1 : Int32))), (4, .int t6), (3, .int ((0 : Int32))), (0, .ref (qa 0)), (1, .int x1), (2, .int x2)]) hx hb dX0_cheapestLine_12 hl (by decide) rfl (fun ls hl => ?_)
  exact J14 n x1 x2 ((0 : Int32)) t6 ((1 : Int32)) _ (lv_sub hl [3, 4, 5, 2, 1, 0] rfl) h
set_option maxHeartbeats 4000000 in
set_option maxRecDepth 100000 in
theorem c6_line (l : Launch) (D : va_G) (cI : ClassId) (ad : Nat → Nat) (qp qb qa qt qr qv qh : Nat → Nat) (p_kept : Value) (p_timesKept b_now b_shutTill b_shutBy b_z b_waits a_done : Int32) (p_errors a_kinds a_scores : Nat → Int32) (x1 : Int32) (x2 : Int32) (x3 : Int32) (n : Nat) (u : Int32 × (Nat → Int32)) (h : f6_line n x1 x2 x3 a_done p_errors a_kinds a_scores = some u) : q_RW (cE ad) l yX6_line wsX6_line (rmq (3)) D cI [.ref (qp 0), .int x1, .int x2, .int x3] [(qp 0, .inr (6, oX6 qp (qb 0) (qr 0) (qv 0) (qh 0) p_kept p_timesKept)), (qb 0, .inr (1, oX1 qb b_now b_shutTill b_shutBy b_z b_waits (qa 0) (qt 0))), (qa 0, .inr (0, oX0 qa a_done)), (qp 5, .inl (cI, 7, .inl p_errors)), (qa 2, .inl (cI, 60, .inl a_kinds)), (qa 7, .inl (cI, 60, .inl a_scores))] [(qp 0, .inr (6, oX6 qp (qb 0) (qr 0) (qv 0) (qh 0) p_kept p_timesKept)), (qb 0, .inr (1, oX1 qb b_now b_shutTill b_shutBy b_z b_waits (qa 0) (qt 0))), (qa 0, .inr (0, oX0 qa a_done)), (qp 5, .inl (cI, 7, .inl u.2)), (qa 2, .inl (cI, 60, .inl a_kinds)), (qa 7, .inl (cI, 60, .inl a_scores))] u.1 := by
  refine q_startW (fun u : Int32 × (Nat → Int32) => [(qp 0, .inr (6, oX6 qp (qb 0) (qr 0) (qv 0) (qh 0) p_kept p_timesKept)), (qb 0, .inr (1, oX1 qb b_now b_shutTill b_shutBy b_z b_waits (qa 0) (qt 0))), (qa 0, .inr (0, oX0 qa a_done)), (qp 5, .inl (cI, 7, .inl u.2)), (qa 2, .inl (cI, 60, .inl a_kinds)), (qa 7, .inl (cI, 60, .inl a_scores))]) (fun u => u.1) (cc := cX6_line) (maxL := 5) (ty := .int) (own := RX6) (by decide) rfl rfl (Nat.le_of_ble_eq_true rfl) rfl (fun p e s m args below meth c Q A hx hb hml hown hts hK hEv hA hret hP hD hS ls hl => ?_)
  have in0 : ∀ w ∈ wsX00, w ∈ wsX6_line := fun w h => List.mem_cons_of_mem _ (List.mem_append_right _ (h))
  have in1 : ∀ w ∈ wsX10, w ∈ wsX6_line := fun w h => List.mem_cons_of_mem _ (List.mem_append_left _ (List.mem_append_right _ (h)))
  have in6 : ∀ w ∈ wsX60, w ∈ wsX6_line := fun w h => List.mem_cons_of_mem _ (List.mem_append_left _ (List.mem_append_left _ (List.mem_append_right _ (h))))
  have l10 := hts (.fieldLink RX6 10 "PageWars" "book" "LPageWars$Book;") (List.mem_of_getElem? (i := 1) rfl)
  have l63 : (Cond.fieldLinkNest RX6 63 "PageWars$Book" "acts" "LPageWars$Acts;" "PageWars").before args s = true := cE_f6_63 hEv
  have J72 : ∀ (s0 : Int32) (p_errors : (Nat → Int32)) (H : Heap) (locs : List Loc) (ls : Array Slot), lv_has ls 5 [(0, .ref (qp 0))] → va_P D vwCl [(qp 0, .inr (6, oX6 qp (qb 0) (qr 0) (qv 0) (qh 0) p_kept p_timesKept)), (qb 0, .inr (1, oX1 qb b_now b_shutTill b_shutBy b_z b_waits (qa 0) (qt 0))), (qa 0, .inr (0, oX0 qa a_done)), (qp 5, .inl (cI, 7, .inl p_errors)), (qa 2, .inl (cI, 60, .inl a_kinds)), (qa 7, .inl (cI, 60, .inl a_scores))] H → va_D A [(qp 0, .inr (6, oX6 qp (qb 0) (qr 0) (qv 0) (qh 0) p_kept p_timesKept)), (qb 0, .inr (1, oX1 qb b_now b_shutTill b_shutBy b_z b_waits (qa 0) (qt 0))), (qa 0, .inr (0, oX0 qa a_done)), (qp 5, .inl (cI, 7, .inl p_errors)), (qa 2, .inl (cI, 60, .inl a_kinds)), (qa 7, .inl (cI, 60, .inl a_scores))] → va_S A s.heap H locs → f6_line_72 n a_done a_kinds a_scores s0 p_errors = some u → W p l e (rmq (3)) s m args below meth c H locs 0 0 Q (F0 m 72 ls [.int s0]) := by
    intro s0 p_errors H locs ls hl hP hD hS h
    unfold f6_line_72 at h
    exact hret (s0, p_errors) _ _ _ _ (vp_nar_int _) h hP hD hS dX6_line_72
  have J29 : ∀ (p_errors : (Nat → Int32)) (H : Heap) (locs : List Loc) (ls : Array Slot), lv_has ls 5 [(0, .ref (qp 0))] → va_P D vwCl [(qp 0, .inr (6, oX6 qp (qb 0) (qr 0) (qv 0) (qh 0) p_kept p_timesKept)), (qb 0, .inr (1, oX1 qb b_now b_shutTill b_shutBy b_z b_waits (qa 0) (qt 0))), (qa 0, .inr (0, oX0 qa a_done)), (qp 5, .inl (cI, 7, .inl p_errors)), (qa 2, .inl (cI, 60, .inl a_kinds)), (qa 7, .inl (cI, 60, .inl a_scores))] H → va_D A [(qp 0, .inr (6, oX6 qp (qb 0) (qr 0) (qv 0) (qh 0) p_kept p_timesKept)), (qb 0, .inr (1, oX1 qb b_now b_shutTill b_shutBy b_z b_waits (qa 0) (qt 0))), (qa 0, .inr (0, oX0 qa a_done)), (qp 5, .inl (cI, 7, .inl p_errors)), (qa 2, .inl (cI, 60, .inl a_kinds)), (qa 7, .inl (cI, 60, .inl a_scores))] → va_S A s.heap H locs → f6_line_29 n a_done a_kinds a_scores p_errors = some u → W p l e (rmq (3)) s m args below meth c H locs 0 0 Q (F0 m 29 ls []) := by
    intro p_errors H locs ls hl hP hD hS h
    unfold f6_line_29 at h
    refine lv_aload_n hx hb dX6_line_29 rfl (lv_at hl 0 rfl) ?_
    refine lv_iconst (v := (1 : Int32)) hx hb dX6_line_30 (by decide) ?_
    refine q_callW2 (cEok ad) (rest := []) (fun u => [(qp 0, .inr (6, oX6 qp (qb 0) (qr 0) (qv 0) (qh 0) p_kept p_timesKept)), (qp 5, .inl (cI, 7, .inl u.2))]) (fun u => u.1) ⟨hx, hb, hml, hown, hts⟩ (fun u hu => c6_error l D cI ad qp qb qr qv qh p_kept p_timesKept p_errors ((1 : Int32)) u hu) (cwV 1 hts gX6_line_X6_error rfl rfl rfl hdX6_error (rmq_ok (Nat.le_of_ble_eq_true rfl) (Nat.le_of_ble_eq_true rfl))) hK hEv hA hP hD hS [0, 3] (by decide) rfl (fun _ => rfl) (va_recv hK hP (ci := 6) (q0 := 0) rfl rfl) rfl rfl hl.1 (Nat.le_of_ble_eq_true rfl) ⟨Nat.zero_le _, Nat.zero_le _⟩ h dX6_line_31 (fun t31 p_errors_31 H locs h hP hD hS => ?_)
    have hP : va_P D vwCl [(qp 0, .inr (6, oX6 qp (qb 0) (qr 0) (qv 0) (qh 0) p_kept p_timesKept)), (qb 0, .inr (1, oX1 qb b_now b_shutTill b_shutBy b_z b_waits (qa 0) (qt 0))), (qa 0, .inr (0, oX0 qa a_done)), (qp 5, .inl (cI, 7, .inl p_errors_31)), (qa 2, .inl (cI, 60, .inl a_kinds)), (qa 7, .inl (cI, 60, .inl a_scores))] H := hP
    have hD : va_D A [(qp 0, .inr (6, oX6 qp (qb 0) (qr 0) (qv 0) (qh 0) p_kept p_timesKept)), (qb 0, .inr (1, oX1 qb b_now b_shutTill b_shutBy b_z b_waits (qa 0) (qt 0))), (qa 0, .inr (0, oX0 qa a_done)), (qp 5, .inl (cI, 7, .inl p_errors_31)), (qa 2, .inl (cI, 60, .inl a_kinds)), (qa 7, .inl (cI, 60, .inl a_scores))] := hD
    exact hret (t31, p_errors_31) _ _ _ _ (vp_nar_int _) h hP hD hS dX6_line_34
  unfold f6_line at h
  refine lv_iload_n hx hb dX6_line_0 rfl (lv_at hl 1 rfl) ?_
  refine q_iflt hx hb 29 h dX6_line_1 (by decide) (fun h => ?_) (fun h => ?_)
  · exact J29 p_errors _ _ _ (lv_sub hl [0] rfl) hP hD hS h
  · refine lv_iload_n hx hb dX6_line_4 rfl (lv_at hl 1 rfl) ?_
    refine lv_bipush (v := (99 : Int32)) hx hb dX6_line_5 (by decide) ?_
    refine q_cgt hx hb 29 h dX6_line_7 (by decide) (fun h => ?_) (fun h => ?_)
    · exact J29 p_errors _ _ _ (lv_sub hl [0] rfl) hP hD hS h
    · refine lv_iload_n hx hb dX6_line_10 rfl (lv_at hl 2 rfl) ?_
      refine q_iflt hx hb 29 h dX6_line_11 (by decide) (fun h => ?_) (fun h => ?_)
      · exact J29 p_errors _ _ _ (lv_sub hl [0] rfl) hP hD hS h
      · refine lv_iload_n hx hb dX6_line_14 rfl (lv_at hl 2 rfl) ?_
        refine lv_bipush (v := (99 : Int32)) hx hb dX6_line_15 (by decide) ?_
        refine q_cgt hx hb 29 h dX6_line_17 (by decide) (fun h => ?_) (fun h => ?_)
        · exact J29 p_errors _ _ _ (lv_sub hl [0] rfl) hP hD hS h
        · refine lv_iload_n hx hb dX6_line_20 rfl (lv_at hl 3 rfl) ?_
          refine q_iflt hx hb 29 h dX6_line_21 (by decide) (fun h => ?_) (fun h => ?_)
          · exact J29 p_errors _ _ _ (lv_sub hl [0] rfl) hP hD hS h
          · refine lv_iload_n hx hb dX6_line_24 rfl (lv_at hl 3 rfl) ?_
            refine lv_iconst (v := (1 : Int32)) hx hb dX6_line_25 (by decide) ?_
            refine q_cle hx hb 35 h dX6_line_26 (by decide) (fun h => ?_) (fun h => ?_)
            · refine lv_aload_n hx hb dX6_line_35 rfl (lv_at hl 0 rfl) ?_
              refine va_get (D := D) (ci := 6) (v := .ref (qb 0)) (C := RX6) (T := TX6) (N := 7) hx hb hts in6 hown hK hP 0 rfl rfl 0 (by decide) l10 (fun _ h9 => h9) rfl dX6_line_36 ?_
              refine va_getN (D := D) (ci := 1) (v := .ref (qa 0)) (C := RX1) (T := TX1) (N := 9) hx hb hts in1 hown hK hP 1 rfl rfl 7 (by decide) l63 (fun _ h9 => h9) rfl dX6_line_39 ?_
              refine lv_iload_n hx hb dX6_line_42 rfl (lv_at hl 1 rfl) ?_
              refine lv_iload_n hx hb dX6_line_43 rfl (lv_at hl 2 rfl) ?_
              refine q_callR (cEok ad) (rest := []) ⟨hx, hb, hml, hown, hts⟩ (fun r hr => c0_cheapestLine l D cI ad qa a_done a_kinds a_scores x1 x2 n r hr) (cwV 2 hts gX6_line_X0_cheapestLine rfl rfl rfl hdX0_cheapestLine (rmq_ok (Nat.le_of_ble_eq_true rfl) (Nat.le_of_ble_eq_true rfl))) hK hP hEv hS [2, 4, 5] rfl (va_recv hK hP (ci := 0) (q0 := 2) rfl rfl) rfl rfl hl.1 (Nat.le_of_ble_eq_true rfl) ⟨Nat.zero_le _, Nat.zero_le _⟩ h dX6_line_44 (fun t44 h => ?_)
              refine lv_istore (lv' := [(4, .int t44), (0, .ref (qp 0)), (1, .int x1), (2, .int x2), (3, .int x3)]) hx hb dX6_line_47 hl (by decide) rfl (fun ls hl => ?_)
              refine lv_iload_n hx hb dX6_line_49 rfl (lv_at hl 4 rfl) ?_
              refine q_ifne hx hb 58 h dX6_line_50 (by decide) (fun h => ?_) (fun h => ?_)
              · refine lv_aload_n hx hb dX6_line_58 rfl (lv_at hl 1 rfl) ?_
                refine va_get (D := D) (ci := 6) (v := .ref (qb 0)) (C := RX6) (T := TX6) (N := 7) hx hb hts in6 hown hK hP 0 rfl rfl 0 (by decide) l10 (fun _ h9 => h9) rfl dX6_line_59 ?_
                refine va_getN (D := D) (ci := 1) (v := .ref (qa 0)) (C := RX1) (T := TX1) (N := 9) hx hb hts in1 hown hK hP 1 rfl rfl 7 (by decide) l63 (fun _ h9 => h9) rfl dX6_line_62 ?_
                refine lv_iload hx hb dX6_line_65 (lv_at hl 0 rfl) ?_
                refine lv_iload_n hx hb dX6_line_67 rfl (lv_at hl 2 rfl) ?_
                refine lv_iload_n hx hb dX6_line_68 rfl (lv_at hl 3 rfl) ?_
                refine q_callR (cEok ad) (rest := []) ⟨hx, hb, hml, hown, hts⟩ (fun r hr => c0_lineCosts l D cI ad qa a_done a_kinds a_scores t44 x1 x2 n r hr) (cwV 3 hts gX6_line_X0_lineCosts rfl rfl rfl hdX0_lineCosts (rmq_ok (Nat.le_of_ble_eq_true rfl) (Nat.le_of_ble_eq_true rfl))) hK hP hEv hS [2, 4, 5] rfl (va_recv hK hP (ci := 0) (q0 := 2) rfl rfl) rfl rfl hl.1 (Nat.le_of_ble_eq_true rfl) ⟨Nat.zero_le _, Nat.zero_le _⟩ h dX6_line_69 (fun t69 h => ?_)
                exact J72 t69 p_errors _ _ _ (lv_sub hl [1] rfl) hP hD hS h
              · refine lv_iload hx hb dX6_line_53 (lv_at hl 0 rfl) ?_
                refine lv_goto (tgt := 72) hx hb dX6_line_55 (by decide) ?_
                exact J72 t44 p_errors _ _ _ (lv_sub hl [1] rfl) hP hD hS h
            · exact J29 p_errors _ _ _ (lv_sub hl [0] rfl) hP hD hS h
