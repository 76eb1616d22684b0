set_option maxHeartbeats 4000000 in
set_option maxRecDepth 100000 in
theorem c6_talk (l : Launch) (D : va_G) (cI : ClassId) (ad : Nat → Nat) (qp qb qa qt qr qv qh : Nat → Nat) (p_kept : Value) (p_timesKept b_now b_shutTill b_shutBy b_z b_waits a_done t_taped : Int32) (p_errors a_kinds a_writers a_minutes a_matters a_undoers a_scores a_sizes a_cells t_codes t_lengths t_named t_stack : Nat → Int32) (x1 : Int32) (x2 : Int32) (n : Nat) (u : Int32 × Int32 × (Nat → Int32) × (Nat → Int32) × (Nat → Int32) × (Nat → Int32) × (Nat → Int32) × (Nat → Int32) × (Nat → Int32) × (Nat → Int32) × (Nat → Int32) × (Nat → Int32) × (Nat → Int32)) (h : f6_talk n x1 x2 b_now b_shutTill b_shutBy a_done p_errors a_kinds a_writers a_minutes a_matters a_undoers a_scores a_sizes a_cells t_codes t_lengths t_named t_stack = some u) : q_RW (cE ad) l yX6_talk wsX6_talk (rmq (6)) D cI [.ref (qp 0), .int x1, .int x2] [(qp 0, .inr (6, oX6 qp (qb 0) (qr 0) (qv 0) (qh 0) p_kept p_timesKept)), (qb 0, .inr (1, oX1 qb b_now b_shutTill b_shutBy b_z b_waits (qa 0) (qt 0))), (qa 0, .inr (0, oX0 qa a_done)), (qt 0, .inr (4, oX4 qt t_taped)), (qp 5, .inl (cI, 7, .inl p_errors)), (qa 2, .inl (cI, 60, .inl a_kinds)), (qa 3, .inl (cI, 60, .inl a_writers)), (qa 4, .inl (cI, 60, .inl a_minutes)), (qa 5, .inl (cI, 60, .inl a_matters)), (qa 6, .inl (cI, 60, .inl a_undoers)), (qa 7, .inl (cI, 60, .inl a_scores)), (qa 8, .inl (cI, 61, .inl a_sizes)), (qa 9, .inl (cI, 1220, .inl a_cells)), (qt 3, .inl (cI, 480, .inl t_codes)), (qt 4, .inl (cI, 8, .inl t_lengths)), (qt 5, .inl (cI, 5, .inl t_named)), (qt 6, .inl (cI, 60, .inl t_stack))] [(qp 0, .inr (6, oX6 qp (qb 0) (qr 0) (qv 0) (qh 0) p_kept p_timesKept)), (qb 0, .inr (1, oX1 qb b_now b_shutTill b_shutBy b_z b_waits (qa 0) (qt 0))), (qa 0, .inr (0, oX0 qa u.2.1)), (qt 0, .inr (4, oX4 qt t_taped)), (qp 5, .inl (cI, 7, .inl u.2.2.1)), (qa 2, .inl (cI, 60, .inl u.2.2.2.1)), (qa 3, .inl (cI, 60, .inl u.2.2.2.2.1)), (qa 4, .inl (cI, 60, .inl u.2.2.2.2.2.1)), (qa 5, .inl (cI, 60, .inl u.2.2.2.2.2.2.1)), (qa 6, .inl (cI, 60, .inl u.2.2.2.2.2.2.2.1)), (qa 7, .inl (cI, 60, .inl u.2.2.2.2.2.2.2.2.1)), (qa 8, .inl (cI, 61, .inl u.2.2.2.2.2.2.2.2.2.1)), (qa 9, .inl (cI, 1220, .inl u.2.2.2.2.2.2.2.2.2.2.1)), (qt 3, .inl (cI, 480, .inl t_codes)), (qt 4, .inl (cI, 8, .inl t_lengths)), (qt 5, .inl (cI, 5, .inl u.2.2.2.2.2.2.2.2.2.2.2.1)), (qt 6, .inl (cI, 60, .inl u.2.2.2.2.2.2.2.2.2.2.2.2))] u.1 := by
  refine q_startW (fun u : Int32 × Int32 × (Nat → Int32) × (Nat → Int32) × (Nat → Int32) × (Nat → Int32) × (Nat → Int32) × (Nat → Int32) × (Nat → Int32) × (Nat → Int32) × (Nat → Int32) × (Nat → Int32) × (Nat → Int32) => [(qp 0, .inr (6, oX6 qp (qb 0) (qr 0) (qv 0) (qh 0) p_kept p_timesKept)), (qb 0, .inr (1, oX1 qb b_now b_shutTill b_shutBy b_z b_waits (qa 0) (qt 0))), (qa 0, .inr (0, oX0 qa u.2.1)), (qt 0, .inr (4, oX4 qt t_taped)), (qp 5, .inl (cI, 7, .inl u.2.2.1)), (qa 2, .inl (cI, 60, .inl u.2.2.2.1)), (qa 3, .inl (cI, 60, .inl u.2.2.2.2.1)), (qa 4, .inl (cI, 60, .inl u.2.2.2.2.2.1)), (qa 5, .inl (cI, 60, .inl u.2.2.2.2.2.2.1)), (qa 6, .inl (cI, 60, .inl u.2.2.2.2.2.2.2.1)), (qa 7, .inl (cI, 60, .inl u.2.2.2.2.2.2.2.2.1)), (qa 8, .inl (cI, 61, .inl u.2.2.2.2.2.2.2.2.2.1)), (qa 9, .inl (cI, 1220, .inl u.2.2.2.2.2.2.2.2.2.2.1)), (qt 3, .inl (cI, 480, .inl t_codes)), (qt 4, .inl (cI, 8, .inl t_lengths)), (qt 5, .inl (cI, 5, .inl u.2.2.2.2.2.2.2.2.2.2.2.1)), (qt 6, .inl (cI, 60, .inl u.2.2.2.2.2.2.2.2.2.2.2.2))]) (fun u => u.1) (cc := cX6_talk) (maxL := 4) (ty := .int) (own := RX6) (by decide) rfl rfl (Nat.le_of_ble_eq_true rfl) rfl (fun p e s m args below meth c Q A hx hb hml hown hts hK hEv hA hret hP hD hS ls hl => ?_)
  have in0 : ∀ w ∈ wsX00, w ∈ wsX6_talk := fun w h => List.mem_cons_of_mem _ (List.mem_append_right _ (h))
  have in1 : ∀ w ∈ wsX10, w ∈ wsX6_talk := fun w h => List.mem_cons_of_mem _ (List.mem_append_left _ (List.mem_append_left _ (List.mem_append_right _ (h))))
  have in4 : ∀ w ∈ wsX40, w ∈ wsX6_talk := fun w h => List.mem_cons_of_mem _ (List.mem_append_left _ (List.mem_append_right _ (h)))
  have in6 : ∀ w ∈ wsX60, w ∈ wsX6_talk := fun w h => List.mem_cons_of_mem _ (List.mem_append_left _ (List.mem_append_left _ (List.mem_append_left _ (List.mem_append_right _ (h)))))
  have l10 := hts (.fieldLink RX6 10 "PageWars" "book" "LPageWars$Book;") (List.mem_of_getElem? (i := 1) rfl)
  have J19 : ∀ (a_done : Int32) (p_errors : (Nat → Int32)) (a_kinds : (Nat → Int32)) (a_writers : (Nat → Int32)) (a_minutes : (Nat → Int32)) (a_matters : (Nat → Int32)) (a_undoers : (Nat → Int32)) (a_scores : (Nat → Int32)) (a_sizes : (Nat → Int32)) (a_cells : (Nat → Int32)) (t_named : (Nat → Int32)) (t_stack : (Nat → Int32)) (H : Heap) (locs : List Loc) (ls : Array Slot), lv_has ls 4 [(0, .ref (qp 0))] → va_P D vwCl [(qp 0, .inr (6, oX6 qp (qb 0) (qr 0) (qv 0) (qh 0) p_kept p_timesKept)), (qb 0, .inr (1, oX1 qb b_now b_shutTill b_shutBy b_z b_waits (qa 0) (qt 0))), (qa 0, .inr (0, oX0 qa a_done)), (qt 0, .inr (4, oX4 qt t_taped)), (qp 5, .inl (cI, 7, .inl p_errors)), (qa 2, .inl (cI, 60, .inl a_kinds)), (qa 3, .inl (cI, 60, .inl a_writers)), (qa 4, .inl (cI, 60, .inl a_minutes)), (qa 5, .inl (cI, 60, .inl a_matters)), (qa 6, .inl (cI, 60, .inl a_undoers)), (qa 7, .inl (cI, 60, .inl a_scores)), (qa 8, .inl (cI, 61, .inl a_sizes)), (qa 9, .inl (cI, 1220, .inl a_cells)), (qt 3, .inl (cI, 480, .inl t_codes)), (qt 4, .inl (cI, 8, .inl t_lengths)), (qt 5, .inl (cI, 5, .inl t_named)), (qt 6, .inl (cI, 60, .inl t_stack))] H → va_D A [(qp 0, .inr (6, oX6 qp (qb 0) (qr 0) (qv 0) (qh 0) p_kept p_timesKept)), (qb 0, .inr (1, oX1 qb b_now b_shutTill b_shutBy b_z b_waits (qa 0) (qt 0))), (qa 0, .inr (0, oX0 qa a_done)), (qt 0, .inr (4, oX4 qt t_taped)), (qp 5, .inl (cI, 7, .inl p_errors)), (qa 2, .inl (cI, 60, .inl a_kinds)), (qa 3, .inl (cI, 60, .inl a_writers)), (qa 4, .inl (cI, 60, .inl a_minutes)), (qa 5, .inl (cI, 60, .inl a_matters)), (qa 6, .inl (cI, 60, .inl a_undoers)), (qa 7, .inl (cI, 60, .inl a_scores)), (qa 8, .inl (cI, 61, .inl a_sizes)), (qa 9, .inl (cI, 1220, .inl a_cells)), (qt 3, .inl (cI, 480, .inl t_codes)), (qt 4, .inl (cI, 8, .inl t_lengths)), (qt 5, .inl (cI, 5, .inl t_named)), (qt 6, .inl (cI, 60, .inl t_stack))] → va_S A s.heap H locs → f6_talk_19 n b_now b_shutTill b_shutBy t_codes t_lengths a_done p_errors a_kinds a_writers a_minutes a_matters a_undoers a_scores a_sizes a_cells t_named t_stack = some u → W p l e (rmq (6)) s m args below meth c H locs 0 0 Q (F0 m 19 ls []) := by
    intro a_done p_errors a_kinds a_writers a_minutes a_matters a_undoers a_scores a_sizes a_cells t_named t_stack H locs ls hl hP hD hS h
    unfold f6_talk_19 at h
    refine lv_aload_n hx hb dX6_talk_19 rfl (lv_at hl 0 rfl) ?_
    refine lv_iconst (v := (1 : Int32)) hx hb dX6_talk_20 (by decide) ?_
    refine q_callW2 (cEok ad) (rest := []) (fun u => [(qp 0, .inr (6, oX6 qp (qb 0) (qr 0) (qv 0) (qh 0) p_kept p_timesKept)), (qp 5, .inl (cI, 7, .inl u.2))]) (fun u => u.1) ⟨hx, hb, hml, hown, hts⟩ (fun u hu => c6_error l D cI ad qp qb qr qv qh p_kept p_timesKept p_errors ((1 : Int32)) u hu) (cwV 1 hts gX6_talk_X6_error rfl rfl rfl hdX6_error (rmq_ok (Nat.le_of_ble_eq_true rfl) (Nat.le_of_ble_eq_true rfl))) hK hEv hA hP hD hS [0, 4] (by decide) rfl (fun _ => rfl) (va_recv hK hP (ci := 6) (q0 := 0) rfl rfl) rfl rfl hl.1 (Nat.le_of_ble_eq_true rfl) ⟨Nat.zero_le _, Nat.zero_le _⟩ h dX6_talk_21 (fun t21 p_errors_21 H locs h hP hD hS => ?_)
    have hP : va_P D vwCl [(qp 0, .inr (6, oX6 qp (qb 0) (qr 0) (qv 0) (qh 0) p_kept p_timesKept)), (qb 0, .inr (1, oX1 qb b_now b_shutTill b_shutBy b_z b_waits (qa 0) (qt 0))), (qa 0, .inr (0, oX0 qa a_done)), (qt 0, .inr (4, oX4 qt t_taped)), (qp 5, .inl (cI, 7, .inl p_errors_21)), (qa 2, .inl (cI, 60, .inl a_kinds)), (qa 3, .inl (cI, 60, .inl a_writers)), (qa 4, .inl (cI, 60, .inl a_minutes)), (qa 5, .inl (cI, 60, .inl a_matters)), (qa 6, .inl (cI, 60, .inl a_undoers)), (qa 7, .inl (cI, 60, .inl a_scores)), (qa 8, .inl (cI, 61, .inl a_sizes)), (qa 9, .inl (cI, 1220, .inl a_cells)), (qt 3, .inl (cI, 480, .inl t_codes)), (qt 4, .inl (cI, 8, .inl t_lengths)), (qt 5, .inl (cI, 5, .inl t_named)), (qt 6, .inl (cI, 60, .inl t_stack))] H := hP
    have hD : va_D A [(qp 0, .inr (6, oX6 qp (qb 0) (qr 0) (qv 0) (qh 0) p_kept p_timesKept)), (qb 0, .inr (1, oX1 qb b_now b_shutTill b_shutBy b_z b_waits (qa 0) (qt 0))), (qa 0, .inr (0, oX0 qa a_done)), (qt 0, .inr (4, oX4 qt t_taped)), (qp 5, .inl (cI, 7, .inl p_errors_21)), (qa 2, .inl (cI, 60, .inl a_kinds)), (qa 3, .inl (cI, 60, .inl a_writers)), (qa 4, .inl (cI, 60, .inl a_minutes)), (qa 5, .inl (cI, 60, .inl a_matters)), (qa 6, .inl (cI, 60, .inl a_undoers)), (qa 7, .inl (cI, 60, .inl a_scores)), (qa 8, .inl (cI, 61, .inl a_sizes)), (qa 9, .inl (cI, 1220, .inl a_cells)), (qt 3, .inl (cI, 480, .inl t_codes)), (qt 4, .inl (cI, 8, .inl t_lengths)), (qt 5, .inl (cI, 5, .inl t_named)), (qt 6, .inl (cI, 60, .inl t_stack))] := hD
    exact hret (t21, a_done, p_errors_21, a_kinds, a_writers, a_minutes, a_matters, a_undoers, a_scores, a_sizes, a_cells, t_named, t_stack) _ _ _ _ (vp_nar_int _) h hP hD hS dX6_talk_24
  unfold f6_talk at h
  refine lv_iload_n hx hb dX6_talk_0 rfl (lv_at hl 1 rfl) ?_
  refine q_callRS (cEok ad) (rest := []) ⟨hx, hb, hml, hown, hts⟩ (fun r hr => c6_isWriter l D cI ad x1 r hr) (va_cwS 1 hts gX6_talk_X6_isWriter rfl rfl rfl hdX6_isWriter (rmq_ok (Nat.le_of_ble_eq_true rfl) (Nat.le_of_ble_eq_true rfl))) hK hP hEv hS [] rfl rfl rfl hl.1 (Nat.le_of_ble_eq_true rfl) ⟨Nat.zero_le _, Nat.zero_le _⟩ h dX6_talk_1 (fun t1 h => ?_)
  refine q_ifeq hx hb 19 h dX6_talk_4 (by decide) (fun h => ?_) (fun h => ?_)
  · exact J19 a_done p_errors a_kinds a_writers a_minutes a_matters a_undoers a_scores a_sizes a_cells t_named t_stack _ _ _ (lv_sub hl [0] rfl) hP hD hS h
  · refine lv_iload_n hx hb dX6_talk_7 rfl (lv_at hl 2 rfl) ?_
    refine lv_iconst (v := (1 : Int32)) hx hb dX6_talk_8 (by decide) ?_
    refine q_clt hx hb 19 h dX6_talk_9 (by decide) (fun h => ?_) (fun h => ?_)
    · exact J19 a_done p_errors a_kinds a_writers a_minutes a_matters a_undoers a_scores a_sizes a_cells t_named t_stack _ _ _ (lv_sub hl [0] rfl) hP hD hS h
    · refine lv_iload_n hx hb dX6_talk_12 rfl (lv_at hl 2 rfl) ?_
      refine lv_sipush (v := (999 : Int32)) hx hb dX6_talk_13 (by decide) ?_
      refine q_cle hx hb 25 h dX6_talk_16 (by decide) (fun h => ?_) (fun h => ?_)
      · refine lv_aload_n hx hb dX6_talk_25 rfl (lv_at hl 0 rfl) ?_
        refine va_get (D := D) (ci := 6) (v := .ref (qb 0)) (C := RX6) (T := TX6) (N := 7) hx hb hts in6 hown hK hP 0 rfl rfl 0 (by decide) l10 (fun _ h9 => h9) rfl dX6_talk_26 ?_
        refine lv_iload_n hx hb dX6_talk_29 rfl (lv_at hl 1 rfl) ?_
        refine q_callW3 (cEok ad) (rest := []) (fun u => [(qb 0, .inr (1, oX1 qb b_now b_shutTill b_shutBy b_z b_waits (qa 0) (qt 0))), (qa 0, .inr (0, oX0 qa a_done)), (qt 0, .inr (4, oX4 qt t_taped)), (qa 2, .inl (cI, 60, .inl a_kinds)), (qa 3, .inl (cI, 60, .inl a_writers)), (qa 4, .inl (cI, 60, .inl a_minutes)), (qa 8, .inl (cI, 61, .inl a_sizes)), (qt 3, .inl (cI, 480, .inl t_codes)), (qt 4, .inl (cI, 8, .inl t_lengths)), (qt 5, .inl (cI, 5, .inl u.2.1)), (qt 6, .inl (cI, 60, .inl u.2.2))]) (fun u => u.1) ⟨hx, hb, hml, hown, hts⟩ (fun u hu => c1_refusesActing l D cI ad qb qa qt b_now b_shutTill b_shutBy b_z b_waits a_done t_taped a_kinds a_writers a_minutes a_sizes t_codes t_lengths t_named t_stack x1 n u hu) (cwV 1 hts gX6_talk_X1_refusesActing rfl rfl rfl hdX1_refusesActing (rmq_ok (Nat.le_of_ble_eq_true rfl) (Nat.le_of_ble_eq_true rfl))) hK hEv hA hP hD hS [1, 2, 3, 5, 6, 7, 11, 13, 14, 15, 16] (by decide) rfl (fun _ => rfl) (va_recv hK hP (ci := 1) (q0 := 1) rfl rfl) rfl rfl hl.1 (Nat.le_of_ble_eq_true rfl) ⟨Nat.zero_le _, Nat.zero_le _⟩ h dX6_talk_30 (fun t30 t_named_30 t_stack_30 H locs h hP hD hS => ?_)
        have hP : va_P D vwCl [(qp 0, .inr (6, oX6 qp (qb 0) (qr 0) (qv 0) (qh 0) p_kept p_timesKept)), (qb 0, .inr (1, oX1 qb b_now b_shutTill b_shutBy b_z b_waits (qa 0) (qt 0))), (qa 0, .inr (0, oX0 qa a_done)), (qt 0, .inr (4, oX4 qt t_taped)), (qp 5, .inl (cI, 7, .inl p_errors)), (qa 2, .inl (cI, 60, .inl a_kinds)), (qa 3, .inl (cI, 60, .inl a_writers)), (qa 4, .inl (cI, 60, .inl a_minutes)), (qa 5, .inl (cI, 60, .inl a_matters)), (qa 6, .inl (cI, 60, .inl a_undoers)), (qa 7, .inl (cI, 60, .inl a_scores)), (qa 8, .inl (cI, 61, .inl a_sizes)), (qa 9, .inl (cI, 1220, .inl a_cells)), (qt 3, .inl (cI, 480, .inl t_codes)), (qt 4, .inl (cI, 8, .inl t_lengths)), (qt 5, .inl (cI, 5, .inl t_named_30)), (qt 6, .inl (cI, 60, .inl t_stack_30))] H := hP
        have hD : va_D A [(qp 0, .inr (6, oX6 qp (qb 0) (qr 0) (qv 0) (qh 0) p_kept p_timesKept)), (qb 0, .inr (1, oX1 qb b_now b_shutTill b_shutBy b_z b_waits (qa 0) (qt 0))), (qa 0, .inr (0, oX0 qa a_done)), (qt 0, .inr (4, oX4 qt t_taped)), (qp 5, .inl (cI, 7, .inl p_errors)), (qa 2, .inl (cI, 60, .inl a_kinds)), (qa 3, .inl (cI, 60, .inl a_writers)), (qa 4, .inl (cI, 60, .inl a_minutes)), (qa 5, .inl (cI, 60, .inl a_matters)), (qa 6, .inl (cI, 60, .inl a_undoers)), (qa 7, .inl (cI, 60, .inl a_scores)), (qa 8, .inl (cI, 61, .inl a_sizes)), (qa 9, .inl (cI, 1220, .inl a_cells)), (qt 3, .inl (cI, 480, .inl t_codes)), (qt 4, .inl (cI, 8, .inl t_lengths)), (qt 5, .inl (cI, 5, .inl t_named_30)), (qt 6, .inl (cI, 60, .inl t_stack_30))] := hD
        refine lv_istore_n (lv' := [(3, .int t30), (0, .ref (qp 0)), (1, .int x1), (2, .int x2)]) hx hb dX6_talk_33 rfl hl (by decide) rfl (fun ls hl => ?_)
        refine lv_iload_n hx hb dX6_talk_34 rfl (lv_at hl 0 rfl) ?_
        refine q_ifeq hx hb 44 h dX6_talk_35 (by decide) (fun h => ?_) (fun h => ?_)
        · refine lv_aload_n hx hb dX6_talk_44 rfl (lv_at hl 1 rfl) ?_
          refine lv_aload_n hx hb dX6_talk_45 rfl (lv_at hl 1 rfl) ?_
          refine va_get (D := D) (ci := 6) (v := .ref (qb 0)) (C := RX6) (T := TX6) (N := 7) hx hb hts in6 hown hK hP 0 rfl rfl 0 (by decide) l10 (fun _ h9 => h9) rfl dX6_talk_46 ?_
          refine lv_iload_n hx hb dX6_talk_49 rfl (lv_at hl 2 rfl) ?_
          refine lv_iload_n hx hb dX6_talk_50 rfl (lv_at hl 3 rfl) ?_
          refine q_callW10 (cEok ad) (rest := [.ref (qp 0)]) (fun u => [(qb 0, .inr (1, oX1 qb b_now b_shutTill b_shutBy b_z b_waits (qa 0) (qt 0))), (qa 0, .inr (0, oX0 qa u.2.1)), (qa 2, .inl (cI, 60, .inl u.2.2.1)), (qa 3, .inl (cI, 60, .inl u.2.2.2.1)), (qa 4, .inl (cI, 60, .inl u.2.2.2.2.1)), (qa 5, .inl (cI, 60, .inl u.2.2.2.2.2.1)), (qa 6, .inl (cI, 60, .inl u.2.2.2.2.2.2.1)), (qa 7, .inl (cI, 60, .inl u.2.2.2.2.2.2.2.1)), (qa 8, .inl (cI, 61, .inl u.2.2.2.2.2.2.2.2.1)), (qa 9, .inl (cI, 1220, .inl u.2.2.2.2.2.2.2.2.2))]) (fun u => u.1) ⟨hx, hb, hml, hown, hts⟩ (fun u hu => c1_talksOf l D cI ad qb qa qt b_now b_shutTill b_shutBy b_z b_waits a_done a_kinds a_writers a_minutes a_matters a_undoers a_scores a_sizes a_cells x1 x2 n u hu) (cwV 2 hts gX6_talk_X1_talksOf rfl rfl rfl hdX1_talksOf (rmq_ok (Nat.le_of_ble_eq_true rfl) (Nat.le_of_ble_eq_true rfl))) hK hEv hA hP hD hS [1, 2, 5, 6, 7, 8, 9, 10, 11, 12] (by decide) rfl (fun _ => rfl) (va_recv hK hP (ci := 1) (q0 := 1) rfl rfl) rfl rfl hl.1 (Nat.le_of_ble_eq_true rfl) ⟨Nat.zero_le _, Nat.zero_le _⟩ h dX6_talk_51 (fun t51 a_done_51 a_kinds_51 a_writers_51 a_minutes_51 a_matters_51 a_undoers_51 a_scores_51 a_sizes_51 a_cells_51 H locs h hP hD hS => ?_)
          have hP : va_P D vwCl [(qp 0, .inr (6, oX6 qp (qb 0) (qr 0) (qv 0) (qh 0) p_kept p_timesKept)), (qb 0, .inr (1, oX1 qb b_now b_shutTill b_shutBy b_z b_waits (qa 0) (qt 0))), (qa 0, .inr (0, oX0 qa a_done_51)), (qt 0, .inr (4, oX4 qt t_taped)), (qp 5, .inl (cI, 7, .inl p_errors)), (qa 2, .inl (cI, 60, .inl a_kinds_51)), (qa 3, .inl (cI, 60, .inl a_writers_51)), (qa 4, .inl (cI, 60, .inl a_minutes_51)), (qa 5, .inl (cI, 60, .inl a_matters_51)), (qa 6, .inl (cI, 60, .inl a_undoers_51)), (qa 7, .inl (cI, 60, .inl a_scores_51)), (qa 8, .inl (cI, 61, .inl a_sizes_51)), (qa 9, .inl (cI, 1220, .inl a_cells_51)), (qt 3, .inl (cI, 480, .inl t_codes)), (qt 4, .inl (cI, 8, .inl t_lengths)), (qt 5, .inl (cI, 5, .inl t_named_30)), (qt 6, .inl (cI, 60, .inl t_stack_30))] H := hP
          have hD : va_D A [(qp 0, .inr (6, oX6 qp (qb 0) (qr 0) (qv 0) (qh 0) p_kept p_timesKept)), (qb 0, .inr (1, oX1 qb b_now b_shutTill b_shutBy b_z b_waits (qa 0) (qt 0))), (qa 0, .inr (0, oX0 qa a_done_51)), (qt 0, .inr (4, oX4 qt t_taped)), (qp 5, .inl (cI, 7, .inl p_errors)), (qa 2, .inl (cI, 60, .inl a_kinds_51)), (qa 3, .inl (cI, 60, .inl a_writers_51)), (qa 4, .inl (cI, 60, .inl a_minutes_51)), (qa 5, .inl (cI, 60, .inl a_matters_51)), (qa 6, .inl (cI, 60, .inl a_undoers_51)), (qa 7, .inl (cI, 60, .inl a_scores_51)), (qa 8, .inl (cI, 61, .inl a_sizes_51)), (qa 9, .inl (cI, 1220, .inl a_cells_51)), (qt 3, .inl (cI, 480, .inl t_codes)), (qt 4, .inl (cI, 8, .inl t_lengths)), (qt 5, .inl (cI, 5, .inl t_named_30)), (qt 6, .inl (cI, 60, .inl t_stack_30))] := hD
          refine q_callW12 (cEok ad) (rest := []) (fun u => [(qp 0, .inr (6, oX6 qp (qb 0) (qr 0) (qv 0) (qh 0) p_kept p_timesKept)), (qb 0, .inr (1, oX1 qb b_now b_shutTill b_shutBy b_z b_waits (qa 0) (qt 0))), (qa 0, .inr (0, oX0 qa u.2.1)), (qt 0, .inr (4, oX4 qt t_taped)), (qa 2, .inl (cI, 60, .inl u.2.2.1)), (qa 3, .inl (cI, 60, .inl u.2.2.2.1)), (qa 4, .inl (cI, 60, .inl u.2.2.2.2.1)), (qa 5, .inl (cI, 60, .inl u.2.2.2.2.2.1)), (qa 6, .inl (cI, 60, .inl u.2.2.2.2.2.2.1)), (qa 7, .inl (cI, 60, .inl u.2.2.2.2.2.2.2.1)), (qa 8, .inl (cI, 61, .inl u.2.2.2.2.2.2.2.2.1)), (qa 9, .inl (cI, 1220, .inl u.2.2.2.2.2.2.2.2.2.1)), (qt 3, .inl (cI, 480, .inl t_codes)), (qt 4, .inl (cI, 8, .inl t_lengths)), (qt 5, .inl (cI, 5, .inl u.2.2.2.2.2.2.2.2.2.2.1)), (qt 6, .inl (cI, 60, .inl u.2.2.2.2.2.2.2.2.2.2.2))]) (fun u => u.1) ⟨hx, hb, hml, hown, hts⟩ (fun u hu => c6_answered l D cI ad qp qb qa qt qr qv qh p_kept p_timesKept b_now b_shutTill b_shutBy b_z b_waits a_done_51 t_taped a_kinds_51 a_writers_51 a_minutes_51 a_matters_51 a_undoers_51 a_scores_51 a_sizes_51 a_cells_51 t_codes t_lengths t_named_30 t_stack_30 t51 n u hu) (cwV 1 hts gX6_talk_X6_answered rfl rfl rfl hdX6_answered (rmq_ok (Nat.le_of_ble_eq_true rfl) (Nat.le_of_ble_eq_true rfl))) hK hEv hA hP hD hS [0, 1, 2, 3, 5, 6, 7, 8, 9, 10, 11, 12, 13, 14, 15, 16] (by decide) rfl (fun _ => rfl) (va_recv hK hP (ci := 6) (q0 := 0) rfl rfl) rfl rfl hl.1 (Nat.le_of_ble_eq_true rfl) ⟨Nat.zero_le _, Nat.zero_le _⟩ h dX6_talk_54 (fun t54 a_done_54 a_kinds_54 a_writers_54 a_minutes_54 a_matters_54 a_undoers_54 a_scores_54 a_sizes_54 a_cells_54 t_named_54 t_stack_54 H locs h hP hD hS => ?_)
          have hP : va_P D vwCl [(qp 0, .inr (6, oX6 qp (qb 0) (qr 0) (qv 0) (qh 0) p_kept p_timesKept)), (qb 0, .inr (1, oX1 qb b_now b_shutTill b_shutBy b_z b_waits (qa 0) (qt 0))), (qa 0, .inr (0, oX0 qa a_done_54)), (qt 0, .inr (4, oX4 qt t_taped)), (qp 5, .inl (cI, 7, .inl p_errors)), (qa 2, .inl (cI, 60, .inl a_kinds_54)), (qa 3, .inl (cI, 60, .inl a_writers_54)), (qa 4, .inl (cI, 60, .inl a_minutes_54)), (qa 5, .inl (cI, 60, .inl a_matters_54)), (qa 6, .inl (cI, 60, .inl a_undoers_54)), (qa 7, .inl (cI, 60, .inl a_scores_54)), (qa 8, .inl (cI, 61, .inl a_sizes_54)), (qa 9, .inl (cI, 1220, .inl a_cells_54)), (qt 3, .inl (cI, 480, .inl t_codes)), (qt 4, .inl (cI, 8, .inl t_lengths)), (qt 5, .inl (cI, 5, .inl t_named_54)), (qt 6, .inl (cI, 60, .inl t_stack_54))] H := hP
          have hD : va_D A [(qp 0, .inr (6, oX6 qp (qb 0) (qr 0) (qv 0) (qh 0) p_kept p_timesKept)), (qb 0, .inr (1, oX1 qb b_now b_shutTill b_shutBy b_z b_waits (qa 0) (qt 0))), (qa 0, .inr (0, oX0 qa a_done_54)), (qt 0, .inr (4, oX4 qt t_taped)), (qp 5, .inl (cI, 7, .inl p_errors)), (qa 2, .inl (cI, 60, .inl a_kinds_54)), (qa 3, .inl (cI, 60, .inl a_writers_54)), (qa 4, .inl (cI, 60, .inl a_minutes_54)), (qa 5, .inl (cI, 60, .inl a_matters_54)), (qa 6, .inl (cI, 60, .inl a_undoers_54)), (qa 7, .inl (cI, 60, .inl a_scores_54)), (qa 8, .inl (cI, 61, .inl a_sizes_54)), (qa 9, .inl (cI, 1220, .inl a_cells_54)), (qt 3, .inl (cI, 480, .inl t_codes)), (qt 4, .inl (cI, 8, .inl t_lengths)), (qt 5, .inl (cI, 5, .inl t_named_54)), (qt 6, .inl (cI, 60, .inl t_stack_54))] := hD
          exact hret (t54, a_done_54, p_errors, a_kinds_54, a_writers_54, a_minutes_54, a_matters_54, a_undoers_54, a_scores_54, a_sizes_54, a_cells_54, t_named_54, t_stack_54) _ _ _ _ (vp_nar_int _) h hP hD hS dX6_talk_57
        · refine lv_aload_n hx hb dX6_talk_38 rfl (lv_at hl 1 rfl) ?_
          refine lv_iload_n hx hb dX6_talk_39 rfl (lv_at hl 0 rfl) ?_
          refine q_callW2 (cEok ad) (rest := []) (fun u => [(qp 0, .inr (6, oX6 qp (qb 0) (qr 0) (qv 0) (qh 0) p_kept p_timesKept)), (qp 5, .inl (cI, 7, .inl u.2))]) (fun u => u.1) ⟨hx, hb, hml, hown, hts⟩ (fun u hu => c6_error l D cI ad qp qb qr qv qh p_kept p_timesKept p_errors t30 u hu) (cwV 1 hts gX6_talk_X6_error rfl rfl rfl hdX6_error (rmq_ok (Nat.le_of_ble_eq_true rfl) (Nat.le_of_ble_eq_true rfl))) hK hEv hA hP hD hS [0, 4] (by decide) rfl (fun _ => rfl) (va_recv hK hP (ci := 6) (q0 := 0) rfl rfl) rfl rfl hl.1 (Nat.le_of_ble_eq_true rfl) ⟨Nat.zero_le _, Nat.zero_le _⟩ h dX6_talk_40 (fun t40 p_errors_40 H locs h hP hD hS => ?_)
          have hP : va_P D vwCl [(qp 0, .inr (6, oX6 qp (qb 0) (qr 0) (qv 0) (qh 0) p_kept p_timesKept)), (qb 0, .inr (1, oX1 qb b_now b_shutTill b_shutBy b_z b_waits (qa 0) (qt 0))), (qa 0, .inr (0, oX0 qa a_done)), (qt 0, .inr (4, oX4 qt t_taped)), (qp 5, .inl (cI, 7, .inl p_errors_40)), (qa 2, .inl (cI, 60, .inl a_kinds)), (qa 3, .inl (cI, 60, .inl a_writers)), (qa 4, .inl (cI, 60, .inl a_minutes)), (qa 5, .inl (cI, 60, .inl a_matters)), (qa 6, .inl (cI, 60, .inl a_undoers)), (qa 7, .inl (cI, 60, .inl a_scores)), (qa 8, .inl (cI, 61, .inl a_sizes)), (qa 9, .inl (cI, 1220, .inl a_cells)), (qt 3, .inl (cI, 480, .inl t_codes)), (qt 4, .inl (cI, 8, .inl t_lengths)), (qt 5, .inl (cI, 5, .inl t_named_30)), (qt 6, .inl (cI, 60, .inl t_stack_30))] H := hP
          have hD : va_D A [(qp 0, .inr (6, oX6 qp (qb 0) (qr 0) (qv 0) (qh 0) p_kept p_timesKept)), (qb 0, .inr (1, oX1 qb b_now b_shutTill b_shutBy b_z b_waits (qa 0) (qt 0))), (qa 0, .inr (0, oX0 qa a_done)), (qt 0, .inr (4, oX4 qt t_taped)), (qp 5, .inl (cI, 7, .inl p_errors_40)), (qa 2, .inl (cI, 60, .inl a_kinds)), (qa 3, .inl (cI, 60, .inl a_writers)), (qa 4, .inl (cI, 60, .inl a_minutes)), (qa 5, .inl (cI, 60, .inl a_matters)), (qa 6, .inl (cI, 60, .inl a_undoers)), (qa 7, .inl (cI, 60, .inl a_scores)), (qa 8, .inl (cI, 61, .inl a_sizes)), (qa 9, .inl (cI, 1220, .inl a_cells)), (qt 3, .inl (cI, 480, .inl t_codes)), (qt 4, .inl (cI, 8, .inl t_lengths)), (qt 5, .inl (cI, 5, .inl t_named_30)), (qt 6, .inl (cI, 60, .inl t_stack_30))] := hD
          exact hret (t40, a_done, p_errors_40, a_kinds, a_writers, a_minutes, a_matters, a_undoers, a_scores, a_sizes, a_cells, t_named_30, t_stack_30) _ _ _ _ (vp_nar_int _) h hP hD hS dX6_talk_43
      · exact J19 a_done p_errors a_kinds a_writers a_minutes a_matters a_undoers a_scores a_sizes a_cells t_named t_stack _ _ _ (lv_sub hl [0] rfl) hP hD hS h
set_option maxHeartbeats 4000000 in
set_option maxRecDepth 100000 in
theorem c6_isAct (l : Launch) (D : va_G) (cI : ClassId) (ad : Nat → Nat) (qp qb qa qt qr qv qh : Nat → Nat) (p_kept : Value) (p_timesKept b_now b_shutTill b_shutBy b_z b_waits a_done : Int32) (x1 : Int32) (u : Int32) (h : f6_isAct x1 a_done = some u) : q_RO (cE ad) l yX6_isAct wsX6_isAct (rmq (0)) D cI [.ref (qp 0), .int x1] [(qp 0, .inr (6, oX6 qp (qb 0) (qr 0) (qv 0) (qh 0) p_kept p_timesKept)), (qb 0, .inr (1, oX1 qb b_now b_shutTill b_shutBy b_z b_waits (qa 0) (qt 0))), (qa 0, .inr (0, oX0 qa a_done))] u := by
  refine q_startR (cc := cX6_isAct) (maxL := 2) (ty := .boolean) (own := RX6) (by decide) rfl rfl (Nat.le_of_ble_eq_true rfl) rfl (fun p e s m args below meth c Q hx hb hml hown hts hP hK hEv hret ls hl => ?_)
  have in0 : ∀ w ∈ wsX00, w ∈ wsX6_isAct := fun w h => List.mem_cons_of_mem _ (List.mem_append_right _ (h))
  have in1 : ∀ w ∈ wsX10, w ∈ wsX6_isAct := fun w h => List.mem_cons_of_mem _ (List.mem_append_left _ (List.mem_append_right _ (h)))
  have in6 : ∀ w ∈ wsX60, w ∈ wsX6_isAct := fun w h => List.mem_cons_of_mem _ (List.mem_append_left _ (List.mem_append_left _ (List.mem_append_right _ (h))))
  have l10 := hts (.fieldLink RX6 10 "PageWars" "book" "LPageWars$Book;") (List.mem_of_getElem? (i := 1) rfl)
  have l63 : (Cond.fieldLinkNest RX6 63 "PageWars$Book" "acts" "LPageWars$Acts;" "PageWars").before args s = true := cE_f6_63 hEv
  have l181 : (Cond.fieldLinkNest RX6 181 "PageWars$Acts" "done" "I" "PageWars").before args s = true := cE_f6_181 hEv
  have J23 : ∀ (s0 : Int32) (ls : Array Slot), lv_has ls 2 [(0, .ref (qp 0))] → f6_isAct_23 a_done s0 = some u → W p l e (rmq (0)) s m args below meth c s.heap [] 0 0 Q (F0 m 23 ls [.int s0]) := by
    intro s0  ls hl h
    unfold f6_isAct_23 at h
    obtain ⟨hz, h⟩ := q_bz_of h
    exact hret _ _ _ (q_nz hz) h dX6_isAct_23
  have J22 : ∀  (ls : Array Slot), lv_has ls 2 [(0, .ref (qp 0))] → f6_isAct_22 a_done  = some u → W p l e (rmq (0)) s m args below meth c s.heap [] 0 0 Q (F0 m 22 ls []) := by
    intro   ls hl h
    unfold f6_isAct_22 at h
    refine lv_iconst (v := (0 : Int32)) hx hb dX6_isAct_22 (by decide) ?_
    exact J23 ((0 : Int32)) _ (lv_sub hl [0] rfl) h
  unfold f6_isAct at h
  refine lv_iload_n hx hb dX6_isAct_0 rfl (lv_at hl 1 rfl) ?_
  refine q_iflt hx hb 22 h dX6_isAct_1 (by decide) (fun h => ?_) (fun h => ?_)
  · exact J22  _ (lv_sub hl [0] rfl) h
  · refine lv_iload_n hx hb dX6_isAct_4 rfl (lv_at hl 1 rfl) ?_
    refine lv_aload_n hx hb dX6_isAct_5 rfl (lv_at hl 0 rfl) ?_
    refine va_get (D := D) (ci := 6) (v := .ref (qb 0)) (C := RX6) (T := TX6) (N := 7) hx hb hts in6 hown hK hP 0 rfl rfl 0 (by decide) l10 (fun _ h9 => h9) rfl dX6_isAct_6 ?_
    refine va_getN (D := D) (ci := 1) (v := .ref (qa 0)) (C := RX1) (T := TX1) (N := 9) hx hb hts in1 hown hK hP 1 rfl rfl 7 (by decide) l63 (fun _ h9 => h9) rfl dX6_isAct_9 ?_
    refine va_getN (D := D) (ci := 0) (v := .int a_done) (C := RX0) (T := TX0) (N := 10) hx hb hts in0 hown hK hP 2 rfl rfl 0 (by decide) l181 (fun _ h9 => h9) rfl dX6_isAct_12 ?_
    refine q_cge hx hb 22 h dX6_isAct_15 (by decide) (fun h => ?_) (fun h => ?_)
    · exact J22  _ (lv_sub hl [0] rfl) h
    · refine lv_iconst (v := (1 : Int32)) hx hb dX6_isAct_18 (by decide) ?_
      refine lv_goto (tgt := 23) hx hb dX6_isAct_19 (by decide) ?_
      exact J23 ((1 : Int32)) _ (lv_sub hl [0] rfl) h
set_option maxHeartbeats 4000000 in
set_option maxRecDepth 100000 in
theorem c6_actIs (l : Launch) (D : va_G) (cI : ClassId) (ad : Nat → Nat) (qp qb qa qt qr qv qh : Nat → Nat) (p_kept : Value) (p_timesKept b_now b_shutTill b_shutBy b_z b_waits a_done : Int32) (p_errors a_kinds a_writers a_minutes a_matters a_undoers a_scores : Nat → Int32) (x1 : Int32) (x2 : Int32) (u : Int32 × (Nat → Int32)) (h : f6_actIs x1 x2 a_done p_errors a_kinds a_writers a_minutes a_matters a_undoers a_scores = some u) : q_RW (cE ad) l yX6_actIs wsX6_actIs (rmq (1)) D cI [.ref (qp 0), .int x1, .int x2] [(qp 0, .inr (6, oX6 qp (qb 0) (qr 0) (qv 0) (qh 0) p_kept p_timesKept)), (qb 0, .inr (1, oX1 qb b_now b_shutTill b_shutBy b_z b_waits (qa 0) (qt 0))), (qa 0, .inr (0, oX0 qa a_done)), (qp 5, .inl (cI, 7, .inl p_errors)), (qa 2, .inl (cI, 60, .inl a_kinds)), (qa 3, .inl (cI, 60, .inl a_writers)), (qa 4, .inl (cI, 60, .inl a_minutes)), (qa 5, .inl (cI, 60, .inl a_matters)), (qa 6, .inl (cI, 60, .inl a_undoers)), (qa 7, .inl (cI, 60, .inl a_scores))] [(qp 0, .inr (6, oX6 qp (qb 0) (qr 0) (qv 0) (qh 0) p_kept p_timesKept)), (qb 0, .inr (1, oX1 qb b_now b_shutTill b_shutBy b_z b_waits (qa 0) (qt 0))), (qa 0, .inr (0, oX0 qa a_done)), (qp 5, .inl (cI, 7, .inl u.2)), (qa 2, .inl (cI, 60, .inl a_kinds)), (qa 3, .inl (cI, 60, .inl a_writers)), (qa 4, .inl (cI, 60, .inl a_minutes)), (qa 5, .inl (cI, 60, .inl a_matters)), (qa 6, .inl (cI, 60, .inl a_undoers)), (qa 7, .inl (cI, 60, .inl a_scores))] u.1 := by
  refine q_startW (fun u : Int32 × (Nat → Int32) => [(qp 0, .inr (6, oX6 qp (qb 0) (qr 0) (qv 0) (qh 0) p_kept p_timesKept)), (qb 0, .inr (1, oX1 qb b_now b_shutTill b_shutBy b_z b_waits (qa 0) (qt 0))), (qa 0, .inr (0, oX0 qa a_done)), (qp 5, .inl (cI, 7, .inl u.2)), (qa 2, .inl (cI, 60, .inl a_kinds)), (qa 3, .inl (cI, 60, .inl a_writers)), (qa 4, .inl (cI, 60, .inl a_minutes)), (qa 5, .inl (cI, 60, .inl a_matters)), (qa 6, .inl (cI, 60, .inl a_undoers)), (qa 7, .inl (cI, 60, .inl a_scores))]) (fun u => u.1) (cc := cX6_actIs) (maxL := 3) (ty := .int) (own := RX6) (by decide) rfl rfl (Nat.le_of_ble_eq_true rfl) rfl (fun p e s m args below meth c Q A hx hb hml hown hts hK hEv hA hret hP hD hS ls hl => ?_)
  have in0 : ∀ w ∈ wsX00, w ∈ wsX6_actIs := fun w h => List.mem_cons_of_mem _ (List.mem_append_right _ (h))
  have in1 : ∀ w ∈ wsX10, w ∈ wsX6_actIs := fun w h => List.mem_cons_of_mem _ (List.mem_append_left _ (List.mem_append_right _ (h)))
  have in6 : ∀ w ∈ wsX60, w ∈ wsX6_actIs := fun w h => List.mem_cons_of_mem _ (List.mem_append_left _ (List.mem_append_left _ (List.mem_append_right _ (h))))
  have l10 := hts (.fieldLink RX6 10 "PageWars" "book" "LPageWars$Book;") (List.mem_of_getElem? (i := 1) rfl)
  have l63 : (Cond.fieldLinkNest RX6 63 "PageWars$Book" "acts" "LPageWars$Acts;" "PageWars").before args s = true := cE_f6_63 hEv
  have l99 : (Cond.fieldLinkNest RX6 99 "PageWars$Acts" "kinds" "[I" "PageWars").before args s = true := cE_f6_99 hEv
  have l102 : (Cond.fieldLinkNest RX6 102 "PageWars$Acts" "writers" "[I" "PageWars").before args s = true := cE_f6_102 hEv
  have l105 : (Cond.fieldLinkNest RX6 105 "PageWars$Acts" "minutes" "[I" "PageWars").before args s = true := cE_f6_105 hEv
  have l108 : (Cond.fieldLinkNest RX6 108 "PageWars$Acts" "matters" "[I" "PageWars").before args s = true := cE_f6_108 hEv
  have l111 : (Cond.fieldLinkNest RX6 111 "PageWars$Acts" "undoers" "[I" "PageWars").before args s = true := cE_f6_111 hEv
  have l114 : (Cond.fieldLinkNest RX6 114 "PageWars$Acts" "scores" "[I" "PageWars").before args s = true := cE_f6_114 hEv
  unfold f6_actIs at h
  refine lv_aload_n hx hb dX6_actIs_0 rfl (lv_at hl 0 rfl) ?_
  refine lv_iload_n hx hb dX6_actIs_1 rfl (lv_at hl 1 rfl) ?_
  refine q_callR (cEok ad) (rest := []) ⟨hx, hb, hml, hown, hts⟩ (fun r hr => c6_isAct l D cI ad qp qb qa qt qr qv qh p_kept p_timesKept b_now b_shutTill b_shutBy b_z b_waits a_done x1 r hr) (cwV 1 hts gX6_actIs_X6_isAct rfl rfl rfl hdX6_isAct (rmq_ok (Nat.le_of_ble_eq_true rfl) (Nat.le_of_ble_eq_true rfl))) hK hP hEv hS [0, 1, 2] rfl (va_recv hK hP (ci := 6) (q0 := 0) rfl rfl) rfl rfl hl.1 (Nat.le_of_ble_eq_true rfl) ⟨Nat.zero_le _, Nat.zero_le _⟩ h dX6_actIs_2 (fun t2 h => ?_)
  refine q_ifne hx hb 14 h dX6_actIs_5 (by decide) (fun h => ?_) (fun h => ?_)
  · refine lv_iload_n hx hb dX6_actIs_14 rfl (lv_at hl 2 rfl) ?_
    rcases Decidable.em (x2 = (0 : Int32)) with w0 | w0
    · have h := q_t h w0
      refine lv_tableIn hx hb dX6_actIs_15 (off := 37) (tgt := 52) (by rw [w0]; decide) (by rw [w0]; decide) (by rw [w0]; rfl) (by decide) ?_
      refine lv_aload_n hx hb dX6_actIs_52 rfl (lv_at hl 0 rfl) ?_
      refine va_get (D := D) (ci := 6) (v := .ref (qb 0)) (C := RX6) (T := TX6) (N := 7) hx hb hts in6 hown hK hP 0 rfl rfl 0 (by decide) l10 (fun _ h9 => h9) rfl dX6_actIs_53 ?_
      refine va_getN (D := D) (ci := 1) (v := .ref (qa 0)) (C := RX1) (T := TX1) (N := 9) hx hb hts in1 hown hK hP 1 rfl rfl 7 (by decide) l63 (fun _ h9 => h9) rfl dX6_actIs_56 ?_
      refine va_getN (D := D) (ci := 0) (v := .ref (qa 2)) (C := RX0) (T := TX0) (N := 10) hx hb hts in0 hown hK hP 2 rfl rfl 1 (by decide) l99 (fun _ h9 => h9) rfl dX6_actIs_59 ?_
      refine lv_iload_n hx hb dX6_actIs_62 rfl (lv_at hl 1 rfl) ?_
      refine q_iald hx hb hK hP 4 0 rfl rfl h dX6_actIs_63 (fun t63 h => ?_)
      exact hret (t63, p_errors) _ _ _ _ (vp_nar_int _) h hP hD hS dX6_actIs_64
    have h := q_f h w0
    rcases Decidable.em (x2 = (1 : Int32)) with w1 | w1
    · have h := q_t h w1
      refine lv_tableIn hx hb dX6_actIs_15 (off := 50) (tgt := 65) (by rw [w1]; decide) (by rw [w1]; decide) (by rw [w1]; rfl) (by decide) ?_
      refine lv_aload_n hx hb dX6_actIs_65 rfl (lv_at hl 0 rfl) ?_
      refine va_get (D := D) (ci := 6) (v := .ref (qb 0)) (C := RX6) (T := TX6) (N := 7) hx hb hts in6 hown hK hP 0 rfl rfl 0 (by decide) l10 (fun _ h9 => h9) rfl dX6_actIs_66 ?_
      refine va_getN (D := D) (ci := 1) (v := .ref (qa 0)) (C := RX1) (T := TX1) (N := 9) hx hb hts in1 hown hK hP 1 rfl rfl 7 (by decide) l63 (fun _ h9 => h9) rfl dX6_actIs_69 ?_
      refine va_getN (D := D) (ci := 0) (v := .ref (qa 3)) (C := RX0) (T := TX0) (N := 10) hx hb hts in0 hown hK hP 2 rfl rfl 2 (by decide) l102 (fun _ h9 => h9) rfl dX6_actIs_72 ?_
      refine lv_iload_n hx hb dX6_actIs_75 rfl (lv_at hl 1 rfl) ?_
      refine q_iald hx hb hK hP 5 0 rfl rfl h dX6_actIs_76 (fun t76 h => ?_)
      exact hret (t76, p_errors) _ _ _ _ (vp_nar_int _) h hP hD hS dX6_actIs_77
    have h := q_f h w1
    rcases Decidable.em (x2 = (2 : Int32)) with w2 | w2
    · have h := q_t h w2
      refine lv_tableIn hx hb dX6_actIs_15 (off := 63) (tgt := 78) (by rw [w2]; decide) (by rw [w2]; decide) (by rw [w2]; rfl) (by decide) ?_
      refine lv_aload_n hx hb dX6_actIs_78 rfl (lv_at hl 0 rfl) ?_
      refine va_get (D := D) (ci := 6) (v := .ref (qb 0)) (C := RX6) (T := TX6) (N := 7) hx hb hts in6 hown hK hP 0 rfl rfl 0 (by decide) l10 (fun _ h9 => h9) rfl dX6_actIs_79 ?_
      refine va_getN (D := D) (ci := 1) (v := .ref (qa 0)) (C := RX1) (T := TX1) (N := 9) hx hb hts in1 hown hK hP 1 rfl rfl 7 (by decide) l63 (fun _ h9 => h9) rfl dX6_actIs_82 ?_
      refine va_getN (D := D) (ci := 0) (v := .ref (qa 4)) (C := RX0) (T := TX0) (N := 10) hx hb hts in0 hown hK hP 2 rfl rfl 3 (by decide) l105 (fun _ h9 => h9) rfl dX6_actIs_85 ?_
      refine lv_iload_n hx hb dX6_actIs_88 rfl (lv_at hl 1 rfl) ?_
      refine q_iald hx hb hK hP 6 0 rfl rfl h dX6_actIs_89 (fun t89 h => ?_)
      exact hret (t89, p_errors) _ _ _ _ (vp_nar_int _) h hP hD hS dX6_actIs_90
    have h := q_f h w2
    rcases Decidable.em (x2 = (3 : Int32)) with w3 | w3
    · have h := q_t h w3
      refine lv_tableIn hx hb dX6_actIs_15 (off := 76) (tgt := 91) (by rw [w3]; decide) (by rw [w3]; decide) (by rw [w3]; rfl) (by decide) ?_
      refine lv_aload_n hx hb dX6_actIs_91 rfl (lv_at hl 0 rfl) ?_
      refine va_get (D := D) (ci := 6) (v := .ref (qb 0)) (C := RX6) (T := TX6) (N := 7) hx hb hts in6 hown hK hP 0 rfl rfl 0 (by decide) l10 (fun _ h9 => h9) rfl dX6_actIs_92 ?_
      refine va_getN (D := D) (ci := 1) (v := .ref (qa 0)) (C := RX1) (T := TX1) (N := 9) hx hb hts in1 hown hK hP 1 rfl rfl 7 (by decide) l63 (fun _ h9 => h9) rfl dX6_actIs_95 ?_
      refine va_getN (D := D) (ci := 0) (v := .ref (qa 5)) (C := RX0) (T := TX0) (N := 10) hx hb hts in0 hown hK hP 2 rfl rfl 4 (by decide) l108 (fun _ h9 => h9) rfl dX6_actIs_98 ?_
      refine lv_iload_n hx hb dX6_actIs_101 rfl (lv_at hl 1 rfl) ?_
      refine q_iald hx hb hK hP 7 0 rfl rfl h dX6_actIs_102 (fun t102 h => ?_)
      exact hret (t102, p_errors) _ _ _ _ (vp_nar_int _) h hP hD hS dX6_actIs_103
    have h := q_f h w3
    rcases Decidable.em (x2 = (4 : Int32)) with w4 | w4
    · have h := q_t h w4
      refine lv_tableIn hx hb dX6_actIs_15 (off := 89) (tgt := 104) (by rw [w4]; decide) (by rw [w4]; decide) (by rw [w4]; rfl) (by decide) ?_
      refine lv_aload_n hx hb dX6_actIs_104 rfl (lv_at hl 0 rfl) ?_
      refine va_get (D := D) (ci := 6) (v := .ref (qb 0)) (C := RX6) (T := TX6) (N := 7) hx hb hts in6 hown hK hP 0 rfl rfl 0 (by decide) l10 (fun _ h9 => h9) rfl dX6_actIs_105 ?_
      refine va_getN (D := D) (ci := 1) (v := .ref (qa 0)) (C := RX1) (T := TX1) (N := 9) hx hb hts in1 hown hK hP 1 rfl rfl 7 (by decide) l63 (fun _ h9 => h9) rfl dX6_actIs_108 ?_
      refine va_getN (D := D) (ci := 0) (v := .ref (qa 6)) (C := RX0) (T := TX0) (N := 10) hx hb hts in0 hown hK hP 2 rfl rfl 5 (by decide) l111 (fun _ h9 => h9) rfl dX6_actIs_111 ?_
      refine lv_iload_n hx hb dX6_actIs_114 rfl (lv_at hl 1 rfl) ?_
      refine q_iald hx hb hK hP 8 0 rfl rfl h dX6_actIs_115 (fun t115 h => ?_)
      exact hret (t115, p_errors) _ _ _ _ (vp_nar_int _) h hP hD hS dX6_actIs_116
    have h := q_f h w4
    rcases Decidable.em (x2 = (5 : Int32)) with w5 | w5
    · have h := q_t h w5
      refine lv_tableIn hx hb dX6_actIs_15 (off := 102) (tgt := 117) (by rw [w5]; decide) (by rw [w5]; decide) (by rw [w5]; rfl) (by decide) ?_
      refine lv_aload_n hx hb dX6_actIs_117 rfl (lv_at hl 0 rfl) ?_
      refine va_get (D := D) (ci := 6) (v := .ref (qb 0)) (C := RX6) (T := TX6) (N := 7) hx hb hts in6 hown hK hP 0 rfl rfl 0 (by decide) l10 (fun _ h9 => h9) rfl dX6_actIs_118 ?_
      refine va_getN (D := D) (ci := 1) (v := .ref (qa 0)) (C := RX1) (T := TX1) (N := 9) hx hb hts in1 hown hK hP 1 rfl rfl 7 (by decide) l63 (fun _ h9 => h9) rfl dX6_actIs_121 ?_
      refine va_getN (D := D) (ci := 0) (v := .ref (qa 7)) (C := RX0) (T := TX0) (N := 10) hx hb hts in0 hown hK hP 2 rfl rfl 6 (by decide) l114 (fun _ h9 => h9) rfl dX6_actIs_124 ?_
      refine lv_iload_n hx hb dX6_actIs_127 rfl (lv_at hl 1 rfl) ?_
      refine q_iald hx hb hK hP 9 0 rfl rfl h dX6_actIs_128 (fun t128 h => ?_)
      exact hret (t128, p_errors) _ _ _ _ (vp_nar_int _) h hP hD hS dX6_actIs_129
    have h := q_f h w5
    refine lv_tableOut hx hb dX6_actIs_15 (tgt := 130) (q_out (fun k hk e => ?_)) (by decide) ?_
    · rcases (show k = 0 ∨ k = 1 ∨ k = 2 ∨ k = 3 ∨ k = 4 ∨ k = 5 by omega) with rfl | rfl | rfl | rfl | rfl | rfl
      · exact w0 (Int32.toInt_inj.mp (e.trans (by decide)))
      · exact w1 (Int32.toInt_inj.mp (e.trans (by decide)))
      · exact w2 (Int32.toInt_inj.mp (e.trans (by decide)))
      · exact w3 (Int32.toInt_inj.mp (e.trans (by decide)))
      · exact w4 (Int32.toInt_inj.mp (e.trans (by decide)))
      · exact w5 (Int32.toInt_inj.mp (e.trans (by decide)))
    · refine lv_aload_n hx hb dX6_actIs_130 rfl (lv_at hl 0 rfl) ?_
      refine lv_iconst (v := (1 : Int32)) hx hb dX6_actIs_131 (by decide) ?_
      refine q_callW2 (cEok ad) (rest := []) (fun u => [(qp 0, .inr (6, oX6 qp (qb 0) (qr 0) (qv 0) (qh 0) p_kept p_timesKept)), (qp 5, .inl (cI, 7, .inl u.2))]) (fun u => u.1) ⟨hx, hb, hml, hown, hts⟩ (fun u hu => c6_error l D cI ad qp qb qr qv qh p_kept p_timesKept p_errors ((1 : Int32)) u hu) (cwV 1 hts gX6_actIs_X6_error rfl rfl rfl hdX6_error (rmq_ok (Nat.le_of_ble_eq_true rfl) (Nat.le_of_ble_eq_true rfl))) hK hEv hA hP hD hS [0, 3] (by decide) rfl (fun _ => rfl) (va_recv hK hP (ci := 6) (q0 := 0) rfl rfl) rfl rfl hl.1 (Nat.le_of_ble_eq_true rfl) ⟨Nat.zero_le _, Nat.zero_le _⟩ h dX6_actIs_132 (fun t132 p_errors_132 H locs h hP hD hS => ?_)
      have hP : va_P D vwCl [(qp 0, .inr (6, oX6 qp (qb 0) (qr 0) (qv 0) (qh 0) p_kept p_timesKept)), (qb 0, .inr (1, oX1 qb b_now b_shutTill b_shutBy b_z b_waits (qa 0) (qt 0))), (qa 0, .inr (0, oX0 qa a_done)), (qp 5, .inl (cI, 7, .inl p_errors_132)), (qa 2, .inl (cI, 60, .inl a_kinds)), (qa 3, .inl (cI, 60, .inl a_writers)), (qa 4, .inl (cI, 60, .inl a_minutes)), (qa 5, .inl (cI, 60, .inl a_matters)), (qa 6, .inl (cI, 60, .inl a_undoers)), (qa 7, .inl (cI, 60, .inl a_scores))] H := hP
      have hD : va_D A [(qp 0, .inr (6, oX6 qp (qb 0) (qr 0) (qv 0) (qh 0) p_kept p_timesKept)), (qb 0, .inr (1, oX1 qb b_now b_shutTill b_shutBy b_z b_waits (qa 0) (qt 0))), (qa 0, .inr (0, oX0 qa a_done)), (qp 5, .inl (cI, 7, .inl p_errors_132)), (qa 2, .inl (cI, 60, .inl a_kinds)), (qa 3, .inl (cI, 60, .inl a_writers)), (qa 4, .inl (cI, 60, .inl a_minutes)), (qa 5, .inl (cI, 60, .inl a_matters)), (qa 6, .inl (cI, 60, .inl a_undoers)), (qa 7, .inl (cI, 60, .inl a_scores))] := hD
      exact hret (t132, p_errors_132) _ _ _ _ (vp_nar_int _) h hP hD hS dX6_actIs_135
  · refine lv_aload_n hx hb dX6_actIs_8 rfl (lv_at hl 0 rfl) ?_
    refine lv_iconst (v := (1 : Int32)) hx hb dX6_actIs_9 (by decide) ?_
    refine q_callW2 (cEok ad) (rest := []) (fun u => [(qp 0, .inr (6, oX6 qp (qb 0) (qr 0) (qv 0) (qh 0) p_kept p_timesKept)), (qp 5, .inl (cI, 7, .inl u.2))]) (fun u => u.1) ⟨hx, hb, hml, hown, hts⟩ (fun u hu => c6_error l D cI ad qp qb qr qv qh p_kept p_timesKept p_errors ((1 : Int32)) u hu) (cwV 1 hts gX6_actIs_X6_error rfl rfl rfl hdX6_error (rmq_ok (Nat.le_of_ble_eq_true rfl) (Nat.le_of_ble_eq_true rfl))) hK hEv hA hP hD hS [0, 3] (by decide) rfl (fun _ => rfl) (va_recv hK hP (ci := 6) (q0 := 0) rfl rfl) rfl rfl hl.1 (Nat.le_of_ble_eq_true rfl) ⟨Nat.zero_le _, Nat.zero_le _⟩ h dX6_actIs_10 (fun t10 p_errors_10 H locs h hP hD hS => ?_)
    have hP : va_P D vwCl [(qp 0, .inr (6, oX6 qp (qb 0) (qr 0) (qv 0) (qh 0) p_kept p_timesKept)), (qb 0, .inr (1, oX1 qb b_now b_shutTill b_shutBy b_z b_waits (qa 0) (qt 0))), (qa 0, .inr (0, oX0 qa a_done)), (qp 5, .inl (cI, 7, .inl p_errors_10)), (qa 2, .inl (cI, 60, .inl a_kinds)), (qa 3, .inl (cI, 60, .inl a_writers)), (qa 4, .inl (cI, 60, .inl a_minutes)), (qa 5, .inl (cI, 60, .inl a_matters)), (qa 6, .inl (cI, 60, .inl a_undoers)), (qa 7, .inl (cI, 60, .inl a_scores))] H := hP
    have hD : va_D A [(qp 0, .inr (6, oX6 qp (qb 0) (qr 0) (qv 0) (qh 0) p_kept p_timesKept)), (qb 0, .inr (1, oX1 qb b_now b_shutTill b_shutBy b_z b_waits (qa 0) (qt 0))), (qa 0, .inr (0, oX0 qa a_done)), (qp 5, .inl (cI, 7, .inl p_errors_10)), (qa 2, .inl (cI, 60, .inl a_kinds)), (qa 3, .inl (cI, 60, .inl a_writers)), (qa 4, .inl (cI, 60, .inl a_minutes)), (qa 5, .inl (cI, 60, .inl a_matters)), (qa 6, .inl (cI, 60, .inl a_undoers)), (qa 7, .inl (cI, 60, .inl a_scores))] := hD
    exact hret (t10, p_errors_10) _ _ _ _ (vp_nar_int _) h hP hD hS dX6_actIs_13
set_option maxHeartbeats 4000000 in
set_option maxRecDepth 100000 in
theorem c6_as (l : Launch) (D : va_G) (cI : ClassId) (ad : Nat → Nat) (qp qb qa qt qr qv qh : Nat → Nat) (p_kept : Value) (p_timesKept b_now b_shutTill b_shutBy b_z b_waits a_done : Int32) (p_errors a_kinds a_writers : Nat → Int32) (x1 : Int32) (x2 : Int32) (n : Nat) (u : Int32 × (Nat → Int32)) (h : f6_as n x1 x2 a_done p_errors a_kinds a_writers = some u) : q_RW (cE ad) l yX6_as wsX6_as (rmq (1)) D cI [.ref (qp 0), .int x1, .int x2] [(qp 0, .inr (6, oX6 qp (qb 0) (qr 0) (qv 0) (qh 0) p_kept p_timesKept)), (qb 0, .inr (1, oX1 qb b_now b_shutTill b_shutBy b_z b_waits (qa 0) (qt 0))), (qa 0, .inr (0, oX0 qa a_done)), (qp 5, .inl (cI, 7, .inl p_errors)), (qa 2, .inl (cI, 60, .inl a_kinds)), (qa 3, .inl (cI, 60, .inl a_writers))] [(qp 0, .inr (6, oX6 qp (qb 0) (qr 0) (qv 0) (qh 0) p_kept p_timesKept)), (qb 0, .inr (1, oX1 qb b_now b_shutTill b_shutBy b_z b_waits (qa 0) (qt 0))), (qa 0, .inr (0, oX0 qa a_done)), (qp 5, .inl (cI, 7, .inl u.2)), (qa 2, .inl (cI, 60, .inl a_kinds)), (qa 3, .inl (cI, 60, .inl a_writers))] u.1 := by
  refine q_startW (fun u : Int32 × (Nat → Int32) => [(qp 0, .inr (6, oX6 qp (qb 0) (qr 0) (qv 0) (qh 0) p_kept p_timesKept)), (qb 0, .inr (1, oX1 qb b_now b_shutTill b_shutBy b_z b_waits (qa 0) (qt 0))), (qa 0, .inr (0, oX0 qa a_done)), (qp 5, .inl (cI, 7, .inl u.2)), (qa 2, .inl (cI, 60, .inl a_kinds)), (qa 3, .inl (cI, 60, .inl a_writers))]) (fun u => u.1) (cc := cX6_as) (maxL := 3) (ty := .int) (own := RX6) (by decide) rfl rfl (Nat.le_of_ble_eq_true rfl) rfl (fun p e s m args below meth c Q A hx hb hml hown hts hK hEv hA hret hP hD hS ls hl => ?_)
  have in0 : ∀ w ∈ wsX00, w ∈ wsX6_as := fun w h => List.mem_cons_of_mem _ (List.mem_append_right _ (h))
  have in1 : ∀ w ∈ wsX10, w ∈ wsX6_as := fun w h => List.mem_cons_of_mem _ (List.mem_append_left _ (List.mem_append_right _ (h)))
  have in6 : ∀ w ∈ wsX60, w ∈ wsX6_as := fun w h => List.mem_cons_of_mem _ (List.mem_append_left _ (List.mem_append_left _ (List.mem_append_right _ (h))))
  have l10 := hts (.fieldLink RX6 10 "PageWars" "book" "LPageWars$Book;") (List.mem_of_getElem? (i := 1) rfl)
  have l63 : (Cond.fieldLinkNest RX6 63 "PageWars$Book" "acts" "LPageWars$Acts;" "PageWars").before args s = true := cE_f6_63 hEv
  have l99 : (Cond.fieldLinkNest RX6 99 "PageWars$Acts" "kinds" "[I" "PageWars").before args s = true := cE_f6_99 hEv
  have l102 : (Cond.fieldLinkNest RX6 102 "PageWars$Acts" "writers" "[I" "PageWars").before args s = true := cE_f6_102 hEv
  have J18 : ∀ (p_errors : (Nat → Int32)) (H : Heap) (locs : List Loc) (ls : Array Slot), lv_has ls 3 [(0, .ref (qp 0))] → va_P D vwCl [(qp 0, .inr (6, oX6 qp (qb 0) (qr 0) (qv 0) (qh 0) p_kept p_timesKept)), (qb 0, .inr (1, oX1 qb b_now b_shutTill b_shutBy b_z b_waits (qa 0) (qt 0))), (qa 0, .inr (0, oX0 qa a_done)), (qp 5, .inl (cI, 7, .inl p_errors)), (qa 2, .inl (cI, 60, .inl a_kinds)), (qa 3, .inl (cI, 60, .inl a_writers))] H → va_D A [(qp 0, .inr (6, oX6 qp (qb 0) (qr 0) (qv 0) (qh 0) p_kept p_timesKept)), (qb 0, .inr (1, oX1 qb b_now b_shutTill b_shutBy b_z b_waits (qa 0) (qt 0))), (qa 0, .inr (0, oX0 qa a_done)), (qp 5, .inl (cI, 7, .inl p_errors)), (qa 2, .inl (cI, 60, .inl a_kinds)), (qa 3, .inl (cI, 60, .inl a_writers))] → va_S A s.heap H locs → f6_as_18 n a_done a_kinds a_writers p_errors = some u → W p l e (rmq (1)) s m args below meth c H locs 0 0 Q (F0 m 18 ls []) := by
    intro p_errors H locs ls hl hP hD hS h
    unfold f6_as_18 at h
    refine lv_aload_n hx hb dX6_as_18 rfl (lv_at hl 0 rfl) ?_
    refine lv_iconst (v := (1 : Int32)) hx hb dX6_as_19 (by decide) ?_
    refine q_callW2 (cEok ad) (rest := []) (fun u => [(qp 0, .inr (6, oX6 qp (qb 0) (qr 0) (qv 0) (qh 0) p_kept p_timesKept)), (qp 5, .inl (cI, 7, .inl u.2))]) (fun u => u.1) ⟨hx, hb, hml, hown, hts⟩ (fun u hu => c6_error l D cI ad qp qb qr qv qh p_kept p_timesKept p_errors ((1 : Int32)) u hu) (cwV 1 hts gX6_as_X6_error rfl rfl rfl hdX6_error (rmq_ok (Nat.le_of_ble_eq_true rfl) (Nat.le_of_ble_eq_true rfl))) hK hEv hA hP hD hS [0, 3] (by decide) rfl (fun _ => rfl) (va_recv hK hP (ci := 6) (q0 := 0) rfl rfl) rfl rfl hl.1 (Nat.le_of_ble_eq_true rfl) ⟨Nat.zero_le _, Nat.zero_le _⟩ h dX6_as_20 (fun t20 p_errors_20 H locs h hP hD hS => ?_)
    have hP : va_P D vwCl [(qp 0, .inr (6, oX6 qp (qb 0) (qr 0) (qv 0) (qh 0) p_kept p_timesKept)), (qb 0, .inr (1, oX1 qb b_now b_shutTill b_shutBy b_z b_waits (qa 0) (qt 0))), (qa 0, .inr (0, oX0 qa a_done)), (qp 5, .inl (cI, 7, .inl p_errors_20)), (qa 2, .inl (cI, 60, .inl a_kinds)), (qa 3, .inl (cI, 60, .inl a_writers))] H := hP
    have hD : va_D A [(qp 0, .inr (6, oX6 qp (qb 0) (qr 0) (qv 0) (qh 0) p_kept p_timesKept)), (qb 0, .inr (1, oX1 qb b_now b_shutTill b_shutBy b_z b_waits (qa 0) (qt 0))), (qa 0, .inr (0, oX0 qa a_done)), (qp 5, .inl (cI, 7, .inl p_errors_20)), (qa 2, .inl (cI, 60, .inl a_kinds)), (qa 3, .inl (cI, 60, .inl a_writers))] := hD
    exact hret (t20, p_errors_20) _ _ _ _ (vp_nar_int _) h hP hD hS dX6_as_23
  unfold f6_as at h
  refine lv_aload_n hx hb dX6_as_0 rfl (lv_at hl 0 rfl) ?_
  refine lv_iload_n hx hb dX6_as_1 rfl (lv_at hl 1 rfl) ?_
  refine q_callR (cEok ad) (rest := []) ⟨hx, hb, hml, hown, hts⟩ (fun r hr => c6_isAct l D cI ad qp qb qa qt qr qv qh p_kept p_timesKept b_now b_shutTill b_shutBy b_z b_waits a_done x1 r hr) (cwV 1 hts gX6_as_X6_isAct rfl rfl rfl hdX6_isAct (rmq_ok (Nat.le_of_ble_eq_true rfl) (Nat.le_of_ble_eq_true rfl))) hK hP hEv hS [0, 1, 2] rfl (va_recv hK hP (ci := 6) (q0 := 0) rfl rfl) rfl rfl hl.1 (Nat.le_of_ble_eq_true rfl) ⟨Nat.zero_le _, Nat.zero_le _⟩ h dX6_as_2 (fun t2 h => ?_)
  refine q_ifeq hx hb 18 h dX6_as_5 (by decide) (fun h => ?_) (fun h => ?_)
  · exact J18 p_errors _ _ _ (lv_sub hl [0] rfl) hP hD hS h
  · refine lv_iload_n hx hb dX6_as_8 rfl (lv_at hl 2 rfl) ?_
    refine q_iflt hx hb 18 h dX6_as_9 (by decide) (fun h => ?_) (fun h => ?_)
    · exact J18 p_errors _ _ _ (lv_sub hl [0] rfl) hP hD hS h
    · refine lv_iload_n hx hb dX6_as_12 rfl (lv_at hl 2 rfl) ?_
      refine lv_bipush (v := (8 : Int32)) hx hb dX6_as_13 (by decide) ?_
      refine q_clt hx hb 24 h dX6_as_15 (by decide) (fun h => ?_) (fun h => ?_)
      · refine lv_aload_n hx hb dX6_as_24 rfl (lv_at hl 0 rfl) ?_
        refine va_get (D := D) (ci := 6) (v := .ref (qb 0)) (C := RX6) (T := TX6) (N := 7) hx hb hts in6 hown hK hP 0 rfl rfl 0 (by decide) l10 (fun _ h9 => h9) rfl dX6_as_25 ?_
        refine va_getN (D := D) (ci := 1) (v := .ref (qa 0)) (C := RX1) (T := TX1) (N := 9) hx hb hts in1 hown hK hP 1 rfl rfl 7 (by decide) l63 (fun _ h9 => h9) rfl dX6_as_28 ?_
        refine va_getN (D := D) (ci := 0) (v := .ref (qa 2)) (C := RX0) (T := TX0) (N := 10) hx hb hts in0 hown hK hP 2 rfl rfl 1 (by decide) l99 (fun _ h9 => h9) rfl dX6_as_31 ?_
        refine lv_iload_n hx hb dX6_as_34 rfl (lv_at hl 1 rfl) ?_
        refine q_iald hx hb hK hP 4 0 rfl rfl h dX6_as_35 (fun t35 h => ?_)
        refine lv_iload_n hx hb dX6_as_36 rfl (lv_at hl 2 rfl) ?_
        refine q_callRS (cEok ad) (rest := []) ⟨hx, hb, hml, hown, hts⟩ (fun r hr => c0_isUnder l D cI ad t35 x2 n r hr) (va_cwS 2 hts gX6_as_X0_isUnder rfl rfl rfl hdX0_isUnder (rmq_ok (Nat.le_of_ble_eq_true rfl) (Nat.le_of_ble_eq_true rfl))) hK hP hEv hS [] rfl rfl rfl hl.1 (Nat.le_of_ble_eq_true rfl) ⟨Nat.zero_le _, Nat.zero_le _⟩ h dX6_as_37 (fun t37 h => ?_)
        refine q_ifne hx hb 49 h dX6_as_40 (by decide) (fun h => ?_) (fun h => ?_)
        · refine lv_aload_n hx hb dX6_as_49 rfl (lv_at hl 0 rfl) ?_
          refine va_get (D := D) (ci := 6) (v := .ref (qb 0)) (C := RX6) (T := TX6) (N := 7) hx hb hts in6 hown hK hP 0 rfl rfl 0 (by decide) l10 (fun _ h9 => h9) rfl dX6_as_50 ?_
          refine va_getN (D := D) (ci := 1) (v := .ref (qa 0)) (C := RX1) (T := TX1) (N := 9) hx hb hts in1 hown hK hP 1 rfl rfl 7 (by decide) l63 (fun _ h9 => h9) rfl dX6_as_53 ?_
          refine va_getN (D := D) (ci := 0) (v := .ref (qa 3)) (C := RX0) (T := TX0) (N := 10) hx hb hts in0 hown hK hP 2 rfl rfl 2 (by decide) l102 (fun _ h9 => h9) rfl dX6_as_56 ?_
          refine lv_iload_n hx hb dX6_as_59 rfl (lv_at hl 1 rfl) ?_
          refine q_iald hx hb hK hP 5 0 rfl rfl h dX6_as_60 (fun t60 h => ?_)
          exact hret (t60, p_errors) _ _ _ _ (vp_nar_int _) h hP hD hS dX6_as_61
        · refine lv_aload_n hx hb dX6_as_43 rfl (lv_at hl 0 rfl) ?_
          refine lv_iconst (v := (5 : Int32)) hx hb dX6_as_44 (by decide) ?_
          refine q_callW2 (cEok ad) (rest := []) (fun u => [(qp 0, .inr (6, oX6 qp (qb 0) (qr 0) (qv 0) (qh 0) p_kept p_timesKept)), (qp 5, .inl (cI, 7, .inl u.2))]) (fun u => u.1) ⟨hx, hb, hml, hown, hts⟩ (fun u hu => c6_error l D cI ad qp qb qr qv qh p_kept p_timesKept p_errors ((5 : Int32)) u hu) (cwV 1 hts gX6_as_X6_error rfl rfl rfl hdX6_error (rmq_ok (Nat.le_of_ble_eq_true rfl) (Nat.le_of_ble_eq_true rfl))) hK hEv hA hP hD hS [0, 3] (by decide) rfl (fun _ => rfl) (va_recv hK hP (ci := 6) (q0 := 0) rfl rfl) rfl rfl hl.1 (Nat.le_of_ble_eq_true rfl) ⟨Nat.zero_le _, Nat.zero_le _⟩ h dX6_as_45 (fun t45 p_errors_45 H locs h hP hD hS => ?_)
          have hP : va_P D vwCl [(qp 0, .inr (6, oX6 qp (qb 0) (qr 0) (qv 0) (qh 0) p_kept p_timesKept)), (qb 0, .inr (1, oX1 qb b_now b_shutTill b_shutBy b_z b_waits (qa 0) (qt 0))), (qa 0, .inr (0, oX0 qa a_done)), (qp 5, .inl (cI, 7, .inl p_errors_45)), (qa 2, .inl (cI, 60, .inl a_kinds)), (qa 3, .inl (cI, 60, .inl a_writers))] H := hP
          have hD : va_D A [(qp 0, .inr (6, oX6 qp (qb 0) (qr 0) (qv 0) (qh 0) p_kept p_timesKept)), (qb 0, .inr (1, oX1 qb b_now b_shutTill b_shutBy b_z b_waits (qa 0) (qt 0))), (qa 0, .inr (0, oX0 qa a_done)), (qp 5, .inl (cI, 7, .inl p_errors_45)), (qa 2, .inl (cI, 60, .inl a_kinds)), (qa 3, .inl (cI, 60, .inl a_writers))] := hD
          exact hret (t45, p_errors_45) _ _ _ _ (vp_nar_int _) h hP hD hS dX6_as_48
      · exact J18 p_errors _ _ _ (lv_sub hl [0] rfl) hP hD hS h
set_option maxHeartbeats 4000000 in
set_option maxRecDepth 100000 in
theorem c6_word (l : Launch) (D : va_G) (cI : ClassId) (ad : Nat → Nat) (qp qb qa qt qr qv qh : Nat → Nat) (p_kept : Value) (p_timesKept b_now b_shutTill b_shutBy b_z b_waits a_done : Int32) (p_errors a_sizes a_cells : Nat → Int32) (x1 : Int32) (x2 : Int32) (u : Int32 × (Nat → Int32)) (h : f6_word x1 x2 a_done p_errors a_sizes a_cells = some u) : q_RW (cE ad) l yX6_word wsX6_word (rmq (1)) D cI [.ref (qp 0), .int x1, .int x2] [(qp 0, .inr (6, oX6 qp (qb 0) (qr 0) (qv 0) (qh 0) p_kept p_timesKept)), (qb 0, .inr (1, oX1 qb b_now b_shutTill b_shutBy b_z b_waits (qa 0) (qt 0))), (qa 0, .inr (0, oX0 qa a_done)), (qp 5, .inl (cI, 7, .inl p_errors)), (qa 8, .inl (cI, 61, .inl a_sizes)), (qa 9, .inl (cI, 1220, .inl a_cells))] [(qp 0, .inr (6, oX6 qp (qb 0) (qr 0) (qv 0) (qh 0) p_kept p_timesKept)), (qb 0, .inr (1, oX1 qb b_now b_shutTill b_shutBy b_z b_waits (qa 0) (qt 0))), (qa 0, .inr (0, oX0 qa a_done)), (qp 5, .inl (cI, 7, .inl u.2)), (qa 8, .inl (cI, 61, .inl a_sizes)), (qa 9, .inl (cI, 1220, .inl a_cells))] u.1 := by
  refine q_startW (fun u : Int32 × (Nat → Int32) => [(qp 0, .inr (6, oX6 qp (qb 0) (qr 0) (qv 0) (qh 0) p_kept p_timesKept)), (qb 0, .inr (1, oX1 qb b_now b_shutTill b_shutBy b_z b_waits (qa 0) (qt 0))), (qa 0, .inr (0, oX0 qa a_done)), (qp 5, .inl (cI, 7, .inl u.2)), (qa 8, .inl (cI, 61, .inl a_sizes)), (qa 9, .inl (cI, 1220, .inl a_cells))]) (fun u => u.1) (cc := cX6_word) (maxL := 3) (ty := .int) (own := RX6) (by decide) rfl rfl (Nat.le_of_ble_eq_true rfl) rfl (fun p e s m args below meth c Q A hx hb hml hown hts hK hEv hA hret hP hD hS ls hl => ?_)
  have in0 : ∀ w ∈ wsX00, w ∈ wsX6_word := fun w h => List.mem_cons_of_mem _ (List.mem_append_right _ (h))
  have in1 : ∀ w ∈ wsX10, w ∈ wsX6_word := fun w h => List.mem_cons_of_mem _ (List.mem_append_left _ (List.mem_append_right _ (h)))
  have in6 : ∀ w ∈ wsX60, w ∈ wsX6_word := fun w h => List.mem_cons_of_mem _ (List.mem_append_left _ (List.mem_append_left _ (List.mem_append_right _ (h))))
  have l10 := hts (.fieldLink RX6 10 "PageWars" "book" "LPageWars$Book;") (List.mem_of_getElem? (i := 1) rfl)
  have l63 : (Cond.fieldLinkNest RX6 63 "PageWars$Book" "acts" "LPageWars$Acts;" "PageWars").before args s = true := cE_f6_63 hEv
  have l121 : (Cond.fieldLinkNest RX6 121 "PageWars$Acts" "sizes" "[I" "PageWars").before args s = true := cE_f6_121 hEv
  have J66 : ∀ (s0 : Int32) (p_errors : (Nat → Int32)) (H : Heap) (locs : List Loc) (ls : Array Slot), lv_has ls 3 [(0, .ref (qp 0))] → va_P D vwCl [(qp 0, .inr (6, oX6 qp (qb 0) (qr 0) (qv 0) (qh 0) p_kept p_timesKept)), (qb 0, .inr (1, oX1 qb b_now b_shutTill b_shutBy b_z b_waits (qa 0) (qt 0))), (qa 0, .inr (0, oX0 qa a_done)), (qp 5, .inl (cI, 7, .inl p_errors)), (qa 8, .inl (cI, 61, .inl a_sizes)), (qa 9, .inl (cI, 1220, .inl a_cells))] H → va_D A [(qp 0, .inr (6, oX6 qp (qb 0) (qr 0) (qv 0) (qh 0) p_kept p_timesKept)), (qb 0, .inr (1, oX1 qb b_now b_shutTill b_shutBy b_z b_waits (qa 0) (qt 0))), (qa 0, .inr (0, oX0 qa a_done)), (qp 5, .inl (cI, 7, .inl p_errors)), (qa 8, .inl (cI, 61, .inl a_sizes)), (qa 9, .inl (cI, 1220, .inl a_cells))] → va_S A s.heap H locs → f6_word_66 a_done a_sizes a_cells s0 p_errors = some u → W p l e (rmq (1)) s m args below meth c H locs 0 0 Q (F0 m 66 ls [.int s0]) := by
    intro s0 p_errors H locs ls hl hP hD hS h
    unfold f6_word_66 at h
    exact hret (s0, p_errors) _ _ _ _ (vp_nar_int _) h hP hD hS dX6_word_66
  have J29 : ∀ (p_errors : (Nat → Int32)) (H : Heap) (locs : List Loc) (ls : Array Slot), lv_has ls 3 [(0, .ref (qp 0))] → va_P D vwCl [(qp 0, .inr (6, oX6 qp (qb 0) (qr 0) (qv 0) (qh 0) p_kept p_timesKept)), (qb 0, .inr (1, oX1 qb b_now b_shutTill b_shutBy b_z b_waits (qa 0) (qt 0))), (qa 0, .inr (0, oX0 qa a_done)), (qp 5, .inl (cI, 7, .inl p_errors)), (qa 8, .inl (cI, 61, .inl a_sizes)), (qa 9, .inl (cI, 1220, .inl a_cells))] H → va_D A [(qp 0, .inr (6, oX6 qp (qb 0) (qr 0) (qv 0) (qh 0) p_kept p_timesKept)), (qb 0, .inr (1, oX1 qb b_now b_shutTill b_shutBy b_z b_waits (qa 0) (qt 0))), (qa 0, .inr (0, oX0 qa a_done)), (qp 5, .inl (cI, 7, .inl p_errors)), (qa 8, .inl (cI, 61, .inl a_sizes)), (qa 9, .inl (cI, 1220, .inl a_cells))] → va_S A s.heap H locs → f6_word_29 a_done a_sizes a_cells p_errors = some u → W p l e (rmq (1)) s m args below meth c H locs 0 0 Q (F0 m 29 ls []) := by
    intro p_errors H locs ls hl hP hD hS h
    unfold f6_word_29 at h
    refine lv_aload_n hx hb dX6_word_29 rfl (lv_at hl 0 rfl) ?_
    refine lv_iconst (v := (1 : Int32)) hx hb dX6_word_30 (by decide) ?_
    refine q_callW2 (cEok ad) (rest := []) (fun u => [(qp 0, .inr (6, oX6 qp (qb 0) (qr 0) (qv 0) (qh 0) p_kept p_timesKept)), (qp 5, .inl (cI, 7, .inl u.2))]) (fun u => u.1) ⟨hx, hb, hml, hown, hts⟩ (fun u hu => c6_error l D cI ad qp qb qr qv qh p_kept p_timesKept p_errors ((1 : Int32)) u hu) (cwV 1 hts gX6_word_X6_error rfl rfl rfl hdX6_error (rmq_ok (Nat.le_of_ble_eq_true rfl) (Nat.le_of_ble_eq_true rfl))) hK hEv hA hP hD hS [0, 3] (by decide) rfl (fun _ => rfl) (va_recv hK hP (ci := 6) (q0 := 0) rfl rfl) rfl rfl hl.1 (Nat.le_of_ble_eq_true rfl) ⟨Nat.zero_le _, Nat.zero_le _⟩ h dX6_word_31 (fun t31 p_errors_31 H locs h hP hD hS => ?_)
    have hP : va_P D vwCl [(qp 0, .inr (6, oX6 qp (qb 0) (qr 0) (qv 0) (qh 0) p_kept p_timesKept)), (qb 0, .inr (1, oX1 qb b_now b_shutTill b_shutBy b_z b_waits (qa 0) (qt 0))), (qa 0, .inr (0, oX0 qa a_done)), (qp 5, .inl (cI, 7, .inl p_errors_31)), (qa 8, .inl (cI, 61, .inl a_sizes)), (qa 9, .inl (cI, 1220, .inl a_cells))] H := hP
    have hD : va_D A [(qp 0, .inr (6, oX6 qp (qb 0) (qr 0) (qv 0) (qh 0) p_kept p_timesKept)), (qb 0, .inr (1, oX1 qb b_now b_shutTill b_shutBy b_z b_waits (qa 0) (qt 0))), (qa 0, .inr (0, oX0 qa a_done)), (qp 5, .inl (cI, 7, .inl p_errors_31)), (qa 8, .inl (cI, 61, .inl a_sizes)), (qa 9, .inl (cI, 1220, .inl a_cells))] := hD
    exact hret (t31, p_errors_31) _ _ _ _ (vp_nar_int _) h hP hD hS dX6_word_34
  unfold f6_word at h
  refine lv_aload_n hx hb dX6_word_0 rfl (lv_at hl 0 rfl) ?_
  refine lv_iload_n hx hb dX6_word_1 rfl (lv_at hl 1 rfl) ?_
  refine q_callR (cEok ad) (rest := []) ⟨hx, hb, hml, hown, hts⟩ (fun r hr => c6_isVersion l D cI ad qp qb qa qt qr qv qh p_kept p_timesKept b_now b_shutTill b_shutBy b_z b_waits a_done x1 r hr) (cwV 1 hts gX6_word_X6_isVersion rfl rfl rfl hdX6_isVersion (rmq_ok (Nat.le_of_ble_eq_true rfl) (Nat.le_of_ble_eq_true rfl))) hK hP hEv hS [0, 1, 2] rfl (va_recv hK hP (ci := 6) (q0 := 0) rfl rfl) rfl rfl hl.1 (Nat.le_of_ble_eq_true rfl) ⟨Nat.zero_le _, Nat.zero_le _⟩ h dX6_word_2 (fun t2 h => ?_)
  refine q_ifeq hx hb 29 h dX6_word_5 (by decide) (fun h => ?_) (fun h => ?_)
  · exact J29 p_errors _ _ _ (lv_sub hl [0] rfl) hP hD hS h
  · refine lv_iload_n hx hb dX6_word_8 rfl (lv_at hl 2 rfl) ?_
    refine lv_iconst (v := (-1 : Int32)) hx hb dX6_word_9 (by decide) ?_
    refine q_clt hx hb 29 h dX6_word_10 (by decide) (fun h => ?_) (fun h => ?_)
    · exact J29 p_errors _ _ _ (lv_sub hl [0] rfl) hP hD hS h
    · refine lv_iload_n hx hb dX6_word_13 rfl (lv_at hl 2 rfl) ?_
      refine lv_aload_n hx hb dX6_word_14 rfl (lv_at hl 0 rfl) ?_
      refine va_get (D := D) (ci := 6) (v := .ref (qb 0)) (C := RX6) (T := TX6) (N := 7) hx hb hts in6 hown hK hP 0 rfl rfl 0 (by decide) l10 (fun _ h9 => h9) rfl dX6_word_15 ?_
      refine va_getN (D := D) (ci := 1) (v := .ref (qa 0)) (C := RX1) (T := TX1) (N := 9) hx hb hts in1 hown hK hP 1 rfl rfl 7 (by decide) l63 (fun _ h9 => h9) rfl dX6_word_18 ?_
      refine va_getN (D := D) (ci := 0) (v := .ref (qa 8)) (C := RX0) (T := TX0) (N := 10) hx hb hts in0 hown hK hP 2 rfl rfl 7 (by decide) l121 (fun _ h9 => h9) rfl dX6_word_21 ?_
      refine lv_iload_n hx hb dX6_word_24 rfl (lv_at hl 1 rfl) ?_
      refine q_iald hx hb hK hP 4 0 rfl rfl h dX6_word_25 (fun t25 h => ?_)
      refine q_clt hx hb 35 h dX6_word_26 (by decide) (fun h => ?_) (fun h => ?_)
      · refine lv_iload_n hx hb dX6_word_35 rfl (lv_at hl 2 rfl) ?_
        refine q_ifge hx hb 54 h dX6_word_36 (by decide) (fun h => ?_) (fun h => ?_)
        · refine lv_aload_n hx hb dX6_word_54 rfl (lv_at hl 0 rfl) ?_
          refine va_get (D := D) (ci := 6) (v := .ref (qb 0)) (C := RX6) (T := TX6) (N := 7) hx hb hts in6 hown hK hP 0 rfl rfl 0 (by decide) l10 (fun _ h9 => h9) rfl dX6_word_55 ?_
          refine va_getN (D := D) (ci := 1) (v := .ref (qa 0)) (C := RX1) (T := TX1) (N := 9) hx hb hts in1 hown hK hP 1 rfl rfl 7 (by decide) l63 (fun _ h9 => h9) rfl dX6_word_58 ?_
          refine lv_iload_n hx hb dX6_word_61 rfl (lv_at hl 1 rfl) ?_
          refine lv_iload_n hx hb dX6_word_62 rfl (lv_at hl 2 rfl) ?_
          refine q_callR (cEok ad) (rest := []) ⟨hx, hb, hml, hown, hts⟩ (fun r hr => c0_wordAt l D cI ad qa a_done a_cells x1 x2 r hr) (cwV 2 hts gX6_word_X0_wordAt rfl rfl rfl hdX0_wordAt (rmq_ok (Nat.le_of_ble_eq_true rfl) (Nat.le_of_ble_eq_true rfl))) hK hP hEv hS [2, 5] rfl (va_recv hK hP (ci := 0) (q0 := 2) rfl rfl) rfl rfl hl.1 (Nat.le_of_ble_eq_true rfl) ⟨Nat.zero_le _, Nat.zero_le _⟩ h dX6_word_63 (fun t63 h => ?_)
          exact J66 t63 p_errors _ _ _ (lv_sub hl [0] rfl) hP hD hS h
        · refine lv_aload_n hx hb dX6_word_39 rfl (lv_at hl 0 rfl) ?_
          refine va_get (D := D) (ci := 6) (v := .ref (qb 0)) (C := RX6) (T := TX6) (N := 7) hx hb hts in6 hown hK hP 0 rfl rfl 0 (by decide) l10 (fun _ h9 => h9) rfl dX6_word_40 ?_
          refine va_getN (D := D) (ci := 1) (v := .ref (qa 0)) (C := RX1) (T := TX1) (N := 9) hx hb hts in1 hown hK hP 1 rfl rfl 7 (by decide) l63 (fun _ h9 => h9) rfl dX6_word_43 ?_
          refine va_getN (D := D) (ci := 0) (v := .ref (qa 8)) (C := RX0) (T := TX0) (N := 10) hx hb hts in0 hown hK hP 2 rfl rfl 7 (by decide) l121 (fun _ h9 => h9) rfl dX6_word_46 ?_
          refine lv_iload_n hx hb dX6_word_49 rfl (lv_at hl 1 rfl) ?_
          refine q_iald hx hb hK hP 4 0 rfl rfl h dX6_word_50 (fun t50 h => ?_)
          refine lv_goto (tgt := 66) hx hb dX6_word_51 (by decide) ?_
          exact J66 t50 p_errors _ _ _ (lv_sub hl [0] rfl) hP hD hS h
      · exact J29 p_errors _ _ _ (lv_sub hl [0] rfl) hP hD hS h
set_option maxHeartbeats 4000000 in
set_option maxRecDepth 100000 in
theorem c0_originAt (l : Launch) (D : va_G) (cI : ClassId) (ad : Nat → Nat) (qa : Nat → Nat) (a_done : Int32) (a_cells : Nat → Int32) (x1 : Int32) (x2 : Int32) (u : Int32) (h : f0_originAt x1 x2 a_cells = some u) : q_RO (cE ad) l yX0_originAt wsX0_originAt (rmq (0)) D cI [.ref (qa 0), .int x1, .int x2] [(qa 0, .inr (0, oX0 qa a_done)), (qa 9, .inl (cI, 1220, .inl a_cells))] u := by
  refine q_startR (cc := cX0_originAt) (maxL := 3) (ty := .int) (own := RX0) (by decide) rfl rfl (Nat.le_of_ble_eq_true rfl) rfl (fun p e s m args below meth c Q hx hb hml hown hts hP hK hEv hret ls hl => ?_)
  have in0 : ∀ w ∈ wsX00, w ∈ wsX0_originAt := fun w h => List.mem_cons_of_mem _ (List.mem_append_right _ (h))
  have l33 := hts (.fieldLink RX0 33 "PageWars$Acts" "cells" "[I") (List.mem_of_getElem? (i := 1) rfl)
  unfold f0_originAt at h
  refine lv_aload_n hx hb dX0_originAt_0 rfl (lv_at hl 0 rfl) ?_
  refine va_get (D := D) (ci := 0) (v := .ref (qa 9)) (C := RX0) (T := TX0) (N := 10) hx hb hts in0 hown hK hP 0 rfl rfl 8 (by decide) l33 (fun _ h9 => h9) rfl dX0_originAt_1 ?_
  refine lv_iload_n hx hb dX0_originAt_4 rfl (lv_at hl 1 rfl) ?_
  refine lv_bipush (v := (20 : Int32)) hx hb dX0_originAt_5 (by decide) ?_
  refine lv_imul hx hb dX0_originAt_7 ?_
  refine lv_iload_n hx hb dX0_originAt_8 rfl (lv_at hl 2 rfl) ?_
  refine lv_iadd hx hb dX0_originAt_9 ?_
  refine q_iald hx hb hK hP 1 0 rfl rfl h dX0_originAt_10 (fun t10 h => ?_)
  refine lv_bipush (v := (6 : Int32)) hx hb dX0_originAt_11 (by decide) ?_
  refine lv_ishr hx hb dX0_originAt_13 ?_
  exact hret _ _ _ (vp_nar_int _) h dX0_originAt_14
set_option maxHeartbeats 4000000 in
set_option maxRecDepth 100000 in
theorem c6_origin (l : Launch) (D : va_G) (cI : ClassId) (ad : Nat → Nat) (qp qb qa qt qr qv qh : Nat → Nat) (p_kept : Value) (p_timesKept b_now b_shutTill b_shutBy b_z b_waits a_done : Int32) (p_errors a_sizes a_cells : Nat → Int32) (x1 : Int32) (x2 : Int32) (u : Int32 × (Nat → Int32)) (h : f6_origin x1 x2 a_done p_errors a_sizes a_cells = some u) : q_RW (cE ad) l yX6_origin wsX6_origin (rmq (1)) D cI [.ref (qp 0), .int x1, .int x2] [(qp 0, .inr (6, oX6 qp (qb 0) (qr 0) (qv 0) (qh 0) p_kept p_timesKept)), (qb 0, .inr (1, oX1 qb b_now b_shutTill b_shutBy b_z b_waits (qa 0) (qt 0))), (qa 0, .inr (0, oX0 qa a_done)), (qp 5, .inl (cI, 7, .inl p_errors)), (qa 8, .inl (cI, 61, .inl a_sizes)), (qa 9, .inl (cI, 1220, .inl a_cells))] [(qp 0, .inr (6, oX6 qp (qb 0) (qr 0) (qv 0) (qh 0) p_kept p_timesKept)), (qb 0, .inr (1, oX1 qb b_now b_shutTill b_shutBy b_z b_waits (qa 0) (qt 0))), (qa 0, .inr (0, oX0 qa a_done)), (qp 5, .inl (cI, 7, .inl u.2)), (qa 8, .inl (cI, 61, .inl a_sizes)), (qa 9, .inl (cI, 1220, .inl a_cells))] u.1 := by
  refine q_startW (fun u : Int32 × (Nat → Int32) => [(qp 0, .inr (6, oX6 qp (qb 0) (qr 0) (qv 0) (qh 0) p_kept p_timesKept)), (qb 0, .inr (1, oX1 qb b_now b_shutTill b_shutBy b_z b_waits (qa 0) (qt 0))), (qa 0, .inr (0, oX0 qa a_done)), (qp 5, .inl (cI, 7, .inl u.2)), (qa 8, .inl (cI, 61, .inl a_sizes)), (qa 9, .inl (cI, 1220, .inl a_cells))]) (fun u => u.1) (cc := cX6_origin) (maxL := 3) (ty := .int) (own := RX6) (by decide) rfl rfl (Nat.le_of_ble_eq_true rfl) rfl (fun p e s m args below meth c Q A hx hb hml hown hts hK hEv hA hret hP hD hS ls hl => ?_)
  have in0 : ∀ w ∈ wsX00, w ∈ wsX6_origin := fun w h => List.mem_cons_of_mem _ (List.mem_append_right _ (h))
  have in1 : ∀ w ∈ wsX10, w ∈ wsX6_origin := fun w h => List.mem_cons_of_mem _ (List.mem_append_left _ (List.mem_append_right _ (h)))
  have in6 : ∀ w ∈ wsX60, w ∈ wsX6_origin := fun w h => List.mem_cons_of_mem _ (List.mem_append_left _ (List.mem_append_left _ (List.mem_append_right _ (h))))
  have l10 := hts (.fieldLink RX6 10 "PageWars" "book" "LPageWars$Book;") (List.mem_of_getElem? (i := 1) rfl)
  have l63 : (Cond.fieldLinkNest RX6 63 "PageWars$Book" "acts" "LPageWars$Acts;" "PageWars").before args s = true := cE_f6_63 hEv
  have l121 : (Cond.fieldLinkNest RX6 121 "PageWars$Acts" "sizes" "[I" "PageWars").before args s = true := cE_f6_121 hEv
  have J28 : ∀ (p_errors : (Nat → Int32)) (H : Heap) (locs : List Loc) (ls : Array Slot), lv_has ls 3 [(0, .ref (qp 0))] → va_P D vwCl [(qp 0, .inr (6, oX6 qp (qb 0) (qr 0) (qv 0) (qh 0) p_kept p_timesKept)), (qb 0, .inr (1, oX1 qb b_now b_shutTill b_shutBy b_z b_waits (qa 0) (qt 0))), (qa 0, .inr (0, oX0 qa a_done)), (qp 5, .inl (cI, 7, .inl p_errors)), (qa 8, .inl (cI, 61, .inl a_sizes)), (qa 9, .inl (cI, 1220, .inl a_cells))] H → va_D A [(qp 0, .inr (6, oX6 qp (qb 0) (qr 0) (qv 0) (qh 0) p_kept p_timesKept)), (qb 0, .inr (1, oX1 qb b_now b_shutTill b_shutBy b_z b_waits (qa 0) (qt 0))), (qa 0, .inr (0, oX0 qa a_done)), (qp 5, .inl (cI, 7, .inl p_errors)), (qa 8, .inl (cI, 61, .inl a_sizes)), (qa 9, .inl (cI, 1220, .inl a_cells))] → va_S A s.heap H locs → f6_origin_28 a_done a_sizes a_cells p_errors = some u → W p l e (rmq (1)) s m args below meth c H locs 0 0 Q (F0 m 28 ls []) := by
    intro p_errors H locs ls hl hP hD hS h
    unfold f6_origin_28 at h
    refine lv_aload_n hx hb dX6_origin_28 rfl (lv_at hl 0 rfl) ?_
    refine lv_iconst (v := (1 : Int32)) hx hb dX6_origin_29 (by decide) ?_
    refine q_callW2 (cEok ad) (rest := []) (fun u => [(qp 0, .inr (6, oX6 qp (qb 0) (qr 0) (qv 0) (qh 0) p_kept p_timesKept)), (qp 5, .inl (cI, 7, .inl u.2))]) (fun u => u.1) ⟨hx, hb, hml, hown, hts⟩ (fun u hu => c6_error l D cI ad qp qb qr qv qh p_kept p_timesKept p_errors ((1 : Int32)) u hu) (cwV 1 hts gX6_origin_X6_error rfl rfl rfl hdX6_error (rmq_ok (Nat.le_of_ble_eq_true rfl) (Nat.le_of_ble_eq_true rfl))) hK hEv hA hP hD hS [0, 3] (by decide) rfl (fun _ => rfl) (va_recv hK hP (ci := 6) (q0 := 0) rfl rfl) rfl rfl hl.1 (Nat.le_of_ble_eq_true rfl) ⟨Nat.zero_le _, Nat.zero_le _⟩ h dX6_origin_30 (fun t30 p_errors_30 H locs h hP hD hS => ?_)
    have hP : va_P D vwCl [(qp 0, .inr (6, oX6 qp (qb 0) (qr 0) (qv 0) (qh 0) p_kept p_timesKept)), (qb 0, .inr (1, oX1 qb b_now b_shutTill b_shutBy b_z b_waits (qa 0) (qt 0))), (qa 0, .inr (0, oX0 qa a_done)), (qp 5, .inl (cI, 7, .inl p_errors_30)), (qa 8, .inl (cI, 61, .inl a_sizes)), (qa 9, .inl (cI, 1220, .inl a_cells))] H := hP
    have hD : va_D A [(qp 0, .inr (6, oX6 qp (qb 0) (qr 0) (qv 0) (qh 0) p_kept p_timesKept)), (qb 0, .inr (1, oX1 qb b_now b_shutTill b_shutBy b_z b_waits (qa 0) (qt 0))), (qa 0, .inr (0, oX0 qa a_done)), (qp 5, .inl (cI, 7, .inl p_errors_30)), (qa 8, .inl (cI, 61, .inl a_sizes)), (qa 9, .inl (cI, 1220, .inl a_cells))] := hD
    exact hret (t30, p_errors_30) _ _ _ _ (vp_nar_int _) h hP hD hS dX6_origin_33
  unfold f6_origin at h
  refine lv_aload_n hx hb dX6_origin_0 rfl (lv_at hl 0 rfl) ?_
  refine lv_iload_n hx hb dX6_origin_1 rfl (lv_at hl 1 rfl) ?_
  refine q_callR (cEok ad) (rest := []) ⟨hx, hb, hml, hown, hts⟩ (fun r hr => c6_isVersion l D cI ad qp qb qa qt qr qv qh p_kept p_timesKept b_now b_shutTill b_shutBy b_z b_waits a_done x1 r hr) (cwV 1 hts gX6_origin_X6_isVersion rfl rfl rfl hdX6_isVersion (rmq_ok (Nat.le_of_ble_eq_true rfl) (Nat.le_of_ble_eq_true rfl))) hK hP hEv hS [0, 1, 2] rfl (va_recv hK hP (ci := 6) (q0 := 0) rfl rfl) rfl rfl hl.1 (Nat.le_of_ble_eq_true rfl) ⟨Nat.zero_le _, Nat.zero_le _⟩ h dX6_origin_2 (fun t2 h => ?_)
  refine q_ifeq hx hb 28 h dX6_origin_5 (by decide) (fun h => ?_) (fun h => ?_)
  · exact J28 p_errors _ _ _ (lv_sub hl [0] rfl) hP hD hS h
  · refine lv_iload_n hx hb dX6_origin_8 rfl (lv_at hl 2 rfl) ?_
    refine q_iflt hx hb 28 h dX6_origin_9 (by decide) (fun h => ?_) (fun h => ?_)
    · exact J28 p_errors _ _ _ (lv_sub hl [0] rfl) hP hD hS h
    · refine lv_iload_n hx hb dX6_origin_12 rfl (lv_at hl 2 rfl) ?_
      refine lv_aload_n hx hb dX6_origin_13 rfl (lv_at hl 0 rfl) ?_
      refine va_get (D := D) (ci := 6) (v := .ref (qb 0)) (C := RX6) (T := TX6) (N := 7) hx hb hts in6 hown hK hP 0 rfl rfl 0 (by decide) l10 (fun _ h9 => h9) rfl dX6_origin_14 ?_
      refine va_getN (D := D) (ci := 1) (v := .ref (qa 0)) (C := RX1) (T := TX1) (N := 9) hx hb hts in1 hown hK hP 1 rfl rfl 7 (by decide) l63 (fun _ h9 => h9) rfl dX6_origin_17 ?_
      refine va_getN (D := D) (ci := 0) (v := .ref (qa 8)) (C := RX0) (T := TX0) (N := 10) hx hb hts in0 hown hK hP 2 rfl rfl 7 (by decide) l121 (fun _ h9 => h9) rfl dX6_origin_20 ?_
      refine lv_iload_n hx hb dX6_origin_23 rfl (lv_at hl 1 rfl) ?_
      refine q_iald hx hb hK hP 4 0 rfl rfl h dX6_origin_24 (fun t24 h => ?_)
      refine q_clt hx hb 34 h dX6_origin_25 (by decide) (fun h => ?_) (fun h => ?_)
      · refine lv_aload_n hx hb dX6_origin_34 rfl (lv_at hl 0 rfl) ?_
        refine va_get (D := D) (ci := 6) (v := .ref (qb 0)) (C := RX6) (T := TX6) (N := 7) hx hb hts in6 hown hK hP 0 rfl rfl 0 (by decide) l10 (fun _ h9 => h9) rfl dX6_origin_35 ?_
        refine va_getN (D := D) (ci := 1) (v := .ref (qa 0)) (C := RX1) (T := TX1) (N := 9) hx hb hts in1 hown hK hP 1 rfl rfl 7 (by decide) l63 (fun _ h9 => h9) rfl dX6_origin_38 ?_
        refine lv_iload_n hx hb dX6_origin_41 rfl (lv_at hl 1 rfl) ?_
        refine lv_iload_n hx hb dX6_origin_42 rfl (lv_at hl 2 rfl) ?_
        refine q_callR (cEok ad) (rest := []) ⟨hx, hb, hml, hown, hts⟩ (fun r hr => c0_originAt l D cI ad qa a_done a_cells x1 x2 r hr) (cwV 2 hts gX6_origin_X0_originAt rfl rfl rfl hdX0_originAt (rmq_ok (Nat.le_of_ble_eq_true rfl) (Nat.le_of_ble_eq_true rfl))) hK hP hEv hS [2, 5] rfl (va_recv hK hP (ci := 0) (q0 := 2) rfl rfl) rfl rfl hl.1 (Nat.le_of_ble_eq_true rfl) ⟨Nat.zero_le _, Nat.zero_le _⟩ h dX6_origin_43 (fun t43 h => ?_)
        exact hret (t43, p_errors) _ _ _ _ (vp_nar_int _) h hP hD hS dX6_origin_46
      · exact J28 p_errors _ _ _ (lv_sub hl [0] rfl) hP hD hS h
set_option maxHeartbeats 4000000 in
set_option maxRecDepth 100000 in
theorem c6_may (l : Launch) (D : va_G) (cI : ClassId) (ad : Nat → Nat) (qp qb qa qt qr qv qh : Nat → Nat) (p_kept : Value) (p_timesKept b_now b_shutTill b_shutBy b_z b_waits a_done t_taped : Int32) (p_errors a_kinds a_writers a_minutes a_sizes t_codes t_lengths t_named t_stack : Nat → Int32) (x1 : Int32) (n : Nat) (u : Int32 × (Nat → Int32) × (Nat → Int32) × (Nat → Int32)) (h : f6_may n x1 b_now b_shutTill b_shutBy a_done p_errors a_kinds a_writers a_minutes a_sizes t_codes t_lengths t_named t_stack = some u) : q_RW (cE ad) l yX6_may wsX6_may (rmq (3)) D cI [.ref (qp 0), .int x1] [(qp 0, .inr (6, oX6 qp (qb 0) (qr 0) (qv 0) (qh 0) p_kept p_timesKept)), (qb 0, .inr (1, oX1 qb b_now b_shutTill b_shutBy b_z b_waits (qa 0) (qt 0))), (qa 0, .inr (0, oX0 qa a_done)), (qt 0, .inr (4, oX4 qt t_taped)), (qp 5, .inl (cI, 7, .inl p_errors)), (qa 2, .inl (cI, 60, .inl a_kinds)), (qa 3, .inl (cI, 60, .inl a_writers)), (qa 4, .inl (cI, 60, .inl a_minutes)), (qa 8, .inl (cI, 61, .inl a_sizes)), (qt 3, .inl (cI, 480, .inl t_codes)), (qt 4, .inl (cI, 8, .inl t_lengths)), (qt 5, .inl (cI, 5, .inl t_named)), (qt 6, .inl (cI, 60, .inl t_stack))] [(qp 0, .inr (6, oX6 qp (qb 0) (qr 0) (qv 0) (qh 0) p_kept p_timesKept)), (qb 0, .inr (1, oX1 qb b_now b_shutTill b_shutBy b_z b_waits (qa 0) (qt 0))), (qa 0, .inr (0, oX0 qa a_done)), (qt 0, .inr (4, oX4 qt t_taped)), (qp 5, .inl (cI, 7, .inl u.2.1)), (qa 2, .inl (cI, 60, .inl a_kinds)), (qa 3, .inl (cI, 60, .inl a_writers)), (qa 4, .inl (cI, 60, .inl a_minutes)), (qa 8, .inl (cI, 61, .inl a_sizes)), (qt 3, .inl (cI, 480, .inl t_codes)), (qt 4, .inl (cI, 8, .inl t_lengths)), (qt 5, .inl (cI, 5, .inl u.2.2.1)), (qt 6, .inl (cI, 60, .inl u.2.2.2))] u.1 := by
  refine q_startW (fun u : Int32 × (Nat → Int32) × (Nat → Int32) × (Nat → Int32) => [(qp 0, .inr (6, oX6 qp (qb 0) (qr 0) (qv 0) (qh 0) p_kept p_timesKept)), (qb 0, .inr (1, oX1 qb b_now b_shutTill b_shutBy b_z b_waits (qa 0) (qt 0))), (qa 0, .inr (0, oX0 qa a_done)), (qt 0, .inr (4, oX4 qt t_taped)), (qp 5, .inl (cI, 7, .inl u.2.1)), (qa 2, .inl (cI, 60, .inl a_kinds)), (qa 3, .inl (cI, 60, .inl a_writers)), (qa 4, .inl (cI, 60, .inl a_minutes)), (qa 8, .inl (cI, 61, .inl a_sizes)), (qt 3, .inl (cI, 480, .inl t_codes)), (qt 4, .inl (cI, 8, .inl t_lengths)), (qt 5, .inl (cI, 5, .inl u.2.2.1)), (qt 6, .inl (cI, 60, .inl u.2.2.2))]) (fun u => u.1) (cc := cX6_may) (maxL := 2) (ty := .int) (own := RX6) (by decide) rfl rfl (Nat.le_of_ble_eq_true rfl) rfl (fun p e s m args below meth c Q A hx hb hml hown hts hK hEv hA hret hP hD hS ls hl => ?_)
  have in0 : ∀ w ∈ wsX00, w ∈ wsX6_may := fun w h => List.mem_cons_of_mem _ (List.mem_append_right _ (h))
  have in1 : ∀ w ∈ wsX10, w ∈ wsX6_may := fun w h => List.mem_cons_of_mem _ (List.mem_append_left _ (List.mem_append_left _ (List.mem_append_right _ (h))))
  have in4 : ∀ w ∈ wsX40, w ∈ wsX6_may := fun w h => List.mem_cons_of_mem _ (List.mem_append_left _ (List.mem_append_right _ (h)))
  have in6 : ∀ w ∈ wsX60, w ∈ wsX6_may := fun w h => List.mem_cons_of_mem _ (List.mem_append_left _ (List.mem_append_left _ (List.mem_append_left _ (List.mem_append_right _ (h)))))
  have l10 := hts (.fieldLink RX6 10 "PageWars" "book" "LPageWars$Book;") (List.mem_of_getElem? (i := 1) rfl)
  have J29 : ∀ (s0 : Int32) (p_errors : (Nat → Int32)) (t_named : (Nat → Int32)) (t_stack : (Nat → Int32)) (H : Heap) (locs : List Loc) (ls : Array Slot), lv_has ls 2 [(0, .ref (qp 0))] → va_P D vwCl [(qp 0, .inr (6, oX6 qp (qb 0) (qr 0) (qv 0) (qh 0) p_kept p_timesKept)), (qb 0, .inr (1, oX1 qb b_now b_shutTill b_shutBy b_z b_waits (qa 0) (qt 0))), (qa 0, .inr (0, oX0 qa a_done)), (qt 0, .inr (4, oX4 qt t_taped)), (qp 5, .inl (cI, 7, .inl p_errors)), (qa 2, .inl (cI, 60, .inl a_kinds)), (qa 3, .inl (cI, 60, .inl a_writers)), (qa 4, .inl (cI, 60, .inl a_minutes)), (qa 8, .inl (cI, 61, .inl a_sizes)), (qt 3, .inl (cI, 480, .inl t_codes)), (qt 4, .inl (cI, 8, .inl t_lengths)), (qt 5, .inl (cI, 5, .inl t_named)), (qt 6, .inl (cI, 60, .inl t_stack))] H → va_D A [(qp 0, .inr (6, oX6 qp (qb 0) (qr 0) (qv 0) (qh 0) p_kept p_timesKept)), (qb 0, .inr (1, oX1 qb b_now b_shutTill b_shutBy b_z b_waits (qa 0) (qt 0))), (qa 0, .inr (0, oX0 qa a_done)), (qt 0, .inr (4, oX4 qt t_taped)), (qp 5, .inl (cI, 7, .inl p_errors)), (qa 2, .inl (cI, 60, .inl a_kinds)), (qa 3, .inl (cI, 60, .inl a_writers)), (qa 4, .inl (cI, 60, .inl a_minutes)), (qa 8, .inl (cI, 61, .inl a_sizes)), (qt 3, .inl (cI, 480, .inl t_codes)), (qt 4, .inl (cI, 8, .inl t_lengths)), (qt 5, .inl (cI, 5, .inl t_named)), (qt 6, .inl (cI, 60, .inl t_stack))] → va_S A s.heap H locs → f6_may_29 n b_now b_shutTill b_shutBy a_done a_kinds a_writers a_minutes a_sizes t_codes t_lengths s0 p_errors t_named t_stack = some u → W p l e (rmq (3)) s m args below meth c H locs 0 0 Q (F0 m 29 ls [.int s0]) := by
    intro s0 p_errors t_named t_stack H locs ls hl hP hD hS h
    unfold f6_may_29 at h
    exact hret (s0, p_errors, t_named, t_stack) _ _ _ _ (vp_nar_int _) h hP hD hS dX6_may_29
  unfold f6_may at h
  refine lv_iload_n hx hb dX6_may_0 rfl (lv_at hl 1 rfl) ?_
  refine q_callRS (cEok ad) (rest := []) ⟨hx, hb, hml, hown, hts⟩ (fun r hr => c6_isWriter l D cI ad x1 r hr) (va_cwS 1 hts gX6_may_X6_isWriter rfl rfl rfl hdX6_isWriter (rmq_ok (Nat.le_of_ble_eq_true rfl) (Nat.le_of_ble_eq_true rfl))) hK hP hEv hS [] rfl rfl rfl hl.1 (Nat.le_of_ble_eq_true rfl) ⟨Nat.zero_le _, Nat.zero_le _⟩ h dX6_may_1 (fun t1 h => ?_)
  refine q_ifne hx hb 13 h dX6_may_4 (by decide) (fun h => ?_) (fun h => ?_)
  · refine lv_aload_n hx hb dX6_may_13 rfl (lv_at hl 0 rfl) ?_
    refine va_get (D := D) (ci := 6) (v := .ref (qb 0)) (C := RX6) (T := TX6) (N := 7) hx hb hts in6 hown hK hP 0 rfl rfl 0 (by decide) l10 (fun _ h9 => h9) rfl dX6_may_14 ?_
    refine lv_iload_n hx hb dX6_may_17 rfl (lv_at hl 1 rfl) ?_
    refine q_callW3 (cEok ad) (rest := []) (fun u => [(qb 0, .inr (1, oX1 qb b_now b_shutTill b_shutBy b_z b_waits (qa 0) (qt 0))), (qa 0, .inr (0, oX0 qa a_done)), (qt 0, .inr (4, oX4 qt t_taped)), (qa 2, .inl (cI, 60, .inl a_kinds)), (qa 3, .inl (cI, 60, .inl a_writers)), (qa 4, .inl (cI, 60, .inl a_minutes)), (qa 8, .inl (cI, 61, .inl a_sizes)), (qt 3, .inl (cI, 480, .inl t_codes)), (qt 4, .inl (cI, 8, .inl t_lengths)), (qt 5, .inl (cI, 5, .inl u.2.1)), (qt 6, .inl (cI, 60, .inl u.2.2))]) (fun u => u.1) ⟨hx, hb, hml, hown, hts⟩ (fun u hu => c1_lets l D cI ad qb qa qt b_now b_shutTill b_shutBy b_z b_waits a_done t_taped a_kinds a_writers a_minutes a_sizes t_codes t_lengths t_named t_stack x1 n u hu) (cwV 1 hts gX6_may_X1_lets rfl rfl rfl hdX1_lets (rmq_ok (Nat.le_of_ble_eq_true rfl) (Nat.le_of_ble_eq_true rfl))) hK hEv hA hP hD hS [1, 2, 3, 5, 6, 7, 8, 9, 10, 11, 12] (by decide) rfl (fun _ => rfl) (va_recv hK hP (ci := 1) (q0 := 1) rfl rfl) rfl rfl hl.1 (Nat.le_of_ble_eq_true rfl) ⟨Nat.zero_le _, Nat.zero_le _⟩ h dX6_may_18 (fun t18 t_named_18 t_stack_18 H locs h hP hD hS => ?_)
    have hP : va_P D vwCl [(qp 0, .inr (6, oX6 qp (qb 0) (qr 0) (qv 0) (qh 0) p_kept p_timesKept)), (qb 0, .inr (1, oX1 qb b_now b_shutTill b_shutBy b_z b_waits (qa 0) (qt 0))), (qa 0, .inr (0, oX0 qa a_done)), (qt 0, .inr (4, oX4 qt t_taped)), (qp 5, .inl (cI, 7, .inl p_errors)), (qa 2, .inl (cI, 60, .inl a_kinds)), (qa 3, .inl (cI, 60, .inl a_writers)), (qa 4, .inl (cI, 60, .inl a_minutes)), (qa 8, .inl (cI, 61, .inl a_sizes)), (qt 3, .inl (cI, 480, .inl t_codes)), (qt 4, .inl (cI, 8, .inl t_lengths)), (qt 5, .inl (cI, 5, .inl t_named_18)), (qt 6, .inl (cI, 60, .inl t_stack_18))] H := hP
    have hD : va_D A [(qp 0, .inr (6, oX6 qp (qb 0) (qr 0) (qv 0) (qh 0) p_kept p_timesKept)), (qb 0, .inr (1, oX1 qb b_now b_shutTill b_shutBy b_z b_waits (qa 0) (qt 0))), (qa 0, .inr (0, oX0 qa a_done)), (qt 0, .inr (4, oX4 qt t_taped)), (qp 5, .inl (cI, 7, .inl p_errors)), (qa 2, .inl (cI, 60, .inl a_kinds)), (qa 3, .inl (cI, 60, .inl a_writers)), (qa 4, .inl (cI, 60, .inl a_minutes)), (qa 8, .inl (cI, 61, .inl a_sizes)), (qt 3, .inl (cI, 480, .inl t_codes)), (qt 4, .inl (cI, 8, .inl t_lengths)), (qt 5, .inl (cI, 5, .inl t_named_18)), (qt 6, .inl (cI, 60, .inl t_stack_18))] := hD
    refine q_ifeq hx hb 28 h dX6_may_21 (by decide) (fun h => ?_) (fun h => ?_)
    · refine lv_iconst (v := (0 : Int32)) hx hb dX6_may_28 (by decide) ?_
      exact J29 ((0 : Int32)) p_errors t_named_18 t_stack_18 _ _ _ (lv_sub hl [0] rfl) hP hD hS h
    · refine lv_iconst (v := (1 : Int32)) hx hb dX6_may_24 (by decide) ?_
      refine lv_goto (tgt := 29) hx hb dX6_may_25 (by decide) ?_
      exact J29 ((1 : Int32)) p_errors t_named_18 t_stack_18 _ _ _ (lv_sub hl [0] rfl) hP hD hS h
  · refine lv_aload_n hx hb dX6_may_7 rfl (lv_at hl 0 rfl) ?_
    refine lv_iconst (v := (1 : Int32)) hx hb dX6_may_8 (by decide) ?_
    refine q_callW2 (cEok ad) (rest := []) (fun u => [(qp 0, .inr (6, oX6 qp (qb 0) (qr 0) (qv 0) (qh 0) p_kept p_timesKept)), (qp 5, .inl (cI, 7, .inl u.2))]) (fun u => u.1) ⟨hx, hb, hml, hown, hts⟩ (fun u hu => c6_error l D cI ad qp qb qr qv qh p_kept p_timesKept p_errors ((1 : Int32)) u hu) (cwV 1 hts gX6_may_X6_error rfl rfl rfl hdX6_error (rmq_ok (Nat.le_of_ble_eq_true rfl) (Nat.le_of_ble_eq_true rfl))) hK hEv hA hP hD hS [0, 4] (by decide) rfl (fun _ => rfl) (va_recv hK hP (ci := 6) (q0 := 0) rfl rfl) rfl rfl hl.1 (Nat.le_of_ble_eq_true rfl) ⟨Nat.zero_le _, Nat.zero_le _⟩ h dX6_may_9 (fun t9 p_errors_9 H locs h hP hD hS => ?_)
    have hP : va_P D vwCl [(qp 0, .inr (6, oX6 qp (qb 0) (qr 0) (qv 0) (qh 0) p_kept p_timesKept)), (qb 0, .inr (1, oX1 qb b_now b_shutTill b_shutBy b_z b_waits (qa 0) (qt 0))), (qa 0, .inr (0, oX0 qa a_done)), (qt 0, .inr (4, oX4 qt t_taped)), (qp 5, .inl (cI, 7, .inl p_errors_9)), (qa 2, .inl (cI, 60, .inl a_kinds)), (qa 3, .inl (cI, 60, .inl a_writers)), (qa 4, .inl (cI, 60, .inl a_minutes)), (qa 8, .inl (cI, 61, .inl a_sizes)), (qt 3, .inl (cI, 480, .inl t_codes)), (qt 4, .inl (cI, 8, .inl t_lengths)), (qt 5, .inl (cI, 5, .inl t_named)), (qt 6, .inl (cI, 60, .inl t_stack))] H := hP
    have hD : va_D A [(qp 0, .inr (6, oX6 qp (qb 0) (qr 0) (qv 0) (qh 0) p_kept p_timesKept)), (qb 0, .inr (1, oX1 qb b_now b_shutTill b_shutBy b_z b_waits (qa 0) (qt 0))), (qa 0, .inr (0, oX0 qa a_done)), (qt 0, .inr (4, oX4 qt t_taped)), (qp 5, .inl (cI, 7, .inl p_errors_9)), (qa 2, .inl (cI, 60, .inl a_kinds)), (qa 3, .inl (cI, 60, .inl a_writers)), (qa 4, .inl (cI, 60, .inl a_minutes)), (qa 8, .inl (cI, 61, .inl a_sizes)), (qt 3, .inl (cI, 480, .inl t_codes)), (qt 4, .inl (cI, 8, .inl t_lengths)), (qt 5, .inl (cI, 5, .inl t_named)), (qt 6, .inl (cI, 60, .inl t_stack))] := hD
    exact hret (t9, p_errors_9, t_named, t_stack) _ _ _ _ (vp_nar_int _) h hP hD hS dX6_may_12
set_option maxHeartbeats 4000000 in
set_option maxRecDepth 100000 in
theorem c4_takes (l : Launch) (D : va_G) (cI : ClassId) (ad : Nat → Nat) (qt : Nat → Nat) (t_taped : Int32) (t_tape : Nat → Int32) (x1 : Int64) (x3 : Int32) (n : Nat) (u : Int32 × Int32 × (Nat → Int32)) (h : f4_takes n x1 x3 t_taped t_tape = some u) : q_RW (cE ad) l yX4_takes wsX4_takes (rmq (0)) D cI [.ref (qt 0), .long x1, .int x3] [(qt 0, .inr (4, oX4 qt t_taped)), (qt 2, .inl (cI, 60, .inl t_tape))] [(qt 0, .inr (4, oX4 qt u.2.1)), (qt 2, .inl (cI, 60, .inl u.2.2))] u.1 := by
  refine q_startW (fun u : Int32 × Int32 × (Nat → Int32) => [(qt 0, .inr (4, oX4 qt u.2.1)), (qt 2, .inl (cI, 60, .inl u.2.2))]) (fun u => u.1) (cc := cX4_takes) (maxL := 5) (ty := .int) (own := RX4) (by decide) rfl rfl (Nat.le_of_ble_eq_true rfl) rfl (fun p e s m args below meth c Q A hx hb hml hown hts hK hEv hA hret hP hD hS ls hl => ?_)
  have in4 : ∀ w ∈ wsX40, w ∈ wsX4_takes := fun w h => List.mem_cons_of_mem _ (List.mem_append_right _ (h))
  have l9 := hts (.fieldLink RX4 9 "PageWars$Texts" "tape" "[I") (List.mem_of_getElem? (i := 1) rfl)
  have l27 := hts (.fieldLink RX4 27 "PageWars$Texts" "taped" "I") (List.mem_of_getElem? (i := 2) rfl)
  have J3 : ∀ (kk3 : Nat) (x1 : Int64) (x3 : Int32) (x4 : Int32) (t_taped : Int32) (t_tape : (Nat → Int32)) (H : Heap) (locs : List Loc) (ls : Array Slot), lv_has ls 5 [(0, .ref (qt 0)), (1, .long x1), (3, .int x3), (4, .int x4)] → va_P D vwCl [(qt 0, .inr (4, oX4 qt t_taped)), (qt 2, .inl (cI, 60, .inl t_tape))] H → va_D A [(qt 0, .inr (4, oX4 qt t_taped)), (qt 2, .inl (cI, 60, .inl t_tape))] → va_S A s.heap H locs → f4_takes_3 n kk3 x1 x3 x4 t_taped t_tape = some u → W p l e (rmq (0)) s m args below meth c H locs 0 0 Q (F0 m 3 ls []) := by
    intro kk3
    induction kk3 with
    | zero => intro x1 x3 x4 t_taped t_tape H locs ls hl hP hD hS h; exact nomatch (show (none : Option (Int32 × Int32 × (Nat → Int32))) = some u from h)
    | succ kk3 ih3 =>
      intro x1 x3 x4 t_taped t_tape H locs ls hl hP hD hS h
      rw [f4_takes_3.eq_2] at h
      refine lv_iload hx hb dX4_takes_3 (lv_at hl 3 rfl) ?_
      refine lv_iload_n hx hb dX4_takes_5 rfl (lv_at hl 2 rfl) ?_
      refine q_cge hx hb 46 h dX4_takes_6 (by decide) (fun h => ?_) (fun h => ?_)
      · refine lv_aload_n hx hb dX4_takes_46 rfl (lv_at hl 0 rfl) ?_
        refine va_get (D := D) (ci := 4) (v := .int t_taped) (C := RX4) (T := TX4) (N := 6) hx hb hts in4 hown hK hP 0 rfl rfl 0 (by decide) l27 (fun _ h9 => h9) rfl dX4_takes_47 ?_
        exact hret (t_taped, t_taped, t_tape) _ _ _ _ (vp_nar_int _) h hP hD hS dX4_takes_50
      · refine lv_aload_n hx hb dX4_takes_9 rfl (lv_at hl 0 rfl) ?_
        refine va_get (D := D) (ci := 4) (v := .ref (qt 2)) (C := RX4) (T := TX4) (N := 6) hx hb hts in4 hown hK hP 0 rfl rfl 1 (by decide) l9 (fun _ h9 => h9) rfl dX4_takes_10 ?_
        refine lv_aload_n hx hb dX4_takes_13 rfl (lv_at hl 0 rfl) ?_
        refine va_get (D := D) (ci := 4) (v := .int t_taped) (C := RX4) (T := TX4) (N := 6) hx hb hts in4 hown hK hP 0 rfl rfl 0 (by decide) l27 (fun _ h9 => h9) rfl dX4_takes_14 ?_
        refine lv_lload_n hx hb dX4_takes_17 rfl (lv_at hl 1 rfl) ?_
        refine lv_bipush (v := (8 : Int32)) hx hb dX4_takes_18 (by decide) ?_
        refine lv_iload hx hb dX4_takes_20 (lv_at hl 3 rfl) ?_
        refine lv_imul hx hb dX4_takes_22 ?_
        refine lv_lushr hx hb dX4_takes_23 rfl ?_
        refine lv_l2i hx hb dX4_takes_24 rfl ?_
        refine lv_sipush (v := (255 : Int32)) hx hb dX4_takes_25 (by decide) ?_
        refine lv_iand hx hb dX4_takes_28 ?_
        refine q_iast hx hb hK hP hD hS 1 0 rfl rfl h dX4_takes_29 (fun t_tape_29 H locs h hP hD hS => ?_)
        have hP : va_P D vwCl [(qt 0, .inr (4, oX4 qt t_taped)), (qt 2, .inl (cI, 60, .inl t_tape_29))] H := hP
        have hD : va_D A [(qt 0, .inr (4, oX4 qt t_taped)), (qt 2, .inl (cI, 60, .inl t_tape_29))] := hD
        refine lv_aload_n hx hb dX4_takes_30 rfl (lv_at hl 0 rfl) ?_
        refine lv_dup hx hb dX4_takes_31 rfl ?_
        refine va_get (D := D) (ci := 4) (v := .int t_taped) (C := RX4) (T := TX4) (N := 6) hx hb hts in4 hown hK hP 0 rfl rfl 0 (by decide) l27 (fun _ h9 => h9) rfl dX4_takes_32 ?_
        refine lv_iconst (v := (1 : Int32)) hx hb dX4_takes_35 (by decide) ?_
        refine lv_iadd hx hb dX4_takes_36 ?_
        refine q_let h (fun t_taped_37 h => ?_)
        refine va_put (D := D) (ci := 4) (v := .int t_taped_37) (ty := .int) (C := RX4) (T := TX4) (N := 6) hx hb hts in4 tyX4 tyX4_ok nmX4 hown hK hP hD hS 0 rfl rfl 0 (by decide) l27 (fun _ h9 => h9) rfl (by decide +kernel) rfl rfl (Nat.le_of_ble_eq_true rfl) dX4_takes_37 (fun H locs hP hD hS => ?_)
        have hP : va_P D vwCl [(qt 0, .inr (4, oX4 qt t_taped_37)), (qt 2, .inl (cI, 60, .inl t_tape_29))] H := hP
        have hD : va_D A [(qt 0, .inr (4, oX4 qt t_taped_37)), (qt 2, .inl (cI, 60, .inl t_tape_29))] := hD
        refine q_iinc (fun v => [(4, .int v), (0, .ref (qt 0)), (1, .long x1), (3, .int x3)]) hx hb h dX4_takes_40 (by decide) hl (k := 3) rfl (by decide) (fun _ => rfl) (fun x4_40 ls h hl => ?_)
        refine lv_goto (tgt := 3) hx hb dX4_takes_43 (by decide) ?_
        exact ih3 x1 x3 x4_40 t_taped_37 t_tape_29 _ _ _ (lv_sub hl [1, 2, 3, 0] rfl) hP hD hS h
  unfold f4_takes at h
  refine lv_iconst (v := (0 : Int32)) hx hb dX4_takes_0 (by decide) ?_
  refine lv_istore (lv' := [(4, .int ((0 : Int32))), (0, .ref (qt 0)), (1, .long x1), (3, .int x3)]) hx hb dX4_takes_1 hl (by decide) rfl (fun ls hl => ?_)
  exact J3 n x1 x3 ((0 : Int32)) t_taped t_tape _ _ _ (lv_sub hl [1, 2, 3, 0] rfl) hP hD hS h
set_option maxHeartbeats 4000000 in
set_option maxRecDepth 100000 in
theorem c6_feed (l : Launch) (D : va_G) (cI : ClassId) (ad : Nat → Nat) (qp qb qa qt qr qv qh : Nat → Nat) (p_kept : Value) (p_timesKept b_now b_shutTill b_shutBy b_z b_waits t_taped : Int32) (p_errors t_tape : Nat → Int32) (x1 : Int64) (x3 : Int32) (n : Nat) (u : Int32 × Int32 × (Nat → Int32) × (Nat → Int32)) (h : f6_feed n x1 x3 t_taped p_errors t_tape = some u) : q_RW (cE ad) l yX6_feed wsX6_feed (rmq (1)) D cI [.ref (qp 0), .long x1, .int x3] [(qp 0, .inr (6, oX6 qp (qb 0) (qr 0) (qv 0) (qh 0) p_kept p_timesKept)), (qb 0, .inr (1, oX1 qb b_now b_shutTill b_shutBy b_z b_waits (qa 0) (qt 0))), (qt 0, .inr (4, oX4 qt t_taped)), (qp 5, .inl (cI, 7, .inl p_errors)), (qt 2, .inl (cI, 60, .inl t_tape))] [(qp 0, .inr (6, oX6 qp (qb 0) (qr 0) (qv 0) (qh 0) p_kept p_timesKept)), (qb 0, .inr (1, oX1 qb b_now b_shutTill b_shutBy b_z b_waits (qa 0) (qt 0))), (qt 0, .inr (4, oX4 qt u.2.1)), (qp 5, .inl (cI, 7, .inl u.2.2.1)), (qt 2, .inl (cI, 60, .inl u.2.2.2))] u.1 := by
  refine q_startW (fun u : Int32 × Int32 × (Nat → Int32) × (Nat → Int32) => [(qp 0, .inr (6, oX6 qp (qb 0) (qr 0) (qv 0) (qh 0) p_kept p_timesKept)), (qb 0, .inr (1, oX1 qb b_now b_shutTill b_shutBy b_z b_waits (qa 0) (qt 0))), (qt 0, .inr (4, oX4 qt u.2.1)), (qp 5, .inl (cI, 7, .inl u.2.2.1)), (qt 2, .inl (cI, 60, .inl u.2.2.2))]) (fun u => u.1) (cc := cX6_feed) (maxL := 4) (ty := .int) (own := RX6) (by decide) rfl rfl (Nat.le_of_ble_eq_true rfl) rfl (fun p e s m args below meth c Q A hx hb hml hown hts hK hEv hA hret hP hD hS ls hl => ?_)
  have in1 : ∀ w ∈ wsX10, w ∈ wsX6_feed := fun w h => List.mem_cons_of_mem _ (List.mem_append_left _ (List.mem_append_right _ (h)))
  have in4 : ∀ w ∈ wsX40, w ∈ wsX6_feed := fun w h => List.mem_cons_of_mem _ (List.mem_append_right _ (h))
  have in6 : ∀ w ∈ wsX60, w ∈ wsX6_feed := fun w h => List.mem_cons_of_mem _ (List.mem_append_left _ (List.mem_append_left _ (List.mem_append_right _ (h))))
  have l10 := hts (.fieldLink RX6 10 "PageWars" "book" "LPageWars$Book;") (List.mem_of_getElem? (i := 1) rfl)
  have l133 : (Cond.fieldLinkNest RX6 133 "PageWars$Book" "texts" "LPageWars$Texts;" "PageWars").before args s = true := cE_f6_133 hEv
  have l137 : (Cond.fieldLinkNest RX6 137 "PageWars$Texts" "taped" "I" "PageWars").before args s = true := cE_f6_137 hEv
  have J11 : ∀ (t_taped : Int32) (p_errors : (Nat → Int32)) (t_tape : (Nat → Int32)) (H : Heap) (locs : List Loc) (ls : Array Slot), lv_has ls 4 [(0, .ref (qp 0))] → va_P D vwCl [(qp 0, .inr (6, oX6 qp (qb 0) (qr 0) (qv 0) (qh 0) p_kept p_timesKept)), (qb 0, .inr (1, oX1 qb b_now b_shutTill b_shutBy b_z b_waits (qa 0) (qt 0))), (qt 0, .inr (4, oX4 qt t_taped)), (qp 5, .inl (cI, 7, .inl p_errors)), (qt 2, .inl (cI, 60, .inl t_tape))] H → va_D A [(qp 0, .inr (6, oX6 qp (qb 0) (qr 0) (qv 0) (qh 0) p_kept p_timesKept)), (qb 0, .inr (1, oX1 qb b_now b_shutTill b_shutBy b_z b_waits (qa 0) (qt 0))), (qt 0, .inr (4, oX4 qt t_taped)), (qp 5, .inl (cI, 7, .inl p_errors)), (qt 2, .inl (cI, 60, .inl t_tape))] → va_S A s.heap H locs → f6_feed_11 n t_taped p_errors t_tape = some u → W p l e (rmq (1)) s m args below meth c H locs 0 0 Q (F0 m 11 ls []) := by
    intro t_taped p_errors t_tape H locs ls hl hP hD hS h
    unfold f6_feed_11 at h
    refine lv_aload_n hx hb dX6_feed_11 rfl (lv_at hl 0 rfl) ?_
    refine lv_iconst (v := (1 : Int32)) hx hb dX6_feed_12 (by decide) ?_
    refine q_callW2 (cEok ad) (rest := []) (fun u => [(qp 0, .inr (6, oX6 qp (qb 0) (qr 0) (qv 0) (qh 0) p_kept p_timesKept)), (qp 5, .inl (cI, 7, .inl u.2))]) (fun u => u.1) ⟨hx, hb, hml, hown, hts⟩ (fun u hu => c6_error l D cI ad qp qb qr qv qh p_kept p_timesKept p_errors ((1 : Int32)) u hu) (cwV 1 hts gX6_feed_X6_error rfl rfl rfl hdX6_error (rmq_ok (Nat.le_of_ble_eq_true rfl) (Nat.le_of_ble_eq_true rfl))) hK hEv hA hP hD hS [0, 3] (by decide) rfl (fun _ => rfl) (va_recv hK hP (ci := 6) (q0 := 0) rfl rfl) rfl rfl hl.1 (Nat.le_of_ble_eq_true rfl) ⟨Nat.zero_le _, Nat.zero_le _⟩ h dX6_feed_13 (fun t13 p_errors_13 H locs h hP hD hS => ?_)
    have hP : va_P D vwCl [(qp 0, .inr (6, oX6 qp (qb 0) (qr 0) (qv 0) (qh 0) p_kept p_timesKept)), (qb 0, .inr (1, oX1 qb b_now b_shutTill b_shutBy b_z b_waits (qa 0) (qt 0))), (qt 0, .inr (4, oX4 qt t_taped)), (qp 5, .inl (cI, 7, .inl p_errors_13)), (qt 2, .inl (cI, 60, .inl t_tape))] H := hP
    have hD : va_D A [(qp 0, .inr (6, oX6 qp (qb 0) (qr 0) (qv 0) (qh 0) p_kept p_timesKept)), (qb 0, .inr (1, oX1 qb b_now b_shutTill b_shutBy b_z b_waits (qa 0) (qt 0))), (qt 0, .inr (4, oX4 qt t_taped)), (qp 5, .inl (cI, 7, .inl p_errors_13)), (qt 2, .inl (cI, 60, .inl t_tape))] := hD
    exact hret (t13, t_taped, p_errors_13, t_tape) _ _ _ _ (vp_nar_int _) h hP hD hS dX6_feed_16
  unfold f6_feed at h
  refine lv_iload_n hx hb dX6_feed_0 rfl (lv_at hl 2 rfl) ?_
  refine lv_iconst (v := (1 : Int32)) hx hb dX6_feed_1 (by decide) ?_
  refine q_clt hx hb 11 h dX6_feed_2 (by decide) (fun h => ?_) (fun h => ?_)
  · exact J11 t_taped p_errors t_tape _ _ _ (lv_sub hl [0] rfl) hP hD hS h
  · refine lv_iload_n hx hb dX6_feed_5 rfl (lv_at hl 2 rfl) ?_
    refine lv_bipush (v := (8 : Int32)) hx hb dX6_feed_6 (by decide) ?_
    refine q_cle hx hb 17 h dX6_feed_8 (by decide) (fun h => ?_) (fun h => ?_)
    · refine lv_aload_n hx hb dX6_feed_17 rfl (lv_at hl 0 rfl) ?_
      refine va_get (D := D) (ci := 6) (v := .ref (qb 0)) (C := RX6) (T := TX6) (N := 7) hx hb hts in6 hown hK hP 0 rfl rfl 0 (by decide) l10 (fun _ h9 => h9) rfl dX6_feed_18 ?_
      refine va_getN (D := D) (ci := 1) (v := .ref (qt 0)) (C := RX1) (T := TX1) (N := 9) hx hb hts in1 hown hK hP 1 rfl rfl 8 (by decide) l133 (fun _ h9 => h9) rfl dX6_feed_21 ?_
      refine va_getN (D := D) (ci := 4) (v := .int t_taped) (C := RX4) (T := TX4) (N := 6) hx hb hts in4 hown hK hP 2 rfl rfl 0 (by decide) l137 (fun _ h9 => h9) rfl dX6_feed_24 ?_
      refine lv_bipush (v := (60 : Int32)) hx hb dX6_feed_27 (by decide) ?_
      refine lv_iload_n hx hb dX6_feed_29 rfl (lv_at hl 2 rfl) ?_
      refine lv_isub hx hb dX6_feed_30 ?_
      refine q_cle hx hb 40 h dX6_feed_31 (by decide) (fun h => ?_) (fun h => ?_)
      · refine lv_aload_n hx hb dX6_feed_40 rfl (lv_at hl 0 rfl) ?_
        refine va_get (D := D) (ci := 6) (v := .ref (qb 0)) (C := RX6) (T := TX6) (N := 7) hx hb hts in6 hown hK hP 0 rfl rfl 0 (by decide) l10 (fun _ h9 => h9) rfl dX6_feed_41 ?_
        refine va_getN (D := D) (ci := 1) (v := .ref (qt 0)) (C := RX1) (T := TX1) (N := 9) hx hb hts in1 hown hK hP 1 rfl rfl 8 (by decide) l133 (fun _ h9 => h9) rfl dX6_feed_44 ?_
        refine lv_lload_n hx hb dX6_feed_47 rfl (lv_at hl 1 rfl) ?_
        refine lv_iload_n hx hb dX6_feed_48 rfl (lv_at hl 2 rfl) ?_
        refine q_callW3 (cEok ad) (rest := []) (fun u => [(qt 0, .inr (4, oX4 qt u.2.1)), (qt 2, .inl (cI, 60, .inl u.2.2))]) (fun u => u.1) ⟨hx, hb, hml, hown, hts⟩ (fun u hu => c4_takes l D cI ad qt t_taped t_tape x1 x3 n u hu) (cwV 2 hts gX6_feed_X4_takes rfl rfl rfl hdX4_takes (rmq_ok (Nat.le_of_ble_eq_true rfl) (Nat.le_of_ble_eq_true rfl))) hK hEv hA hP hD hS [2, 4] (by decide) rfl (fun _ => rfl) (va_recv hK hP (ci := 4) (q0 := 2) rfl rfl) rfl rfl hl.1 (Nat.le_of_ble_eq_true rfl) ⟨Nat.zero_le _, Nat.zero_le _⟩ h dX6_feed_49 (fun t49 t_taped_49 t_tape_49 H locs h hP hD hS => ?_)
        have hP : va_P D vwCl [(qp 0, .inr (6, oX6 qp (qb 0) (qr 0) (qv 0) (qh 0) p_kept p_timesKept)), (qb 0, .inr (1, oX1 qb b_now b_shutTill b_shutBy b_z b_waits (qa 0) (qt 0))), (qt 0, .inr (4, oX4 qt t_taped_49)), (qp 5, .inl (cI, 7, .inl p_errors)), (qt 2, .inl (cI, 60, .inl t_tape_49))] H := hP
        have hD : va_D A [(qp 0, .inr (6, oX6 qp (qb 0) (qr 0) (qv 0) (qh 0) p_kept p_timesKept)), (qb 0, .inr (1, oX1 qb b_now b_shutTill b_shutBy b_z b_waits (qa 0) (qt 0))), (qt 0, .inr (4, oX4 qt t_taped_49)), (qp 5, .inl (cI, 7, .inl p_errors)), (qt 2, .inl (cI, 60, .inl t_tape_49))] := hD
        exact hret (t49, t_taped_49, p_errors, t_tape_49) _ _ _ _ (vp_nar_int _) h hP hD hS dX6_feed_52
      · refine lv_aload_n hx hb dX6_feed_34 rfl (lv_at hl 0 rfl) ?_
        refine lv_iconst (v := (4 : Int32)) hx hb dX6_feed_35 (by decide) ?_
        refine q_callW2 (cEok ad) (rest := []) (fun u => [(qp 0, .inr (6, oX6 qp (qb 0) (qr 0) (qv 0) (qh 0) p_kept p_timesKept)), (qp 5, .inl (cI, 7, .inl u.2))]) (fun u => u.1) ⟨hx, hb, hml, hown, hts⟩ (fun u hu => c6_error l D cI ad qp qb qr qv qh p_kept p_timesKept p_errors ((4 : Int32)) u hu) (cwV 1 hts gX6_feed_X6_error rfl rfl rfl hdX6_error (rmq_ok (Nat.le_of_ble_eq_true rfl) (Nat.le_of_ble_eq_true rfl))) hK hEv hA hP hD hS [0, 3] (by decide) rfl (fun _ => rfl) (va_recv hK hP (ci := 6) (q0 := 0) rfl rfl) rfl rfl hl.1 (Nat.le_of_ble_eq_true rfl) ⟨Nat.zero_le _, Nat.zero_le _⟩ h dX6_feed_36 (fun t36 p_errors_36 H locs h hP hD hS => ?_)
        have hP : va_P D vwCl [(qp 0, .inr (6, oX6 qp (qb 0) (qr 0) (qv 0) (qh 0) p_kept p_timesKept)), (qb 0, .inr (1, oX1 qb b_now b_shutTill b_shutBy b_z b_waits (qa 0) (qt 0))), (qt 0, .inr (4, oX4 qt t_taped)), (qp 5, .inl (cI, 7, .inl p_errors_36)), (qt 2, .inl (cI, 60, .inl t_tape))] H := hP
        have hD : va_D A [(qp 0, .inr (6, oX6 qp (qb 0) (qr 0) (qv 0) (qh 0) p_kept p_timesKept)), (qb 0, .inr (1, oX1 qb b_now b_shutTill b_shutBy b_z b_waits (qa 0) (qt 0))), (qt 0, .inr (4, oX4 qt t_taped)), (qp 5, .inl (cI, 7, .inl p_errors_36)), (qt 2, .inl (cI, 60, .inl t_tape))] := hD
        exact hret (t36, t_taped, p_errors_36, t_tape) _ _ _ _ (vp_nar_int _) h hP hD hS dX6_feed_39
    · exact J11 t_taped p_errors t_tape _ _ _ (lv_sub hl [0] rfl) hP hD hS h
set_option maxHeartbeats 4000000 in
set_option maxRecDepth 100000 in
theorem c6_isUse (l : Launch) (D : va_G) (cI : ClassId) (ad : Nat → Nat) (x0 : Int32) (u : Int32) (h : f6_isUse x0 = some u) : q_RO (cE ad) l yX6_isUse wsX6_isUse (rmq (0)) D cI [.int x0] [] u := by
  refine q_startR (cc := cX6_isUse) (maxL := 1) (ty := .boolean) (own := RX6) (by decide) rfl rfl (Nat.le_of_ble_eq_true rfl) rfl (fun p e s m args below meth c Q hx hb hml hown hts hP hK hEv hret ls hl => ?_)
  have J15 : ∀ (s0 : Int32) (ls : Array Slot), lv_has ls 1 [] → f6_isUse_15  s0 = some u → W p l e (rmq (0)) s m args below meth c s.heap [] 0 0 Q (F0 m 15 ls [.int s0]) := by
    intro s0  ls hl h
    unfold f6_isUse_15 at h
    obtain ⟨hz, h⟩ := q_bz_of h
    exact hret _ _ _ (q_nz hz) h dX6_isUse_15
  have J14 : ∀  (ls : Array Slot), lv_has ls 1 [] → f6_isUse_14   = some u → W p l e (rmq (0)) s m args below meth c s.heap [] 0 0 Q (F0 m 14 ls []) := by
    intro   ls hl h
    unfold f6_isUse_14 at h
    refine lv_iconst (v := (0 : Int32)) hx hb dX6_isUse_14 (by decide) ?_
    exact J15 ((0 : Int32)) _ (lv_sub hl [] rfl) h
  unfold f6_isUse at h
  refine lv_iload_n hx hb dX6_isUse_0 rfl (lv_at hl 0 rfl) ?_
  refine q_iflt hx hb 14 h dX6_isUse_1 (by decide) (fun h => ?_) (fun h => ?_)
  · exact J14  _ (lv_sub hl [] rfl) h
  · refine lv_iload_n hx hb dX6_isUse_4 rfl (lv_at hl 0 rfl) ?_
    refine lv_bipush (v := (8 : Int32)) hx hb dX6_isUse_5 (by decide) ?_
    refine q_cge hx hb 14 h dX6_isUse_7 (by decide) (fun h => ?_) (fun h => ?_)
    · exact J14  _ (lv_sub hl [] rfl) h
    · refine lv_iconst (v := (1 : Int32)) hx hb dX6_isUse_10 (by decide) ?_
      refine lv_goto (tgt := 15) hx hb dX6_isUse_11 (by decide) ?_
      exact J15 ((1 : Int32)) _ (lv_sub hl [] rfl) h
set_option maxHeartbeats 4000000 in
set_option maxRecDepth 100000 in
theorem c2_sign (l : Launch) (D : va_G) (cI : ClassId) (ad : Nat → Nat) (qr : Nat → Nat) (r_rt r_ni : Nat) (r_at r_coded r_taped : Int32) (r_tape : Nat → Int32) (u : Int32) (h : f2_sign r_at r_taped r_tape = some u) : q_RO (cE ad) l yX2_sign wsX2_sign (rmq (0)) D cI [.ref (qr 0)] [(qr 0, .inr (2, oX2 qr r_at r_coded r_taped r_rt (ad (2 + r_ni)))), (r_rt, .inl (cI, 60, .inl r_tape))] u := by
  refine q_startR (cc := cX2_sign) (maxL := 1) (ty := .int) (own := RX2) (by decide) rfl rfl (Nat.le_of_ble_eq_true rfl) rfl (fun p e s m args below meth c Q hx hb hml hown hts hP hK hEv hret ls hl => ?_)
  have in2 : ∀ w ∈ wsX20, w ∈ wsX2_sign := fun w h => List.mem_cons_of_mem _ (List.mem_append_right _ (h))
  have l9 := hts (.fieldLink RX2 9 "PageWars$Reader" "tape" "[I") (List.mem_of_getElem? (i := 3) rfl)
  have l24 := hts (.fieldLink RX2 24 "PageWars$Reader" "at" "I") (List.mem_of_getElem? (i := 1) rfl)
  have l37 := hts (.fieldLink RX2 37 "PageWars$Reader" "taped" "I") (List.mem_of_getElem? (i := 2) rfl)
  have J36 : ∀ (s0 : Int32) (ls : Array Slot), lv_has ls 1 [(0, .ref (qr 0))] → f2_sign_36 r_at r_taped r_tape s0 = some u → W p l e (rmq (0)) s m args below meth c s.heap [] 0 0 Q (F0 m 36 ls [.int s0]) := by
    intro s0  ls hl h
    unfold f2_sign_36 at h
    exact hret _ _ _ (vp_nar_int _) h dX2_sign_36
  have J35 : ∀  (ls : Array Slot), lv_has ls 1 [(0, .ref (qr 0))] → f2_sign_35 r_at r_taped r_tape  = some u → W p l e (rmq (0)) s m args below meth c s.heap [] 0 0 Q (F0 m 35 ls []) := by
    intro   ls hl h
    unfold f2_sign_35 at h
    refine lv_iconst (v := (-1 : Int32)) hx hb dX2_sign_35 (by decide) ?_
    exact J36 ((-1 : Int32)) _ (lv_sub hl [0] rfl) h
  unfold f2_sign at h
  refine lv_aload_n hx hb dX2_sign_0 rfl (lv_at hl 0 rfl) ?_
  refine va_get (D := D) (ci := 2) (v := .int r_at) (C := RX2) (T := TX2) (N := 6) hx hb hts in2 hown hK hP 0 rfl rfl 0 (by decide) l24 (fun _ h9 => h9) rfl dX2_sign_1 ?_
  refine lv_aload_n hx hb dX2_sign_4 rfl (lv_at hl 0 rfl) ?_
  refine va_get (D := D) (ci := 2) (v := .int r_taped) (C := RX2) (T := TX2) (N := 6) hx hb hts in2 hown hK hP 0 rfl rfl 2 (by decide) l37 (fun _ h9 => h9) rfl dX2_sign_5 ?_
  refine q_cge hx hb 35 h dX2_sign_8 (by decide) (fun h => ?_) (fun h => ?_)
  · exact J35  _ (lv_sub hl [0] rfl) h
  · refine lv_aload_n hx hb dX2_sign_11 rfl (lv_at hl 0 rfl) ?_
    refine va_get (D := D) (ci := 2) (v := .int r_at) (C := RX2) (T := TX2) (N := 6) hx hb hts in2 hown hK hP 0 rfl rfl 0 (by decide) l24 (fun _ h9 => h9) rfl dX2_sign_12 ?_
    refine lv_aload_n hx hb dX2_sign_15 rfl (lv_at hl 0 rfl) ?_
    refine va_get (D := D) (ci := 2) (v := .ref (r_rt)) (C := RX2) (T := TX2) (N := 6) hx hb hts in2 hown hK hP 0 rfl rfl 3 (by decide) l9 (fun _ h9 => h9) rfl dX2_sign_16 ?_
    refine va_alen hx hb hK hP 1 0 rfl (ty := .int) rfl (v := (60 : Int32)) rfl dX2_sign_19 ?_
    refine q_cge hx hb 35 h dX2_sign_20 (by decide) (fun h => ?_) (fun h => ?_)
    · exact J35  _ (lv_sub hl [0] rfl) h
    · refine lv_aload_n hx hb dX2_sign_23 rfl (lv_at hl 0 rfl) ?_
      refine va_get (D := D) (ci := 2) (v := .ref (r_rt)) (C := RX2) (T := TX2) (N := 6) hx hb hts in2 hown hK hP 0 rfl rfl 3 (by decide) l9 (fun _ h9 => h9) rfl dX2_sign_24 ?_
      refine lv_aload_n hx hb dX2_sign_27 rfl (lv_at hl 0 rfl) ?_
      refine va_get (D := D) (ci := 2) (v := .int r_at) (C := RX2) (T := TX2) (N := 6) hx hb hts in2 hown hK hP 0 rfl rfl 0 (by decide) l24 (fun _ h9 => h9) rfl dX2_sign_28 ?_
      refine q_iald hx hb hK hP 1 0 rfl rfl h dX2_sign_31 (fun t31 h => ?_)
      refine lv_goto (tgt := 36) hx hb dX2_sign_32 (by decide) ?_
      exact J36 t31 _ (lv_sub hl [0] rfl) h
set_option maxHeartbeats 4000000 in
set_option maxRecDepth 100000 in
theorem c2_isDigit (l : Launch) (D : va_G) (cI : ClassId) (ad : Nat → Nat) (x0 : Int32) (u : Int32) (h : f2_isDigit x0 = some u) : q_RO (cE ad) l yX2_isDigit wsX2_isDigit (rmq (0)) D cI [.int x0] [] u := by
  refine q_startR (cc := cX2_isDigit) (maxL := 1) (ty := .boolean) (own := RX2) (by decide) rfl rfl (Nat.le_of_ble_eq_true rfl) rfl (fun p e s m args below meth c Q hx hb hml hown hts hP hK hEv hret ls hl => ?_)
  have J17 : ∀ (s0 : Int32) (ls : Array Slot), lv_has ls 1 [] → f2_isDigit_17  s0 = some u → W p l e (rmq (0)) s m args below meth c s.heap [] 0 0 Q (F0 m 17 ls [.int s0]) := by
    intro s0  ls hl h
    unfold f2_isDigit_17 at h
    obtain ⟨hz, h⟩ := q_bz_of h
    exact hret _ _ _ (q_nz hz) h dX2_isDigit_17
  have J16 : ∀  (ls : Array Slot), lv_has ls 1 [] → f2_isDigit_16   = some u → W p l e (rmq (0)) s m args below meth c s.heap [] 0 0 Q (F0 m 16 ls []) := by
    intro   ls hl h
    unfold f2_isDigit_16 at h
    refine lv_iconst (v := (0 : Int32)) hx hb dX2_isDigit_16 (by decide) ?_
    exact J17 ((0 : Int32)) _ (lv_sub hl [] rfl) h
  unfold f2_isDigit at h
  refine lv_iload_n hx hb dX2_isDigit_0 rfl (lv_at hl 0 rfl) ?_
  refine lv_bipush (v := (48 : Int32)) hx hb dX2_isDigit_1 (by decide) ?_
  refine q_clt hx hb 16 h dX2_isDigit_3 (by decide) (fun h => ?_) (fun h => ?_)
  · exact J16  _ (lv_sub hl [] rfl) h
  · refine lv_iload_n hx hb dX2_isDigit_6 rfl (lv_at hl 0 rfl) ?_
    refine lv_bipush (v := (57 : Int32)) hx hb dX2_isDigit_7 (by decide) ?_
    refine q_cgt hx hb 16 h dX2_isDigit_9 (by decide) (fun h => ?_) (fun h => ?_)
    · exact J16  _ (lv_sub hl [] rfl) h
    · refine lv_iconst (v := (1 : Int32)) hx hb dX2_isDigit_12 (by decide) ?_
      refine lv_goto (tgt := 17) hx hb dX2_isDigit_13 (by decide) ?_
      exact J17 ((1 : Int32)) _ (lv_sub hl [] rfl) h
set_option maxHeartbeats 4000000 in
set_option maxRecDepth 100000 in
theorem c2_adds (l : Launch) (D : va_G) (cI : ClassId) (ad : Nat → Nat) (qr : Nat → Nat) (r_rt r_ni : Nat) (r_at r_coded r_taped : Int32) (r_code : Nat → Int32) (x1 : Int32) (u : Int32 × (Nat → Int32)) (h : f2_adds x1 r_coded r_code = some u) : q_RV (cE ad) l yX2_adds wsX2_adds (rmq (0)) D cI [.ref (qr 0), .int x1] [(qr 0, .inr (2, oX2 qr r_at r_coded r_taped r_rt (ad (2 + r_ni)))), (qr 6, .inl (cI, 60, .inl r_code))] [(qr 0, .inr (2, oX2 qr r_at u.1 r_taped r_rt (ad (2 + r_ni)))), (qr 6, .inl (cI, 60, .inl u.2))] := by
  refine q_startV (fun u : Int32 × (Nat → Int32) => [(qr 0, .inr (2, oX2 qr r_at u.1 r_taped r_rt (ad (2 + r_ni)))), (qr 6, .inl (cI, 60, .inl u.2))]) (cc := cX2_adds) (maxL := 2) (own := RX2) (by decide) rfl rfl (Nat.le_of_ble_eq_true rfl) rfl (fun p e s m args below meth c Q A hx hb hml hown hts hK hEv hA hret hP hD hS ls hl => ?_)
  have in2 : ∀ w ∈ wsX20, w ∈ wsX2_adds := fun w h => List.mem_cons_of_mem _ (List.mem_append_right _ (h))
  have l21 := hts (.fieldLink RX2 21 "PageWars$Reader" "code" "[I") (List.mem_of_getElem? (i := 2) rfl)
  have l28 := hts (.fieldLink RX2 28 "PageWars$Reader" "coded" "I") (List.mem_of_getElem? (i := 1) rfl)
  have J29 : ∀ (r_coded : Int32) (r_code : (Nat → Int32)) (H : Heap) (locs : List Loc) (ls : Array Slot), lv_has ls 2 [(0, .ref (qr 0))] → va_P D vwCl [(qr 0, .inr (2, oX2 qr r_at r_coded r_taped r_rt (ad (2 + r_ni)))), (qr 6, .inl (cI, 60, .inl r_code))] H → va_D A [(qr 0, .inr (2, oX2 qr r_at r_coded r_taped r_rt (ad (2 + r_ni)))), (qr 6, .inl (cI, 60, .inl r_code))] → va_S A s.heap H locs → f2_adds_29  r_coded r_code = some u → W p l e (rmq (0)) s m args below meth c H locs 0 0 Q (F0 m 29 ls []) := by
    intro r_coded r_code H locs ls hl hP hD hS h
    unfold f2_adds_29 at h
    exact hret (r_coded, r_code) _ _ _ _ h hP hD hS dX2_adds_29
  unfold f2_adds at h
  refine lv_aload_n hx hb dX2_adds_0 rfl (lv_at hl 0 rfl) ?_
  refine va_get (D := D) (ci := 2) (v := .int r_coded) (C := RX2) (T := TX2) (N := 6) hx hb hts in2 hown hK hP 0 rfl rfl 1 (by decide) l28 (fun _ h9 => h9) rfl dX2_adds_1 ?_
  refine lv_bipush (v := (60 : Int32)) hx hb dX2_adds_4 (by decide) ?_
  refine q_cge hx hb 29 h dX2_adds_6 (by decide) (fun h => ?_) (fun h => ?_)
  · exact J29 r_coded r_code _ _ _ (lv_sub hl [0] rfl) hP hD hS h
  · refine lv_aload_n hx hb dX2_adds_9 rfl (lv_at hl 0 rfl) ?_
    refine va_get (D := D) (ci := 2) (v := .ref (qr 6)) (C := RX2) (T := TX2) (N := 6) hx hb hts in2 hown hK hP 0 rfl rfl 5 (by decide) l21 (fun _ h9 => h9) rfl dX2_adds_10 ?_
    refine lv_aload_n hx hb dX2_adds_13 rfl (lv_at hl 0 rfl) ?_
    refine va_get (D := D) (ci := 2) (v := .int r_coded) (C := RX2) (T := TX2) (N := 6) hx hb hts in2 hown hK hP 0 rfl rfl 1 (by decide) l28 (fun _ h9 => h9) rfl dX2_adds_14 ?_
    refine lv_iload_n hx hb dX2_adds_17 rfl (lv_at hl 1 rfl) ?_
    refine q_iast hx hb hK hP hD hS 1 0 rfl rfl h dX2_adds_18 (fun r_code_18 H locs h hP hD hS => ?_)
    have hP : va_P D vwCl [(qr 0, .inr (2, oX2 qr r_at r_coded r_taped r_rt (ad (2 + r_ni)))), (qr 6, .inl (cI, 60, .inl r_code_18))] H := hP
    have hD : va_D A [(qr 0, .inr (2, oX2 qr r_at r_coded r_taped r_rt (ad (2 + r_ni)))), (qr 6, .inl (cI, 60, .inl r_code_18))] := hD
    refine lv_aload_n hx hb dX2_adds_19 rfl (lv_at hl 0 rfl) ?_
    refine lv_dup hx hb dX2_adds_20 rfl ?_
    refine va_get (D := D) (ci := 2) (v := .int r_coded) (C := RX2) (T := TX2) (N := 6) hx hb hts in2 hown hK hP 0 rfl rfl 1 (by decide) l28 (fun _ h9 => h9) rfl dX2_adds_21 ?_
    refine lv_iconst (v := (1 : Int32)) hx hb dX2_adds_24 (by decide) ?_
    refine lv_iadd hx hb dX2_adds_25 ?_
    refine q_let h (fun r_coded_26 h => ?_)
    refine va_put (D := D) (ci := 2) (v := .int r_coded_26) (ty := .int) (C := RX2) (T := TX2) (N := 6) hx hb hts in2 tyX2 tyX2_ok nmX2 hown hK hP hD hS 0 rfl rfl 1 (by decide) l28 (fun _ h9 => h9) rfl (by decide +kernel) rfl rfl (Nat.le_of_ble_eq_true rfl) dX2_adds_26 (fun H locs hP hD hS => ?_)
    have hP : va_P D vwCl [(qr 0, .inr (2, oX2 qr r_at r_coded_26 r_taped r_rt (ad (2 + r_ni)))), (qr 6, .inl (cI, 60, .inl r_code_18))] H := hP
    have hD : va_D A [(qr 0, .inr (2, oX2 qr r_at r_coded_26 r_taped r_rt (ad (2 + r_ni)))), (qr 6, .inl (cI, 60, .inl r_code_18))] := hD
    exact J29 r_coded_26 r_code_18 _ _ _ (lv_sub hl [0] rfl) hP hD hS h
set_option maxHeartbeats 4000000 in
set_option maxRecDepth 100000 in
theorem c2_readsNumber (l : Launch) (D : va_G) (cI : ClassId) (ad : Nat → Nat) (qr : Nat → Nat) (r_rt r_ni : Nat) (r_at r_coded r_taped : Int32) (r_tape r_code : Nat → Int32) (n : Nat) (u : Int32 × Int32 × (Nat → Int32)) (h : f2_readsNumber n r_at r_coded r_taped r_tape r_code = some u) : q_RV (cE ad) l yX2_readsNumber wsX2_readsNumber (rmq (1)) D cI [.ref (qr 0)] [(qr 0, .inr (2, oX2 qr r_at r_coded r_taped r_rt (ad (2 + r_ni)))), (r_rt, .inl (cI, 60, .inl r_tape)), (qr 6, .inl (cI, 60, .inl r_code))] [(qr 0, .inr (2, oX2 qr u.1 u.2.1 r_taped r_rt (ad (2 + r_ni)))), (r_rt, .inl (cI, 60, .inl r_tape)), (qr 6, .inl (cI, 60, .inl u.2.2))] := by
  refine q_startV (fun u : Int32 × Int32 × (Nat → Int32) => [(qr 0, .inr (2, oX2 qr u.1 u.2.1 r_taped r_rt (ad (2 + r_ni)))), (r_rt, .inl (cI, 60, .inl r_tape)), (qr 6, .inl (cI, 60, .inl u.2.2))]) (cc := cX2_readsNumber) (maxL := 3) (own := RX2) (by decide) rfl rfl (Nat.le_of_ble_eq_true rfl) rfl (fun p e s m args below meth c Q A hx hb hml hown hts hK hEv hA hret hP hD hS ls hl => ?_)
  have in2 : ∀ w ∈ wsX20, w ∈ wsX2_readsNumber := fun w h => List.mem_cons_of_mem _ (List.mem_append_right _ (h))
  have l24 := hts (.fieldLink RX2 24 "PageWars$Reader" "at" "I") (List.mem_of_getElem? (i := 1) rfl)
  have J48 : ∀ (x1 : Int32) (r_at : Int32) (r_coded : Int32) (r_code : (Nat → Int32)) (H : Heap) (locs : List Loc) (ls : Array Slot), lv_has ls 3 [(0, .ref (qr 0)), (1, .int x1)] → va_P D vwCl [(qr 0, .inr (2, oX2 qr r_at r_coded r_taped r_rt (ad (2 + r_ni)))), (r_rt, .inl (cI, 60, .inl r_tape)), (qr 6, .inl (cI, 60, .inl r_code))] H → va_D A [(qr 0, .inr (2, oX2 qr r_at r_coded r_taped r_rt (ad (2 + r_ni)))), (r_rt, .inl (cI, 60, .inl r_tape)), (qr 6, .inl (cI, 60, .inl r_code))] → va_S A s.heap H locs → f2_readsNumber_48 n r_taped r_tape x1 r_at r_coded r_code = some u → W p l e (rmq (1)) s m args below meth c H locs 0 0 Q (F0 m 48 ls []) := by
    intro x1 r_at r_coded r_code H locs ls hl hP hD hS h
    unfold f2_readsNumber_48 at h
    refine lv_aload_n hx hb dX2_readsNumber_48 rfl (lv_at hl 0 rfl) ?_
    refine lv_iload_n hx hb dX2_readsNumber_49 rfl (lv_at hl 1 rfl) ?_
    refine q_callV2 (cEok ad) (rest := []) (fun u => [(qr 0, .inr (2, oX2 qr r_at u.1 r_taped r_rt (ad (2 + r_ni)))), (qr 6, .inl (cI, 60, .inl u.2))]) ⟨hx, hb, hml, hown, hts⟩ (fun u hu => c2_adds l D cI ad qr r_rt r_ni r_at r_coded r_taped r_code x1 u hu) (cwV 1 hts gX2_readsNumber_X2_adds rfl rfl rfl hdX2_adds (rmq_ok (Nat.le_of_ble_eq_true rfl) (Nat.le_of_ble_eq_true rfl))) hK hEv hA hP hD hS [0, 2] (by decide) rfl (fun _ => rfl) (va_recv hK hP (ci := 2) (q0 := 0) rfl rfl) rfl rfl hl.1 (Nat.le_of_ble_eq_true rfl) ⟨Nat.zero_le _, Nat.zero_le _⟩ h dX2_readsNumber_50 (fun r_coded_50 r_code_50 H locs h hP hD hS => ?_)
    have hP : va_P D vwCl [(qr 0, .inr (2, oX2 qr r_at r_coded_50 r_taped r_rt (ad (2 + r_ni)))), (r_rt, .inl (cI, 60, .inl r_tape)), (qr 6, .inl (cI, 60, .inl r_code_50))] H := hP
    have hD : va_D A [(qr 0, .inr (2, oX2 qr r_at r_coded_50 r_taped r_rt (ad (2 + r_ni)))), (r_rt, .inl (cI, 60, .inl r_tape)), (qr 6, .inl (cI, 60, .inl r_code_50))] := hD
    exact hret (r_at, r_coded_50, r_code_50) _ _ _ _ h hP hD hS dX2_readsNumber_53
  have J4 : ∀ (kk4 : Nat) (x1 : Int32) (x2 : Int32) (r_at : Int32) (r_coded : Int32) (r_code : (Nat → Int32)) (H : Heap) (locs : List Loc) (ls : Array Slot), lv_has ls 3 [(0, .ref (qr 0)), (1, .int x1), (2, .int x2)] → va_P D vwCl [(qr 0, .inr (2, oX2 qr r_at r_coded r_taped r_rt (ad (2 + r_ni)))), (r_rt, .inl (cI, 60, .inl r_tape)), (qr 6, .inl (cI, 60, .inl r_code))] H → va_D A [(qr 0, .inr (2, oX2 qr r_at r_coded r_taped r_rt (ad (2 + r_ni)))), (r_rt, .inl (cI, 60, .inl r_tape)), (qr 6, .inl (cI, 60, .inl r_code))] → va_S A s.heap H locs → f2_readsNumber_4 n r_taped r_tape kk4 x1 x2 r_at r_coded r_code = some u → W p l e (rmq (1)) s m args below meth c H locs 0 0 Q (F0 m 4 ls []) := by
    intro kk4
    induction kk4 with
    | zero => intro x1 x2 r_at r_coded r_code H locs ls hl hP hD hS h; exact nomatch (show (none : Option (Int32 × Int32 × (Nat → Int32))) = some u from h)
    | succ kk4 ih4 =>
      intro x1 x2 r_at r_coded r_code H locs ls hl hP hD hS h
      rw [f2_readsNumber_4.eq_2] at h
      refine lv_iload_n hx hb dX2_readsNumber_4 rfl (lv_at hl 2 rfl) ?_
      refine lv_iconst (v := (4 : Int32)) hx hb dX2_readsNumber_5 (by decide) ?_
      refine q_cge hx hb 48 h dX2_readsNumber_6 (by decide) (fun h => ?_) (fun h => ?_)
      · exact J48 x1 r_at r_coded r_code _ _ _ (lv_sub hl [0, 1] rfl) hP hD hS h
      · refine lv_aload_n hx hb dX2_readsNumber_9 rfl (lv_at hl 0 rfl) ?_
        refine q_callR (cEok ad) (rest := []) ⟨hx, hb, hml, hown, hts⟩ (fun r hr => c2_sign l D cI ad qr r_rt r_ni r_at r_coded r_taped r_tape r hr) (cwV 0 hts gX2_readsNumber_X2_sign rfl rfl rfl hdX2_sign (rmq_ok (Nat.le_of_ble_eq_true rfl) (Nat.le_of_ble_eq_true rfl))) hK hP hEv hS [0, 1] rfl (va_recv hK hP (ci := 2) (q0 := 0) rfl rfl) rfl rfl hl.1 (Nat.le_of_ble_eq_true rfl) ⟨Nat.zero_le _, Nat.zero_le _⟩ h dX2_readsNumber_10 (fun t10 h => ?_)
        refine q_callRS (cEok ad) (rest := []) ⟨hx, hb, hml, hown, hts⟩ (fun r hr => c2_isDigit l D cI ad t10 r hr) (va_cwS 1 hts gX2_readsNumber_X2_isDigit rfl rfl rfl hdX2_isDigit (rmq_ok (Nat.le_of_ble_eq_true rfl) (Nat.le_of_ble_eq_true rfl))) hK hP hEv hS [] rfl rfl rfl hl.1 (Nat.le_of_ble_eq_true rfl) ⟨Nat.zero_le _, Nat.zero_le _⟩ h dX2_readsNumber_13 (fun t13 h => ?_)
        refine q_ifeq hx hb 48 h dX2_readsNumber_16 (by decide) (fun h => ?_) (fun h => ?_)
        · exact J48 x1 r_at r_coded r_code _ _ _ (lv_sub hl [0, 1] rfl) hP hD hS h
        · refine lv_iload_n hx hb dX2_readsNumber_19 rfl (lv_at hl 1 rfl) ?_
          refine lv_bipush (v := (10 : Int32)) hx hb dX2_readsNumber_20 (by decide) ?_
          refine lv_imul hx hb dX2_readsNumber_22 ?_
          refine lv_aload_n hx hb dX2_readsNumber_23 rfl (lv_at hl 0 rfl) ?_
          refine q_callR (cEok ad) (rest := [.int (x1 * ((10 : Int32)))]) ⟨hx, hb, hml, hown, hts⟩ (fun r hr => c2_sign l D cI ad qr r_rt r_ni r_at r_coded r_taped r_tape r hr) (cwV 0 hts gX2_readsNumber_X2_sign rfl rfl rfl hdX2_sign (rmq_ok (Nat.le_of_ble_eq_true rfl) (Nat.le_of_ble_eq_true rfl))) hK hP hEv hS [0, 1] rfl (va_recv hK hP (ci := 2) (q0 := 0) rfl rfl) rfl rfl hl.1 (Nat.le_of_ble_eq_true rfl) ⟨Nat.zero_le _, Nat.zero_le _⟩ h dX2_readsNumber_24 (fun t24 h => ?_)
          refine lv_iadd hx hb dX2_readsNumber_27 ?_
          refine lv_bipush (v := (48 : Int32)) hx hb dX2_readsNumber_28 (by decide) ?_
          refine lv_isub hx hb dX2_readsNumber_30 ?_
          refine q_let h (fun x1_31 h => ?_)
          refine lv_istore_n (lv' := [(1, .int x1_31), (0, .ref (qr 0)), (2, .int x2)]) hx hb dX2_readsNumber_31 rfl hl (by decide) rfl (fun ls hl => ?_)
          refine lv_aload_n hx hb dX2_readsNumber_32 rfl (lv_at hl 1 rfl) ?_
          refine lv_dup hx hb dX2_readsNumber_33 rfl ?_
          refine va_get (D := D) (ci := 2) (v := .int r_at) (C := RX2) (T := TX2) (N := 6) hx hb hts in2 hown hK hP 0 rfl rfl 0 (by decide) l24 (fun _ h9 => h9) rfl dX2_readsNumber_34 ?_
          refine lv_iconst (v := (1 : Int32)) hx hb dX2_readsNumber_37 (by decide) ?_
          refine lv_iadd hx hb dX2_readsNumber_38 ?_
          refine q_let h (fun r_at_39 h => ?_)
          refine va_put (D := D) (ci := 2) (v := .int r_at_39) (ty := .int) (C := RX2) (T := TX2) (N := 6) hx hb hts in2 tyX2 tyX2_ok nmX2 hown hK hP hD hS 0 rfl rfl 0 (by decide) l24 (fun _ h9 => h9) rfl (by decide +kernel) rfl rfl (Nat.le_of_ble_eq_true rfl) dX2_readsNumber_39 (fun H locs hP hD hS => ?_)
          have hP : va_P D vwCl [(qr 0, .inr (2, oX2 qr r_at_39 r_coded r_taped r_rt (ad (2 + r_ni)))), (r_rt, .inl (cI, 60, .inl r_tape)), (qr 6, .inl (cI, 60, .inl r_code))] H := hP
          have hD : va_D A [(qr 0, .inr (2, oX2 qr r_at_39 r_coded r_taped r_rt (ad (2 + r_ni)))), (r_rt, .inl (cI, 60, .inl r_tape)), (qr 6, .inl (cI, 60, .inl r_code))] := hD
          refine q_iinc (fun v => [(2, .int v), (1, .int x1_31), (0, .ref (qr 0))]) hx hb h dX2_readsNumber_42 (by decide) hl (k := 2) rfl (by decide) (fun _ => rfl) (fun x2_42 ls h hl => ?_)
          refine lv_goto (tgt := 4) hx hb dX2_readsNumber_45 (by decide) ?_
          exact ih4 x1_31 x2_42 r_at_39 r_coded r_code _ _ _ (lv_sub hl [2, 1, 0] rfl) hP hD hS h
  unfold f2_readsNumber at h
  refine lv_iconst (v := (0 : Int32)) hx hb dX2_readsNumber_0 (by decide) ?_
  refine lv_istore_n (lv' := [(1, .int ((0 : Int32))), (0, .ref (qr 0))]) hx hb dX2_readsNumber_1 rfl hl (by decide) rfl (fun ls hl => ?_)
  refine lv_iconst (v := (0 : Int32)) hx hb dX2_readsNumber_2 (by decide) ?_
  refine lv_istore_n (lv' := [(2, .int ((0 : Int32))), (1, .int ((0 : Int32))), (0, .ref (qr 0))]) hx hb dX2_readsNumber_3 rfl hl (by decide) rfl (fun ls hl => ?_)
  exact J4 n ((0 : Int32)) ((0 : Int32)) r_at r_coded r_code _ _ _ (lv_sub hl [2, 1, 0] rfl) hP hD hS h
set_option maxHeartbeats 4000000 in
set_option maxRecDepth 100000 in
theorem c2_isJoining (l : Launch) (D : va_G) (cI : ClassId) (ad : Nat → Nat) (qr : Nat → Nat) (r_rt r_ni : Nat) (r_at r_coded r_taped : Int32) (r_tape : Nat → Int32) (x1 : Int32) (u : Int32) (h : f2_isJoining x1 r_at r_taped r_tape = some u) : q_RO (cE ad) l yX2_isJoining wsX2_isJoining (rmq (1)) D cI [.ref (qr 0), .int x1] [(qr 0, .inr (2, oX2 qr r_at r_coded r_taped r_rt (ad (2 + r_ni)))), (r_rt, .inl (cI, 60, .inl r_tape))] u := by
  refine q_startR (cc := cX2_isJoining) (maxL := 3) (ty := .boolean) (own := RX2) (by decide) rfl rfl (Nat.le_of_ble_eq_true rfl) rfl (fun p e s m args below meth c Q hx hb hml hown hts hP hK hEv hret ls hl => ?_)
  have in2 : ∀ w ∈ wsX20, w ∈ wsX2_isJoining := fun w h => List.mem_cons_of_mem _ (List.mem_append_right _ (h))
  have J125 : ∀ (s0 : Int32) (ls : Array Slot), lv_has ls 3 [(0, .ref (qr 0))] → f2_isJoining_125 r_at r_taped r_tape s0 = some u → W p l e (rmq (1)) s m args below meth c s.heap [] 0 0 Q (F0 m 125 ls [.int s0]) := by
    intro s0  ls hl h
    unfold f2_isJoining_125 at h
    obtain ⟨hz, h⟩ := q_bz_of h
    exact hret _ _ _ (q_nz hz) h dX2_isJoining_125
  have J120 : ∀  (ls : Array Slot), lv_has ls 3 [(0, .ref (qr 0))] → f2_isJoining_120 r_at r_taped r_tape  = some u → W p l e (rmq (1)) s m args below meth c s.heap [] 0 0 Q (F0 m 120 ls []) := by
    intro   ls hl h
    unfold f2_isJoining_120 at h
    refine lv_iconst (v := (1 : Int32)) hx hb dX2_isJoining_120 (by decide) ?_
    refine lv_goto (tgt := 125) hx hb dX2_isJoining_121 (by decide) ?_
    exact J125 ((1 : Int32)) _ (lv_sub hl [0] rfl) h
  have J101 : ∀ (s0 : Int32) (ls : Array Slot), lv_has ls 3 [(0, .ref (qr 0))] → f2_isJoining_101 r_at r_taped r_tape s0 = some u → W p l e (rmq (1)) s m args below meth c s.heap [] 0 0 Q (F0 m 101 ls [.int s0]) := by
    intro s0  ls hl h
    unfold f2_isJoining_101 at h
    obtain ⟨hz, h⟩ := q_bz_of h
    exact hret _ _ _ (q_nz hz) h dX2_isJoining_101
  have J96 : ∀  (ls : Array Slot), lv_has ls 3 [(0, .ref (qr 0))] → f2_isJoining_96 r_at r_taped r_tape  = some u → W p l e (rmq (1)) s m args below meth c s.heap [] 0 0 Q (F0 m 96 ls []) := by
    intro   ls hl h
    unfold f2_isJoining_96 at h
    refine lv_iconst (v := (1 : Int32)) hx hb dX2_isJoining_96 (by decide) ?_
    refine lv_goto (tgt := 101) hx hb dX2_isJoining_97 (by decide) ?_
    exact J101 ((1 : Int32)) _ (lv_sub hl [0] rfl) h
  have J83 : ∀ (s0 : Int32) (ls : Array Slot), lv_has ls 3 [(0, .ref (qr 0))] → f2_isJoining_83 r_at r_taped r_tape s0 = some u → W p l e (rmq (1)) s m args below meth c s.heap [] 0 0 Q (F0 m 83 ls [.int s0]) := by
    intro s0  ls hl h
    unfold f2_isJoining_83 at h
    obtain ⟨hz, h⟩ := q_bz_of h
    exact hret _ _ _ (q_nz hz) h dX2_isJoining_83
  have J78 : ∀  (ls : Array Slot), lv_has ls 3 [(0, .ref (qr 0))] → f2_isJoining_78 r_at r_taped r_tape  = some u → W p l e (rmq (1)) s m args below meth c s.heap [] 0 0 Q (F0 m 78 ls []) := by
    intro   ls hl h
    unfold f2_isJoining_78 at h
    refine lv_iconst (v := (1 : Int32)) hx hb dX2_isJoining_78 (by decide) ?_
    refine lv_goto (tgt := 83) hx hb dX2_isJoining_79 (by decide) ?_
    exact J83 ((1 : Int32)) _ (lv_sub hl [0] rfl) h
  have J59 : ∀ (s0 : Int32) (ls : Array Slot), lv_has ls 3 [(0, .ref (qr 0))] → f2_isJoining_59 r_at r_taped r_tape s0 = some u → W p l e (rmq (1)) s m args below meth c s.heap [] 0 0 Q (F0 m 59 ls [.int s0]) := by
    intro s0  ls hl h
    unfold f2_isJoining_59 at h
    obtain ⟨hz, h⟩ := q_bz_of h
    exact hret _ _ _ (q_nz hz) h dX2_isJoining_59
  have J47 : ∀ (s0 : Int32) (ls : Array Slot), lv_has ls 3 [(0, .ref (qr 0))] → f2_isJoining_47 r_at r_taped r_tape s0 = some u → W p l e (rmq (1)) s m args below meth c s.heap [] 0 0 Q (F0 m 47 ls [.int s0]) := by
    intro s0  ls hl h
    unfold f2_isJoining_47 at h
    obtain ⟨hz, h⟩ := q_bz_of h
    exact hret _ _ _ (q_nz hz) h dX2_isJoining_47
  unfold f2_isJoining at h
  refine lv_aload_n hx hb dX2_isJoining_0 rfl (lv_at hl 0 rfl) ?_
  refine q_callR (cEok ad) (rest := []) ⟨hx, hb, hml, hown, hts⟩ (fun r hr => c2_sign l D cI ad qr r_rt r_ni r_at r_coded r_taped r_tape r hr) (cwV 0 hts gX2_isJoining_X2_sign rfl rfl rfl hdX2_sign (rmq_ok (Nat.le_of_ble_eq_true rfl) (Nat.le_of_ble_eq_true rfl))) hK hP hEv va_S.rf [0, 1] rfl (va_recv hK hP (ci := 2) (q0 := 0) rfl rfl) rfl rfl hl.1 (Nat.le_of_ble_eq_true rfl) ⟨Nat.zero_le _, Nat.zero_le _⟩ h dX2_isJoining_1 (fun t1 h => ?_)
  refine lv_istore_n (lv' := [(2, .int t1), (0, .ref (qr 0)), (1, .int x1)]) hx hb dX2_isJoining_4 rfl hl (by decide) rfl (fun ls hl => ?_)
  refine lv_iload_n hx hb dX2_isJoining_5 rfl (lv_at hl 2 rfl) ?_
  rcases Decidable.em (x1 = (0 : Int32)) with w0 | w0
  · have h := q_t h w0
    refine lv_tableIn hx hb dX2_isJoining_6 (off := 30) (tgt := 36) (by rw [w0]; decide) (by rw [w0]; decide) (by rw [w0]; rfl) (by decide) ?_
    refine lv_iload_n hx hb dX2_isJoining_36 rfl (lv_at hl 0 rfl) ?_
    refine lv_bipush (v := (124 : Int32)) hx hb dX2_isJoining_37 (by decide) ?_
    refine q_cne hx hb 46 h dX2_isJoining_39 (by decide) (fun h => ?_) (fun h => ?_)
    · refine lv_iconst (v := (0 : Int32)) hx hb dX2_isJoining_46 (by decide) ?_
      exact J47 ((0 : Int32)) _ (lv_sub hl [1] rfl) h
    · refine lv_iconst (v := (1 : Int32)) hx hb dX2_isJoining_42 (by decide) ?_
      refine lv_goto (tgt := 47) hx hb dX2_isJoining_43 (by decide) ?_
      exact J47 ((1 : Int32)) _ (lv_sub hl [1] rfl) h
  have h := q_f h w0
  rcases Decidable.em (x1 = (1 : Int32)) with w1 | w1
  · have h := q_t h w1
    refine lv_tableIn hx hb dX2_isJoining_6 (off := 42) (tgt := 48) (by rw [w1]; decide) (by rw [w1]; decide) (by rw [w1]; rfl) (by decide) ?_
    refine lv_iload_n hx hb dX2_isJoining_48 rfl (lv_at hl 0 rfl) ?_
    refine lv_bipush (v := (38 : Int32)) hx hb dX2_isJoining_49 (by decide) ?_
    refine q_cne hx hb 58 h dX2_isJoining_51 (by decide) (fun h => ?_) (fun h => ?_)
    · refine lv_iconst (v := (0 : Int32)) hx hb dX2_isJoining_58 (by decide) ?_
      exact J59 ((0 : Int32)) _ (lv_sub hl [1] rfl) h
    · refine lv_iconst (v := (1 : Int32)) hx hb dX2_isJoining_54 (by decide) ?_
      refine lv_goto (tgt := 59) hx hb dX2_isJoining_55 (by decide) ?_
      exact J59 ((1 : Int32)) _ (lv_sub hl [1] rfl) h
  have h := q_f h w1
  rcases Decidable.em (x1 = (2 : Int32)) with w2 | w2
  · have h := q_t h w2
    refine lv_tableIn hx hb dX2_isJoining_6 (off := 54) (tgt := 60) (by rw [w2]; decide) (by rw [w2]; decide) (by rw [w2]; rfl) (by decide) ?_
    refine lv_iload_n hx hb dX2_isJoining_60 rfl (lv_at hl 0 rfl) ?_
    refine lv_bipush (v := (60 : Int32)) hx hb dX2_isJoining_61 (by decide) ?_
    refine q_ceq hx hb 78 h dX2_isJoining_63 (by decide) (fun h => ?_) (fun h => ?_)
    · exact J78  _ (lv_sub hl [1] rfl) h
    · refine lv_iload_n hx hb dX2_isJoining_66 rfl (lv_at hl 0 rfl) ?_
      refine lv_bipush (v := (61 : Int32)) hx hb dX2_isJoining_67 (by decide) ?_
      refine q_ceq hx hb 78 h dX2_isJoining_69 (by decide) (fun h => ?_) (fun h => ?_)
      · exact J78  _ (lv_sub hl [1] rfl) h
      · refine lv_iload_n hx hb dX2_isJoining_72 rfl (lv_at hl 0 rfl) ?_
        refine lv_bipush (v := (62 : Int32)) hx hb dX2_isJoining_73 (by decide) ?_
        refine q_cne hx hb 82 h dX2_isJoining_75 (by decide) (fun h => ?_) (fun h => ?_)
        · refine lv_iconst (v := (0 : Int32)) hx hb dX2_isJoining_82 (by decide) ?_
          exact J83 ((0 : Int32)) _ (lv_sub hl [1] rfl) h
        · exact J78  _ (lv_sub hl [1] rfl) h
  have h := q_f h w2
  rcases Decidable.em (x1 = (3 : Int32)) with w3 | w3
  · have h := q_t h w3
    refine lv_tableIn hx hb dX2_isJoining_6 (off := 78) (tgt := 84) (by rw [w3]; decide) (by rw [w3]; decide) (by rw [w3]; rfl) (by decide) ?_
    refine lv_iload_n hx hb dX2_isJoining_84 rfl (lv_at hl 0 rfl) ?_
    refine lv_bipush (v := (43 : Int32)) hx hb dX2_isJoining_85 (by decide) ?_
    refine q_ceq hx hb 96 h dX2_isJoining_87 (by decide) (fun h => ?_) (fun h => ?_)
    · exact J96  _ (lv_sub hl [1] rfl) h
    · refine lv_iload_n hx hb dX2_isJoining_90 rfl (lv_at hl 0 rfl) ?_
      refine lv_bipush (v := (45 : Int32)) hx hb dX2_isJoining_91 (by decide) ?_
      refine q_cne hx hb 100 h dX2_isJoining_93 (by decide) (fun h => ?_) (fun h => ?_)
      · refine lv_iconst (v := (0 : Int32)) hx hb dX2_isJoining_100 (by decide) ?_
        exact J101 ((0 : Int32)) _ (lv_sub hl [1] rfl) h
      · exact J96  _ (lv_sub hl [1] rfl) h
  have h := q_f h w3
  refine lv_tableOut hx hb dX2_isJoining_6 (tgt := 102) (q_out (fun k hk e => ?_)) (by decide) ?_
  · rcases (show k = 0 ∨ k = 1 ∨ k = 2 ∨ k = 3 by omega) with rfl | rfl | rfl | rfl
    · exact w0 (Int32.toInt_inj.mp (e.trans (by decide)))
    · exact w1 (Int32.toInt_inj.mp (e.trans (by decide)))
    · exact w2 (Int32.toInt_inj.mp (e.trans (by decide)))
    · exact w3 (Int32.toInt_inj.mp (e.trans (by decide)))
  · refine lv_iload_n hx hb dX2_isJoining_102 rfl (lv_at hl 0 rfl) ?_
    refine lv_bipush (v := (42 : Int32)) hx hb dX2_isJoining_103 (by decide) ?_
    refine q_ceq hx hb 120 h dX2_isJoining_105 (by decide) (fun h => ?_) (fun h => ?_)
    · exact J120  _ (lv_sub hl [1] rfl) h
    · refine lv_iload_n hx hb dX2_isJoining_108 rfl (lv_at hl 0 rfl) ?_
      refine lv_bipush (v := (47 : Int32)) hx hb dX2_isJoining_109 (by decide) ?_
      refine q_ceq hx hb 120 h dX2_isJoining_111 (by decide) (fun h => ?_) (fun h => ?_)
      · exact J120  _ (lv_sub hl [1] rfl) h
      · refine lv_iload_n hx hb dX2_isJoining_114 rfl (lv_at hl 0 rfl) ?_
        refine lv_bipush (v := (37 : Int32)) hx hb dX2_isJoining_115 (by decide) ?_
        refine q_cne hx hb 124 h dX2_isJoining_117 (by decide) (fun h => ?_) (fun h => ?_)
        · refine lv_iconst (v := (0 : Int32)) hx hb dX2_isJoining_124 (by decide) ?_
          exact J125 ((0 : Int32)) _ (lv_sub hl [1] rfl) h
        · exact J120  _ (lv_sub hl [1] rfl) h
