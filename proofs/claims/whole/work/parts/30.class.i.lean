set_option maxHeartbeats 4000000 in
set_option maxRecDepth 100000 in
theorem c6_voice (l : Launch) (D : va_G) (cI : ClassId) (ad : Nat → Nat) (qp qb qa qt qr qv qh : Nat → Nat) (p_kept : Value) (p_timesKept b_now b_shutTill b_shutBy b_z b_waits a_done v_kind v_number v_writer v_parted v_traced : Int32) (p_errors a_kinds a_writers v_trace : Nat → Int32) (x1 : Int32) (x2 : Int32) (x3 : Int32) (n : Nat) (u : Int32 × Int32 × Int32 × Int32 × Int32 × Int32 × (Nat → Int32) × (Nat → Int32)) (h : f6_voice n x1 x2 x3 a_done v_kind v_number v_writer v_parted v_traced p_errors a_kinds a_writers v_trace = some u) : q_RW (cE ad) l yX6_voice wsX6_voice (rmq (50)) D cI [.ref (qp 0), .int x1, .int x2, .int x3] [(qp 0, .inr (6, oX6 qp (qb 0) (qr 0) (qv 0) (qh 0) p_kept p_timesKept)), (qb 0, .inr (1, oX1 qb b_now b_shutTill b_shutBy b_z b_waits (qa 0) (qt 0))), (qa 0, .inr (0, oX0 qa a_done)), (qv 0, .inr (5, oX5 qv v_kind v_number v_writer v_parted v_traced)), (qp 5, .inl (cI, 7, .inl p_errors)), (qa 2, .inl (cI, 60, .inl a_kinds)), (qa 3, .inl (cI, 60, .inl a_writers)), (qv 6, .inl (cI, 30, .inl v_trace))] [(qp 0, .inr (6, oX6 qp (qb 0) (qr 0) (qv 0) (qh 0) p_kept p_timesKept)), (qb 0, .inr (1, oX1 qb b_now b_shutTill b_shutBy b_z b_waits (qa 0) (qt 0))), (qa 0, .inr (0, oX0 qa a_done)), (qv 0, .inr (5, oX5 qv u.2.1 u.2.2.1 u.2.2.2.1 u.2.2.2.2.1 u.2.2.2.2.2.1)), (qp 5, .inl (cI, 7, .inl u.2.2.2.2.2.2.1)), (qa 2, .inl (cI, 60, .inl a_kinds)), (qa 3, .inl (cI, 60, .inl a_writers)), (qv 6, .inl (cI, 30, .inl u.2.2.2.2.2.2.2))] u.1 := by
  refine q_startW (fun u : Int32 × Int32 × Int32 × Int32 × Int32 × Int32 × (Nat → Int32) × (Nat → Int32) => [(qp 0, .inr (6, oX6 qp (qb 0) (qr 0) (qv 0) (qh 0) p_kept p_timesKept)), (qb 0, .inr (1, oX1 qb b_now b_shutTill b_shutBy b_z b_waits (qa 0) (qt 0))), (qa 0, .inr (0, oX0 qa a_done)), (qv 0, .inr (5, oX5 qv u.2.1 u.2.2.1 u.2.2.2.1 u.2.2.2.2.1 u.2.2.2.2.2.1)), (qp 5, .inl (cI, 7, .inl u.2.2.2.2.2.2.1)), (qa 2, .inl (cI, 60, .inl a_kinds)), (qa 3, .inl (cI, 60, .inl a_writers)), (qv 6, .inl (cI, 30, .inl u.2.2.2.2.2.2.2))]) (fun u => u.1) (cc := cX6_voice) (maxL := 5) (ty := .int) (own := RX6) (by decide) rfl rfl (Nat.le_of_ble_eq_true rfl) rfl (fun p e s m args below meth c Q A hx hb hml hown hts hK hEv hA hret hP hD hS ls hl => ?_)
  have in0 : ∀ w ∈ wsX00, w ∈ wsX6_voice := fun w h => List.mem_cons_of_mem _ (List.mem_append_right _ (h))
  have in1 : ∀ w ∈ wsX10, w ∈ wsX6_voice := fun w h => List.mem_cons_of_mem _ (List.mem_append_left _ (List.mem_append_left _ (List.mem_append_right _ (h))))
  have in5 : ∀ w ∈ wsX50, w ∈ wsX6_voice := fun w h => List.mem_cons_of_mem _ (List.mem_append_left _ (List.mem_append_right _ (h)))
  have in6 : ∀ w ∈ wsX60, w ∈ wsX6_voice := fun w h => List.mem_cons_of_mem _ (List.mem_append_left _ (List.mem_append_left _ (List.mem_append_left _ (List.mem_append_right _ (h)))))
  have l10 := hts (.fieldLink RX6 10 "PageWars" "book" "LPageWars$Book;") (List.mem_of_getElem? (i := 2) rfl)
  have l26 := hts (.fieldLink RX6 26 "PageWars" "voices" "LPageWars$Voices;") (List.mem_of_getElem? (i := 1) rfl)
  have l63 : (Cond.fieldLinkNest RX6 63 "PageWars$Book" "acts" "LPageWars$Acts;" "PageWars").before args s = true := cE_f6_63 hEv
  have l250 : (Cond.fieldLinkNest RX6 250 "PageWars$Voices" "parted" "Z" "PageWars").before args s = true := cE_f6_250 hEv
  have J63 : ∀ (s0 : Int32) (v_kind : Int32) (v_number : Int32) (v_writer : Int32) (v_parted : Int32) (v_traced : Int32) (p_errors : (Nat → Int32)) (v_trace : (Nat → Int32)) (H : Heap) (locs : List Loc) (ls : Array Slot), lv_has ls 5 [(0, .ref (qp 0))] → va_P D vwCl [(qp 0, .inr (6, oX6 qp (qb 0) (qr 0) (qv 0) (qh 0) p_kept p_timesKept)), (qb 0, .inr (1, oX1 qb b_now b_shutTill b_shutBy b_z b_waits (qa 0) (qt 0))), (qa 0, .inr (0, oX0 qa a_done)), (qv 0, .inr (5, oX5 qv v_kind v_number v_writer v_parted v_traced)), (qp 5, .inl (cI, 7, .inl p_errors)), (qa 2, .inl (cI, 60, .inl a_kinds)), (qa 3, .inl (cI, 60, .inl a_writers)), (qv 6, .inl (cI, 30, .inl v_trace))] H → va_D A [(qp 0, .inr (6, oX6 qp (qb 0) (qr 0) (qv 0) (qh 0) p_kept p_timesKept)), (qb 0, .inr (1, oX1 qb b_now b_shutTill b_shutBy b_z b_waits (qa 0) (qt 0))), (qa 0, .inr (0, oX0 qa a_done)), (qv 0, .inr (5, oX5 qv v_kind v_number v_writer v_parted v_traced)), (qp 5, .inl (cI, 7, .inl p_errors)), (qa 2, .inl (cI, 60, .inl a_kinds)), (qa 3, .inl (cI, 60, .inl a_writers)), (qv 6, .inl (cI, 30, .inl v_trace))] → va_S A s.heap H locs → f6_voice_63 n a_done a_kinds a_writers s0 v_kind v_number v_writer v_parted v_traced p_errors v_trace = some u → W p l e (rmq (50)) s m args below meth c H locs 0 0 Q (F0 m 63 ls [.int s0]) := by
    intro s0 v_kind v_number v_writer v_parted v_traced p_errors v_trace H locs ls hl hP hD hS h
    unfold f6_voice_63 at h
    exact hret (s0, v_kind, v_number, v_writer, v_parted, v_traced, p_errors, v_trace) _ _ _ _ (vp_nar_int _) h hP hD hS dX6_voice_63
  have J17 : ∀ (v_kind : Int32) (v_number : Int32) (v_writer : Int32) (v_parted : Int32) (v_traced : Int32) (p_errors : (Nat → Int32)) (v_trace : (Nat → Int32)) (H : Heap) (locs : List Loc) (ls : Array Slot), lv_has ls 5 [(0, .ref (qp 0))] → va_P D vwCl [(qp 0, .inr (6, oX6 qp (qb 0) (qr 0) (qv 0) (qh 0) p_kept p_timesKept)), (qb 0, .inr (1, oX1 qb b_now b_shutTill b_shutBy b_z b_waits (qa 0) (qt 0))), (qa 0, .inr (0, oX0 qa a_done)), (qv 0, .inr (5, oX5 qv v_kind v_number v_writer v_parted v_traced)), (qp 5, .inl (cI, 7, .inl p_errors)), (qa 2, .inl (cI, 60, .inl a_kinds)), (qa 3, .inl (cI, 60, .inl a_writers)), (qv 6, .inl (cI, 30, .inl v_trace))] H → va_D A [(qp 0, .inr (6, oX6 qp (qb 0) (qr 0) (qv 0) (qh 0) p_kept p_timesKept)), (qb 0, .inr (1, oX1 qb b_now b_shutTill b_shutBy b_z b_waits (qa 0) (qt 0))), (qa 0, .inr (0, oX0 qa a_done)), (qv 0, .inr (5, oX5 qv v_kind v_number v_writer v_parted v_traced)), (qp 5, .inl (cI, 7, .inl p_errors)), (qa 2, .inl (cI, 60, .inl a_kinds)), (qa 3, .inl (cI, 60, .inl a_writers)), (qv 6, .inl (cI, 30, .inl v_trace))] → va_S A s.heap H locs → f6_voice_17 n a_done a_kinds a_writers v_kind v_number v_writer v_parted v_traced p_errors v_trace = some u → W p l e (rmq (50)) s m args below meth c H locs 0 0 Q (F0 m 17 ls []) := by
    intro v_kind v_number v_writer v_parted v_traced p_errors v_trace H locs ls hl hP hD hS h
    unfold f6_voice_17 at h
    refine lv_aload_n hx hb dX6_voice_17 rfl (lv_at hl 0 rfl) ?_
    refine lv_iconst (v := (1 : Int32)) hx hb dX6_voice_18 (by decide) ?_
    refine q_callW2 (cEok ad) (rest := []) (fun u => [(qp 0, .inr (6, oX6 qp (qb 0) (qr 0) (qv 0) (qh 0) p_kept p_timesKept)), (qp 5, .inl (cI, 7, .inl u.2))]) (fun u => u.1) ⟨hx, hb, hml, hown, hts⟩ (fun u hu => c6_error l D cI ad qp qb qr qv qh p_kept p_timesKept p_errors ((1 : Int32)) u hu) (cwV 1 hts gX6_voice_X6_error rfl rfl rfl hdX6_error (rmq_ok (Nat.le_of_ble_eq_true rfl) (Nat.le_of_ble_eq_true rfl))) hK hEv hA hP hD hS [0, 4] (by decide) rfl (fun _ => rfl) (va_recv hK hP (ci := 6) (q0 := 0) rfl rfl) rfl rfl hl.1 (Nat.le_of_ble_eq_true rfl) ⟨Nat.zero_le _, Nat.zero_le _⟩ h dX6_voice_19 (fun t19 p_errors_19 H locs h hP hD hS => ?_)
    have hP : va_P D vwCl [(qp 0, .inr (6, oX6 qp (qb 0) (qr 0) (qv 0) (qh 0) p_kept p_timesKept)), (qb 0, .inr (1, oX1 qb b_now b_shutTill b_shutBy b_z b_waits (qa 0) (qt 0))), (qa 0, .inr (0, oX0 qa a_done)), (qv 0, .inr (5, oX5 qv v_kind v_number v_writer v_parted v_traced)), (qp 5, .inl (cI, 7, .inl p_errors_19)), (qa 2, .inl (cI, 60, .inl a_kinds)), (qa 3, .inl (cI, 60, .inl a_writers)), (qv 6, .inl (cI, 30, .inl v_trace))] H := hP
    have hD : va_D A [(qp 0, .inr (6, oX6 qp (qb 0) (qr 0) (qv 0) (qh 0) p_kept p_timesKept)), (qb 0, .inr (1, oX1 qb b_now b_shutTill b_shutBy b_z b_waits (qa 0) (qt 0))), (qa 0, .inr (0, oX0 qa a_done)), (qv 0, .inr (5, oX5 qv v_kind v_number v_writer v_parted v_traced)), (qp 5, .inl (cI, 7, .inl p_errors_19)), (qa 2, .inl (cI, 60, .inl a_kinds)), (qa 3, .inl (cI, 60, .inl a_writers)), (qv 6, .inl (cI, 30, .inl v_trace))] := hD
    exact hret (t19, v_kind, v_number, v_writer, v_parted, v_traced, p_errors_19, v_trace) _ _ _ _ (vp_nar_int _) h hP hD hS dX6_voice_22
  unfold f6_voice at h
  refine lv_aload_n hx hb dX6_voice_0 rfl (lv_at hl 0 rfl) ?_
  refine lv_iload_n hx hb dX6_voice_1 rfl (lv_at hl 1 rfl) ?_
  refine q_callR (cEok ad) (rest := []) ⟨hx, hb, hml, hown, hts⟩ (fun r hr => c6_isAct l D cI ad qp qb qa qt qr qv qh p_kept p_timesKept b_now b_shutTill b_shutBy b_z b_waits a_done x1 r hr) (cwV 1 hts gX6_voice_X6_isAct rfl rfl rfl hdX6_isAct (rmq_ok (Nat.le_of_ble_eq_true rfl) (Nat.le_of_ble_eq_true rfl))) hK hP hEv hS [0, 1, 2] rfl (va_recv hK hP (ci := 6) (q0 := 0) rfl rfl) rfl rfl hl.1 (Nat.le_of_ble_eq_true rfl) ⟨Nat.zero_le _, Nat.zero_le _⟩ h dX6_voice_2 (fun t2 h => ?_)
  refine q_ifeq hx hb 17 h dX6_voice_5 (by decide) (fun h => ?_) (fun h => ?_)
  · exact J17 v_kind v_number v_writer v_parted v_traced p_errors v_trace _ _ _ (lv_sub hl [0] rfl) hP hD hS h
  · refine lv_iload_n hx hb dX6_voice_8 rfl (lv_at hl 2 rfl) ?_
    refine q_iflt hx hb 17 h dX6_voice_9 (by decide) (fun h => ?_) (fun h => ?_)
    · exact J17 v_kind v_number v_writer v_parted v_traced p_errors v_trace _ _ _ (lv_sub hl [0] rfl) hP hD hS h
    · refine lv_iload_n hx hb dX6_voice_12 rfl (lv_at hl 2 rfl) ?_
      refine lv_iconst (v := (4 : Int32)) hx hb dX6_voice_13 (by decide) ?_
      refine q_clt hx hb 23 h dX6_voice_14 (by decide) (fun h => ?_) (fun h => ?_)
      · refine lv_aload_n hx hb dX6_voice_23 rfl (lv_at hl 0 rfl) ?_
        refine va_get (D := D) (ci := 6) (v := .ref (qv 0)) (C := RX6) (T := TX6) (N := 7) hx hb hts in6 hown hK hP 0 rfl rfl 2 (by decide) l26 (fun _ h9 => h9) rfl dX6_voice_24 ?_
        refine lv_aload_n hx hb dX6_voice_27 rfl (lv_at hl 0 rfl) ?_
        refine va_get (D := D) (ci := 6) (v := .ref (qb 0)) (C := RX6) (T := TX6) (N := 7) hx hb hts in6 hown hK hP 0 rfl rfl 0 (by decide) l10 (fun _ h9 => h9) rfl dX6_voice_28 ?_
        refine va_getN (D := D) (ci := 1) (v := .ref (qa 0)) (C := RX1) (T := TX1) (N := 9) hx hb hts in1 hown hK hP 1 rfl rfl 7 (by decide) l63 (fun _ h9 => h9) rfl dX6_voice_31 ?_
        refine lv_iload_n hx hb dX6_voice_34 rfl (lv_at hl 1 rfl) ?_
        refine lv_iload_n hx hb dX6_voice_35 rfl (lv_at hl 2 rfl) ?_
        refine lv_iload_n hx hb dX6_voice_36 rfl (lv_at hl 3 rfl) ?_
        refine q_callW7 (cEok ad) (rest := []) (fun u => [(qa 0, .inr (0, oX0 qa a_done)), (qv 0, .inr (5, oX5 qv u.2.1 u.2.2.1 u.2.2.2.1 u.2.2.2.2.1 u.2.2.2.2.2.1)), (qa 2, .inl (cI, 60, .inl a_kinds)), (qa 3, .inl (cI, 60, .inl a_writers)), (qv 6, .inl (cI, 30, .inl u.2.2.2.2.2.2))]) (fun u => u.1) ⟨hx, hb, hml, hown, hts⟩ (fun u hu => c5_heard l D cI ad qa qv a_done v_kind v_number v_writer v_parted v_traced a_kinds a_writers v_trace x1 x2 x3 n u hu) (cwV 4 hts gX6_voice_X5_heard rfl rfl rfl hdX5_heard (rmq_ok (Nat.le_of_ble_eq_true rfl) (Nat.le_of_ble_eq_true rfl))) hK hEv hA hP hD hS [2, 3, 5, 6, 7] (by decide) rfl (fun _ => rfl) (va_recv hK hP (ci := 5) (q0 := 3) rfl rfl) rfl rfl hl.1 (Nat.le_of_ble_eq_true rfl) ⟨Nat.zero_le _, Nat.zero_le _⟩ h dX6_voice_37 (fun t37 v_kind_37 v_number_37 v_writer_37 v_parted_37 v_traced_37 v_trace_37 H locs h hP hD hS => ?_)
        have hP : va_P D vwCl [(qp 0, .inr (6, oX6 qp (qb 0) (qr 0) (qv 0) (qh 0) p_kept p_timesKept)), (qb 0, .inr (1, oX1 qb b_now b_shutTill b_shutBy b_z b_waits (qa 0) (qt 0))), (qa 0, .inr (0, oX0 qa a_done)), (qv 0, .inr (5, oX5 qv v_kind_37 v_number_37 v_writer_37 v_parted_37 v_traced_37)), (qp 5, .inl (cI, 7, .inl p_errors)), (qa 2, .inl (cI, 60, .inl a_kinds)), (qa 3, .inl (cI, 60, .inl a_writers)), (qv 6, .inl (cI, 30, .inl v_trace_37))] H := hP
        have hD : va_D A [(qp 0, .inr (6, oX6 qp (qb 0) (qr 0) (qv 0) (qh 0) p_kept p_timesKept)), (qb 0, .inr (1, oX1 qb b_now b_shutTill b_shutBy b_z b_waits (qa 0) (qt 0))), (qa 0, .inr (0, oX0 qa a_done)), (qv 0, .inr (5, oX5 qv v_kind_37 v_number_37 v_writer_37 v_parted_37 v_traced_37)), (qp 5, .inl (cI, 7, .inl p_errors)), (qa 2, .inl (cI, 60, .inl a_kinds)), (qa 3, .inl (cI, 60, .inl a_writers)), (qv 6, .inl (cI, 30, .inl v_trace_37))] := hD
        refine lv_istore (lv' := [(4, .int t37), (0, .ref (qp 0)), (1, .int x1), (2, .int x2), (3, .int x3)]) hx hb dX6_voice_40 hl (by decide) rfl (fun ls hl => ?_)
        refine lv_aload_n hx hb dX6_voice_42 rfl (lv_at hl 1 rfl) ?_
        refine va_get (D := D) (ci := 6) (v := .ref (qv 0)) (C := RX6) (T := TX6) (N := 7) hx hb hts in6 hown hK hP 0 rfl rfl 2 (by decide) l26 (fun _ h9 => h9) rfl dX6_voice_43 ?_
        refine va_getN (D := D) (ci := 5) (v := .int v_parted_37) (C := RX5) (T := TX5) (N := 6) hx hb hts in5 hown hK hP 3 rfl rfl 3 (by decide) l250 (fun _ h9 => h9) rfl dX6_voice_46 ?_
        refine q_ifeq hx hb 61 h dX6_voice_49 (by decide) (fun h => ?_) (fun h => ?_)
        · refine lv_iload hx hb dX6_voice_61 (lv_at hl 0 rfl) ?_
          exact J63 t37 v_kind_37 v_number_37 v_writer_37 v_parted_37 v_traced_37 p_errors v_trace_37 _ _ _ (lv_sub hl [1] rfl) hP hD hS h
        · refine lv_aload_n hx hb dX6_voice_52 rfl (lv_at hl 1 rfl) ?_
          refine lv_bipush (v := (6 : Int32)) hx hb dX6_voice_53 (by decide) ?_
          refine q_callW2 (cEok ad) (rest := []) (fun u => [(qp 0, .inr (6, oX6 qp (qb 0) (qr 0) (qv 0) (qh 0) p_kept p_timesKept)), (qp 5, .inl (cI, 7, .inl u.2))]) (fun u => u.1) ⟨hx, hb, hml, hown, hts⟩ (fun u hu => c6_error l D cI ad qp qb qr qv qh p_kept p_timesKept p_errors ((6 : Int32)) u hu) (cwV 1 hts gX6_voice_X6_error rfl rfl rfl hdX6_error (rmq_ok (Nat.le_of_ble_eq_true rfl) (Nat.le_of_ble_eq_true rfl))) hK hEv hA hP hD hS [0, 4] (by decide) rfl (fun _ => rfl) (va_recv hK hP (ci := 6) (q0 := 0) rfl rfl) rfl rfl hl.1 (Nat.le_of_ble_eq_true rfl) ⟨Nat.zero_le _, Nat.zero_le _⟩ h dX6_voice_55 (fun t55 p_errors_55 H locs h hP hD hS => ?_)
          have hP : va_P D vwCl [(qp 0, .inr (6, oX6 qp (qb 0) (qr 0) (qv 0) (qh 0) p_kept p_timesKept)), (qb 0, .inr (1, oX1 qb b_now b_shutTill b_shutBy b_z b_waits (qa 0) (qt 0))), (qa 0, .inr (0, oX0 qa a_done)), (qv 0, .inr (5, oX5 qv v_kind_37 v_number_37 v_writer_37 v_parted_37 v_traced_37)), (qp 5, .inl (cI, 7, .inl p_errors_55)), (qa 2, .inl (cI, 60, .inl a_kinds)), (qa 3, .inl (cI, 60, .inl a_writers)), (qv 6, .inl (cI, 30, .inl v_trace_37))] H := hP
          have hD : va_D A [(qp 0, .inr (6, oX6 qp (qb 0) (qr 0) (qv 0) (qh 0) p_kept p_timesKept)), (qb 0, .inr (1, oX1 qb b_now b_shutTill b_shutBy b_z b_waits (qa 0) (qt 0))), (qa 0, .inr (0, oX0 qa a_done)), (qv 0, .inr (5, oX5 qv v_kind_37 v_number_37 v_writer_37 v_parted_37 v_traced_37)), (qp 5, .inl (cI, 7, .inl p_errors_55)), (qa 2, .inl (cI, 60, .inl a_kinds)), (qa 3, .inl (cI, 60, .inl a_writers)), (qv 6, .inl (cI, 30, .inl v_trace_37))] := hD
          refine lv_goto (tgt := 63) hx hb dX6_voice_58 (by decide) ?_
          exact J63 t55 v_kind_37 v_number_37 v_writer_37 v_parted_37 v_traced_37 p_errors_55 v_trace_37 _ _ _ (lv_sub hl [1] rfl) hP hD hS h
      · exact J17 v_kind v_number v_writer v_parted v_traced p_errors v_trace _ _ _ (lv_sub hl [0] rfl) hP hD hS h
set_option maxHeartbeats 4000000 in
set_option maxRecDepth 100000 in
theorem c6_body (l : Launch) (D : va_G) (cI : ClassId) (ad : Nat → Nat) (qp qb qr qv qh : Nat → Nat) (p_kept : Value) (p_timesKept v_kind v_number v_writer v_parted v_traced : Int32) (p_errors v_trace : Nat → Int32) (x1 : Int32) (u : Int32 × (Nat → Int32)) (h : f6_body x1 v_traced p_errors v_trace = some u) : q_RW (cE ad) l yX6_body wsX6_body (rmq (1)) D cI [.ref (qp 0), .int x1] [(qp 0, .inr (6, oX6 qp (qb 0) (qr 0) (qv 0) (qh 0) p_kept p_timesKept)), (qv 0, .inr (5, oX5 qv v_kind v_number v_writer v_parted v_traced)), (qp 5, .inl (cI, 7, .inl p_errors)), (qv 6, .inl (cI, 30, .inl v_trace))] [(qp 0, .inr (6, oX6 qp (qb 0) (qr 0) (qv 0) (qh 0) p_kept p_timesKept)), (qv 0, .inr (5, oX5 qv v_kind v_number v_writer v_parted v_traced)), (qp 5, .inl (cI, 7, .inl u.2)), (qv 6, .inl (cI, 30, .inl v_trace))] u.1 := by
  refine q_startW (fun u : Int32 × (Nat → Int32) => [(qp 0, .inr (6, oX6 qp (qb 0) (qr 0) (qv 0) (qh 0) p_kept p_timesKept)), (qv 0, .inr (5, oX5 qv v_kind v_number v_writer v_parted v_traced)), (qp 5, .inl (cI, 7, .inl u.2)), (qv 6, .inl (cI, 30, .inl v_trace))]) (fun u => u.1) (cc := cX6_body) (maxL := 2) (ty := .int) (own := RX6) (by decide) rfl rfl (Nat.le_of_ble_eq_true rfl) rfl (fun p e s m args below meth c Q A hx hb hml hown hts hK hEv hA hret hP hD hS ls hl => ?_)
  have in5 : ∀ w ∈ wsX50, w ∈ wsX6_body := fun w h => List.mem_cons_of_mem _ (List.mem_append_right _ (h))
  have in6 : ∀ w ∈ wsX60, w ∈ wsX6_body := fun w h => List.mem_cons_of_mem _ (List.mem_append_left _ (List.mem_append_right _ (h)))
  have l26 := hts (.fieldLink RX6 26 "PageWars" "voices" "LPageWars$Voices;") (List.mem_of_getElem? (i := 1) rfl)
  have l254 : (Cond.fieldLinkNest RX6 254 "PageWars$Voices" "traced" "I" "PageWars").before args s = true := cE_f6_254 hEv
  have l257 : (Cond.fieldLinkNest RX6 257 "PageWars$Voices" "trace" "[I" "PageWars").before args s = true := cE_f6_257 hEv
  have J15 : ∀ (p_errors : (Nat → Int32)) (H : Heap) (locs : List Loc) (ls : Array Slot), lv_has ls 2 [(0, .ref (qp 0))] → va_P D vwCl [(qp 0, .inr (6, oX6 qp (qb 0) (qr 0) (qv 0) (qh 0) p_kept p_timesKept)), (qv 0, .inr (5, oX5 qv v_kind v_number v_writer v_parted v_traced)), (qp 5, .inl (cI, 7, .inl p_errors)), (qv 6, .inl (cI, 30, .inl v_trace))] H → va_D A [(qp 0, .inr (6, oX6 qp (qb 0) (qr 0) (qv 0) (qh 0) p_kept p_timesKept)), (qv 0, .inr (5, oX5 qv v_kind v_number v_writer v_parted v_traced)), (qp 5, .inl (cI, 7, .inl p_errors)), (qv 6, .inl (cI, 30, .inl v_trace))] → va_S A s.heap H locs → f6_body_15 v_traced v_trace p_errors = some u → W p l e (rmq (1)) s m args below meth c H locs 0 0 Q (F0 m 15 ls []) := by
    intro p_errors H locs ls hl hP hD hS h
    unfold f6_body_15 at h
    refine lv_aload_n hx hb dX6_body_15 rfl (lv_at hl 0 rfl) ?_
    refine lv_iconst (v := (2 : Int32)) hx hb dX6_body_16 (by decide) ?_
    refine q_callW2 (cEok ad) (rest := []) (fun u => [(qp 0, .inr (6, oX6 qp (qb 0) (qr 0) (qv 0) (qh 0) p_kept p_timesKept)), (qp 5, .inl (cI, 7, .inl u.2))]) (fun u => u.1) ⟨hx, hb, hml, hown, hts⟩ (fun u hu => c6_error l D cI ad qp qb qr qv qh p_kept p_timesKept p_errors ((2 : Int32)) u hu) (cwV 1 hts gX6_body_X6_error rfl rfl rfl hdX6_error (rmq_ok (Nat.le_of_ble_eq_true rfl) (Nat.le_of_ble_eq_true rfl))) hK hEv hA hP hD hS [0, 2] (by decide) rfl (fun _ => rfl) (va_recv hK hP (ci := 6) (q0 := 0) rfl rfl) rfl rfl hl.1 (Nat.le_of_ble_eq_true rfl) ⟨Nat.zero_le _, Nat.zero_le _⟩ h dX6_body_17 (fun t17 p_errors_17 H locs h hP hD hS => ?_)
    have hP : va_P D vwCl [(qp 0, .inr (6, oX6 qp (qb 0) (qr 0) (qv 0) (qh 0) p_kept p_timesKept)), (qv 0, .inr (5, oX5 qv v_kind v_number v_writer v_parted v_traced)), (qp 5, .inl (cI, 7, .inl p_errors_17)), (qv 6, .inl (cI, 30, .inl v_trace))] H := hP
    have hD : va_D A [(qp 0, .inr (6, oX6 qp (qb 0) (qr 0) (qv 0) (qh 0) p_kept p_timesKept)), (qv 0, .inr (5, oX5 qv v_kind v_number v_writer v_parted v_traced)), (qp 5, .inl (cI, 7, .inl p_errors_17)), (qv 6, .inl (cI, 30, .inl v_trace))] := hD
    exact hret (t17, p_errors_17) _ _ _ _ (vp_nar_int _) h hP hD hS dX6_body_20
  unfold f6_body at h
  refine lv_iload_n hx hb dX6_body_0 rfl (lv_at hl 1 rfl) ?_
  refine q_iflt hx hb 15 h dX6_body_1 (by decide) (fun h => ?_) (fun h => ?_)
  · exact J15 p_errors _ _ _ (lv_sub hl [0] rfl) hP hD hS h
  · refine lv_iload_n hx hb dX6_body_4 rfl (lv_at hl 1 rfl) ?_
    refine lv_aload_n hx hb dX6_body_5 rfl (lv_at hl 0 rfl) ?_
    refine va_get (D := D) (ci := 6) (v := .ref (qv 0)) (C := RX6) (T := TX6) (N := 7) hx hb hts in6 hown hK hP 0 rfl rfl 2 (by decide) l26 (fun _ h9 => h9) rfl dX6_body_6 ?_
    refine va_getN (D := D) (ci := 5) (v := .int v_traced) (C := RX5) (T := TX5) (N := 6) hx hb hts in5 hown hK hP 1 rfl rfl 4 (by decide) l254 (fun _ h9 => h9) rfl dX6_body_9 ?_
    refine q_clt hx hb 21 h dX6_body_12 (by decide) (fun h => ?_) (fun h => ?_)
    · refine lv_aload_n hx hb dX6_body_21 rfl (lv_at hl 0 rfl) ?_
      refine va_get (D := D) (ci := 6) (v := .ref (qv 0)) (C := RX6) (T := TX6) (N := 7) hx hb hts in6 hown hK hP 0 rfl rfl 2 (by decide) l26 (fun _ h9 => h9) rfl dX6_body_22 ?_
      refine va_getN (D := D) (ci := 5) (v := .ref (qv 6)) (C := RX5) (T := TX5) (N := 6) hx hb hts in5 hown hK hP 1 rfl rfl 5 (by decide) l257 (fun _ h9 => h9) rfl dX6_body_25 ?_
      refine lv_iload_n hx hb dX6_body_28 rfl (lv_at hl 1 rfl) ?_
      refine q_iald hx hb hK hP 3 0 rfl rfl h dX6_body_29 (fun t29 h => ?_)
      exact hret (t29, p_errors) _ _ _ _ (vp_nar_int _) h hP hD hS dX6_body_30
    · exact J15 p_errors _ _ _ (lv_sub hl [0] rfl) hP hD hS h
set_option maxHeartbeats 4000000 in
set_option maxRecDepth 100000 in
theorem c6_isSheet (l : Launch) (D : va_G) (cI : ClassId) (ad : Nat → Nat) (x0 : Int32) (u : Int32) (h : f6_isSheet x0 = some u) : q_RO (cE ad) l yX6_isSheet wsX6_isSheet (rmq (0)) D cI [.int x0] [] u := by
  refine q_startR (cc := cX6_isSheet) (maxL := 1) (ty := .boolean) (own := RX6) (by decide) rfl rfl (Nat.le_of_ble_eq_true rfl) rfl (fun p e s m args below meth c Q hx hb hml hown hts hP hK hEv hret ls hl => ?_)
  have J14 : ∀ (s0 : Int32) (ls : Array Slot), lv_has ls 1 [] → f6_isSheet_14  s0 = some u → W p l e (rmq (0)) s m args below meth c s.heap [] 0 0 Q (F0 m 14 ls [.int s0]) := by
    intro s0  ls hl h
    unfold f6_isSheet_14 at h
    obtain ⟨hz, h⟩ := q_bz_of h
    exact hret _ _ _ (q_nz hz) h dX6_isSheet_14
  have J13 : ∀  (ls : Array Slot), lv_has ls 1 [] → f6_isSheet_13   = some u → W p l e (rmq (0)) s m args below meth c s.heap [] 0 0 Q (F0 m 13 ls []) := by
    intro   ls hl h
    unfold f6_isSheet_13 at h
    refine lv_iconst (v := (0 : Int32)) hx hb dX6_isSheet_13 (by decide) ?_
    exact J14 ((0 : Int32)) _ (lv_sub hl [] rfl) h
  unfold f6_isSheet at h
  refine lv_iload_n hx hb dX6_isSheet_0 rfl (lv_at hl 0 rfl) ?_
  refine q_iflt hx hb 13 h dX6_isSheet_1 (by decide) (fun h => ?_) (fun h => ?_)
  · exact J13  _ (lv_sub hl [] rfl) h
  · refine lv_iload_n hx hb dX6_isSheet_4 rfl (lv_at hl 0 rfl) ?_
    refine lv_iconst (v := (4 : Int32)) hx hb dX6_isSheet_5 (by decide) ?_
    refine q_cge hx hb 13 h dX6_isSheet_6 (by decide) (fun h => ?_) (fun h => ?_)
    · exact J13  _ (lv_sub hl [] rfl) h
    · refine lv_iconst (v := (1 : Int32)) hx hb dX6_isSheet_9 (by decide) ?_
      refine lv_goto (tgt := 14) hx hb dX6_isSheet_10 (by decide) ?_
      exact J14 ((1 : Int32)) _ (lv_sub hl [] rfl) h
set_option maxHeartbeats 4000000 in
set_option maxRecDepth 100000 in
theorem c3_lays (l : Launch) (D : va_G) (cI : ClassId) (ad : Nat → Nat) (qh : Nat → Nat) (h_bits h_sizes h_numbers : Nat → Int32) (x1 : Int32) (x2 : Int32) (x3 : Int32) (n : Nat) (u : (Nat → Int32) × (Nat → Int32) × (Nat → Int32)) (h : f3_lays n x1 x2 x3 h_bits h_sizes h_numbers = some u) : q_RV (cE ad) l yX3_lays wsX3_lays (rmq (0)) D cI [.ref (qh 0), .int x1, .int x2, .int x3] [(qh 0, .inr (3, oX3 qh)), (qh 1, .inl (cI, 4, .inl h_bits)), (qh 2, .inl (cI, 4, .inl h_sizes)), (qh 3, .inl (cI, 96, .inl h_numbers))] [(qh 0, .inr (3, oX3 qh)), (qh 1, .inl (cI, 4, .inl u.1)), (qh 2, .inl (cI, 4, .inl u.2.1)), (qh 3, .inl (cI, 96, .inl u.2.2))] := by
  refine q_startV (fun u : (Nat → Int32) × (Nat → Int32) × (Nat → Int32) => [(qh 0, .inr (3, oX3 qh)), (qh 1, .inl (cI, 4, .inl u.1)), (qh 2, .inl (cI, 4, .inl u.2.1)), (qh 3, .inl (cI, 96, .inl u.2.2))]) (cc := cX3_lays) (maxL := 5) (own := RX3) (by decide) rfl rfl (Nat.le_of_ble_eq_true rfl) rfl (fun p e s m args below meth c Q A hx hb hml hown hts hK hEv hA hret hP hD hS ls hl => ?_)
  have in3 : ∀ w ∈ wsX30, w ∈ wsX3_lays := fun w h => List.mem_cons_of_mem _ (List.mem_append_right _ (h))
  have l9 := hts (.fieldLink RX3 9 "PageWars$Sheets" "bits" "[I") (List.mem_of_getElem? (i := 1) rfl)
  have l13 := hts (.fieldLink RX3 13 "PageWars$Sheets" "sizes" "[I") (List.mem_of_getElem? (i := 2) rfl)
  have l16 := hts (.fieldLink RX3 16 "PageWars$Sheets" "numbers" "[I") (List.mem_of_getElem? (i := 3) rfl)
  have J25 : ∀ (kk25 : Nat) (x1 : Int32) (x4 : Int32) (h_bits : (Nat → Int32)) (h_sizes : (Nat → Int32)) (h_numbers : (Nat → Int32)) (H : Heap) (locs : List Loc) (ls : Array Slot), lv_has ls 5 [(0, .ref (qh 0)), (1, .int x1), (4, .int x4)] → va_P D vwCl [(qh 0, .inr (3, oX3 qh)), (qh 1, .inl (cI, 4, .inl h_bits)), (qh 2, .inl (cI, 4, .inl h_sizes)), (qh 3, .inl (cI, 96, .inl h_numbers))] H → va_D A [(qh 0, .inr (3, oX3 qh)), (qh 1, .inl (cI, 4, .inl h_bits)), (qh 2, .inl (cI, 4, .inl h_sizes)), (qh 3, .inl (cI, 96, .inl h_numbers))] → va_S A s.heap H locs → f3_lays_25 n kk25 x1 x4 h_bits h_sizes h_numbers = some u → W p l e (rmq (0)) s m args below meth c H locs 0 0 Q (F0 m 25 ls []) := by
    intro kk25
    induction kk25 with
    | zero => intro x1 x4 h_bits h_sizes h_numbers H locs ls hl hP hD hS h; exact nomatch (show (none : Option ((Nat → Int32) × (Nat → Int32) × (Nat → Int32))) = some u from h)
    | succ kk25 ih25 =>
      intro x1 x4 h_bits h_sizes h_numbers H locs ls hl hP hD hS h
      rw [f3_lays_25.eq_2] at h
      refine lv_iload hx hb dX3_lays_25 (lv_at hl 2 rfl) ?_
      refine lv_aload_n hx hb dX3_lays_27 rfl (lv_at hl 0 rfl) ?_
      refine va_get (D := D) (ci := 3) (v := .ref (qh 2)) (C := RX3) (T := TX3) (N := 3) hx hb hts in3 hown hK hP 0 rfl rfl 1 (by decide) l13 (fun _ h9 => h9) rfl dX3_lays_28 ?_
      refine lv_iload_n hx hb dX3_lays_31 rfl (lv_at hl 1 rfl) ?_
      refine q_iald hx hb hK hP 2 0 rfl rfl h dX3_lays_32 (fun t32 h => ?_)
      refine q_cge hx hb 55 h dX3_lays_33 (by decide) (fun h => ?_) (fun h => ?_)
      · exact hret (h_bits, h_sizes, h_numbers) _ _ _ _ h hP hD hS dX3_lays_55
      · refine lv_aload_n hx hb dX3_lays_36 rfl (lv_at hl 0 rfl) ?_
        refine va_get (D := D) (ci := 3) (v := .ref (qh 3)) (C := RX3) (T := TX3) (N := 3) hx hb hts in3 hown hK hP 0 rfl rfl 2 (by decide) l16 (fun _ h9 => h9) rfl dX3_lays_37 ?_
        refine lv_iload_n hx hb dX3_lays_40 rfl (lv_at hl 1 rfl) ?_
        refine lv_bipush (v := (24 : Int32)) hx hb dX3_lays_41 (by decide) ?_
        refine lv_imul hx hb dX3_lays_43 ?_
        refine lv_iload hx hb dX3_lays_44 (lv_at hl 2 rfl) ?_
        refine lv_iadd hx hb dX3_lays_46 ?_
        refine lv_iconst (v := (0 : Int32)) hx hb dX3_lays_47 (by decide) ?_
        refine q_iast hx hb hK hP hD hS 3 0 rfl rfl h dX3_lays_48 (fun h_numbers_48 H locs h hP hD hS => ?_)
        have hP : va_P D vwCl [(qh 0, .inr (3, oX3 qh)), (qh 1, .inl (cI, 4, .inl h_bits)), (qh 2, .inl (cI, 4, .inl h_sizes)), (qh 3, .inl (cI, 96, .inl h_numbers_48))] H := hP
        have hD : va_D A [(qh 0, .inr (3, oX3 qh)), (qh 1, .inl (cI, 4, .inl h_bits)), (qh 2, .inl (cI, 4, .inl h_sizes)), (qh 3, .inl (cI, 96, .inl h_numbers_48))] := hD
        refine q_iinc (fun v => [(4, .int v), (0, .ref (qh 0)), (1, .int x1)]) hx hb h dX3_lays_49 (by decide) hl (k := 2) rfl (by decide) (fun _ => rfl) (fun x4_49 ls h hl => ?_)
        refine lv_goto (tgt := 25) hx hb dX3_lays_52 (by decide) ?_
        exact ih25 x1 x4_49 h_bits h_sizes h_numbers_48 _ _ _ (lv_sub hl [1, 2, 0] rfl) hP hD hS h
  have J21 : ∀ (x1 : Int32) (s1 : Int32) (s2 : Int32) (h_bits : (Nat → Int32)) (h_sizes : (Nat → Int32)) (h_numbers : (Nat → Int32)) (H : Heap) (locs : List Loc) (ls : Array Slot), lv_has ls 5 [(0, .ref (qh 0)), (1, .int x1)] → va_P D vwCl [(qh 0, .inr (3, oX3 qh)), (qh 1, .inl (cI, 4, .inl h_bits)), (qh 2, .inl (cI, 4, .inl h_sizes)), (qh 3, .inl (cI, 96, .inl h_numbers))] H → va_D A [(qh 0, .inr (3, oX3 qh)), (qh 1, .inl (cI, 4, .inl h_bits)), (qh 2, .inl (cI, 4, .inl h_sizes)), (qh 3, .inl (cI, 96, .inl h_numbers))] → va_S A s.heap H locs → f3_lays_21 n x1 s1 s2 h_bits h_sizes h_numbers = some u → W p l e (rmq (0)) s m args below meth c H locs 0 0 Q (F0 m 21 ls [.int s2, .int s1, .ref (qh 2)]) := by
    intro x1 s1 s2 h_bits h_sizes h_numbers H locs ls hl hP hD hS h
    unfold f3_lays_21 at h
    refine q_iast hx hb hK hP hD hS 2 0 rfl rfl h dX3_lays_21 (fun h_sizes_21 H locs h hP hD hS => ?_)
    have hP : va_P D vwCl [(qh 0, .inr (3, oX3 qh)), (qh 1, .inl (cI, 4, .inl h_bits)), (qh 2, .inl (cI, 4, .inl h_sizes_21)), (qh 3, .inl (cI, 96, .inl h_numbers))] H := hP
    have hD : va_D A [(qh 0, .inr (3, oX3 qh)), (qh 1, .inl (cI, 4, .inl h_bits)), (qh 2, .inl (cI, 4, .inl h_sizes_21)), (qh 3, .inl (cI, 96, .inl h_numbers))] := hD
    refine lv_iconst (v := (0 : Int32)) hx hb dX3_lays_22 (by decide) ?_
    refine lv_istore (lv' := [(4, .int ((0 : Int32))), (0, .ref (qh 0)), (1, .int x1)]) hx hb dX3_lays_23 hl (by decide) rfl (fun ls hl => ?_)
    exact J25 n x1 ((0 : Int32)) h_bits h_sizes_21 h_numbers _ _ _ (lv_sub hl [1, 2, 0] rfl) hP hD hS h
  unfold f3_lays at h
  refine lv_aload_n hx hb dX3_lays_0 rfl (lv_at hl 0 rfl) ?_
  refine va_get (D := D) (ci := 3) (v := .ref (qh 1)) (C := RX3) (T := TX3) (N := 3) hx hb hts in3 hown hK hP 0 rfl rfl 0 (by decide) l9 (fun _ h9 => h9) rfl dX3_lays_1 ?_
  refine lv_iload_n hx hb dX3_lays_4 rfl (lv_at hl 1 rfl) ?_
  refine lv_iload_n hx hb dX3_lays_5 rfl (lv_at hl 2 rfl) ?_
  refine q_iast hx hb hK hP hD hS 1 0 rfl rfl h dX3_lays_6 (fun h_bits_6 H locs h hP hD hS => ?_)
  have hP : va_P D vwCl [(qh 0, .inr (3, oX3 qh)), (qh 1, .inl (cI, 4, .inl h_bits_6)), (qh 2, .inl (cI, 4, .inl h_sizes)), (qh 3, .inl (cI, 96, .inl h_numbers))] H := hP
  have hD : va_D A [(qh 0, .inr (3, oX3 qh)), (qh 1, .inl (cI, 4, .inl h_bits_6)), (qh 2, .inl (cI, 4, .inl h_sizes)), (qh 3, .inl (cI, 96, .inl h_numbers))] := hD
  refine lv_aload_n hx hb dX3_lays_7 rfl (lv_at hl 0 rfl) ?_
  refine va_get (D := D) (ci := 3) (v := .ref (qh 2)) (C := RX3) (T := TX3) (N := 3) hx hb hts in3 hown hK hP 0 rfl rfl 1 (by decide) l13 (fun _ h9 => h9) rfl dX3_lays_8 ?_
  refine lv_iload_n hx hb dX3_lays_11 rfl (lv_at hl 1 rfl) ?_
  refine lv_iload_n hx hb dX3_lays_12 rfl (lv_at hl 2 rfl) ?_
  refine q_ifne hx hb 20 h dX3_lays_13 (by decide) (fun h => ?_) (fun h => ?_)
  · refine lv_iload_n hx hb dX3_lays_20 rfl (lv_at hl 3 rfl) ?_
    exact J21 x1 x1 x3 h_bits_6 h_sizes h_numbers _ _ _ (lv_sub hl [0, 1] rfl) hP hD hS h
  · refine lv_iconst (v := (0 : Int32)) hx hb dX3_lays_16 (by decide) ?_
    refine lv_goto (tgt := 21) hx hb dX3_lays_17 (by decide) ?_
    exact J21 x1 x1 ((0 : Int32)) h_bits_6 h_sizes h_numbers _ _ _ (lv_sub hl [0, 1] rfl) hP hD hS h
set_option maxHeartbeats 4000000 in
set_option maxRecDepth 100000 in
theorem c6_sheet (l : Launch) (D : va_G) (cI : ClassId) (ad : Nat → Nat) (qp qb qr qv qh : Nat → Nat) (p_kept : Value) (p_timesKept : Int32) (p_errors h_bits h_sizes h_numbers : Nat → Int32) (x1 : Int32) (x2 : Int32) (x3 : Int32) (n : Nat) (u : Int32 × (Nat → Int32) × (Nat → Int32) × (Nat → Int32) × (Nat → Int32)) (h : f6_sheet n x1 x2 x3 p_errors h_bits h_sizes h_numbers = some u) : q_RW (cE ad) l yX6_sheet wsX6_sheet (rmq (1)) D cI [.ref (qp 0), .int x1, .int x2, .int x3] [(qp 0, .inr (6, oX6 qp (qb 0) (qr 0) (qv 0) (qh 0) p_kept p_timesKept)), (qh 0, .inr (3, oX3 qh)), (qp 5, .inl (cI, 7, .inl p_errors)), (qh 1, .inl (cI, 4, .inl h_bits)), (qh 2, .inl (cI, 4, .inl h_sizes)), (qh 3, .inl (cI, 96, .inl h_numbers))] [(qp 0, .inr (6, oX6 qp (qb 0) (qr 0) (qv 0) (qh 0) p_kept p_timesKept)), (qh 0, .inr (3, oX3 qh)), (qp 5, .inl (cI, 7, .inl u.2.1)), (qh 1, .inl (cI, 4, .inl u.2.2.1)), (qh 2, .inl (cI, 4, .inl u.2.2.2.1)), (qh 3, .inl (cI, 96, .inl u.2.2.2.2))] u.1 := by
  refine q_startW (fun u : Int32 × (Nat → Int32) × (Nat → Int32) × (Nat → Int32) × (Nat → Int32) => [(qp 0, .inr (6, oX6 qp (qb 0) (qr 0) (qv 0) (qh 0) p_kept p_timesKept)), (qh 0, .inr (3, oX3 qh)), (qp 5, .inl (cI, 7, .inl u.2.1)), (qh 1, .inl (cI, 4, .inl u.2.2.1)), (qh 2, .inl (cI, 4, .inl u.2.2.2.1)), (qh 3, .inl (cI, 96, .inl u.2.2.2.2))]) (fun u => u.1) (cc := cX6_sheet) (maxL := 4) (ty := .int) (own := RX6) (by decide) rfl rfl (Nat.le_of_ble_eq_true rfl) rfl (fun p e s m args below meth c Q A hx hb hml hown hts hK hEv hA hret hP hD hS ls hl => ?_)
  have in3 : ∀ w ∈ wsX30, w ∈ wsX6_sheet := fun w h => List.mem_cons_of_mem _ (List.mem_append_right _ (h))
  have in6 : ∀ w ∈ wsX60, w ∈ wsX6_sheet := fun w h => List.mem_cons_of_mem _ (List.mem_append_left _ (List.mem_append_right _ (h)))
  have l33 := hts (.fieldLink RX6 33 "PageWars" "sheets" "LPageWars$Sheets;") (List.mem_of_getElem? (i := 1) rfl)
  have J65 : ∀ (x1 : Int32) (x2 : Int32) (x3 : Int32) (p_errors : (Nat → Int32)) (h_bits : (Nat → Int32)) (h_sizes : (Nat → Int32)) (h_numbers : (Nat → Int32)) (H : Heap) (locs : List Loc) (ls : Array Slot), lv_has ls 4 [(0, .ref (qp 0)), (1, .int x1), (2, .int x2), (3, .int x3)] → va_P D vwCl [(qp 0, .inr (6, oX6 qp (qb 0) (qr 0) (qv 0) (qh 0) p_kept p_timesKept)), (qh 0, .inr (3, oX3 qh)), (qp 5, .inl (cI, 7, .inl p_errors)), (qh 1, .inl (cI, 4, .inl h_bits)), (qh 2, .inl (cI, 4, .inl h_sizes)), (qh 3, .inl (cI, 96, .inl h_numbers))] H → va_D A [(qp 0, .inr (6, oX6 qp (qb 0) (qr 0) (qv 0) (qh 0) p_kept p_timesKept)), (qh 0, .inr (3, oX3 qh)), (qp 5, .inl (cI, 7, .inl p_errors)), (qh 1, .inl (cI, 4, .inl h_bits)), (qh 2, .inl (cI, 4, .inl h_sizes)), (qh 3, .inl (cI, 96, .inl h_numbers))] → va_S A s.heap H locs → f6_sheet_65 n x1 x2 x3 p_errors h_bits h_sizes h_numbers = some u → W p l e (rmq (1)) s m args below meth c H locs 0 0 Q (F0 m 65 ls []) := by
    intro x1 x2 x3 p_errors h_bits h_sizes h_numbers H locs ls hl hP hD hS h
    unfold f6_sheet_65 at h
    refine lv_aload_n hx hb dX6_sheet_65 rfl (lv_at hl 0 rfl) ?_
    refine va_get (D := D) (ci := 6) (v := .ref (qh 0)) (C := RX6) (T := TX6) (N := 7) hx hb hts in6 hown hK hP 0 rfl rfl 3 (by decide) l33 (fun _ h9 => h9) rfl dX6_sheet_66 ?_
    refine lv_iload_n hx hb dX6_sheet_69 rfl (lv_at hl 1 rfl) ?_
    refine lv_iload_n hx hb dX6_sheet_70 rfl (lv_at hl 2 rfl) ?_
    refine lv_iload_n hx hb dX6_sheet_71 rfl (lv_at hl 3 rfl) ?_
    refine q_callV3 (cEok ad) (rest := []) (fun u => [(qh 0, .inr (3, oX3 qh)), (qh 1, .inl (cI, 4, .inl u.1)), (qh 2, .inl (cI, 4, .inl u.2.1)), (qh 3, .inl (cI, 96, .inl u.2.2))]) ⟨hx, hb, hml, hown, hts⟩ (fun u hu => c3_lays l D cI ad qh h_bits h_sizes h_numbers x1 x2 x3 n u hu) (cwV 3 hts gX6_sheet_X3_lays rfl rfl rfl hdX3_lays (rmq_ok (Nat.le_of_ble_eq_true rfl) (Nat.le_of_ble_eq_true rfl))) hK hEv hA hP hD hS [1, 3, 4, 5] (by decide) rfl (fun _ => rfl) (va_recv hK hP (ci := 3) (q0 := 1) rfl rfl) rfl rfl hl.1 (Nat.le_of_ble_eq_true rfl) ⟨Nat.zero_le _, Nat.zero_le _⟩ h dX6_sheet_72 (fun h_bits_72 h_sizes_72 h_numbers_72 H locs h hP hD hS => ?_)
    have hP : va_P D vwCl [(qp 0, .inr (6, oX6 qp (qb 0) (qr 0) (qv 0) (qh 0) p_kept p_timesKept)), (qh 0, .inr (3, oX3 qh)), (qp 5, .inl (cI, 7, .inl p_errors)), (qh 1, .inl (cI, 4, .inl h_bits_72)), (qh 2, .inl (cI, 4, .inl h_sizes_72)), (qh 3, .inl (cI, 96, .inl h_numbers_72))] H := hP
    have hD : va_D A [(qp 0, .inr (6, oX6 qp (qb 0) (qr 0) (qv 0) (qh 0) p_kept p_timesKept)), (qh 0, .inr (3, oX3 qh)), (qp 5, .inl (cI, 7, .inl p_errors)), (qh 1, .inl (cI, 4, .inl h_bits_72)), (qh 2, .inl (cI, 4, .inl h_sizes_72)), (qh 3, .inl (cI, 96, .inl h_numbers_72))] := hD
    refine lv_iconst (v := (1 : Int32)) hx hb dX6_sheet_75 (by decide) ?_
    exact hret ((1 : Int32), p_errors, h_bits_72, h_sizes_72, h_numbers_72) _ _ _ _ (vp_nar_int _) h hP hD hS dX6_sheet_76
  have J49 : ∀ (x1 : Int32) (x2 : Int32) (x3 : Int32) (p_errors : (Nat → Int32)) (h_bits : (Nat → Int32)) (h_sizes : (Nat → Int32)) (h_numbers : (Nat → Int32)) (H : Heap) (locs : List Loc) (ls : Array Slot), lv_has ls 4 [(0, .ref (qp 0)), (1, .int x1), (2, .int x2), (3, .int x3)] → va_P D vwCl [(qp 0, .inr (6, oX6 qp (qb 0) (qr 0) (qv 0) (qh 0) p_kept p_timesKept)), (qh 0, .inr (3, oX3 qh)), (qp 5, .inl (cI, 7, .inl p_errors)), (qh 1, .inl (cI, 4, .inl h_bits)), (qh 2, .inl (cI, 4, .inl h_sizes)), (qh 3, .inl (cI, 96, .inl h_numbers))] H → va_D A [(qp 0, .inr (6, oX6 qp (qb 0) (qr 0) (qv 0) (qh 0) p_kept p_timesKept)), (qh 0, .inr (3, oX3 qh)), (qp 5, .inl (cI, 7, .inl p_errors)), (qh 1, .inl (cI, 4, .inl h_bits)), (qh 2, .inl (cI, 4, .inl h_sizes)), (qh 3, .inl (cI, 96, .inl h_numbers))] → va_S A s.heap H locs → f6_sheet_49 n x1 x2 x3 p_errors h_bits h_sizes h_numbers = some u → W p l e (rmq (1)) s m args below meth c H locs 0 0 Q (F0 m 49 ls []) := by
    intro x1 x2 x3 p_errors h_bits h_sizes h_numbers H locs ls hl hP hD hS h
    unfold f6_sheet_49 at h
    refine lv_iload_n hx hb dX6_sheet_49 rfl (lv_at hl 2 rfl) ?_
    refine q_ifeq hx hb 65 h dX6_sheet_50 (by decide) (fun h => ?_) (fun h => ?_)
    · exact J65 x1 x2 x3 p_errors h_bits h_sizes h_numbers _ _ _ (lv_sub hl [0, 1, 2, 3] rfl) hP hD hS h
    · refine lv_iload_n hx hb dX6_sheet_53 rfl (lv_at hl 3 rfl) ?_
      refine lv_bipush (v := (24 : Int32)) hx hb dX6_sheet_54 (by decide) ?_
      refine q_cle hx hb 65 h dX6_sheet_56 (by decide) (fun h => ?_) (fun h => ?_)
      · exact J65 x1 x2 x3 p_errors h_bits h_sizes h_numbers _ _ _ (lv_sub hl [0, 1, 2, 3] rfl) hP hD hS h
      · refine lv_aload_n hx hb dX6_sheet_59 rfl (lv_at hl 0 rfl) ?_
        refine lv_iconst (v := (1 : Int32)) hx hb dX6_sheet_60 (by decide) ?_
        refine q_callW2 (cEok ad) (rest := []) (fun u => [(qp 0, .inr (6, oX6 qp (qb 0) (qr 0) (qv 0) (qh 0) p_kept p_timesKept)), (qp 5, .inl (cI, 7, .inl u.2))]) (fun u => u.1) ⟨hx, hb, hml, hown, hts⟩ (fun u hu => c6_error l D cI ad qp qb qr qv qh p_kept p_timesKept p_errors ((1 : Int32)) u hu) (cwV 1 hts gX6_sheet_X6_error rfl rfl rfl hdX6_error (rmq_ok (Nat.le_of_ble_eq_true rfl) (Nat.le_of_ble_eq_true rfl))) hK hEv hA hP hD hS [0, 2] (by decide) rfl (fun _ => rfl) (va_recv hK hP (ci := 6) (q0 := 0) rfl rfl) rfl rfl hl.1 (Nat.le_of_ble_eq_true rfl) ⟨Nat.zero_le _, Nat.zero_le _⟩ h dX6_sheet_61 (fun t61 p_errors_61 H locs h hP hD hS => ?_)
        have hP : va_P D vwCl [(qp 0, .inr (6, oX6 qp (qb 0) (qr 0) (qv 0) (qh 0) p_kept p_timesKept)), (qh 0, .inr (3, oX3 qh)), (qp 5, .inl (cI, 7, .inl p_errors_61)), (qh 1, .inl (cI, 4, .inl h_bits)), (qh 2, .inl (cI, 4, .inl h_sizes)), (qh 3, .inl (cI, 96, .inl h_numbers))] H := hP
        have hD : va_D A [(qp 0, .inr (6, oX6 qp (qb 0) (qr 0) (qv 0) (qh 0) p_kept p_timesKept)), (qh 0, .inr (3, oX3 qh)), (qp 5, .inl (cI, 7, .inl p_errors_61)), (qh 1, .inl (cI, 4, .inl h_bits)), (qh 2, .inl (cI, 4, .inl h_sizes)), (qh 3, .inl (cI, 96, .inl h_numbers))] := hD
        exact hret (t61, p_errors_61, h_bits, h_sizes, h_numbers) _ _ _ _ (vp_nar_int _) h hP hD hS dX6_sheet_64
  have J35 : ∀ (x1 : Int32) (x2 : Int32) (x3 : Int32) (p_errors : (Nat → Int32)) (h_bits : (Nat → Int32)) (h_sizes : (Nat → Int32)) (h_numbers : (Nat → Int32)) (H : Heap) (locs : List Loc) (ls : Array Slot), lv_has ls 4 [(0, .ref (qp 0)), (1, .int x1), (2, .int x2), (3, .int x3)] → va_P D vwCl [(qp 0, .inr (6, oX6 qp (qb 0) (qr 0) (qv 0) (qh 0) p_kept p_timesKept)), (qh 0, .inr (3, oX3 qh)), (qp 5, .inl (cI, 7, .inl p_errors)), (qh 1, .inl (cI, 4, .inl h_bits)), (qh 2, .inl (cI, 4, .inl h_sizes)), (qh 3, .inl (cI, 96, .inl h_numbers))] H → va_D A [(qp 0, .inr (6, oX6 qp (qb 0) (qr 0) (qv 0) (qh 0) p_kept p_timesKept)), (qh 0, .inr (3, oX3 qh)), (qp 5, .inl (cI, 7, .inl p_errors)), (qh 1, .inl (cI, 4, .inl h_bits)), (qh 2, .inl (cI, 4, .inl h_sizes)), (qh 3, .inl (cI, 96, .inl h_numbers))] → va_S A s.heap H locs → f6_sheet_35 n x1 x2 x3 p_errors h_bits h_sizes h_numbers = some u → W p l e (rmq (1)) s m args below meth c H locs 0 0 Q (F0 m 35 ls []) := by
    intro x1 x2 x3 p_errors h_bits h_sizes h_numbers H locs ls hl hP hD hS h
    unfold f6_sheet_35 at h
    refine lv_iload_n hx hb dX6_sheet_35 rfl (lv_at hl 2 rfl) ?_
    refine q_ifeq hx hb 49 h dX6_sheet_36 (by decide) (fun h => ?_) (fun h => ?_)
    · exact J49 x1 x2 x3 p_errors h_bits h_sizes h_numbers _ _ _ (lv_sub hl [0, 1, 2, 3] rfl) hP hD hS h
    · refine lv_iload_n hx hb dX6_sheet_39 rfl (lv_at hl 3 rfl) ?_
      refine q_ifge hx hb 49 h dX6_sheet_40 (by decide) (fun h => ?_) (fun h => ?_)
      · exact J49 x1 x2 x3 p_errors h_bits h_sizes h_numbers _ _ _ (lv_sub hl [0, 1, 2, 3] rfl) hP hD hS h
      · refine lv_aload_n hx hb dX6_sheet_43 rfl (lv_at hl 0 rfl) ?_
        refine lv_iconst (v := (3 : Int32)) hx hb dX6_sheet_44 (by decide) ?_
        refine q_callW2 (cEok ad) (rest := []) (fun u => [(qp 0, .inr (6, oX6 qp (qb 0) (qr 0) (qv 0) (qh 0) p_kept p_timesKept)), (qp 5, .inl (cI, 7, .inl u.2))]) (fun u => u.1) ⟨hx, hb, hml, hown, hts⟩ (fun u hu => c6_error l D cI ad qp qb qr qv qh p_kept p_timesKept p_errors ((3 : Int32)) u hu) (cwV 1 hts gX6_sheet_X6_error rfl rfl rfl hdX6_error (rmq_ok (Nat.le_of_ble_eq_true rfl) (Nat.le_of_ble_eq_true rfl))) hK hEv hA hP hD hS [0, 2] (by decide) rfl (fun _ => rfl) (va_recv hK hP (ci := 6) (q0 := 0) rfl rfl) rfl rfl hl.1 (Nat.le_of_ble_eq_true rfl) ⟨Nat.zero_le _, Nat.zero_le _⟩ h dX6_sheet_45 (fun t45 p_errors_45 H locs h hP hD hS => ?_)
        have hP : va_P D vwCl [(qp 0, .inr (6, oX6 qp (qb 0) (qr 0) (qv 0) (qh 0) p_kept p_timesKept)), (qh 0, .inr (3, oX3 qh)), (qp 5, .inl (cI, 7, .inl p_errors_45)), (qh 1, .inl (cI, 4, .inl h_bits)), (qh 2, .inl (cI, 4, .inl h_sizes)), (qh 3, .inl (cI, 96, .inl h_numbers))] H := hP
        have hD : va_D A [(qp 0, .inr (6, oX6 qp (qb 0) (qr 0) (qv 0) (qh 0) p_kept p_timesKept)), (qh 0, .inr (3, oX3 qh)), (qp 5, .inl (cI, 7, .inl p_errors_45)), (qh 1, .inl (cI, 4, .inl h_bits)), (qh 2, .inl (cI, 4, .inl h_sizes)), (qh 3, .inl (cI, 96, .inl h_numbers))] := hD
        exact hret (t45, p_errors_45, h_bits, h_sizes, h_numbers) _ _ _ _ (vp_nar_int _) h hP hD hS dX6_sheet_48
  have J29 : ∀ (p_errors : (Nat → Int32)) (h_bits : (Nat → Int32)) (h_sizes : (Nat → Int32)) (h_numbers : (Nat → Int32)) (H : Heap) (locs : List Loc) (ls : Array Slot), lv_has ls 4 [(0, .ref (qp 0))] → va_P D vwCl [(qp 0, .inr (6, oX6 qp (qb 0) (qr 0) (qv 0) (qh 0) p_kept p_timesKept)), (qh 0, .inr (3, oX3 qh)), (qp 5, .inl (cI, 7, .inl p_errors)), (qh 1, .inl (cI, 4, .inl h_bits)), (qh 2, .inl (cI, 4, .inl h_sizes)), (qh 3, .inl (cI, 96, .inl h_numbers))] H → va_D A [(qp 0, .inr (6, oX6 qp (qb 0) (qr 0) (qv 0) (qh 0) p_kept p_timesKept)), (qh 0, .inr (3, oX3 qh)), (qp 5, .inl (cI, 7, .inl p_errors)), (qh 1, .inl (cI, 4, .inl h_bits)), (qh 2, .inl (cI, 4, .inl h_sizes)), (qh 3, .inl (cI, 96, .inl h_numbers))] → va_S A s.heap H locs → f6_sheet_29 n p_errors h_bits h_sizes h_numbers = some u → W p l e (rmq (1)) s m args below meth c H locs 0 0 Q (F0 m 29 ls []) := by
    intro p_errors h_bits h_sizes h_numbers H locs ls hl hP hD hS h
    unfold f6_sheet_29 at h
    refine lv_aload_n hx hb dX6_sheet_29 rfl (lv_at hl 0 rfl) ?_
    refine lv_iconst (v := (1 : Int32)) hx hb dX6_sheet_30 (by decide) ?_
    refine q_callW2 (cEok ad) (rest := []) (fun u => [(qp 0, .inr (6, oX6 qp (qb 0) (qr 0) (qv 0) (qh 0) p_kept p_timesKept)), (qp 5, .inl (cI, 7, .inl u.2))]) (fun u => u.1) ⟨hx, hb, hml, hown, hts⟩ (fun u hu => c6_error l D cI ad qp qb qr qv qh p_kept p_timesKept p_errors ((1 : Int32)) u hu) (cwV 1 hts gX6_sheet_X6_error rfl rfl rfl hdX6_error (rmq_ok (Nat.le_of_ble_eq_true rfl) (Nat.le_of_ble_eq_true rfl))) hK hEv hA hP hD hS [0, 2] (by decide) rfl (fun _ => rfl) (va_recv hK hP (ci := 6) (q0 := 0) rfl rfl) rfl rfl hl.1 (Nat.le_of_ble_eq_true rfl) ⟨Nat.zero_le _, Nat.zero_le _⟩ h dX6_sheet_31 (fun t31 p_errors_31 H locs h hP hD hS => ?_)
    have hP : va_P D vwCl [(qp 0, .inr (6, oX6 qp (qb 0) (qr 0) (qv 0) (qh 0) p_kept p_timesKept)), (qh 0, .inr (3, oX3 qh)), (qp 5, .inl (cI, 7, .inl p_errors_31)), (qh 1, .inl (cI, 4, .inl h_bits)), (qh 2, .inl (cI, 4, .inl h_sizes)), (qh 3, .inl (cI, 96, .inl h_numbers))] H := hP
    have hD : va_D A [(qp 0, .inr (6, oX6 qp (qb 0) (qr 0) (qv 0) (qh 0) p_kept p_timesKept)), (qh 0, .inr (3, oX3 qh)), (qp 5, .inl (cI, 7, .inl p_errors_31)), (qh 1, .inl (cI, 4, .inl h_bits)), (qh 2, .inl (cI, 4, .inl h_sizes)), (qh 3, .inl (cI, 96, .inl h_numbers))] := hD
    exact hret (t31, p_errors_31, h_bits, h_sizes, h_numbers) _ _ _ _ (vp_nar_int _) h hP hD hS dX6_sheet_34
  unfold f6_sheet at h
  refine lv_iload_n hx hb dX6_sheet_0 rfl (lv_at hl 1 rfl) ?_
  refine q_callRS (cEok ad) (rest := []) ⟨hx, hb, hml, hown, hts⟩ (fun r hr => c6_isSheet l D cI ad x1 r hr) (va_cwS 1 hts gX6_sheet_X6_isSheet rfl rfl rfl hdX6_isSheet (rmq_ok (Nat.le_of_ble_eq_true rfl) (Nat.le_of_ble_eq_true rfl))) hK hP hEv hS [] rfl rfl rfl hl.1 (Nat.le_of_ble_eq_true rfl) ⟨Nat.zero_le _, Nat.zero_le _⟩ h dX6_sheet_1 (fun t1 h => ?_)
  refine q_ifeq hx hb 29 h dX6_sheet_4 (by decide) (fun h => ?_) (fun h => ?_)
  · exact J29 p_errors h_bits h_sizes h_numbers _ _ _ (lv_sub hl [0] rfl) hP hD hS h
  · refine lv_iload_n hx hb dX6_sheet_7 rfl (lv_at hl 2 rfl) ?_
    refine q_ifeq hx hb 35 h dX6_sheet_8 (by decide) (fun h => ?_) (fun h => ?_)
    · exact J35 x1 x2 x3 p_errors h_bits h_sizes h_numbers _ _ _ (lv_sub hl [0, 1, 2, 3] rfl) hP hD hS h
    · refine lv_iload_n hx hb dX6_sheet_11 rfl (lv_at hl 2 rfl) ?_
      refine lv_bipush (v := (8 : Int32)) hx hb dX6_sheet_12 (by decide) ?_
      refine q_ceq hx hb 35 h dX6_sheet_14 (by decide) (fun h => ?_) (fun h => ?_)
      · exact J35 x1 x2 x3 p_errors h_bits h_sizes h_numbers _ _ _ (lv_sub hl [0, 1, 2, 3] rfl) hP hD hS h
      · refine lv_iload_n hx hb dX6_sheet_17 rfl (lv_at hl 2 rfl) ?_
        refine lv_bipush (v := (16 : Int32)) hx hb dX6_sheet_18 (by decide) ?_
        refine q_ceq hx hb 35 h dX6_sheet_20 (by decide) (fun h => ?_) (fun h => ?_)
        · exact J35 x1 x2 x3 p_errors h_bits h_sizes h_numbers _ _ _ (lv_sub hl [0, 1, 2, 3] rfl) hP hD hS h
        · refine lv_iload_n hx hb dX6_sheet_23 rfl (lv_at hl 2 rfl) ?_
          refine lv_bipush (v := (32 : Int32)) hx hb dX6_sheet_24 (by decide) ?_
          refine q_ceq hx hb 35 h dX6_sheet_26 (by decide) (fun h => ?_) (fun h => ?_)
          · exact J35 x1 x2 x3 p_errors h_bits h_sizes h_numbers _ _ _ (lv_sub hl [0, 1, 2, 3] rfl) hP hD hS h
          · exact J29 p_errors h_bits h_sizes h_numbers _ _ _ (lv_sub hl [0] rfl) hP hD hS h
set_option maxHeartbeats 4000000 in
set_option maxRecDepth 100000 in
theorem c3_sets (l : Launch) (D : va_G) (cI : ClassId) (ad : Nat → Nat) (qh : Nat → Nat) (h_bits h_numbers : Nat → Int32) (x1 : Int32) (x2 : Int32) (x3 : Int32) (u : (Nat → Int32)) (h : f3_sets x1 x2 x3 h_bits h_numbers = some u) : q_RV (cE ad) l yX3_sets wsX3_sets (rmq (0)) D cI [.ref (qh 0), .int x1, .int x2, .int x3] [(qh 0, .inr (3, oX3 qh)), (qh 1, .inl (cI, 4, .inl h_bits)), (qh 3, .inl (cI, 96, .inl h_numbers))] [(qh 0, .inr (3, oX3 qh)), (qh 1, .inl (cI, 4, .inl h_bits)), (qh 3, .inl (cI, 96, .inl u))] := by
  refine q_startV (fun u : (Nat → Int32) => [(qh 0, .inr (3, oX3 qh)), (qh 1, .inl (cI, 4, .inl h_bits)), (qh 3, .inl (cI, 96, .inl u))]) (cc := cX3_sets) (maxL := 5) (own := RX3) (by decide) rfl rfl (Nat.le_of_ble_eq_true rfl) rfl (fun p e s m args below meth c Q A hx hb hml hown hts hK hEv hA hret hP hD hS ls hl => ?_)
  have in3 : ∀ w ∈ wsX30, w ∈ wsX3_sets := fun w h => List.mem_cons_of_mem _ (List.mem_append_right _ (h))
  have l9 := hts (.fieldLink RX3 9 "PageWars$Sheets" "bits" "[I") (List.mem_of_getElem? (i := 1) rfl)
  have l16 := hts (.fieldLink RX3 16 "PageWars$Sheets" "numbers" "[I") (List.mem_of_getElem? (i := 2) rfl)
  unfold f3_sets at h
  refine lv_bipush (v := (32 : Int32)) hx hb dX3_sets_0 (by decide) ?_
  refine lv_aload_n hx hb dX3_sets_2 rfl (lv_at hl 0 rfl) ?_
  refine va_get (D := D) (ci := 3) (v := .ref (qh 1)) (C := RX3) (T := TX3) (N := 3) hx hb hts in3 hown hK hP 0 rfl rfl 0 (by decide) l9 (fun _ h9 => h9) rfl dX3_sets_3 ?_
  refine lv_iload_n hx hb dX3_sets_6 rfl (lv_at hl 1 rfl) ?_
  refine q_iald hx hb hK hP 1 0 rfl rfl h dX3_sets_7 (fun t7 h => ?_)
  refine lv_isub hx hb dX3_sets_8 ?_
  refine q_let h (fun x4_9 h => ?_)
  refine lv_istore (lv' := [(4, .int x4_9), (0, .ref (qh 0)), (1, .int x1), (2, .int x2), (3, .int x3)]) hx hb dX3_sets_9 hl (by decide) rfl (fun ls hl => ?_)
  refine lv_aload_n hx hb dX3_sets_11 rfl (lv_at hl 1 rfl) ?_
  refine va_get (D := D) (ci := 3) (v := .ref (qh 3)) (C := RX3) (T := TX3) (N := 3) hx hb hts in3 hown hK hP 0 rfl rfl 2 (by decide) l16 (fun _ h9 => h9) rfl dX3_sets_12 ?_
  refine lv_iload_n hx hb dX3_sets_15 rfl (lv_at hl 2 rfl) ?_
  refine lv_bipush (v := (24 : Int32)) hx hb dX3_sets_16 (by decide) ?_
  refine lv_imul hx hb dX3_sets_18 ?_
  refine lv_iload_n hx hb dX3_sets_19 rfl (lv_at hl 3 rfl) ?_
  refine lv_iadd hx hb dX3_sets_20 ?_
  refine lv_iload_n hx hb dX3_sets_21 rfl (lv_at hl 4 rfl) ?_
  refine lv_iload hx hb dX3_sets_22 (lv_at hl 0 rfl) ?_
  refine lv_ishl hx hb dX3_sets_24 ?_
  refine lv_iload hx hb dX3_sets_25 (lv_at hl 0 rfl) ?_
  refine lv_ishr hx hb dX3_sets_27 ?_
  refine q_iast hx hb hK hP hD hS 2 0 rfl rfl h dX3_sets_28 (fun h_numbers_28 H locs h hP hD hS => ?_)
  have hP : va_P D vwCl [(qh 0, .inr (3, oX3 qh)), (qh 1, .inl (cI, 4, .inl h_bits)), (qh 3, .inl (cI, 96, .inl h_numbers_28))] H := hP
  have hD : va_D A [(qh 0, .inr (3, oX3 qh)), (qh 1, .inl (cI, 4, .inl h_bits)), (qh 3, .inl (cI, 96, .inl h_numbers_28))] := hD
  exact hret (h_numbers_28) _ _ _ _ h hP hD hS dX3_sets_29
set_option maxHeartbeats 4000000 in
set_option maxRecDepth 100000 in
theorem c6_put (l : Launch) (D : va_G) (cI : ClassId) (ad : Nat → Nat) (qp qb qr qv qh : Nat → Nat) (p_kept : Value) (p_timesKept : Int32) (p_errors h_bits h_sizes h_numbers : Nat → Int32) (x1 : Int32) (x2 : Int32) (x3 : Int32) (u : Int32 × (Nat → Int32) × (Nat → Int32)) (h : f6_put x1 x2 x3 p_errors h_bits h_sizes h_numbers = some u) : q_RW (cE ad) l yX6_put wsX6_put (rmq (1)) D cI [.ref (qp 0), .int x1, .int x2, .int x3] [(qp 0, .inr (6, oX6 qp (qb 0) (qr 0) (qv 0) (qh 0) p_kept p_timesKept)), (qh 0, .inr (3, oX3 qh)), (qp 5, .inl (cI, 7, .inl p_errors)), (qh 1, .inl (cI, 4, .inl h_bits)), (qh 2, .inl (cI, 4, .inl h_sizes)), (qh 3, .inl (cI, 96, .inl h_numbers))] [(qp 0, .inr (6, oX6 qp (qb 0) (qr 0) (qv 0) (qh 0) p_kept p_timesKept)), (qh 0, .inr (3, oX3 qh)), (qp 5, .inl (cI, 7, .inl u.2.1)), (qh 1, .inl (cI, 4, .inl h_bits)), (qh 2, .inl (cI, 4, .inl h_sizes)), (qh 3, .inl (cI, 96, .inl u.2.2))] u.1 := by
  refine q_startW (fun u : Int32 × (Nat → Int32) × (Nat → Int32) => [(qp 0, .inr (6, oX6 qp (qb 0) (qr 0) (qv 0) (qh 0) p_kept p_timesKept)), (qh 0, .inr (3, oX3 qh)), (qp 5, .inl (cI, 7, .inl u.2.1)), (qh 1, .inl (cI, 4, .inl h_bits)), (qh 2, .inl (cI, 4, .inl h_sizes)), (qh 3, .inl (cI, 96, .inl u.2.2))]) (fun u => u.1) (cc := cX6_put) (maxL := 4) (ty := .int) (own := RX6) (by decide) rfl rfl (Nat.le_of_ble_eq_true rfl) rfl (fun p e s m args below meth c Q A hx hb hml hown hts hK hEv hA hret hP hD hS ls hl => ?_)
  have in3 : ∀ w ∈ wsX30, w ∈ wsX6_put := fun w h => List.mem_cons_of_mem _ (List.mem_append_right _ (h))
  have in6 : ∀ w ∈ wsX60, w ∈ wsX6_put := fun w h => List.mem_cons_of_mem _ (List.mem_append_left _ (List.mem_append_right _ (h)))
  have l33 := hts (.fieldLink RX6 33 "PageWars" "sheets" "LPageWars$Sheets;") (List.mem_of_getElem? (i := 1) rfl)
  have l267 : (Cond.fieldLinkNest RX6 267 "PageWars$Sheets" "bits" "[I" "PageWars").before args s = true := cE_f6_267 hEv
  have l270 : (Cond.fieldLinkNest RX6 270 "PageWars$Sheets" "sizes" "[I" "PageWars").before args s = true := cE_f6_270 hEv
  have J48 : ∀ (p_errors : (Nat → Int32)) (h_numbers : (Nat → Int32)) (H : Heap) (locs : List Loc) (ls : Array Slot), lv_has ls 4 [(0, .ref (qp 0))] → va_P D vwCl [(qp 0, .inr (6, oX6 qp (qb 0) (qr 0) (qv 0) (qh 0) p_kept p_timesKept)), (qh 0, .inr (3, oX3 qh)), (qp 5, .inl (cI, 7, .inl p_errors)), (qh 1, .inl (cI, 4, .inl h_bits)), (qh 2, .inl (cI, 4, .inl h_sizes)), (qh 3, .inl (cI, 96, .inl h_numbers))] H → va_D A [(qp 0, .inr (6, oX6 qp (qb 0) (qr 0) (qv 0) (qh 0) p_kept p_timesKept)), (qh 0, .inr (3, oX3 qh)), (qp 5, .inl (cI, 7, .inl p_errors)), (qh 1, .inl (cI, 4, .inl h_bits)), (qh 2, .inl (cI, 4, .inl h_sizes)), (qh 3, .inl (cI, 96, .inl h_numbers))] → va_S A s.heap H locs → f6_put_48 h_bits h_sizes p_errors h_numbers = some u → W p l e (rmq (1)) s m args below meth c H locs 0 0 Q (F0 m 48 ls []) := by
    intro p_errors h_numbers H locs ls hl hP hD hS h
    unfold f6_put_48 at h
    refine lv_aload_n hx hb dX6_put_48 rfl (lv_at hl 0 rfl) ?_
    refine lv_iconst (v := (1 : Int32)) hx hb dX6_put_49 (by decide) ?_
    refine q_callW2 (cEok ad) (rest := []) (fun u => [(qp 0, .inr (6, oX6 qp (qb 0) (qr 0) (qv 0) (qh 0) p_kept p_timesKept)), (qp 5, .inl (cI, 7, .inl u.2))]) (fun u => u.1) ⟨hx, hb, hml, hown, hts⟩ (fun u hu => c6_error l D cI ad qp qb qr qv qh p_kept p_timesKept p_errors ((1 : Int32)) u hu) (cwV 1 hts gX6_put_X6_error rfl rfl rfl hdX6_error (rmq_ok (Nat.le_of_ble_eq_true rfl) (Nat.le_of_ble_eq_true rfl))) hK hEv hA hP hD hS [0, 2] (by decide) rfl (fun _ => rfl) (va_recv hK hP (ci := 6) (q0 := 0) rfl rfl) rfl rfl hl.1 (Nat.le_of_ble_eq_true rfl) ⟨Nat.zero_le _, Nat.zero_le _⟩ h dX6_put_50 (fun t50 p_errors_50 H locs h hP hD hS => ?_)
    have hP : va_P D vwCl [(qp 0, .inr (6, oX6 qp (qb 0) (qr 0) (qv 0) (qh 0) p_kept p_timesKept)), (qh 0, .inr (3, oX3 qh)), (qp 5, .inl (cI, 7, .inl p_errors_50)), (qh 1, .inl (cI, 4, .inl h_bits)), (qh 2, .inl (cI, 4, .inl h_sizes)), (qh 3, .inl (cI, 96, .inl h_numbers))] H := hP
    have hD : va_D A [(qp 0, .inr (6, oX6 qp (qb 0) (qr 0) (qv 0) (qh 0) p_kept p_timesKept)), (qh 0, .inr (3, oX3 qh)), (qp 5, .inl (cI, 7, .inl p_errors_50)), (qh 1, .inl (cI, 4, .inl h_bits)), (qh 2, .inl (cI, 4, .inl h_sizes)), (qh 3, .inl (cI, 96, .inl h_numbers))] := hD
    exact hret (t50, p_errors_50, h_numbers) _ _ _ _ (vp_nar_int _) h hP hD hS dX6_put_53
  unfold f6_put at h
  refine lv_iload_n hx hb dX6_put_0 rfl (lv_at hl 1 rfl) ?_
  refine q_callRS (cEok ad) (rest := []) ⟨hx, hb, hml, hown, hts⟩ (fun r hr => c6_isSheet l D cI ad x1 r hr) (va_cwS 1 hts gX6_put_X6_isSheet rfl rfl rfl hdX6_isSheet (rmq_ok (Nat.le_of_ble_eq_true rfl) (Nat.le_of_ble_eq_true rfl))) hK hP hEv hS [] rfl rfl rfl hl.1 (Nat.le_of_ble_eq_true rfl) ⟨Nat.zero_le _, Nat.zero_le _⟩ h dX6_put_1 (fun t1 h => ?_)
  refine q_ifne hx hb 13 h dX6_put_4 (by decide) (fun h => ?_) (fun h => ?_)
  · refine lv_aload_n hx hb dX6_put_13 rfl (lv_at hl 0 rfl) ?_
    refine va_get (D := D) (ci := 6) (v := .ref (qh 0)) (C := RX6) (T := TX6) (N := 7) hx hb hts in6 hown hK hP 0 rfl rfl 3 (by decide) l33 (fun _ h9 => h9) rfl dX6_put_14 ?_
    refine va_getN (D := D) (ci := 3) (v := .ref (qh 1)) (C := RX3) (T := TX3) (N := 3) hx hb hts in3 hown hK hP 1 rfl rfl 0 (by decide) l267 (fun _ h9 => h9) rfl dX6_put_17 ?_
    refine lv_iload_n hx hb dX6_put_20 rfl (lv_at hl 1 rfl) ?_
    refine q_iald hx hb hK hP 3 0 rfl rfl h dX6_put_21 (fun t21 h => ?_)
    refine q_ifne hx hb 31 h dX6_put_22 (by decide) (fun h => ?_) (fun h => ?_)
    · refine lv_iload_n hx hb dX6_put_31 rfl (lv_at hl 2 rfl) ?_
      refine q_iflt hx hb 48 h dX6_put_32 (by decide) (fun h => ?_) (fun h => ?_)
      · exact J48 p_errors h_numbers _ _ _ (lv_sub hl [0] rfl) hP hD hS h
      · refine lv_iload_n hx hb dX6_put_35 rfl (lv_at hl 2 rfl) ?_
        refine lv_aload_n hx hb dX6_put_36 rfl (lv_at hl 0 rfl) ?_
        refine va_get (D := D) (ci := 6) (v := .ref (qh 0)) (C := RX6) (T := TX6) (N := 7) hx hb hts in6 hown hK hP 0 rfl rfl 3 (by decide) l33 (fun _ h9 => h9) rfl dX6_put_37 ?_
        refine va_getN (D := D) (ci := 3) (v := .ref (qh 2)) (C := RX3) (T := TX3) (N := 3) hx hb hts in3 hown hK hP 1 rfl rfl 1 (by decide) l270 (fun _ h9 => h9) rfl dX6_put_40 ?_
        refine lv_iload_n hx hb dX6_put_43 rfl (lv_at hl 1 rfl) ?_
        refine q_iald hx hb hK hP 4 0 rfl rfl h dX6_put_44 (fun t44 h => ?_)
        refine q_clt hx hb 54 h dX6_put_45 (by decide) (fun h => ?_) (fun h => ?_)
        · refine lv_aload_n hx hb dX6_put_54 rfl (lv_at hl 0 rfl) ?_
          refine va_get (D := D) (ci := 6) (v := .ref (qh 0)) (C := RX6) (T := TX6) (N := 7) hx hb hts in6 hown hK hP 0 rfl rfl 3 (by decide) l33 (fun _ h9 => h9) rfl dX6_put_55 ?_
          refine lv_iload_n hx hb dX6_put_58 rfl (lv_at hl 1 rfl) ?_
          refine lv_iload_n hx hb dX6_put_59 rfl (lv_at hl 2 rfl) ?_
          refine lv_iload_n hx hb dX6_put_60 rfl (lv_at hl 3 rfl) ?_
          refine q_callV1 (cEok ad) (rest := []) (fun u => [(qh 0, .inr (3, oX3 qh)), (qh 1, .inl (cI, 4, .inl h_bits)), (qh 3, .inl (cI, 96, .inl u))]) ⟨hx, hb, hml, hown, hts⟩ (fun u hu => c3_sets l D cI ad qh h_bits h_numbers x1 x2 x3 u hu) (cwV 3 hts gX6_put_X3_sets rfl rfl rfl hdX3_sets (rmq_ok (Nat.le_of_ble_eq_true rfl) (Nat.le_of_ble_eq_true rfl))) hK hEv hA hP hD hS [1, 3, 5] (by decide) rfl (fun _ => rfl) (va_recv hK hP (ci := 3) (q0 := 1) rfl rfl) rfl rfl hl.1 (Nat.le_of_ble_eq_true rfl) ⟨Nat.zero_le _, Nat.zero_le _⟩ h dX6_put_61 (fun h_numbers_61 H locs h hP hD hS => ?_)
          have hP : va_P D vwCl [(qp 0, .inr (6, oX6 qp (qb 0) (qr 0) (qv 0) (qh 0) p_kept p_timesKept)), (qh 0, .inr (3, oX3 qh)), (qp 5, .inl (cI, 7, .inl p_errors)), (qh 1, .inl (cI, 4, .inl h_bits)), (qh 2, .inl (cI, 4, .inl h_sizes)), (qh 3, .inl (cI, 96, .inl h_numbers_61))] H := hP
          have hD : va_D A [(qp 0, .inr (6, oX6 qp (qb 0) (qr 0) (qv 0) (qh 0) p_kept p_timesKept)), (qh 0, .inr (3, oX3 qh)), (qp 5, .inl (cI, 7, .inl p_errors)), (qh 1, .inl (cI, 4, .inl h_bits)), (qh 2, .inl (cI, 4, .inl h_sizes)), (qh 3, .inl (cI, 96, .inl h_numbers_61))] := hD
          refine lv_iconst (v := (1 : Int32)) hx hb dX6_put_64 (by decide) ?_
          exact hret ((1 : Int32), p_errors, h_numbers_61) _ _ _ _ (vp_nar_int _) h hP hD hS dX6_put_65
        · exact J48 p_errors h_numbers _ _ _ (lv_sub hl [0] rfl) hP hD hS h
    · refine lv_aload_n hx hb dX6_put_25 rfl (lv_at hl 0 rfl) ?_
      refine lv_iconst (v := (2 : Int32)) hx hb dX6_put_26 (by decide) ?_
      refine q_callW2 (cEok ad) (rest := []) (fun u => [(qp 0, .inr (6, oX6 qp (qb 0) (qr 0) (qv 0) (qh 0) p_kept p_timesKept)), (qp 5, .inl (cI, 7, .inl u.2))]) (fun u => u.1) ⟨hx, hb, hml, hown, hts⟩ (fun u hu => c6_error l D cI ad qp qb qr qv qh p_kept p_timesKept p_errors ((2 : Int32)) u hu) (cwV 1 hts gX6_put_X6_error rfl rfl rfl hdX6_error (rmq_ok (Nat.le_of_ble_eq_true rfl) (Nat.le_of_ble_eq_true rfl))) hK hEv hA hP hD hS [0, 2] (by decide) rfl (fun _ => rfl) (va_recv hK hP (ci := 6) (q0 := 0) rfl rfl) rfl rfl hl.1 (Nat.le_of_ble_eq_true rfl) ⟨Nat.zero_le _, Nat.zero_le _⟩ h dX6_put_27 (fun t27 p_errors_27 H locs h hP hD hS => ?_)
      have hP : va_P D vwCl [(qp 0, .inr (6, oX6 qp (qb 0) (qr 0) (qv 0) (qh 0) p_kept p_timesKept)), (qh 0, .inr (3, oX3 qh)), (qp 5, .inl (cI, 7, .inl p_errors_27)), (qh 1, .inl (cI, 4, .inl h_bits)), (qh 2, .inl (cI, 4, .inl h_sizes)), (qh 3, .inl (cI, 96, .inl h_numbers))] H := hP
      have hD : va_D A [(qp 0, .inr (6, oX6 qp (qb 0) (qr 0) (qv 0) (qh 0) p_kept p_timesKept)), (qh 0, .inr (3, oX3 qh)), (qp 5, .inl (cI, 7, .inl p_errors_27)), (qh 1, .inl (cI, 4, .inl h_bits)), (qh 2, .inl (cI, 4, .inl h_sizes)), (qh 3, .inl (cI, 96, .inl h_numbers))] := hD
      exact hret (t27, p_errors_27, h_numbers) _ _ _ _ (vp_nar_int _) h hP hD hS dX6_put_30
  · refine lv_aload_n hx hb dX6_put_7 rfl (lv_at hl 0 rfl) ?_
    refine lv_iconst (v := (1 : Int32)) hx hb dX6_put_8 (by decide) ?_
    refine q_callW2 (cEok ad) (rest := []) (fun u => [(qp 0, .inr (6, oX6 qp (qb 0) (qr 0) (qv 0) (qh 0) p_kept p_timesKept)), (qp 5, .inl (cI, 7, .inl u.2))]) (fun u => u.1) ⟨hx, hb, hml, hown, hts⟩ (fun u hu => c6_error l D cI ad qp qb qr qv qh p_kept p_timesKept p_errors ((1 : Int32)) u hu) (cwV 1 hts gX6_put_X6_error rfl rfl rfl hdX6_error (rmq_ok (Nat.le_of_ble_eq_true rfl) (Nat.le_of_ble_eq_true rfl))) hK hEv hA hP hD hS [0, 2] (by decide) rfl (fun _ => rfl) (va_recv hK hP (ci := 6) (q0 := 0) rfl rfl) rfl rfl hl.1 (Nat.le_of_ble_eq_true rfl) ⟨Nat.zero_le _, Nat.zero_le _⟩ h dX6_put_9 (fun t9 p_errors_9 H locs h hP hD hS => ?_)
    have hP : va_P D vwCl [(qp 0, .inr (6, oX6 qp (qb 0) (qr 0) (qv 0) (qh 0) p_kept p_timesKept)), (qh 0, .inr (3, oX3 qh)), (qp 5, .inl (cI, 7, .inl p_errors_9)), (qh 1, .inl (cI, 4, .inl h_bits)), (qh 2, .inl (cI, 4, .inl h_sizes)), (qh 3, .inl (cI, 96, .inl h_numbers))] H := hP
    have hD : va_D A [(qp 0, .inr (6, oX6 qp (qb 0) (qr 0) (qv 0) (qh 0) p_kept p_timesKept)), (qh 0, .inr (3, oX3 qh)), (qp 5, .inl (cI, 7, .inl p_errors_9)), (qh 1, .inl (cI, 4, .inl h_bits)), (qh 2, .inl (cI, 4, .inl h_sizes)), (qh 3, .inl (cI, 96, .inl h_numbers))] := hD
    exact hret (t9, p_errors_9, h_numbers) _ _ _ _ (vp_nar_int _) h hP hD hS dX6_put_12
set_option maxHeartbeats 4000000 in
set_option maxRecDepth 100000 in
theorem c3_hold (l : Launch) (D : va_G) (cI : ClassId) (ad : Nat → Nat) (qh : Nat → Nat) (h_sizes : Nat → Int32) (x1 : Int32) (x2 : Int32) (x3 : Int32) (u : Int32) (h : f3_hold x1 x2 x3 h_sizes = some u) : q_RO (cE ad) l yX3_hold wsX3_hold (rmq (0)) D cI [.ref (qh 0), .int x1, .int x2, .int x3] [(qh 0, .inr (3, oX3 qh)), (qh 2, .inl (cI, 4, .inl h_sizes))] u := by
  refine q_startR (cc := cX3_hold) (maxL := 4) (ty := .boolean) (own := RX3) (by decide) rfl rfl (Nat.le_of_ble_eq_true rfl) rfl (fun p e s m args below meth c Q hx hb hml hown hts hP hK hEv hret ls hl => ?_)
  have in3 : ∀ w ∈ wsX30, w ∈ wsX3_hold := fun w h => List.mem_cons_of_mem _ (List.mem_append_right _ (h))
  have l13 := hts (.fieldLink RX3 13 "PageWars$Sheets" "sizes" "[I") (List.mem_of_getElem? (i := 1) rfl)
  have J35 : ∀ (s0 : Int32) (ls : Array Slot), lv_has ls 4 [(0, .ref (qh 0))] → f3_hold_35 h_sizes s0 = some u → W p l e (rmq (0)) s m args below meth c s.heap [] 0 0 Q (F0 m 35 ls [.int s0]) := by
    intro s0  ls hl h
    unfold f3_hold_35 at h
    obtain ⟨hz, h⟩ := q_bz_of h
    exact hret _ _ _ (q_nz hz) h dX3_hold_35
  have J34 : ∀  (ls : Array Slot), lv_has ls 4 [(0, .ref (qh 0))] → f3_hold_34 h_sizes  = some u → W p l e (rmq (0)) s m args below meth c s.heap [] 0 0 Q (F0 m 34 ls []) := by
    intro   ls hl h
    unfold f3_hold_34 at h
    refine lv_iconst (v := (0 : Int32)) hx hb dX3_hold_34 (by decide) ?_
    exact J35 ((0 : Int32)) _ (lv_sub hl [0] rfl) h
  unfold f3_hold at h
  refine lv_iload_n hx hb dX3_hold_0 rfl (lv_at hl 2 rfl) ?_
  refine q_iflt hx hb 34 h dX3_hold_1 (by decide) (fun h => ?_) (fun h => ?_)
  · exact J34  _ (lv_sub hl [0] rfl) h
  · refine lv_iload_n hx hb dX3_hold_4 rfl (lv_at hl 3 rfl) ?_
    refine q_iflt hx hb 34 h dX3_hold_5 (by decide) (fun h => ?_) (fun h => ?_)
    · exact J34  _ (lv_sub hl [0] rfl) h
    · refine lv_iload_n hx hb dX3_hold_8 rfl (lv_at hl 3 rfl) ?_
      refine lv_aload_n hx hb dX3_hold_9 rfl (lv_at hl 0 rfl) ?_
      refine va_get (D := D) (ci := 3) (v := .ref (qh 2)) (C := RX3) (T := TX3) (N := 3) hx hb hts in3 hown hK hP 0 rfl rfl 1 (by decide) l13 (fun _ h9 => h9) rfl dX3_hold_10 ?_
      refine lv_iload_n hx hb dX3_hold_13 rfl (lv_at hl 1 rfl) ?_
      refine q_iald hx hb hK hP 1 0 rfl rfl h dX3_hold_14 (fun t14 h => ?_)
      refine q_cgt hx hb 34 h dX3_hold_15 (by decide) (fun h => ?_) (fun h => ?_)
      · exact J34  _ (lv_sub hl [0] rfl) h
      · refine lv_iload_n hx hb dX3_hold_18 rfl (lv_at hl 2 rfl) ?_
        refine lv_aload_n hx hb dX3_hold_19 rfl (lv_at hl 0 rfl) ?_
        refine va_get (D := D) (ci := 3) (v := .ref (qh 2)) (C := RX3) (T := TX3) (N := 3) hx hb hts in3 hown hK hP 0 rfl rfl 1 (by decide) l13 (fun _ h9 => h9) rfl dX3_hold_20 ?_
        refine lv_iload_n hx hb dX3_hold_23 rfl (lv_at hl 1 rfl) ?_
        refine q_iald hx hb hK hP 1 0 rfl rfl h dX3_hold_24 (fun t24 h => ?_)
        refine lv_iload_n hx hb dX3_hold_25 rfl (lv_at hl 3 rfl) ?_
        refine lv_isub hx hb dX3_hold_26 ?_
        refine q_cgt hx hb 34 h dX3_hold_27 (by decide) (fun h => ?_) (fun h => ?_)
        · exact J34  _ (lv_sub hl [0] rfl) h
        · refine lv_iconst (v := (1 : Int32)) hx hb dX3_hold_30 (by decide) ?_
          refine lv_goto (tgt := 35) hx hb dX3_hold_31 (by decide) ?_
          exact J35 ((1 : Int32)) _ (lv_sub hl [0] rfl) h
set_option maxHeartbeats 4000000 in
set_option maxRecDepth 100000 in
theorem c3_copies (l : Launch) (D : va_G) (cI : ClassId) (ad : Nat → Nat) (qh : Nat → Nat) (h_numbers : Nat → Int32) (x1 : Int32) (x2 : Int32) (x3 : Int32) (x4 : Int32) (x5 : Int32) (u : (Nat → Int32)) (h : f3_copies x1 x2 x3 x4 x5 h_numbers = some u) : q_RV (cE ad) l yX3_copies wsX3_copies (rmq (1)) D cI [.ref (qh 0), .int x1, .int x2, .int x3, .int x4, .int x5] [(qh 0, .inr (3, oX3 qh)), (qh 3, .inl (cI, 96, .inl h_numbers))] [(qh 0, .inr (3, oX3 qh)), (qh 3, .inl (cI, 96, .inl u))] := by
  refine q_startV (fun u : (Nat → Int32) => [(qh 0, .inr (3, oX3 qh)), (qh 3, .inl (cI, 96, .inl u))]) (cc := cX3_copies) (maxL := 6) (own := RX3) (by decide) rfl rfl (Nat.le_of_ble_eq_true rfl) rfl (fun p e s m args below meth c Q A hx hb hml hown hts hK hEv hA hret hP hD hS ls hl => ?_)
  have in3 : ∀ w ∈ wsX30, w ∈ wsX3_copies := fun w h => List.mem_cons_of_mem _ (List.mem_append_right _ (h))
  have l16 := hts (.fieldLink RX3 16 "PageWars$Sheets" "numbers" "[I") (List.mem_of_getElem? (i := 1) rfl)
  unfold f3_copies at h
  refine lv_aload_n hx hb dX3_copies_0 rfl (lv_at hl 0 rfl) ?_
  refine va_get (D := D) (ci := 3) (v := .ref (qh 3)) (C := RX3) (T := TX3) (N := 3) hx hb hts in3 hown hK hP 0 rfl rfl 2 (by decide) l16 (fun _ h9 => h9) rfl dX3_copies_1 ?_
  refine lv_iload_n hx hb dX3_copies_4 rfl (lv_at hl 1 rfl) ?_
  refine lv_bipush (v := (24 : Int32)) hx hb dX3_copies_5 (by decide) ?_
  refine lv_imul hx hb dX3_copies_7 ?_
  refine lv_iload_n hx hb dX3_copies_8 rfl (lv_at hl 2 rfl) ?_
  refine lv_iadd hx hb dX3_copies_9 ?_
  refine lv_aload_n hx hb dX3_copies_10 rfl (lv_at hl 0 rfl) ?_
  refine va_get (D := D) (ci := 3) (v := .ref (qh 3)) (C := RX3) (T := TX3) (N := 3) hx hb hts in3 hown hK hP 0 rfl rfl 2 (by decide) l16 (fun _ h9 => h9) rfl dX3_copies_11 ?_
  refine lv_iload_n hx hb dX3_copies_14 rfl (lv_at hl 3 rfl) ?_
  refine lv_bipush (v := (24 : Int32)) hx hb dX3_copies_15 (by decide) ?_
  refine lv_imul hx hb dX3_copies_17 ?_
  refine lv_iload hx hb dX3_copies_18 (lv_at hl 4 rfl) ?_
  refine lv_iadd hx hb dX3_copies_20 ?_
  refine lv_iload hx hb dX3_copies_21 (lv_at hl 5 rfl) ?_
  refine q_copy hx hb (hml.trans hl.1.symm) hown (hts (.methodLink RX3 19 arraycopyName) (List.mem_of_getElem? (i := 2) rfl)) (hts (.native arraycopyName) (List.mem_of_getElem? (i := 3) rfl)) (hts (.static arraycopyName) (List.mem_of_getElem? (i := 4) rfl)) (hts (.initialized "java/lang/System") (List.mem_of_getElem? (i := 5) rfl)) hK hP hD hS 1 1 rfl rfl (Nat.le_of_ble_eq_true rfl) (by decide +kernel) h dX3_copies_23 (fun h_numbers_23 H locs h hP hD hS => ?_)
  have hP : va_P D vwCl [(qh 0, .inr (3, oX3 qh)), (qh 3, .inl (cI, 96, .inl h_numbers_23))] H := hP
  have hD : va_D A [(qh 0, .inr (3, oX3 qh)), (qh 3, .inl (cI, 96, .inl h_numbers_23))] := hD
  exact hret (h_numbers_23) _ _ _ _ h hP hD hS dX3_copies_26
set_option maxHeartbeats 4000000 in
set_option maxRecDepth 100000 in
theorem c6_move (l : Launch) (D : va_G) (cI : ClassId) (ad : Nat → Nat) (qp qb qr qv qh : Nat → Nat) (p_kept : Value) (p_timesKept : Int32) (p_errors h_bits h_sizes h_numbers : Nat → Int32) (x1 : Int32) (x2 : Int32) (x3 : Int32) (x4 : Int32) (x5 : Int32) (u : Int32 × (Nat → Int32) × (Nat → Int32)) (h : f6_move x1 x2 x3 x4 x5 p_errors h_bits h_sizes h_numbers = some u) : q_RW (cE ad) l yX6_move wsX6_move (rmq (2)) D cI [.ref (qp 0), .int x1, .int x2, .int x3, .int x4, .int x5] [(qp 0, .inr (6, oX6 qp (qb 0) (qr 0) (qv 0) (qh 0) p_kept p_timesKept)), (qh 0, .inr (3, oX3 qh)), (qp 5, .inl (cI, 7, .inl p_errors)), (qh 1, .inl (cI, 4, .inl h_bits)), (qh 2, .inl (cI, 4, .inl h_sizes)), (qh 3, .inl (cI, 96, .inl h_numbers))] [(qp 0, .inr (6, oX6 qp (qb 0) (qr 0) (qv 0) (qh 0) p_kept p_timesKept)), (qh 0, .inr (3, oX3 qh)), (qp 5, .inl (cI, 7, .inl u.2.1)), (qh 1, .inl (cI, 4, .inl h_bits)), (qh 2, .inl (cI, 4, .inl h_sizes)), (qh 3, .inl (cI, 96, .inl u.2.2))] u.1 := by
  refine q_startW (fun u : Int32 × (Nat → Int32) × (Nat → Int32) => [(qp 0, .inr (6, oX6 qp (qb 0) (qr 0) (qv 0) (qh 0) p_kept p_timesKept)), (qh 0, .inr (3, oX3 qh)), (qp 5, .inl (cI, 7, .inl u.2.1)), (qh 1, .inl (cI, 4, .inl h_bits)), (qh 2, .inl (cI, 4, .inl h_sizes)), (qh 3, .inl (cI, 96, .inl u.2.2))]) (fun u => u.1) (cc := cX6_move) (maxL := 6) (ty := .int) (own := RX6) (by decide) rfl rfl (Nat.le_of_ble_eq_true rfl) rfl (fun p e s m args below meth c Q A hx hb hml hown hts hK hEv hA hret hP hD hS ls hl => ?_)
  have in3 : ∀ w ∈ wsX30, w ∈ wsX6_move := fun w h => List.mem_cons_of_mem _ (List.mem_append_right _ (h))
  have in6 : ∀ w ∈ wsX60, w ∈ wsX6_move := fun w h => List.mem_cons_of_mem _ (List.mem_append_left _ (List.mem_append_right _ (h)))
  have l33 := hts (.fieldLink RX6 33 "PageWars" "sheets" "LPageWars$Sheets;") (List.mem_of_getElem? (i := 1) rfl)
  have l267 : (Cond.fieldLinkNest RX6 267 "PageWars$Sheets" "bits" "[I" "PageWars").before args s = true := cE_f6_267 hEv
  have J106 : ∀ (p_errors : (Nat → Int32)) (h_numbers : (Nat → Int32)) (H : Heap) (locs : List Loc) (ls : Array Slot), lv_has ls 6 [(0, .ref (qp 0))] → va_P D vwCl [(qp 0, .inr (6, oX6 qp (qb 0) (qr 0) (qv 0) (qh 0) p_kept p_timesKept)), (qh 0, .inr (3, oX3 qh)), (qp 5, .inl (cI, 7, .inl p_errors)), (qh 1, .inl (cI, 4, .inl h_bits)), (qh 2, .inl (cI, 4, .inl h_sizes)), (qh 3, .inl (cI, 96, .inl h_numbers))] H → va_D A [(qp 0, .inr (6, oX6 qp (qb 0) (qr 0) (qv 0) (qh 0) p_kept p_timesKept)), (qh 0, .inr (3, oX3 qh)), (qp 5, .inl (cI, 7, .inl p_errors)), (qh 1, .inl (cI, 4, .inl h_bits)), (qh 2, .inl (cI, 4, .inl h_sizes)), (qh 3, .inl (cI, 96, .inl h_numbers))] → va_S A s.heap H locs → f6_move_106 h_bits h_sizes p_errors h_numbers = some u → W p l e (rmq (2)) s m args below meth c H locs 0 0 Q (F0 m 106 ls []) := by
    intro p_errors h_numbers H locs ls hl hP hD hS h
    unfold f6_move_106 at h
    refine lv_aload_n hx hb dX6_move_106 rfl (lv_at hl 0 rfl) ?_
    refine lv_iconst (v := (1 : Int32)) hx hb dX6_move_107 (by decide) ?_
    refine q_callW2 (cEok ad) (rest := []) (fun u => [(qp 0, .inr (6, oX6 qp (qb 0) (qr 0) (qv 0) (qh 0) p_kept p_timesKept)), (qp 5, .inl (cI, 7, .inl u.2))]) (fun u => u.1) ⟨hx, hb, hml, hown, hts⟩ (fun u hu => c6_error l D cI ad qp qb qr qv qh p_kept p_timesKept p_errors ((1 : Int32)) u hu) (cwV 1 hts gX6_move_X6_error rfl rfl rfl hdX6_error (rmq_ok (Nat.le_of_ble_eq_true rfl) (Nat.le_of_ble_eq_true rfl))) hK hEv hA hP hD hS [0, 2] (by decide) rfl (fun _ => rfl) (va_recv hK hP (ci := 6) (q0 := 0) rfl rfl) rfl rfl hl.1 (Nat.le_of_ble_eq_true rfl) ⟨Nat.zero_le _, Nat.zero_le _⟩ h dX6_move_108 (fun t108 p_errors_108 H locs h hP hD hS => ?_)
    have hP : va_P D vwCl [(qp 0, .inr (6, oX6 qp (qb 0) (qr 0) (qv 0) (qh 0) p_kept p_timesKept)), (qh 0, .inr (3, oX3 qh)), (qp 5, .inl (cI, 7, .inl p_errors_108)), (qh 1, .inl (cI, 4, .inl h_bits)), (qh 2, .inl (cI, 4, .inl h_sizes)), (qh 3, .inl (cI, 96, .inl h_numbers))] H := hP
    have hD : va_D A [(qp 0, .inr (6, oX6 qp (qb 0) (qr 0) (qv 0) (qh 0) p_kept p_timesKept)), (qh 0, .inr (3, oX3 qh)), (qp 5, .inl (cI, 7, .inl p_errors_108)), (qh 1, .inl (cI, 4, .inl h_bits)), (qh 2, .inl (cI, 4, .inl h_sizes)), (qh 3, .inl (cI, 96, .inl h_numbers))] := hD
    exact hret (t108, p_errors_108, h_numbers) _ _ _ _ (vp_nar_int _) h hP hD hS dX6_move_111
  have J44 : ∀ (p_errors : (Nat → Int32)) (h_numbers : (Nat → Int32)) (H : Heap) (locs : List Loc) (ls : Array Slot), lv_has ls 6 [(0, .ref (qp 0))] → va_P D vwCl [(qp 0, .inr (6, oX6 qp (qb 0) (qr 0) (qv 0) (qh 0) p_kept p_timesKept)), (qh 0, .inr (3, oX3 qh)), (qp 5, .inl (cI, 7, .inl p_errors)), (qh 1, .inl (cI, 4, .inl h_bits)), (qh 2, .inl (cI, 4, .inl h_sizes)), (qh 3, .inl (cI, 96, .inl h_numbers))] H → va_D A [(qp 0, .inr (6, oX6 qp (qb 0) (qr 0) (qv 0) (qh 0) p_kept p_timesKept)), (qh 0, .inr (3, oX3 qh)), (qp 5, .inl (cI, 7, .inl p_errors)), (qh 1, .inl (cI, 4, .inl h_bits)), (qh 2, .inl (cI, 4, .inl h_sizes)), (qh 3, .inl (cI, 96, .inl h_numbers))] → va_S A s.heap H locs → f6_move_44 h_bits h_sizes p_errors h_numbers = some u → W p l e (rmq (2)) s m args below meth c H locs 0 0 Q (F0 m 44 ls []) := by
    intro p_errors h_numbers H locs ls hl hP hD hS h
    unfold f6_move_44 at h
    refine lv_aload_n hx hb dX6_move_44 rfl (lv_at hl 0 rfl) ?_
    refine lv_iconst (v := (2 : Int32)) hx hb dX6_move_45 (by decide) ?_
    refine q_callW2 (cEok ad) (rest := []) (fun u => [(qp 0, .inr (6, oX6 qp (qb 0) (qr 0) (qv 0) (qh 0) p_kept p_timesKept)), (qp 5, .inl (cI, 7, .inl u.2))]) (fun u => u.1) ⟨hx, hb, hml, hown, hts⟩ (fun u hu => c6_error l D cI ad qp qb qr qv qh p_kept p_timesKept p_errors ((2 : Int32)) u hu) (cwV 1 hts gX6_move_X6_error rfl rfl rfl hdX6_error (rmq_ok (Nat.le_of_ble_eq_true rfl) (Nat.le_of_ble_eq_true rfl))) hK hEv hA hP hD hS [0, 2] (by decide) rfl (fun _ => rfl) (va_recv hK hP (ci := 6) (q0 := 0) rfl rfl) rfl rfl hl.1 (Nat.le_of_ble_eq_true rfl) ⟨Nat.zero_le _, Nat.zero_le _⟩ h dX6_move_46 (fun t46 p_errors_46 H locs h hP hD hS => ?_)
    have hP : va_P D vwCl [(qp 0, .inr (6, oX6 qp (qb 0) (qr 0) (qv 0) (qh 0) p_kept p_timesKept)), (qh 0, .inr (3, oX3 qh)), (qp 5, .inl (cI, 7, .inl p_errors_46)), (qh 1, .inl (cI, 4, .inl h_bits)), (qh 2, .inl (cI, 4, .inl h_sizes)), (qh 3, .inl (cI, 96, .inl h_numbers))] H := hP
    have hD : va_D A [(qp 0, .inr (6, oX6 qp (qb 0) (qr 0) (qv 0) (qh 0) p_kept p_timesKept)), (qh 0, .inr (3, oX3 qh)), (qp 5, .inl (cI, 7, .inl p_errors_46)), (qh 1, .inl (cI, 4, .inl h_bits)), (qh 2, .inl (cI, 4, .inl h_sizes)), (qh 3, .inl (cI, 96, .inl h_numbers))] := hD
    exact hret (t46, p_errors_46, h_numbers) _ _ _ _ (vp_nar_int _) h hP hD hS dX6_move_49
  have J14 : ∀ (p_errors : (Nat → Int32)) (h_numbers : (Nat → Int32)) (H : Heap) (locs : List Loc) (ls : Array Slot), lv_has ls 6 [(0, .ref (qp 0))] → va_P D vwCl [(qp 0, .inr (6, oX6 qp (qb 0) (qr 0) (qv 0) (qh 0) p_kept p_timesKept)), (qh 0, .inr (3, oX3 qh)), (qp 5, .inl (cI, 7, .inl p_errors)), (qh 1, .inl (cI, 4, .inl h_bits)), (qh 2, .inl (cI, 4, .inl h_sizes)), (qh 3, .inl (cI, 96, .inl h_numbers))] H → va_D A [(qp 0, .inr (6, oX6 qp (qb 0) (qr 0) (qv 0) (qh 0) p_kept p_timesKept)), (qh 0, .inr (3, oX3 qh)), (qp 5, .inl (cI, 7, .inl p_errors)), (qh 1, .inl (cI, 4, .inl h_bits)), (qh 2, .inl (cI, 4, .inl h_sizes)), (qh 3, .inl (cI, 96, .inl h_numbers))] → va_S A s.heap H locs → f6_move_14 h_bits h_sizes p_errors h_numbers = some u → W p l e (rmq (2)) s m args below meth c H locs 0 0 Q (F0 m 14 ls []) := by
    intro p_errors h_numbers H locs ls hl hP hD hS h
    unfold f6_move_14 at h
    refine lv_aload_n hx hb dX6_move_14 rfl (lv_at hl 0 rfl) ?_
    refine lv_iconst (v := (1 : Int32)) hx hb dX6_move_15 (by decide) ?_
    refine q_callW2 (cEok ad) (rest := []) (fun u => [(qp 0, .inr (6, oX6 qp (qb 0) (qr 0) (qv 0) (qh 0) p_kept p_timesKept)), (qp 5, .inl (cI, 7, .inl u.2))]) (fun u => u.1) ⟨hx, hb, hml, hown, hts⟩ (fun u hu => c6_error l D cI ad qp qb qr qv qh p_kept p_timesKept p_errors ((1 : Int32)) u hu) (cwV 1 hts gX6_move_X6_error rfl rfl rfl hdX6_error (rmq_ok (Nat.le_of_ble_eq_true rfl) (Nat.le_of_ble_eq_true rfl))) hK hEv hA hP hD hS [0, 2] (by decide) rfl (fun _ => rfl) (va_recv hK hP (ci := 6) (q0 := 0) rfl rfl) rfl rfl hl.1 (Nat.le_of_ble_eq_true rfl) ⟨Nat.zero_le _, Nat.zero_le _⟩ h dX6_move_16 (fun t16 p_errors_16 H locs h hP hD hS => ?_)
    have hP : va_P D vwCl [(qp 0, .inr (6, oX6 qp (qb 0) (qr 0) (qv 0) (qh 0) p_kept p_timesKept)), (qh 0, .inr (3, oX3 qh)), (qp 5, .inl (cI, 7, .inl p_errors_16)), (qh 1, .inl (cI, 4, .inl h_bits)), (qh 2, .inl (cI, 4, .inl h_sizes)), (qh 3, .inl (cI, 96, .inl h_numbers))] H := hP
    have hD : va_D A [(qp 0, .inr (6, oX6 qp (qb 0) (qr 0) (qv 0) (qh 0) p_kept p_timesKept)), (qh 0, .inr (3, oX3 qh)), (qp 5, .inl (cI, 7, .inl p_errors_16)), (qh 1, .inl (cI, 4, .inl h_bits)), (qh 2, .inl (cI, 4, .inl h_sizes)), (qh 3, .inl (cI, 96, .inl h_numbers))] := hD
    exact hret (t16, p_errors_16, h_numbers) _ _ _ _ (vp_nar_int _) h hP hD hS dX6_move_19
  unfold f6_move at h
  refine lv_iload_n hx hb dX6_move_0 rfl (lv_at hl 1 rfl) ?_
  refine q_callRS (cEok ad) (rest := []) ⟨hx, hb, hml, hown, hts⟩ (fun r hr => c6_isSheet l D cI ad x1 r hr) (va_cwS 1 hts gX6_move_X6_isSheet rfl rfl rfl hdX6_isSheet (rmq_ok (Nat.le_of_ble_eq_true rfl) (Nat.le_of_ble_eq_true rfl))) hK hP hEv hS [] rfl rfl rfl hl.1 (Nat.le_of_ble_eq_true rfl) ⟨Nat.zero_le _, Nat.zero_le _⟩ h dX6_move_1 (fun t1 h => ?_)
  refine q_ifeq hx hb 14 h dX6_move_4 (by decide) (fun h => ?_) (fun h => ?_)
  · exact J14 p_errors h_numbers _ _ _ (lv_sub hl [0] rfl) hP hD hS h
  · refine lv_iload_n hx hb dX6_move_7 rfl (lv_at hl 3 rfl) ?_
    refine q_callRS (cEok ad) (rest := []) ⟨hx, hb, hml, hown, hts⟩ (fun r hr => c6_isSheet l D cI ad x3 r hr) (va_cwS 1 hts gX6_move_X6_isSheet rfl rfl rfl hdX6_isSheet (rmq_ok (Nat.le_of_ble_eq_true rfl) (Nat.le_of_ble_eq_true rfl))) hK hP hEv hS [] rfl rfl rfl hl.1 (Nat.le_of_ble_eq_true rfl) ⟨Nat.zero_le _, Nat.zero_le _⟩ h dX6_move_8 (fun t8 h => ?_)
    refine q_ifne hx hb 20 h dX6_move_11 (by decide) (fun h => ?_) (fun h => ?_)
    · refine lv_aload_n hx hb dX6_move_20 rfl (lv_at hl 0 rfl) ?_
      refine va_get (D := D) (ci := 6) (v := .ref (qh 0)) (C := RX6) (T := TX6) (N := 7) hx hb hts in6 hown hK hP 0 rfl rfl 3 (by decide) l33 (fun _ h9 => h9) rfl dX6_move_21 ?_
      refine va_getN (D := D) (ci := 3) (v := .ref (qh 1)) (C := RX3) (T := TX3) (N := 3) hx hb hts in3 hown hK hP 1 rfl rfl 0 (by decide) l267 (fun _ h9 => h9) rfl dX6_move_24 ?_
      refine lv_iload_n hx hb dX6_move_27 rfl (lv_at hl 1 rfl) ?_
      refine q_iald hx hb hK hP 3 0 rfl rfl h dX6_move_28 (fun t28 h => ?_)
      refine q_ifeq hx hb 44 h dX6_move_29 (by decide) (fun h => ?_) (fun h => ?_)
      · exact J44 p_errors h_numbers _ _ _ (lv_sub hl [0] rfl) hP hD hS h
      · refine lv_aload_n hx hb dX6_move_32 rfl (lv_at hl 0 rfl) ?_
        refine va_get (D := D) (ci := 6) (v := .ref (qh 0)) (C := RX6) (T := TX6) (N := 7) hx hb hts in6 hown hK hP 0 rfl rfl 3 (by decide) l33 (fun _ h9 => h9) rfl dX6_move_33 ?_
        refine va_getN (D := D) (ci := 3) (v := .ref (qh 1)) (C := RX3) (T := TX3) (N := 3) hx hb hts in3 hown hK hP 1 rfl rfl 0 (by decide) l267 (fun _ h9 => h9) rfl dX6_move_36 ?_
        refine lv_iload_n hx hb dX6_move_39 rfl (lv_at hl 3 rfl) ?_
        refine q_iald hx hb hK hP 3 0 rfl rfl h dX6_move_40 (fun t40 h => ?_)
        refine q_ifne hx hb 50 h dX6_move_41 (by decide) (fun h => ?_) (fun h => ?_)
        · refine lv_aload_n hx hb dX6_move_50 rfl (lv_at hl 0 rfl) ?_
          refine va_get (D := D) (ci := 6) (v := .ref (qh 0)) (C := RX6) (T := TX6) (N := 7) hx hb hts in6 hown hK hP 0 rfl rfl 3 (by decide) l33 (fun _ h9 => h9) rfl dX6_move_51 ?_
          refine va_getN (D := D) (ci := 3) (v := .ref (qh 1)) (C := RX3) (T := TX3) (N := 3) hx hb hts in3 hown hK hP 1 rfl rfl 0 (by decide) l267 (fun _ h9 => h9) rfl dX6_move_54 ?_
          refine lv_iload_n hx hb dX6_move_57 rfl (lv_at hl 1 rfl) ?_
          refine q_iald hx hb hK hP 3 0 rfl rfl h dX6_move_58 (fun t58 h => ?_)
          refine lv_aload_n hx hb dX6_move_59 rfl (lv_at hl 0 rfl) ?_
          refine va_get (D := D) (ci := 6) (v := .ref (qh 0)) (C := RX6) (T := TX6) (N := 7) hx hb hts in6 hown hK hP 0 rfl rfl 3 (by decide) l33 (fun _ h9 => h9) rfl dX6_move_60 ?_
          refine va_getN (D := D) (ci := 3) (v := .ref (qh 1)) (C := RX3) (T := TX3) (N := 3) hx hb hts in3 hown hK hP 1 rfl rfl 0 (by decide) l267 (fun _ h9 => h9) rfl dX6_move_63 ?_
          refine lv_iload_n hx hb dX6_move_66 rfl (lv_at hl 3 rfl) ?_
          refine q_iald hx hb hK hP 3 0 rfl rfl h dX6_move_67 (fun t67 h => ?_)
          refine q_ceq hx hb 77 h dX6_move_68 (by decide) (fun h => ?_) (fun h => ?_)
          · refine lv_aload_n hx hb dX6_move_77 rfl (lv_at hl 0 rfl) ?_
            refine va_get (D := D) (ci := 6) (v := .ref (qh 0)) (C := RX6) (T := TX6) (N := 7) hx hb hts in6 hown hK hP 0 rfl rfl 3 (by decide) l33 (fun _ h9 => h9) rfl dX6_move_78 ?_
            refine lv_iload_n hx hb dX6_move_81 rfl (lv_at hl 1 rfl) ?_
            refine lv_iload_n hx hb dX6_move_82 rfl (lv_at hl 2 rfl) ?_
            refine lv_iload hx hb dX6_move_83 (lv_at hl 5 rfl) ?_
            refine q_callR (cEok ad) (rest := []) ⟨hx, hb, hml, hown, hts⟩ (fun r hr => c3_hold l D cI ad qh h_sizes x1 x2 x5 r hr) (cwV 3 hts gX6_move_X3_hold rfl rfl rfl hdX3_hold (rmq_ok (Nat.le_of_ble_eq_true rfl) (Nat.le_of_ble_eq_true rfl))) hK hP hEv hS [1, 4] rfl (va_recv hK hP (ci := 3) (q0 := 1) rfl rfl) rfl rfl hl.1 (Nat.le_of_ble_eq_true rfl) ⟨Nat.zero_le _, Nat.zero_le _⟩ h dX6_move_85 (fun t85 h => ?_)
            refine q_ifeq hx hb 106 h dX6_move_88 (by decide) (fun h => ?_) (fun h => ?_)
            · exact J106 p_errors h_numbers _ _ _ (lv_sub hl [0] rfl) hP hD hS h
            · refine lv_aload_n hx hb dX6_move_91 rfl (lv_at hl 0 rfl) ?_
              refine va_get (D := D) (ci := 6) (v := .ref (qh 0)) (C := RX6) (T := TX6) (N := 7) hx hb hts in6 hown hK hP 0 rfl rfl 3 (by decide) l33 (fun _ h9 => h9) rfl dX6_move_92 ?_
              refine lv_iload_n hx hb dX6_move_95 rfl (lv_at hl 3 rfl) ?_
              refine lv_iload hx hb dX6_move_96 (lv_at hl 4 rfl) ?_
              refine lv_iload hx hb dX6_move_98 (lv_at hl 5 rfl) ?_
              refine q_callR (cEok ad) (rest := []) ⟨hx, hb, hml, hown, hts⟩ (fun r hr => c3_hold l D cI ad qh h_sizes x3 x4 x5 r hr) (cwV 3 hts gX6_move_X3_hold rfl rfl rfl hdX3_hold (rmq_ok (Nat.le_of_ble_eq_true rfl) (Nat.le_of_ble_eq_true rfl))) hK hP hEv hS [1, 4] rfl (va_recv hK hP (ci := 3) (q0 := 1) rfl rfl) rfl rfl hl.1 (Nat.le_of_ble_eq_true rfl) ⟨Nat.zero_le _, Nat.zero_le _⟩ h dX6_move_100 (fun t100 h => ?_)
              refine q_ifne hx hb 112 h dX6_move_103 (by decide) (fun h => ?_) (fun h => ?_)
              · refine lv_aload_n hx hb dX6_move_112 rfl (lv_at hl 0 rfl) ?_
                refine va_get (D := D) (ci := 6) (v := .ref (qh 0)) (C := RX6) (T := TX6) (N := 7) hx hb hts in6 hown hK hP 0 rfl rfl 3 (by decide) l33 (fun _ h9 => h9) rfl dX6_move_113 ?_
                refine lv_iload_n hx hb dX6_move_116 rfl (lv_at hl 1 rfl) ?_
                refine lv_iload_n hx hb dX6_move_117 rfl (lv_at hl 2 rfl) ?_
                refine lv_iload_n hx hb dX6_move_118 rfl (lv_at hl 3 rfl) ?_
                refine lv_iload hx hb dX6_move_119 (lv_at hl 4 rfl) ?_
                refine lv_iload hx hb dX6_move_121 (lv_at hl 5 rfl) ?_
                refine q_callV1 (cEok ad) (rest := []) (fun u => [(qh 0, .inr (3, oX3 qh)), (qh 3, .inl (cI, 96, .inl u))]) ⟨hx, hb, hml, hown, hts⟩ (fun u hu => c3_copies l D cI ad qh h_numbers x1 x2 x3 x4 x5 u hu) (cwV 5 hts gX6_move_X3_copies rfl rfl rfl hdX3_copies (rmq_ok (Nat.le_of_ble_eq_true rfl) (Nat.le_of_ble_eq_true rfl))) hK hEv hA hP hD hS [1, 5] (by decide) rfl (fun _ => rfl) (va_recv hK hP (ci := 3) (q0 := 1) rfl rfl) rfl rfl hl.1 (Nat.le_of_ble_eq_true rfl) ⟨Nat.zero_le _, Nat.zero_le _⟩ h dX6_move_123 (fun h_numbers_123 H locs h hP hD hS => ?_)
                have hP : va_P D vwCl [(qp 0, .inr (6, oX6 qp (qb 0) (qr 0) (qv 0) (qh 0) p_kept p_timesKept)), (qh 0, .inr (3, oX3 qh)), (qp 5, .inl (cI, 7, .inl p_errors)), (qh 1, .inl (cI, 4, .inl h_bits)), (qh 2, .inl (cI, 4, .inl h_sizes)), (qh 3, .inl (cI, 96, .inl h_numbers_123))] H := hP
                have hD : va_D A [(qp 0, .inr (6, oX6 qp (qb 0) (qr 0) (qv 0) (qh 0) p_kept p_timesKept)), (qh 0, .inr (3, oX3 qh)), (qp 5, .inl (cI, 7, .inl p_errors)), (qh 1, .inl (cI, 4, .inl h_bits)), (qh 2, .inl (cI, 4, .inl h_sizes)), (qh 3, .inl (cI, 96, .inl h_numbers_123))] := hD
                refine lv_iload hx hb dX6_move_126 (lv_at hl 5 rfl) ?_
                exact hret (x5, p_errors, h_numbers_123) _ _ _ _ (vp_nar_int _) h hP hD hS dX6_move_128
              · exact J106 p_errors h_numbers _ _ _ (lv_sub hl [0] rfl) hP hD hS h
          · refine lv_aload_n hx hb dX6_move_71 rfl (lv_at hl 0 rfl) ?_
            refine lv_iconst (v := (5 : Int32)) hx hb dX6_move_72 (by decide) ?_
            refine q_callW2 (cEok ad) (rest := []) (fun u => [(qp 0, .inr (6, oX6 qp (qb 0) (qr 0) (qv 0) (qh 0) p_kept p_timesKept)), (qp 5, .inl (cI, 7, .inl u.2))]) (fun u => u.1) ⟨hx, hb, hml, hown, hts⟩ (fun u hu => c6_error l D cI ad qp qb qr qv qh p_kept p_timesKept p_errors ((5 : Int32)) u hu) (cwV 1 hts gX6_move_X6_error rfl rfl rfl hdX6_error (rmq_ok (Nat.le_of_ble_eq_true rfl) (Nat.le_of_ble_eq_true rfl))) hK hEv hA hP hD hS [0, 2] (by decide) rfl (fun _ => rfl) (va_recv hK hP (ci := 6) (q0 := 0) rfl rfl) rfl rfl hl.1 (Nat.le_of_ble_eq_true rfl) ⟨Nat.zero_le _, Nat.zero_le _⟩ h dX6_move_73 (fun t73 p_errors_73 H locs h hP hD hS => ?_)
            have hP : va_P D vwCl [(qp 0, .inr (6, oX6 qp (qb 0) (qr 0) (qv 0) (qh 0) p_kept p_timesKept)), (qh 0, .inr (3, oX3 qh)), (qp 5, .inl (cI, 7, .inl p_errors_73)), (qh 1, .inl (cI, 4, .inl h_bits)), (qh 2, .inl (cI, 4, .inl h_sizes)), (qh 3, .inl (cI, 96, .inl h_numbers))] H := hP
            have hD : va_D A [(qp 0, .inr (6, oX6 qp (qb 0) (qr 0) (qv 0) (qh 0) p_kept p_timesKept)), (qh 0, .inr (3, oX3 qh)), (qp 5, .inl (cI, 7, .inl p_errors_73)), (qh 1, .inl (cI, 4, .inl h_bits)), (qh 2, .inl (cI, 4, .inl h_sizes)), (qh 3, .inl (cI, 96, .inl h_numbers))] := hD
            exact hret (t73, p_errors_73, h_numbers) _ _ _ _ (vp_nar_int _) h hP hD hS dX6_move_76
        · exact J44 p_errors h_numbers _ _ _ (lv_sub hl [0] rfl) hP hD hS h
    · exact J14 p_errors h_numbers _ _ _ (lv_sub hl [0] rfl) hP hD hS h
set_option maxHeartbeats 4000000 in
set_option maxRecDepth 100000 in
theorem c3_numberAt (l : Launch) (D : va_G) (cI : ClassId) (ad : Nat → Nat) (qh : Nat → Nat) (h_numbers : Nat → Int32) (x1 : Int32) (x2 : Int32) (u : Int32) (h : f3_numberAt x1 x2 h_numbers = some u) : q_RO (cE ad) l yX3_numberAt wsX3_numberAt (rmq (0)) D cI [.ref (qh 0), .int x1, .int x2] [(qh 0, .inr (3, oX3 qh)), (qh 3, .inl (cI, 96, .inl h_numbers))] u := by
  refine q_startR (cc := cX3_numberAt) (maxL := 3) (ty := .int) (own := RX3) (by decide) rfl rfl (Nat.le_of_ble_eq_true rfl) rfl (fun p e s m args below meth c Q hx hb hml hown hts hP hK hEv hret ls hl => ?_)
  have in3 : ∀ w ∈ wsX30, w ∈ wsX3_numberAt := fun w h => List.mem_cons_of_mem _ (List.mem_append_right _ (h))
  have l16 := hts (.fieldLink RX3 16 "PageWars$Sheets" "numbers" "[I") (List.mem_of_getElem? (i := 1) rfl)
  unfold f3_numberAt at h
  refine lv_aload_n hx hb dX3_numberAt_0 rfl (lv_at hl 0 rfl) ?_
  refine va_get (D := D) (ci := 3) (v := .ref (qh 3)) (C := RX3) (T := TX3) (N := 3) hx hb hts in3 hown hK hP 0 rfl rfl 2 (by decide) l16 (fun _ h9 => h9) rfl dX3_numberAt_1 ?_
  refine lv_iload_n hx hb dX3_numberAt_4 rfl (lv_at hl 1 rfl) ?_
  refine lv_bipush (v := (24 : Int32)) hx hb dX3_numberAt_5 (by decide) ?_
  refine lv_imul hx hb dX3_numberAt_7 ?_
  refine lv_iload_n hx hb dX3_numberAt_8 rfl (lv_at hl 2 rfl) ?_
  refine lv_iadd hx hb dX3_numberAt_9 ?_
  refine q_iald hx hb hK hP 1 0 rfl rfl h dX3_numberAt_10 (fun t10 h => ?_)
  exact hret _ _ _ (vp_nar_int _) h dX3_numberAt_11
set_option maxHeartbeats 4000000 in
set_option maxRecDepth 100000 in
theorem c6_words (l : Launch) (D : va_G) (cI : ClassId) (ad : Nat → Nat) (qp qb qa qt qr qv qh : Nat → Nat) (p_kept : Value) (p_timesKept b_now b_shutTill b_shutBy b_z b_waits a_done t_taped : Int32) (p_errors a_kinds a_writers a_minutes a_matters a_undoers a_scores a_sizes a_cells t_codes t_lengths t_named t_stack h_bits h_sizes h_numbers : Nat → Int32) (x1 : Int32) (x2 : Int32) (n : Nat) (u : Int32 × Int32 × (Nat → Int32) × (Nat → Int32) × (Nat → Int32) × (Nat → Int32) × (Nat → Int32) × (Nat → Int32) × (Nat → Int32) × (Nat → Int32) × (Nat → Int32) × (Nat → Int32) × (Nat → Int32)) (h : f6_words n x1 x2 b_now b_shutTill b_shutBy a_done p_errors a_kinds a_writers a_minutes a_matters a_undoers a_scores a_sizes a_cells t_codes t_lengths t_named t_stack h_bits h_sizes h_numbers = some u) : q_RW (cE ad) l yX6_words wsX6_words (rmq (6)) D cI [.ref (qp 0), .int x1, .int x2] [(qp 0, .inr (6, oX6 qp (qb 0) (qr 0) (qv 0) (qh 0) p_kept p_timesKept)), (qb 0, .inr (1, oX1 qb b_now b_shutTill b_shutBy b_z b_waits (qa 0) (qt 0))), (qa 0, .inr (0, oX0 qa a_done)), (qt 0, .inr (4, oX4 qt t_taped)), (qh 0, .inr (3, oX3 qh)), (qp 5, .inl (cI, 7, .inl p_errors)), (qa 2, .inl (cI, 60, .inl a_kinds)), (qa 3, .inl (cI, 60, .inl a_writers)), (qa 4, .inl (cI, 60, .inl a_minutes)), (qa 5, .inl (cI, 60, .inl a_matters)), (qa 6, .inl (cI, 60, .inl a_undoers)), (qa 7, .inl (cI, 60, .inl a_scores)), (qa 8, .inl (cI, 61, .inl a_sizes)), (qa 9, .inl (cI, 1220, .inl a_cells)), (qt 3, .inl (cI, 480, .inl t_codes)), (qt 4, .inl (cI, 8, .inl t_lengths)), (qt 5, .inl (cI, 5, .inl t_named)), (qt 6, .inl (cI, 60, .inl t_stack)), (qh 1, .inl (cI, 4, .inl h_bits)), (qh 2, .inl (cI, 4, .inl h_sizes)), (qh 3, .inl (cI, 96, .inl h_numbers))] [(qp 0, .inr (6, oX6 qp (qb 0) (qr 0) (qv 0) (qh 0) p_kept p_timesKept)), (qb 0, .inr (1, oX1 qb b_now b_shutTill b_shutBy b_z b_waits (qa 0) (qt 0))), (qa 0, .inr (0, oX0 qa u.2.1)), (qt 0, .inr (4, oX4 qt t_taped)), (qh 0, .inr (3, oX3 qh)), (qp 5, .inl (cI, 7, .inl u.2.2.1)), (qa 2, .inl (cI, 60, .inl u.2.2.2.1)), (qa 3, .inl (cI, 60, .inl u.2.2.2.2.1)), (qa 4, .inl (cI, 60, .inl u.2.2.2.2.2.1)), (qa 5, .inl (cI, 60, .inl u.2.2.2.2.2.2.1)), (qa 6, .inl (cI, 60, .inl u.2.2.2.2.2.2.2.1)), (qa 7, .inl (cI, 60, .inl u.2.2.2.2.2.2.2.2.1)), (qa 8, .inl (cI, 61, .inl u.2.2.2.2.2.2.2.2.2.1)), (qa 9, .inl (cI, 1220, .inl u.2.2.2.2.2.2.2.2.2.2.1)), (qt 3, .inl (cI, 480, .inl t_codes)), (qt 4, .inl (cI, 8, .inl t_lengths)), (qt 5, .inl (cI, 5, .inl u.2.2.2.2.2.2.2.2.2.2.2.1)), (qt 6, .inl (cI, 60, .inl u.2.2.2.2.2.2.2.2.2.2.2.2)), (qh 1, .inl (cI, 4, .inl h_bits)), (qh 2, .inl (cI, 4, .inl h_sizes)), (qh 3, .inl (cI, 96, .inl h_numbers))] u.1 := by
  refine q_startW (fun u : Int32 × Int32 × (Nat → Int32) × (Nat → Int32) × (Nat → Int32) × (Nat → Int32) × (Nat → Int32) × (Nat → Int32) × (Nat → Int32) × (Nat → Int32) × (Nat → Int32) × (Nat → Int32) × (Nat → Int32) => [(qp 0, .inr (6, oX6 qp (qb 0) (qr 0) (qv 0) (qh 0) p_kept p_timesKept)), (qb 0, .inr (1, oX1 qb b_now b_shutTill b_shutBy b_z b_waits (qa 0) (qt 0))), (qa 0, .inr (0, oX0 qa u.2.1)), (qt 0, .inr (4, oX4 qt t_taped)), (qh 0, .inr (3, oX3 qh)), (qp 5, .inl (cI, 7, .inl u.2.2.1)), (qa 2, .inl (cI, 60, .inl u.2.2.2.1)), (qa 3, .inl (cI, 60, .inl u.2.2.2.2.1)), (qa 4, .inl (cI, 60, .inl u.2.2.2.2.2.1)), (qa 5, .inl (cI, 60, .inl u.2.2.2.2.2.2.1)), (qa 6, .inl (cI, 60, .inl u.2.2.2.2.2.2.2.1)), (qa 7, .inl (cI, 60, .inl u.2.2.2.2.2.2.2.2.1)), (qa 8, .inl (cI, 61, .inl u.2.2.2.2.2.2.2.2.2.1)), (qa 9, .inl (cI, 1220, .inl u.2.2.2.2.2.2.2.2.2.2.1)), (qt 3, .inl (cI, 480, .inl t_codes)), (qt 4, .inl (cI, 8, .inl t_lengths)), (qt 5, .inl (cI, 5, .inl u.2.2.2.2.2.2.2.2.2.2.2.1)), (qt 6, .inl (cI, 60, .inl u.2.2.2.2.2.2.2.2.2.2.2.2)), (qh 1, .inl (cI, 4, .inl h_bits)), (qh 2, .inl (cI, 4, .inl h_sizes)), (qh 3, .inl (cI, 96, .inl h_numbers))]) (fun u => u.1) (cc := cX6_words) (maxL := 6) (ty := .int) (own := RX6) (by decide) rfl rfl (Nat.le_of_ble_eq_true rfl) rfl (fun p e s m args below meth c Q A hx hb hml hown hts hK hEv hA hret hP hD hS ls hl => ?_)
  have in0 : ∀ w ∈ wsX00, w ∈ wsX6_words := fun w h => List.mem_cons_of_mem _ (List.mem_append_left _ (List.mem_append_right _ (h)))
  have in1 : ∀ w ∈ wsX10, w ∈ wsX6_words := fun w h => List.mem_cons_of_mem _ (List.mem_append_left _ (List.mem_append_left _ (List.mem_append_right _ (h))))
  have in3 : ∀ w ∈ wsX30, w ∈ wsX6_words := fun w h => List.mem_cons_of_mem _ (List.mem_append_left _ (List.mem_append_left _ (List.mem_append_left _ (List.mem_append_right _ (h)))))
  have in4 : ∀ w ∈ wsX40, w ∈ wsX6_words := fun w h => List.mem_cons_of_mem _ (List.mem_append_right _ (h))
  have in6 : ∀ w ∈ wsX60, w ∈ wsX6_words := fun w h => List.mem_cons_of_mem _ (List.mem_append_left _ (List.mem_append_left _ (List.mem_append_left _ (List.mem_append_left _ (List.mem_append_right _ (h))))))
  have l10 := hts (.fieldLink RX6 10 "PageWars" "book" "LPageWars$Book;") (List.mem_of_getElem? (i := 2) rfl)
  have l33 := hts (.fieldLink RX6 33 "PageWars" "sheets" "LPageWars$Sheets;") (List.mem_of_getElem? (i := 1) rfl)
  have l63 : (Cond.fieldLinkNest RX6 63 "PageWars$Book" "acts" "LPageWars$Acts;" "PageWars").before args s = true := cE_f6_63 hEv
  have l267 : (Cond.fieldLinkNest RX6 267 "PageWars$Sheets" "bits" "[I" "PageWars").before args s = true := cE_f6_267 hEv
  have l270 : (Cond.fieldLinkNest RX6 270 "PageWars$Sheets" "sizes" "[I" "PageWars").before args s = true := cE_f6_270 hEv
  have J40 : ∀ (kk40 : Nat) (x1 : Int32) (x2 : Int32) (x3 : Int32) (a_done : Int32) (p_errors : (Nat → Int32)) (a_kinds : (Nat → Int32)) (a_writers : (Nat → Int32)) (a_minutes : (Nat → Int32)) (a_matters : (Nat → Int32)) (a_undoers : (Nat → Int32)) (a_scores : (Nat → Int32)) (a_sizes : (Nat → Int32)) (a_cells : (Nat → Int32)) (t_named : (Nat → Int32)) (t_stack : (Nat → Int32)) (H : Heap) (locs : List Loc) (ls : Array Slot), lv_has ls 6 [(0, .ref (qp 0)), (1, .int x1), (2, .int x2), (3, .int x3)] → va_P D vwCl [(qp 0, .inr (6, oX6 qp (qb 0) (qr 0) (qv 0) (qh 0) p_kept p_timesKept)), (qb 0, .inr (1, oX1 qb b_now b_shutTill b_shutBy b_z b_waits (qa 0) (qt 0))), (qa 0, .inr (0, oX0 qa a_done)), (qt 0, .inr (4, oX4 qt t_taped)), (qh 0, .inr (3, oX3 qh)), (qp 5, .inl (cI, 7, .inl p_errors)), (qa 2, .inl (cI, 60, .inl a_kinds)), (qa 3, .inl (cI, 60, .inl a_writers)), (qa 4, .inl (cI, 60, .inl a_minutes)), (qa 5, .inl (cI, 60, .inl a_matters)), (qa 6, .inl (cI, 60, .inl a_undoers)), (qa 7, .inl (cI, 60, .inl a_scores)), (qa 8, .inl (cI, 61, .inl a_sizes)), (qa 9, .inl (cI, 1220, .inl a_cells)), (qt 3, .inl (cI, 480, .inl t_codes)), (qt 4, .inl (cI, 8, .inl t_lengths)), (qt 5, .inl (cI, 5, .inl t_named)), (qt 6, .inl (cI, 60, .inl t_stack)), (qh 1, .inl (cI, 4, .inl h_bits)), (qh 2, .inl (cI, 4, .inl h_sizes)), (qh 3, .inl (cI, 96, .inl h_numbers))] H → va_D A [(qp 0, .inr (6, oX6 qp (qb 0) (qr 0) (qv 0) (qh 0) p_kept p_timesKept)), (qb 0, .inr (1, oX1 qb b_now b_shutTill b_shutBy b_z b_waits (qa 0) (qt 0))), (qa 0, .inr (0, oX0 qa a_done)), (qt 0, .inr (4, oX4 qt t_taped)), (qh 0, .inr (3, oX3 qh)), (qp 5, .inl (cI, 7, .inl p_errors)), (qa 2, .inl (cI, 60, .inl a_kinds)), (qa 3, .inl (cI, 60, .inl a_writers)), (qa 4, .inl (cI, 60, .inl a_minutes)), (qa 5, .inl (cI, 60, .inl a_matters)), (qa 6, .inl (cI, 60, .inl a_undoers)), (qa 7, .inl (cI, 60, .inl a_scores)), (qa 8, .inl (cI, 61, .inl a_sizes)), (qa 9, .inl (cI, 1220, .inl a_cells)), (qt 3, .inl (cI, 480, .inl t_codes)), (qt 4, .inl (cI, 8, .inl t_lengths)), (qt 5, .inl (cI, 5, .inl t_named)), (qt 6, .inl (cI, 60, .inl t_stack)), (qh 1, .inl (cI, 4, .inl h_bits)), (qh 2, .inl (cI, 4, .inl h_sizes)), (qh 3, .inl (cI, 96, .inl h_numbers))] → va_S A s.heap H locs → f6_words_40 n b_now b_shutTill b_shutBy t_codes t_lengths h_bits h_sizes h_numbers kk40 x1 x2 x3 a_done p_errors a_kinds a_writers a_minutes a_matters a_undoers a_scores a_sizes a_cells t_named t_stack = some u → W p l e (rmq (6)) s m args below meth c H locs 0 0 Q (F0 m 40 ls []) := by
    intro kk40
    induction kk40 with
    | zero => intro x1 x2 x3 a_done p_errors a_kinds a_writers a_minutes a_matters a_undoers a_scores a_sizes a_cells t_named t_stack H locs ls hl hP hD hS h; exact nomatch (show (none : Option (Int32 × Int32 × (Nat → Int32) × (Nat → Int32) × (Nat → Int32) × (Nat → Int32) × (Nat → Int32) × (Nat → Int32) × (Nat → Int32) × (Nat → Int32) × (Nat → Int32) × (Nat → Int32) × (Nat → Int32))) = some u from h)
    | succ kk40 ih40 =>
      intro x1 x2 x3 a_done p_errors a_kinds a_writers a_minutes a_matters a_undoers a_scores a_sizes a_cells t_named t_stack H locs ls hl hP hD hS h
      rw [f6_words_40.eq_2] at h
      refine lv_iload_n hx hb dX6_words_40 rfl (lv_at hl 3 rfl) ?_
      refine lv_aload_n hx hb dX6_words_41 rfl (lv_at hl 0 rfl) ?_
      refine va_get (D := D) (ci := 6) (v := .ref (qh 0)) (C := RX6) (T := TX6) (N := 7) hx hb hts in6 hown hK hP 0 rfl rfl 3 (by decide) l33 (fun _ h9 => h9) rfl dX6_words_42 ?_
      refine va_getN (D := D) (ci := 3) (v := .ref (qh 2)) (C := RX3) (T := TX3) (N := 3) hx hb hts in3 hown hK hP 4 rfl rfl 1 (by decide) l270 (fun _ h9 => h9) rfl dX6_words_45 ?_
      refine lv_iload_n hx hb dX6_words_48 rfl (lv_at hl 1 rfl) ?_
      refine q_iald hx hb hK hP 19 0 rfl rfl h dX6_words_49 (fun t49 h => ?_)
      refine q_cge hx hb 121 h dX6_words_50 (by decide) (fun h => ?_) (fun h => ?_)
      · refine lv_aload_n hx hb dX6_words_121 rfl (lv_at hl 0 rfl) ?_
        refine va_get (D := D) (ci := 6) (v := .ref (qh 0)) (C := RX6) (T := TX6) (N := 7) hx hb hts in6 hown hK hP 0 rfl rfl 3 (by decide) l33 (fun _ h9 => h9) rfl dX6_words_122 ?_
        refine va_getN (D := D) (ci := 3) (v := .ref (qh 2)) (C := RX3) (T := TX3) (N := 3) hx hb hts in3 hown hK hP 4 rfl rfl 1 (by decide) l270 (fun _ h9 => h9) rfl dX6_words_125 ?_
        refine lv_iload_n hx hb dX6_words_128 rfl (lv_at hl 1 rfl) ?_
        refine q_iald hx hb hK hP 19 0 rfl rfl h dX6_words_129 (fun t129 h => ?_)
        exact hret (t129, a_done, p_errors, a_kinds, a_writers, a_minutes, a_matters, a_undoers, a_scores, a_sizes, a_cells, t_named, t_stack) _ _ _ _ (vp_nar_int _) h hP hD hS dX6_words_130
      · refine lv_bipush (v := (100 : Int32)) hx hb dX6_words_53 (by decide) ?_
        refine lv_iload_n hx hb dX6_words_55 rfl (lv_at hl 2 rfl) ?_
        refine lv_imul hx hb dX6_words_56 ?_
        refine lv_aload_n hx hb dX6_words_57 rfl (lv_at hl 0 rfl) ?_
        refine va_get (D := D) (ci := 6) (v := .ref (qb 0)) (C := RX6) (T := TX6) (N := 7) hx hb hts in6 hown hK hP 0 rfl rfl 0 (by decide) l10 (fun _ h9 => h9) rfl dX6_words_58 ?_
        refine va_getN (D := D) (ci := 1) (v := .ref (qa 0)) (C := RX1) (T := TX1) (N := 9) hx hb hts in1 hown hK hP 1 rfl rfl 7 (by decide) l63 (fun _ h9 => h9) rfl dX6_words_61 ?_
        refine q_callR (cEok ad) (rest := [.int (((100 : Int32)) * x2)]) ⟨hx, hb, hml, hown, hts⟩ (fun r hr => c0_pageSize l D cI ad qa a_done a_sizes r hr) (cwV 0 hts gX6_words_X0_pageSize rfl rfl rfl hdX0_pageSize (rmq_ok (Nat.le_of_ble_eq_true rfl) (Nat.le_of_ble_eq_true rfl))) hK hP hEv hS [2, 12] rfl (va_recv hK hP (ci := 0) (q0 := 2) rfl rfl) rfl rfl hl.1 (Nat.le_of_ble_eq_true rfl) ⟨Nat.zero_le _, Nat.zero_le _⟩ h dX6_words_64 (fun t64 h => ?_)
        refine lv_iadd hx hb dX6_words_67 ?_
        refine q_let h (fun x4_68 h => ?_)
        refine lv_istore (lv' := [(4, .int x4_68), (0, .ref (qp 0)), (1, .int x1), (2, .int x2), (3, .int x3)]) hx hb dX6_words_68 hl (by decide) rfl (fun ls hl => ?_)
        refine lv_aload_n hx hb dX6_words_70 rfl (lv_at hl 1 rfl) ?_
        refine va_get (D := D) (ci := 6) (v := .ref (qh 0)) (C := RX6) (T := TX6) (N := 7) hx hb hts in6 hown hK hP 0 rfl rfl 3 (by decide) l33 (fun _ h9 => h9) rfl dX6_words_71 ?_
        refine lv_iload_n hx hb dX6_words_74 rfl (lv_at hl 2 rfl) ?_
        refine lv_iload_n hx hb dX6_words_75 rfl (lv_at hl 4 rfl) ?_
        refine q_callR (cEok ad) (rest := []) ⟨hx, hb, hml, hown, hts⟩ (fun r hr => c3_numberAt l D cI ad qh h_numbers x1 x3 r hr) (cwV 2 hts gX6_words_X3_numberAt rfl rfl rfl hdX3_numberAt (rmq_ok (Nat.le_of_ble_eq_true rfl) (Nat.le_of_ble_eq_true rfl))) hK hP hEv hS [4, 20] rfl (va_recv hK hP (ci := 3) (q0 := 4) rfl rfl) rfl rfl hl.1 (Nat.le_of_ble_eq_true rfl) ⟨Nat.zero_le _, Nat.zero_le _⟩ h dX6_words_76 (fun t76 h => ?_)
        refine lv_istore (lv' := [(5, .int t76), (4, .int x4_68), (0, .ref (qp 0)), (1, .int x1), (2, .int x2), (3, .int x3)]) hx hb dX6_words_79 hl (by decide) rfl (fun ls hl => ?_)
        refine lv_aload_n hx hb dX6_words_81 rfl (lv_at hl 2 rfl) ?_
        refine va_get (D := D) (ci := 6) (v := .ref (qb 0)) (C := RX6) (T := TX6) (N := 7) hx hb hts in6 hown hK hP 0 rfl rfl 0 (by decide) l10 (fun _ h9 => h9) rfl dX6_words_82 ?_
        refine lv_iconst (v := (1 : Int32)) hx hb dX6_words_85 (by decide) ?_
        refine lv_iload hx hb dX6_words_86 (lv_at hl 1 rfl) ?_
        refine lv_iload hx hb dX6_words_88 (lv_at hl 0 rfl) ?_
        refine q_callW3 (cEok ad) (rest := []) (fun u => [(qb 0, .inr (1, oX1 qb b_now b_shutTill b_shutBy b_z b_waits (qa 0) (qt 0))), (qa 0, .inr (0, oX0 qa a_done)), (qt 0, .inr (4, oX4 qt t_taped)), (qa 2, .inl (cI, 60, .inl a_kinds)), (qa 3, .inl (cI, 60, .inl a_writers)), (qa 4, .inl (cI, 60, .inl a_minutes)), (qa 8, .inl (cI, 61, .inl a_sizes)), (qt 3, .inl (cI, 480, .inl t_codes)), (qt 4, .inl (cI, 8, .inl t_lengths)), (qt 5, .inl (cI, 5, .inl u.2.1)), (qt 6, .inl (cI, 60, .inl u.2.2))]) (fun u => u.1) ⟨hx, hb, hml, hown, hts⟩ (fun u hu => c1_refusesPutting l D cI ad qb qa qt b_now b_shutTill b_shutBy b_z b_waits a_done t_taped a_kinds a_writers a_minutes a_sizes t_codes t_lengths t_named t_stack ((1 : Int32)) x4_68 t76 n u hu) (cwV 3 hts gX6_words_X1_refusesPutting rfl rfl rfl hdX1_refusesPutting (rmq_ok (Nat.le_of_ble_eq_true rfl) (Nat.le_of_ble_eq_true rfl))) hK hEv hA hP hD hS [1, 2, 3, 6, 7, 8, 12, 14, 15, 16, 17] (by decide) rfl (fun _ => rfl) (va_recv hK hP (ci := 1) (q0 := 1) rfl rfl) rfl rfl hl.1 (Nat.le_of_ble_eq_true rfl) ⟨Nat.zero_le _, Nat.zero_le _⟩ h dX6_words_90 (fun t90 t_named_90 t_stack_90 H locs h hP hD hS => ?_)
        have hP : va_P D vwCl [(qp 0, .inr (6, oX6 qp (qb 0) (qr 0) (qv 0) (qh 0) p_kept p_timesKept)), (qb 0, .inr (1, oX1 qb b_now b_shutTill b_shutBy b_z b_waits (qa 0) (qt 0))), (qa 0, .inr (0, oX0 qa a_done)), (qt 0, .inr (4, oX4 qt t_taped)), (qh 0, .inr (3, oX3 qh)), (qp 5, .inl (cI, 7, .inl p_errors)), (qa 2, .inl (cI, 60, .inl a_kinds)), (qa 3, .inl (cI, 60, .inl a_writers)), (qa 4, .inl (cI, 60, .inl a_minutes)), (qa 5, .inl (cI, 60, .inl a_matters)), (qa 6, .inl (cI, 60, .inl a_undoers)), (qa 7, .inl (cI, 60, .inl a_scores)), (qa 8, .inl (cI, 61, .inl a_sizes)), (qa 9, .inl (cI, 1220, .inl a_cells)), (qt 3, .inl (cI, 480, .inl t_codes)), (qt 4, .inl (cI, 8, .inl t_lengths)), (qt 5, .inl (cI, 5, .inl t_named_90)), (qt 6, .inl (cI, 60, .inl t_stack_90)), (qh 1, .inl (cI, 4, .inl h_bits)), (qh 2, .inl (cI, 4, .inl h_sizes)), (qh 3, .inl (cI, 96, .inl h_numbers))] H := hP
        have hD : va_D A [(qp 0, .inr (6, oX6 qp (qb 0) (qr 0) (qv 0) (qh 0) p_kept p_timesKept)), (qb 0, .inr (1, oX1 qb b_now b_shutTill b_shutBy b_z b_waits (qa 0) (qt 0))), (qa 0, .inr (0, oX0 qa a_done)), (qt 0, .inr (4, oX4 qt t_taped)), (qh 0, .inr (3, oX3 qh)), (qp 5, .inl (cI, 7, .inl p_errors)), (qa 2, .inl (cI, 60, .inl a_kinds)), (qa 3, .inl (cI, 60, .inl a_writers)), (qa 4, .inl (cI, 60, .inl a_minutes)), (qa 5, .inl (cI, 60, .inl a_matters)), (qa 6, .inl (cI, 60, .inl a_undoers)), (qa 7, .inl (cI, 60, .inl a_scores)), (qa 8, .inl (cI, 61, .inl a_sizes)), (qa 9, .inl (cI, 1220, .inl a_cells)), (qt 3, .inl (cI, 480, .inl t_codes)), (qt 4, .inl (cI, 8, .inl t_lengths)), (qt 5, .inl (cI, 5, .inl t_named_90)), (qt 6, .inl (cI, 60, .inl t_stack_90)), (qh 1, .inl (cI, 4, .inl h_bits)), (qh 2, .inl (cI, 4, .inl h_sizes)), (qh 3, .inl (cI, 96, .inl h_numbers))] := hD
        refine q_ifeq hx hb 98 h dX6_words_93 (by decide) (fun h => ?_) (fun h => ?_)
        · refine lv_aload_n hx hb dX6_words_98 rfl (lv_at hl 2 rfl) ?_
          refine lv_aload_n hx hb dX6_words_99 rfl (lv_at hl 2 rfl) ?_
          refine va_get (D := D) (ci := 6) (v := .ref (qb 0)) (C := RX6) (T := TX6) (N := 7) hx hb hts in6 hown hK hP 0 rfl rfl 0 (by decide) l10 (fun _ h9 => h9) rfl dX6_words_100 ?_
          refine lv_iconst (v := (1 : Int32)) hx hb dX6_words_103 (by decide) ?_
          refine lv_iload hx hb dX6_words_104 (lv_at hl 1 rfl) ?_
          refine lv_iload hx hb dX6_words_106 (lv_at hl 0 rfl) ?_
          refine q_callW10 (cEok ad) (rest := [.ref (qp 0)]) (fun u => [(qb 0, .inr (1, oX1 qb b_now b_shutTill b_shutBy b_z b_waits (qa 0) (qt 0))), (qa 0, .inr (0, oX0 qa u.2.1)), (qa 2, .inl (cI, 60, .inl u.2.2.1)), (qa 3, .inl (cI, 60, .inl u.2.2.2.1)), (qa 4, .inl (cI, 60, .inl u.2.2.2.2.1)), (qa 5, .inl (cI, 60, .inl u.2.2.2.2.2.1)), (qa 6, .inl (cI, 60, .inl u.2.2.2.2.2.2.1)), (qa 7, .inl (cI, 60, .inl u.2.2.2.2.2.2.2.1)), (qa 8, .inl (cI, 61, .inl u.2.2.2.2.2.2.2.2.1)), (qa 9, .inl (cI, 1220, .inl u.2.2.2.2.2.2.2.2.2))]) (fun u => u.1) ⟨hx, hb, hml, hown, hts⟩ (fun u hu => c1_puts l D cI ad qb qa qt b_now b_shutTill b_shutBy b_z b_waits a_done a_kinds a_writers a_minutes a_matters a_undoers a_scores a_sizes a_cells ((1 : Int32)) x4_68 t76 n u hu) (cwV 3 hts gX6_words_X1_puts rfl rfl rfl hdX1_puts (rmq_ok (Nat.le_of_ble_eq_true rfl) (Nat.le_of_ble_eq_true rfl))) hK hEv hA hP hD hS [1, 2, 6, 7, 8, 9, 10, 11, 12, 13] (by decide) rfl (fun _ => rfl) (va_recv hK hP (ci := 1) (q0 := 1) rfl rfl) rfl rfl hl.1 (Nat.le_of_ble_eq_true rfl) ⟨Nat.zero_le _, Nat.zero_le _⟩ h dX6_words_108 (fun t108 a_done_108 a_kinds_108 a_writers_108 a_minutes_108 a_matters_108 a_undoers_108 a_scores_108 a_sizes_108 a_cells_108 H locs h hP hD hS => ?_)
          have hP : va_P D vwCl [(qp 0, .inr (6, oX6 qp (qb 0) (qr 0) (qv 0) (qh 0) p_kept p_timesKept)), (qb 0, .inr (1, oX1 qb b_now b_shutTill b_shutBy b_z b_waits (qa 0) (qt 0))), (qa 0, .inr (0, oX0 qa a_done_108)), (qt 0, .inr (4, oX4 qt t_taped)), (qh 0, .inr (3, oX3 qh)), (qp 5, .inl (cI, 7, .inl p_errors)), (qa 2, .inl (cI, 60, .inl a_kinds_108)), (qa 3, .inl (cI, 60, .inl a_writers_108)), (qa 4, .inl (cI, 60, .inl a_minutes_108)), (qa 5, .inl (cI, 60, .inl a_matters_108)), (qa 6, .inl (cI, 60, .inl a_undoers_108)), (qa 7, .inl (cI, 60, .inl a_scores_108)), (qa 8, .inl (cI, 61, .inl a_sizes_108)), (qa 9, .inl (cI, 1220, .inl a_cells_108)), (qt 3, .inl (cI, 480, .inl t_codes)), (qt 4, .inl (cI, 8, .inl t_lengths)), (qt 5, .inl (cI, 5, .inl t_named_90)), (qt 6, .inl (cI, 60, .inl t_stack_90)), (qh 1, .inl (cI, 4, .inl h_bits)), (qh 2, .inl (cI, 4, .inl h_sizes)), (qh 3, .inl (cI, 96, .inl h_numbers))] H := hP
          have hD : va_D A [(qp 0, .inr (6, oX6 qp (qb 0) (qr 0) (qv 0) (qh 0) p_kept p_timesKept)), (qb 0, .inr (1, oX1 qb b_now b_shutTill b_shutBy b_z b_waits (qa 0) (qt 0))), (qa 0, .inr (0, oX0 qa a_done_108)), (qt 0, .inr (4, oX4 qt t_taped)), (qh 0, .inr (3, oX3 qh)), (qp 5, .inl (cI, 7, .inl p_errors)), (qa 2, .inl (cI, 60, .inl a_kinds_108)), (qa 3, .inl (cI, 60, .inl a_writers_108)), (qa 4, .inl (cI, 60, .inl a_minutes_108)), (qa 5, .inl (cI, 60, .inl a_matters_108)), (qa 6, .inl (cI, 60, .inl a_undoers_108)), (qa 7, .inl (cI, 60, .inl a_scores_108)), (qa 8, .inl (cI, 61, .inl a_sizes_108)), (qa 9, .inl (cI, 1220, .inl a_cells_108)), (qt 3, .inl (cI, 480, .inl t_codes)), (qt 4, .inl (cI, 8, .inl t_lengths)), (qt 5, .inl (cI, 5, .inl t_named_90)), (qt 6, .inl (cI, 60, .inl t_stack_90)), (qh 1, .inl (cI, 4, .inl h_bits)), (qh 2, .inl (cI, 4, .inl h_sizes)), (qh 3, .inl (cI, 96, .inl h_numbers))] := hD
          refine q_callW12 (cEok ad) (rest := []) (fun u => [(qp 0, .inr (6, oX6 qp (qb 0) (qr 0) (qv 0) (qh 0) p_kept p_timesKept)), (qb 0, .inr (1, oX1 qb b_now b_shutTill b_shutBy b_z b_waits (qa 0) (qt 0))), (qa 0, .inr (0, oX0 qa u.2.1)), (qt 0, .inr (4, oX4 qt t_taped)), (qa 2, .inl (cI, 60, .inl u.2.2.1)), (qa 3, .inl (cI, 60, .inl u.2.2.2.1)), (qa 4, .inl (cI, 60, .inl u.2.2.2.2.1)), (qa 5, .inl (cI, 60, .inl u.2.2.2.2.2.1)), (qa 6, .inl (cI, 60, .inl u.2.2.2.2.2.2.1)), (qa 7, .inl (cI, 60, .inl u.2.2.2.2.2.2.2.1)), (qa 8, .inl (cI, 61, .inl u.2.2.2.2.2.2.2.2.1)), (qa 9, .inl (cI, 1220, .inl u.2.2.2.2.2.2.2.2.2.1)), (qt 3, .inl (cI, 480, .inl t_codes)), (qt 4, .inl (cI, 8, .inl t_lengths)), (qt 5, .inl (cI, 5, .inl u.2.2.2.2.2.2.2.2.2.2.1)), (qt 6, .inl (cI, 60, .inl u.2.2.2.2.2.2.2.2.2.2.2))]) (fun u => u.1) ⟨hx, hb, hml, hown, hts⟩ (fun u hu => c6_answered l D cI ad qp qb qa qt qr qv qh p_kept p_timesKept b_now b_shutTill b_shutBy b_z b_waits a_done_108 t_taped a_kinds_108 a_writers_108 a_minutes_108 a_matters_108 a_undoers_108 a_scores_108 a_sizes_108 a_cells_108 t_codes t_lengths t_named_90 t_stack_90 t108 n u hu) (cwV 1 hts gX6_words_X6_answered rfl rfl rfl hdX6_answered (rmq_ok (Nat.le_of_ble_eq_true rfl) (Nat.le_of_ble_eq_true rfl))) hK hEv hA hP hD hS [0, 1, 2, 3, 6, 7, 8, 9, 10, 11, 12, 13, 14, 15, 16, 17] (by decide) rfl (fun _ => rfl) (va_recv hK hP (ci := 6) (q0 := 0) rfl rfl) rfl rfl hl.1 (Nat.le_of_ble_eq_true rfl) ⟨Nat.zero_le _, Nat.zero_le _⟩ h dX6_words_111 (fun t111 a_done_111 a_kinds_111 a_writers_111 a_minutes_111 a_matters_111 a_undoers_111 a_scores_111 a_sizes_111 a_cells_111 t_named_111 t_stack_111 H locs h hP hD hS => ?_)
          have hP : va_P D vwCl [(qp 0, .inr (6, oX6 qp (qb 0) (qr 0) (qv 0) (qh 0) p_kept p_timesKept)), (qb 0, .inr (1, oX1 qb b_now b_shutTill b_shutBy b_z b_waits (qa 0) (qt 0))), (qa 0, .inr (0, oX0 qa a_done_111)), (qt 0, .inr (4, oX4 qt t_taped)), (qh 0, .inr (3, oX3 qh)), (qp 5, .inl (cI, 7, .inl p_errors)), (qa 2, .inl (cI, 60, .inl a_kinds_111)), (qa 3, .inl (cI, 60, .inl a_writers_111)), (qa 4, .inl (cI, 60, .inl a_minutes_111)), (qa 5, .inl (cI, 60, .inl a_matters_111)), (qa 6, .inl (cI, 60, .inl a_undoers_111)), (qa 7, .inl (cI, 60, .inl a_scores_111)), (qa 8, .inl (cI, 61, .inl a_sizes_111)), (qa 9, .inl (cI, 1220, .inl a_cells_111)), (qt 3, .inl (cI, 480, .inl t_codes)), (qt 4, .inl (cI, 8, .inl t_lengths)), (qt 5, .inl (cI, 5, .inl t_named_111)), (qt 6, .inl (cI, 60, .inl t_stack_111)), (qh 1, .inl (cI, 4, .inl h_bits)), (qh 2, .inl (cI, 4, .inl h_sizes)), (qh 3, .inl (cI, 96, .inl h_numbers))] H := hP
          have hD : va_D A [(qp 0, .inr (6, oX6 qp (qb 0) (qr 0) (qv 0) (qh 0) p_kept p_timesKept)), (qb 0, .inr (1, oX1 qb b_now b_shutTill b_shutBy b_z b_waits (qa 0) (qt 0))), (qa 0, .inr (0, oX0 qa a_done_111)), (qt 0, .inr (4, oX4 qt t_taped)), (qh 0, .inr (3, oX3 qh)), (qp 5, .inl (cI, 7, .inl p_errors)), (qa 2, .inl (cI, 60, .inl a_kinds_111)), (qa 3, .inl (cI, 60, .inl a_writers_111)), (qa 4, .inl (cI, 60, .inl a_minutes_111)), (qa 5, .inl (cI, 60, .inl a_matters_111)), (qa 6, .inl (cI, 60, .inl a_undoers_111)), (qa 7, .inl (cI, 60, .inl a_scores_111)), (qa 8, .inl (cI, 61, .inl a_sizes_111)), (qa 9, .inl (cI, 1220, .inl a_cells_111)), (qt 3, .inl (cI, 480, .inl t_codes)), (qt 4, .inl (cI, 8, .inl t_lengths)), (qt 5, .inl (cI, 5, .inl t_named_111)), (qt 6, .inl (cI, 60, .inl t_stack_111)), (qh 1, .inl (cI, 4, .inl h_bits)), (qh 2, .inl (cI, 4, .inl h_sizes)), (qh 3, .inl (cI, 96, .inl h_numbers))] := hD
          refine lv_pop hx hb dX6_words_114 rfl ?_
          refine q_iinc (fun v => [(3, .int v), (5, .int t76), (4, .int x4_68), (0, .ref (qp 0)), (1, .int x1), (2, .int x2)]) hx hb h dX6_words_115 (by decide) hl (k := 5) rfl (by decide) (fun _ => rfl) (fun x3_115 ls h hl => ?_)
          refine lv_goto (tgt := 40) hx hb dX6_words_118 (by decide) ?_
          exact ih40 x1 x2 x3_115 a_done_111 p_errors a_kinds_111 a_writers_111 a_minutes_111 a_matters_111 a_undoers_111 a_scores_111 a_sizes_111 a_cells_111 t_named_111 t_stack_111 _ _ _ (lv_sub hl [3, 4, 5, 0] rfl) hP hD hS h
        · refine lv_iload_n hx hb dX6_words_96 rfl (lv_at hl 5 rfl) ?_
          exact hret (x3, a_done, p_errors, a_kinds, a_writers, a_minutes, a_matters, a_undoers, a_scores, a_sizes, a_cells, t_named_90, t_stack_90) _ _ _ _ (vp_nar_int _) h hP hD hS dX6_words_97
  have J14 : ∀ (a_done : Int32) (p_errors : (Nat → Int32)) (a_kinds : (Nat → Int32)) (a_writers : (Nat → Int32)) (a_minutes : (Nat → Int32)) (a_matters : (Nat → Int32)) (a_undoers : (Nat → Int32)) (a_scores : (Nat → Int32)) (a_sizes : (Nat → Int32)) (a_cells : (Nat → Int32)) (t_named : (Nat → Int32)) (t_stack : (Nat → Int32)) (H : Heap) (locs : List Loc) (ls : Array Slot), lv_has ls 6 [(0, .ref (qp 0))] → va_P D vwCl [(qp 0, .inr (6, oX6 qp (qb 0) (qr 0) (qv 0) (qh 0) p_kept p_timesKept)), (qb 0, .inr (1, oX1 qb b_now b_shutTill b_shutBy b_z b_waits (qa 0) (qt 0))), (qa 0, .inr (0, oX0 qa a_done)), (qt 0, .inr (4, oX4 qt t_taped)), (qh 0, .inr (3, oX3 qh)), (qp 5, .inl (cI, 7, .inl p_errors)), (qa 2, .inl (cI, 60, .inl a_kinds)), (qa 3, .inl (cI, 60, .inl a_writers)), (qa 4, .inl (cI, 60, .inl a_minutes)), (qa 5, .inl (cI, 60, .inl a_matters)), (qa 6, .inl (cI, 60, .inl a_undoers)), (qa 7, .inl (cI, 60, .inl a_scores)), (qa 8, .inl (cI, 61, .inl a_sizes)), (qa 9, .inl (cI, 1220, .inl a_cells)), (qt 3, .inl (cI, 480, .inl t_codes)), (qt 4, .inl (cI, 8, .inl t_lengths)), (qt 5, .inl (cI, 5, .inl t_named)), (qt 6, .inl (cI, 60, .inl t_stack)), (qh 1, .inl (cI, 4, .inl h_bits)), (qh 2, .inl (cI, 4, .inl h_sizes)), (qh 3, .inl (cI, 96, .inl h_numbers))] H → va_D A [(qp 0, .inr (6, oX6 qp (qb 0) (qr 0) (qv 0) (qh 0) p_kept p_timesKept)), (qb 0, .inr (1, oX1 qb b_now b_shutTill b_shutBy b_z b_waits (qa 0) (qt 0))), (qa 0, .inr (0, oX0 qa a_done)), (qt 0, .inr (4, oX4 qt t_taped)), (qh 0, .inr (3, oX3 qh)), (qp 5, .inl (cI, 7, .inl p_errors)), (qa 2, .inl (cI, 60, .inl a_kinds)), (qa 3, .inl (cI, 60, .inl a_writers)), (qa 4, .inl (cI, 60, .inl a_minutes)), (qa 5, .inl (cI, 60, .inl a_matters)), (qa 6, .inl (cI, 60, .inl a_undoers)), (qa 7, .inl (cI, 60, .inl a_scores)), (qa 8, .inl (cI, 61, .inl a_sizes)), (qa 9, .inl (cI, 1220, .inl a_cells)), (qt 3, .inl (cI, 480, .inl t_codes)), (qt 4, .inl (cI, 8, .inl t_lengths)), (qt 5, .inl (cI, 5, .inl t_named)), (qt 6, .inl (cI, 60, .inl t_stack)), (qh 1, .inl (cI, 4, .inl h_bits)), (qh 2, .inl (cI, 4, .inl h_sizes)), (qh 3, .inl (cI, 96, .inl h_numbers))] → va_S A s.heap H locs → f6_words_14 n b_now b_shutTill b_shutBy t_codes t_lengths h_bits h_sizes h_numbers a_done p_errors a_kinds a_writers a_minutes a_matters a_undoers a_scores a_sizes a_cells t_named t_stack = some u → W p l e (rmq (6)) s m args below meth c H locs 0 0 Q (F0 m 14 ls []) := by
    intro a_done p_errors a_kinds a_writers a_minutes a_matters a_undoers a_scores a_sizes a_cells t_named t_stack H locs ls hl hP hD hS h
    unfold f6_words_14 at h
    refine lv_aload_n hx hb dX6_words_14 rfl (lv_at hl 0 rfl) ?_
    refine lv_iconst (v := (1 : Int32)) hx hb dX6_words_15 (by decide) ?_
    refine q_callW2 (cEok ad) (rest := []) (fun u => [(qp 0, .inr (6, oX6 qp (qb 0) (qr 0) (qv 0) (qh 0) p_kept p_timesKept)), (qp 5, .inl (cI, 7, .inl u.2))]) (fun u => u.1) ⟨hx, hb, hml, hown, hts⟩ (fun u hu => c6_error l D cI ad qp qb qr qv qh p_kept p_timesKept p_errors ((1 : Int32)) u hu) (cwV 1 hts gX6_words_X6_error rfl rfl rfl hdX6_error (rmq_ok (Nat.le_of_ble_eq_true rfl) (Nat.le_of_ble_eq_true rfl))) hK hEv hA hP hD hS [0, 5] (by decide) rfl (fun _ => rfl) (va_recv hK hP (ci := 6) (q0 := 0) rfl rfl) rfl rfl hl.1 (Nat.le_of_ble_eq_true rfl) ⟨Nat.zero_le _, Nat.zero_le _⟩ h dX6_words_16 (fun t16 p_errors_16 H locs h hP hD hS => ?_)
    have hP : va_P D vwCl [(qp 0, .inr (6, oX6 qp (qb 0) (qr 0) (qv 0) (qh 0) p_kept p_timesKept)), (qb 0, .inr (1, oX1 qb b_now b_shutTill b_shutBy b_z b_waits (qa 0) (qt 0))), (qa 0, .inr (0, oX0 qa a_done)), (qt 0, .inr (4, oX4 qt t_taped)), (qh 0, .inr (3, oX3 qh)), (qp 5, .inl (cI, 7, .inl p_errors_16)), (qa 2, .inl (cI, 60, .inl a_kinds)), (qa 3, .inl (cI, 60, .inl a_writers)), (qa 4, .inl (cI, 60, .inl a_minutes)), (qa 5, .inl (cI, 60, .inl a_matters)), (qa 6, .inl (cI, 60, .inl a_undoers)), (qa 7, .inl (cI, 60, .inl a_scores)), (qa 8, .inl (cI, 61, .inl a_sizes)), (qa 9, .inl (cI, 1220, .inl a_cells)), (qt 3, .inl (cI, 480, .inl t_codes)), (qt 4, .inl (cI, 8, .inl t_lengths)), (qt 5, .inl (cI, 5, .inl t_named)), (qt 6, .inl (cI, 60, .inl t_stack)), (qh 1, .inl (cI, 4, .inl h_bits)), (qh 2, .inl (cI, 4, .inl h_sizes)), (qh 3, .inl (cI, 96, .inl h_numbers))] H := hP
    have hD : va_D A [(qp 0, .inr (6, oX6 qp (qb 0) (qr 0) (qv 0) (qh 0) p_kept p_timesKept)), (qb 0, .inr (1, oX1 qb b_now b_shutTill b_shutBy b_z b_waits (qa 0) (qt 0))), (qa 0, .inr (0, oX0 qa a_done)), (qt 0, .inr (4, oX4 qt t_taped)), (qh 0, .inr (3, oX3 qh)), (qp 5, .inl (cI, 7, .inl p_errors_16)), (qa 2, .inl (cI, 60, .inl a_kinds)), (qa 3, .inl (cI, 60, .inl a_writers)), (qa 4, .inl (cI, 60, .inl a_minutes)), (qa 5, .inl (cI, 60, .inl a_matters)), (qa 6, .inl (cI, 60, .inl a_undoers)), (qa 7, .inl (cI, 60, .inl a_scores)), (qa 8, .inl (cI, 61, .inl a_sizes)), (qa 9, .inl (cI, 1220, .inl a_cells)), (qt 3, .inl (cI, 480, .inl t_codes)), (qt 4, .inl (cI, 8, .inl t_lengths)), (qt 5, .inl (cI, 5, .inl t_named)), (qt 6, .inl (cI, 60, .inl t_stack)), (qh 1, .inl (cI, 4, .inl h_bits)), (qh 2, .inl (cI, 4, .inl h_sizes)), (qh 3, .inl (cI, 96, .inl h_numbers))] := hD
    exact hret (t16, a_done, p_errors_16, a_kinds, a_writers, a_minutes, a_matters, a_undoers, a_scores, a_sizes, a_cells, t_named, t_stack) _ _ _ _ (vp_nar_int _) h hP hD hS dX6_words_19
  unfold f6_words at h
  refine lv_iload_n hx hb dX6_words_0 rfl (lv_at hl 1 rfl) ?_
  refine q_callRS (cEok ad) (rest := []) ⟨hx, hb, hml, hown, hts⟩ (fun r hr => c6_isSheet l D cI ad x1 r hr) (va_cwS 1 hts gX6_words_X6_isSheet rfl rfl rfl hdX6_isSheet (rmq_ok (Nat.le_of_ble_eq_true rfl) (Nat.le_of_ble_eq_true rfl))) hK hP hEv hS [] rfl rfl rfl hl.1 (Nat.le_of_ble_eq_true rfl) ⟨Nat.zero_le _, Nat.zero_le _⟩ h dX6_words_1 (fun t1 h => ?_)
  refine q_ifeq hx hb 14 h dX6_words_4 (by decide) (fun h => ?_) (fun h => ?_)
  · exact J14 a_done p_errors a_kinds a_writers a_minutes a_matters a_undoers a_scores a_sizes a_cells t_named t_stack _ _ _ (lv_sub hl [0] rfl) hP hD hS h
  · refine lv_iload_n hx hb dX6_words_7 rfl (lv_at hl 2 rfl) ?_
    refine q_callRS (cEok ad) (rest := []) ⟨hx, hb, hml, hown, hts⟩ (fun r hr => c6_isWriter l D cI ad x2 r hr) (va_cwS 1 hts gX6_words_X6_isWriter rfl rfl rfl hdX6_isWriter (rmq_ok (Nat.le_of_ble_eq_true rfl) (Nat.le_of_ble_eq_true rfl))) hK hP hEv hS [] rfl rfl rfl hl.1 (Nat.le_of_ble_eq_true rfl) ⟨Nat.zero_le _, Nat.zero_le _⟩ h dX6_words_8 (fun t8 h => ?_)
    refine q_ifne hx hb 20 h dX6_words_11 (by decide) (fun h => ?_) (fun h => ?_)
    · refine lv_aload_n hx hb dX6_words_20 rfl (lv_at hl 0 rfl) ?_
      refine va_get (D := D) (ci := 6) (v := .ref (qh 0)) (C := RX6) (T := TX6) (N := 7) hx hb hts in6 hown hK hP 0 rfl rfl 3 (by decide) l33 (fun _ h9 => h9) rfl dX6_words_21 ?_
      refine va_getN (D := D) (ci := 3) (v := .ref (qh 1)) (C := RX3) (T := TX3) (N := 3) hx hb hts in3 hown hK hP 4 rfl rfl 0 (by decide) l267 (fun _ h9 => h9) rfl dX6_words_24 ?_
      refine lv_iload_n hx hb dX6_words_27 rfl (lv_at hl 1 rfl) ?_
      refine q_iald hx hb hK hP 18 0 rfl rfl h dX6_words_28 (fun t28 h => ?_)
      refine q_ifne hx hb 38 h dX6_words_29 (by decide) (fun h => ?_) (fun h => ?_)
      · refine lv_iconst (v := (0 : Int32)) hx hb dX6_words_38 (by decide) ?_
        refine lv_istore_n (lv' := [(3, .int ((0 : Int32))), (0, .ref (qp 0)), (1, .int x1), (2, .int x2)]) hx hb dX6_words_39 rfl hl (by decide) rfl (fun ls hl => ?_)
        exact J40 n x1 x2 ((0 : Int32)) a_done p_errors a_kinds a_writers a_minutes a_matters a_undoers a_scores a_sizes a_cells t_named t_stack _ _ _ (lv_sub hl [1, 2, 3, 0] rfl) hP hD hS h
      · refine lv_aload_n hx hb dX6_words_32 rfl (lv_at hl 0 rfl) ?_
        refine lv_iconst (v := (2 : Int32)) hx hb dX6_words_33 (by decide) ?_
        refine q_callW2 (cEok ad) (rest := []) (fun u => [(qp 0, .inr (6, oX6 qp (qb 0) (qr 0) (qv 0) (qh 0) p_kept p_timesKept)), (qp 5, .inl (cI, 7, .inl u.2))]) (fun u => u.1) ⟨hx, hb, hml, hown, hts⟩ (fun u hu => c6_error l D cI ad qp qb qr qv qh p_kept p_timesKept p_errors ((2 : Int32)) u hu) (cwV 1 hts gX6_words_X6_error rfl rfl rfl hdX6_error (rmq_ok (Nat.le_of_ble_eq_true rfl) (Nat.le_of_ble_eq_true rfl))) hK hEv hA hP hD hS [0, 5] (by decide) rfl (fun _ => rfl) (va_recv hK hP (ci := 6) (q0 := 0) rfl rfl) rfl rfl hl.1 (Nat.le_of_ble_eq_true rfl) ⟨Nat.zero_le _, Nat.zero_le _⟩ h dX6_words_34 (fun t34 p_errors_34 H locs h hP hD hS => ?_)
        have hP : va_P D vwCl [(qp 0, .inr (6, oX6 qp (qb 0) (qr 0) (qv 0) (qh 0) p_kept p_timesKept)), (qb 0, .inr (1, oX1 qb b_now b_shutTill b_shutBy b_z b_waits (qa 0) (qt 0))), (qa 0, .inr (0, oX0 qa a_done)), (qt 0, .inr (4, oX4 qt t_taped)), (qh 0, .inr (3, oX3 qh)), (qp 5, .inl (cI, 7, .inl p_errors_34)), (qa 2, .inl (cI, 60, .inl a_kinds)), (qa 3, .inl (cI, 60, .inl a_writers)), (qa 4, .inl (cI, 60, .inl a_minutes)), (qa 5, .inl (cI, 60, .inl a_matters)), (qa 6, .inl (cI, 60, .inl a_undoers)), (qa 7, .inl (cI, 60, .inl a_scores)), (qa 8, .inl (cI, 61, .inl a_sizes)), (qa 9, .inl (cI, 1220, .inl a_cells)), (qt 3, .inl (cI, 480, .inl t_codes)), (qt 4, .inl (cI, 8, .inl t_lengths)), (qt 5, .inl (cI, 5, .inl t_named)), (qt 6, .inl (cI, 60, .inl t_stack)), (qh 1, .inl (cI, 4, .inl h_bits)), (qh 2, .inl (cI, 4, .inl h_sizes)), (qh 3, .inl (cI, 96, .inl h_numbers))] H := hP
        have hD : va_D A [(qp 0, .inr (6, oX6 qp (qb 0) (qr 0) (qv 0) (qh 0) p_kept p_timesKept)), (qb 0, .inr (1, oX1 qb b_now b_shutTill b_shutBy b_z b_waits (qa 0) (qt 0))), (qa 0, .inr (0, oX0 qa a_done)), (qt 0, .inr (4, oX4 qt t_taped)), (qh 0, .inr (3, oX3 qh)), (qp 5, .inl (cI, 7, .inl p_errors_34)), (qa 2, .inl (cI, 60, .inl a_kinds)), (qa 3, .inl (cI, 60, .inl a_writers)), (qa 4, .inl (cI, 60, .inl a_minutes)), (qa 5, .inl (cI, 60, .inl a_matters)), (qa 6, .inl (cI, 60, .inl a_undoers)), (qa 7, .inl (cI, 60, .inl a_scores)), (qa 8, .inl (cI, 61, .inl a_sizes)), (qa 9, .inl (cI, 1220, .inl a_cells)), (qt 3, .inl (cI, 480, .inl t_codes)), (qt 4, .inl (cI, 8, .inl t_lengths)), (qt 5, .inl (cI, 5, .inl t_named)), (qt 6, .inl (cI, 60, .inl t_stack)), (qh 1, .inl (cI, 4, .inl h_bits)), (qh 2, .inl (cI, 4, .inl h_sizes)), (qh 3, .inl (cI, 96, .inl h_numbers))] := hD
        exact hret (t34, a_done, p_errors_34, a_kinds, a_writers, a_minutes, a_matters, a_undoers, a_scores, a_sizes, a_cells, t_named, t_stack) _ _ _ _ (vp_nar_int _) h hP hD hS dX6_words_37
    · exact J14 a_done p_errors a_kinds a_writers a_minutes a_matters a_undoers a_scores a_sizes a_cells t_named t_stack _ _ _ (lv_sub hl [0] rfl) hP hD hS h
set_option maxHeartbeats 4000000 in
set_option maxRecDepth 100000 in
theorem c6_tell (l : Launch) (D : va_G) (cI : ClassId) (ad : Nat → Nat) (qp qb qa qt qr qv qh : Nat → Nat) (p_kept : Value) (p_timesKept b_now b_shutTill b_shutBy b_z b_waits : Int32) (p_errors b_waiting : Nat → Int32) (x1 : Int32) (u : Int32 × Int32 × (Nat → Int32) × (Nat → Int32)) (h : f6_tell x1 b_waits p_errors b_waiting = some u) : q_RW (cE ad) l yX6_tell wsX6_tell (rmq (1)) D cI [.ref (qp 0), .int x1] [(qp 0, .inr (6, oX6 qp (qb 0) (qr 0) (qv 0) (qh 0) p_kept p_timesKept)), (qb 0, .inr (1, oX1 qb b_now b_shutTill b_shutBy b_z b_waits (qa 0) (qt 0))), (qp 5, .inl (cI, 7, .inl p_errors)), (qb 6, .inl (cI, 24, .inl b_waiting))] [(qp 0, .inr (6, oX6 qp (qb 0) (qr 0) (qv 0) (qh 0) p_kept p_timesKept)), (qb 0, .inr (1, oX1 qb b_now b_shutTill b_shutBy b_z u.2.1 (qa 0) (qt 0))), (qp 5, .inl (cI, 7, .inl u.2.2.1)), (qb 6, .inl (cI, 24, .inl u.2.2.2))] u.1 := by
  refine q_startW (fun u : Int32 × Int32 × (Nat → Int32) × (Nat → Int32) => [(qp 0, .inr (6, oX6 qp (qb 0) (qr 0) (qv 0) (qh 0) p_kept p_timesKept)), (qb 0, .inr (1, oX1 qb b_now b_shutTill b_shutBy b_z u.2.1 (qa 0) (qt 0))), (qp 5, .inl (cI, 7, .inl u.2.2.1)), (qb 6, .inl (cI, 24, .inl u.2.2.2))]) (fun u => u.1) (cc := cX6_tell) (maxL := 2) (ty := .int) (own := RX6) (by decide) rfl rfl (Nat.le_of_ble_eq_true rfl) rfl (fun p e s m args below meth c Q A hx hb hml hown hts hK hEv hA hret hP hD hS ls hl => ?_)
  have in1 : ∀ w ∈ wsX10, w ∈ wsX6_tell := fun w h => List.mem_cons_of_mem _ (List.mem_append_right _ (h))
  have in6 : ∀ w ∈ wsX60, w ∈ wsX6_tell := fun w h => List.mem_cons_of_mem _ (List.mem_append_left _ (List.mem_append_right _ (h)))
  have l10 := hts (.fieldLink RX6 10 "PageWars" "book" "LPageWars$Book;") (List.mem_of_getElem? (i := 1) rfl)
  have l295 : (Cond.fieldLinkNest RX6 295 "PageWars$Book" "waits" "I" "PageWars").before args s = true := cE_f6_295 hEv
  have l298 : (Cond.fieldLinkNest RX6 298 "PageWars$Book" "waiting" "[I" "PageWars").before args s = true := cE_f6_298 hEv
  unfold f6_tell at h
  refine lv_aload_n hx hb dX6_tell_0 rfl (lv_at hl 0 rfl) ?_
  refine va_get (D := D) (ci := 6) (v := .ref (qb 0)) (C := RX6) (T := TX6) (N := 7) hx hb hts in6 hown hK hP 0 rfl rfl 0 (by decide) l10 (fun _ h9 => h9) rfl dX6_tell_1 ?_
  refine va_getN (D := D) (ci := 1) (v := .int b_waits) (C := RX1) (T := TX1) (N := 9) hx hb hts in1 hown hK hP 1 rfl rfl 4 (by decide) l295 (fun _ h9 => h9) rfl dX6_tell_4 ?_
  refine lv_bipush (v := (24 : Int32)) hx hb dX6_tell_7 (by decide) ?_
  refine q_clt hx hb 18 h dX6_tell_9 (by decide) (fun h => ?_) (fun h => ?_)
  · refine lv_aload_n hx hb dX6_tell_18 rfl (lv_at hl 0 rfl) ?_
    refine va_get (D := D) (ci := 6) (v := .ref (qb 0)) (C := RX6) (T := TX6) (N := 7) hx hb hts in6 hown hK hP 0 rfl rfl 0 (by decide) l10 (fun _ h9 => h9) rfl dX6_tell_19 ?_
    refine va_getN (D := D) (ci := 1) (v := .ref (qb 6)) (C := RX1) (T := TX1) (N := 9) hx hb hts in1 hown hK hP 1 rfl rfl 5 (by decide) l298 (fun _ h9 => h9) rfl dX6_tell_22 ?_
    refine lv_aload_n hx hb dX6_tell_25 rfl (lv_at hl 0 rfl) ?_
    refine va_get (D := D) (ci := 6) (v := .ref (qb 0)) (C := RX6) (T := TX6) (N := 7) hx hb hts in6 hown hK hP 0 rfl rfl 0 (by decide) l10 (fun _ h9 => h9) rfl dX6_tell_26 ?_
    refine va_getN (D := D) (ci := 1) (v := .int b_waits) (C := RX1) (T := TX1) (N := 9) hx hb hts in1 hown hK hP 1 rfl rfl 4 (by decide) l295 (fun _ h9 => h9) rfl dX6_tell_29 ?_
    refine lv_iload_n hx hb dX6_tell_32 rfl (lv_at hl 1 rfl) ?_
    refine q_iast hx hb hK hP hD hS 3 0 rfl rfl h dX6_tell_33 (fun b_waiting_33 H locs h hP hD hS => ?_)
    have hP : va_P D vwCl [(qp 0, .inr (6, oX6 qp (qb 0) (qr 0) (qv 0) (qh 0) p_kept p_timesKept)), (qb 0, .inr (1, oX1 qb b_now b_shutTill b_shutBy b_z b_waits (qa 0) (qt 0))), (qp 5, .inl (cI, 7, .inl p_errors)), (qb 6, .inl (cI, 24, .inl b_waiting_33))] H := hP
    have hD : va_D A [(qp 0, .inr (6, oX6 qp (qb 0) (qr 0) (qv 0) (qh 0) p_kept p_timesKept)), (qb 0, .inr (1, oX1 qb b_now b_shutTill b_shutBy b_z b_waits (qa 0) (qt 0))), (qp 5, .inl (cI, 7, .inl p_errors)), (qb 6, .inl (cI, 24, .inl b_waiting_33))] := hD
    refine lv_aload_n hx hb dX6_tell_34 rfl (lv_at hl 0 rfl) ?_
    refine va_get (D := D) (ci := 6) (v := .ref (qb 0)) (C := RX6) (T := TX6) (N := 7) hx hb hts in6 hown hK hP 0 rfl rfl 0 (by decide) l10 (fun _ h9 => h9) rfl dX6_tell_35 ?_
    refine lv_dup hx hb dX6_tell_38 rfl ?_
    refine va_getN (D := D) (ci := 1) (v := .int b_waits) (C := RX1) (T := TX1) (N := 9) hx hb hts in1 hown hK hP 1 rfl rfl 4 (by decide) l295 (fun _ h9 => h9) rfl dX6_tell_39 ?_
    refine lv_iconst (v := (1 : Int32)) hx hb dX6_tell_42 (by decide) ?_
    refine lv_iadd hx hb dX6_tell_43 ?_
    refine q_let h (fun b_waits_44 h => ?_)
    refine va_putN (D := D) (ci := 1) (v := .int b_waits_44) (ty := .int) (C := RX1) (T := TX1) (N := 9) hx hb hts in1 tyX1 tyX1_ok nmX1 hown hK hP hD hS 1 rfl rfl 4 (by decide) l295 (fun _ h9 => h9) rfl (by decide +kernel) rfl rfl (Nat.le_of_ble_eq_true rfl) dX6_tell_44 (fun H locs hP hD hS => ?_)
    have hP : va_P D vwCl [(qp 0, .inr (6, oX6 qp (qb 0) (qr 0) (qv 0) (qh 0) p_kept p_timesKept)), (qb 0, .inr (1, oX1 qb b_now b_shutTill b_shutBy b_z b_waits_44 (qa 0) (qt 0))), (qp 5, .inl (cI, 7, .inl p_errors)), (qb 6, .inl (cI, 24, .inl b_waiting_33))] H := hP
    have hD : va_D A [(qp 0, .inr (6, oX6 qp (qb 0) (qr 0) (qv 0) (qh 0) p_kept p_timesKept)), (qb 0, .inr (1, oX1 qb b_now b_shutTill b_shutBy b_z b_waits_44 (qa 0) (qt 0))), (qp 5, .inl (cI, 7, .inl p_errors)), (qb 6, .inl (cI, 24, .inl b_waiting_33))] := hD
    refine lv_aload_n hx hb dX6_tell_47 rfl (lv_at hl 0 rfl) ?_
    refine va_get (D := D) (ci := 6) (v := .ref (qb 0)) (C := RX6) (T := TX6) (N := 7) hx hb hts in6 hown hK hP 0 rfl rfl 0 (by decide) l10 (fun _ h9 => h9) rfl dX6_tell_48 ?_
    refine va_getN (D := D) (ci := 1) (v := .int b_waits_44) (C := RX1) (T := TX1) (N := 9) hx hb hts in1 hown hK hP 1 rfl rfl 4 (by decide) l295 (fun _ h9 => h9) rfl dX6_tell_51 ?_
    exact hret (b_waits_44, b_waits_44, p_errors, b_waiting_33) _ _ _ _ (vp_nar_int _) h hP hD hS dX6_tell_54
  · refine lv_aload_n hx hb dX6_tell_12 rfl (lv_at hl 0 rfl) ?_
    refine lv_iconst (v := (4 : Int32)) hx hb dX6_tell_13 (by decide) ?_
    refine q_callW2 (cEok ad) (rest := []) (fun u => [(qp 0, .inr (6, oX6 qp (qb 0) (qr 0) (qv 0) (qh 0) p_kept p_timesKept)), (qp 5, .inl (cI, 7, .inl u.2))]) (fun u => u.1) ⟨hx, hb, hml, hown, hts⟩ (fun u hu => c6_error l D cI ad qp qb qr qv qh p_kept p_timesKept p_errors ((4 : Int32)) u hu) (cwV 1 hts gX6_tell_X6_error rfl rfl rfl hdX6_error (rmq_ok (Nat.le_of_ble_eq_true rfl) (Nat.le_of_ble_eq_true rfl))) hK hEv hA hP hD hS [0, 2] (by decide) rfl (fun _ => rfl) (va_recv hK hP (ci := 6) (q0 := 0) rfl rfl) rfl rfl hl.1 (Nat.le_of_ble_eq_true rfl) ⟨Nat.zero_le _, Nat.zero_le _⟩ h dX6_tell_14 (fun t14 p_errors_14 H locs h hP hD hS => ?_)
    have hP : va_P D vwCl [(qp 0, .inr (6, oX6 qp (qb 0) (qr 0) (qv 0) (qh 0) p_kept p_timesKept)), (qb 0, .inr (1, oX1 qb b_now b_shutTill b_shutBy b_z b_waits (qa 0) (qt 0))), (qp 5, .inl (cI, 7, .inl p_errors_14)), (qb 6, .inl (cI, 24, .inl b_waiting))] H := hP
    have hD : va_D A [(qp 0, .inr (6, oX6 qp (qb 0) (qr 0) (qv 0) (qh 0) p_kept p_timesKept)), (qb 0, .inr (1, oX1 qb b_now b_shutTill b_shutBy b_z b_waits (qa 0) (qt 0))), (qp 5, .inl (cI, 7, .inl p_errors_14)), (qb 6, .inl (cI, 24, .inl b_waiting))] := hD
    exact hret (t14, b_waits, p_errors_14, b_waiting) _ _ _ _ (vp_nar_int _) h hP hD hS dX6_tell_17
