set_option maxHeartbeats 4000000 in
set_option maxRecDepth 100000 in
theorem c6_error (l : Launch) (D : va_G) (cI : ClassId) (ad : Nat → Nat) (qp qb qr qv qh : Nat → Nat) (p_kept : Value) (p_timesKept : Int32) (p_errors : Nat → Int32) (x1 : Int32) (u : Int32 × (Nat → Int32)) (h : f6_error x1 p_errors = some u) : q_RW (cE ad) l yX6_error wsX6_error (rmq (0)) D cI [.ref (qp 0), .int x1] [(qp 0, .inr (6, oX6 qp (qb 0) (qr 0) (qv 0) (qh 0) p_kept p_timesKept)), (qp 5, .inl (cI, 7, .inl p_errors))] [(qp 0, .inr (6, oX6 qp (qb 0) (qr 0) (qv 0) (qh 0) p_kept p_timesKept)), (qp 5, .inl (cI, 7, .inl u.2))] u.1 := by
  refine q_startW (fun u : Int32 × (Nat → Int32) => [(qp 0, .inr (6, oX6 qp (qb 0) (qr 0) (qv 0) (qh 0) p_kept p_timesKept)), (qp 5, .inl (cI, 7, .inl u.2))]) (fun u => u.1) (cc := cX6_error) (maxL := 2) (ty := .int) (own := RX6) (by decide) rfl rfl (Nat.le_of_ble_eq_true rfl) rfl (fun p e s m args below meth c Q A hx hb hml hown hts hK hEv hA hret hP hD hS ls hl => ?_)
  have in6 : ∀ w ∈ wsX60, w ∈ wsX6_error := fun w h => List.mem_cons_of_mem _ (List.mem_append_right _ (h))
  have l37 := hts (.fieldLink RX6 37 "PageWars" "errors" "[I") (List.mem_of_getElem? (i := 1) rfl)
  unfold f6_error at h
  refine lv_aload_n hx hb dX6_error_0 rfl (lv_at hl 0 rfl) ?_
  refine va_get (D := D) (ci := 6) (v := .ref (qp 5)) (C := RX6) (T := TX6) (N := 7) hx hb hts in6 hown hK hP 0 rfl rfl 4 (by decide) l37 (fun _ h9 => h9) rfl dX6_error_1 ?_
  refine lv_iload_n hx hb dX6_error_4 rfl (lv_at hl 1 rfl) ?_
  refine lv_dup2_11 hx hb dX6_error_5 rfl rfl ?_
  refine q_iald hx hb hK hP 1 0 rfl rfl h dX6_error_6 (fun t6 h => ?_)
  refine lv_iconst (v := (1 : Int32)) hx hb dX6_error_7 (by decide) ?_
  refine lv_iadd hx hb dX6_error_8 ?_
  refine q_iast hx hb hK hP hD hS 1 0 rfl rfl h dX6_error_9 (fun p_errors_9 H locs h hP hD hS => ?_)
  have hP : va_P D vwCl [(qp 0, .inr (6, oX6 qp (qb 0) (qr 0) (qv 0) (qh 0) p_kept p_timesKept)), (qp 5, .inl (cI, 7, .inl p_errors_9))] H := hP
  have hD : va_D A [(qp 0, .inr (6, oX6 qp (qb 0) (qr 0) (qv 0) (qh 0) p_kept p_timesKept)), (qp 5, .inl (cI, 7, .inl p_errors_9))] := hD
  refine lv_ldcw (v := (-1000000 : Int32)) hx hb hown (hts (.constant RX6 307 (-1000000)) (List.mem_of_getElem? (i := 2) rfl)) dX6_error_10 ?_
  refine lv_iload_n hx hb dX6_error_13 rfl (lv_at hl 1 rfl) ?_
  refine lv_isub hx hb dX6_error_14 ?_
  exact hret (((-1000000 : Int32)) - x1, p_errors_9) _ _ _ _ (vp_nar_int _) h hP hD hS dX6_error_15
set_option maxHeartbeats 4000000 in
set_option maxRecDepth 100000 in
theorem c6_go (l : Launch) (D : va_G) (cI : ClassId) (ad : Nat → Nat) (qp qb qa qt qr qv qh : Nat → Nat) (p_kept : Value) (p_timesKept b_now b_shutTill b_shutBy b_z b_waits : Int32) (p_errors : Nat → Int32) (x1 : Int32) (u : Int32 × Int32 × (Nat → Int32)) (h : f6_go x1 b_now p_errors = some u) : q_RW (cE ad) l yX6_go wsX6_go (rmq (1)) D cI [.ref (qp 0), .int x1] [(qp 0, .inr (6, oX6 qp (qb 0) (qr 0) (qv 0) (qh 0) p_kept p_timesKept)), (qb 0, .inr (1, oX1 qb b_now b_shutTill b_shutBy b_z b_waits (qa 0) (qt 0))), (qp 5, .inl (cI, 7, .inl p_errors))] [(qp 0, .inr (6, oX6 qp (qb 0) (qr 0) (qv 0) (qh 0) p_kept p_timesKept)), (qb 0, .inr (1, oX1 qb u.2.1 b_shutTill b_shutBy b_z b_waits (qa 0) (qt 0))), (qp 5, .inl (cI, 7, .inl u.2.2))] u.1 := by
  refine q_startW (fun u : Int32 × Int32 × (Nat → Int32) => [(qp 0, .inr (6, oX6 qp (qb 0) (qr 0) (qv 0) (qh 0) p_kept p_timesKept)), (qb 0, .inr (1, oX1 qb u.2.1 b_shutTill b_shutBy b_z b_waits (qa 0) (qt 0))), (qp 5, .inl (cI, 7, .inl u.2.2))]) (fun u => u.1) (cc := cX6_go) (maxL := 2) (ty := .int) (own := RX6) (by decide) rfl rfl (Nat.le_of_ble_eq_true rfl) rfl (fun p e s m args below meth c Q A hx hb hml hown hts hK hEv hA hret hP hD hS ls hl => ?_)
  have in1 : ∀ w ∈ wsX10, w ∈ wsX6_go := fun w h => List.mem_cons_of_mem _ (List.mem_append_right _ (h))
  have in6 : ∀ w ∈ wsX60, w ∈ wsX6_go := fun w h => List.mem_cons_of_mem _ (List.mem_append_left _ (List.mem_append_right _ (h)))
  have l10 := hts (.fieldLink RX6 10 "PageWars" "book" "LPageWars$Book;") (List.mem_of_getElem? (i := 1) rfl)
  have l45 : (Cond.fieldLinkNest RX6 45 "PageWars$Book" "now" "I" "PageWars").before args s = true := cE_f6_45 hEv
  have J12 : ∀ (b_now : Int32) (p_errors : (Nat → Int32)) (H : Heap) (locs : List Loc) (ls : Array Slot), lv_has ls 2 [(0, .ref (qp 0))] → va_P D vwCl [(qp 0, .inr (6, oX6 qp (qb 0) (qr 0) (qv 0) (qh 0) p_kept p_timesKept)), (qb 0, .inr (1, oX1 qb b_now b_shutTill b_shutBy b_z b_waits (qa 0) (qt 0))), (qp 5, .inl (cI, 7, .inl p_errors))] H → va_D A [(qp 0, .inr (6, oX6 qp (qb 0) (qr 0) (qv 0) (qh 0) p_kept p_timesKept)), (qb 0, .inr (1, oX1 qb b_now b_shutTill b_shutBy b_z b_waits (qa 0) (qt 0))), (qp 5, .inl (cI, 7, .inl p_errors))] → va_S A s.heap H locs → f6_go_12  b_now p_errors = some u → W p l e (rmq (1)) s m args below meth c H locs 0 0 Q (F0 m 12 ls []) := by
    intro b_now p_errors H locs ls hl hP hD hS h
    unfold f6_go_12 at h
    refine lv_aload_n hx hb dX6_go_12 rfl (lv_at hl 0 rfl) ?_
    refine lv_iconst (v := (1 : Int32)) hx hb dX6_go_13 (by decide) ?_
    refine q_callW2 (cEok ad) (rest := []) (fun u => [(qp 0, .inr (6, oX6 qp (qb 0) (qr 0) (qv 0) (qh 0) p_kept p_timesKept)), (qp 5, .inl (cI, 7, .inl u.2))]) (fun u => u.1) ⟨hx, hb, hml, hown, hts⟩ (fun u hu => c6_error l D cI ad qp qb qr qv qh p_kept p_timesKept p_errors ((1 : Int32)) u hu) (cwV 1 hts gX6_go_X6_error rfl rfl rfl hdX6_error (rmq_ok (Nat.le_of_ble_eq_true rfl) (Nat.le_of_ble_eq_true rfl))) hK hEv hA hP hD hS [0, 2] (by decide) rfl (fun _ => rfl) (va_recv hK hP (ci := 6) (q0 := 0) rfl rfl) rfl rfl hl.1 (Nat.le_of_ble_eq_true rfl) ⟨Nat.zero_le _, Nat.zero_le _⟩ h dX6_go_14 (fun t14 p_errors_14 H locs h hP hD hS => ?_)
    have hP : va_P D vwCl [(qp 0, .inr (6, oX6 qp (qb 0) (qr 0) (qv 0) (qh 0) p_kept p_timesKept)), (qb 0, .inr (1, oX1 qb b_now b_shutTill b_shutBy b_z b_waits (qa 0) (qt 0))), (qp 5, .inl (cI, 7, .inl p_errors_14))] H := hP
    have hD : va_D A [(qp 0, .inr (6, oX6 qp (qb 0) (qr 0) (qv 0) (qh 0) p_kept p_timesKept)), (qb 0, .inr (1, oX1 qb b_now b_shutTill b_shutBy b_z b_waits (qa 0) (qt 0))), (qp 5, .inl (cI, 7, .inl p_errors_14))] := hD
    exact hret (t14, b_now, p_errors_14) _ _ _ _ (vp_nar_int _) h hP hD hS dX6_go_17
  unfold f6_go at h
  refine lv_iload_n hx hb dX6_go_0 rfl (lv_at hl 1 rfl) ?_
  refine lv_iconst (v := (1 : Int32)) hx hb dX6_go_1 (by decide) ?_
  refine q_clt hx hb 12 h dX6_go_2 (by decide) (fun h => ?_) (fun h => ?_)
  · exact J12 b_now p_errors _ _ _ (lv_sub hl [0] rfl) hP hD hS h
  · refine lv_iload_n hx hb dX6_go_5 rfl (lv_at hl 1 rfl) ?_
    refine lv_sipush (v := (9999 : Int32)) hx hb dX6_go_6 (by decide) ?_
    refine q_cle hx hb 18 h dX6_go_9 (by decide) (fun h => ?_) (fun h => ?_)
    · refine lv_aload_n hx hb dX6_go_18 rfl (lv_at hl 0 rfl) ?_
      refine va_get (D := D) (ci := 6) (v := .ref (qb 0)) (C := RX6) (T := TX6) (N := 7) hx hb hts in6 hown hK hP 0 rfl rfl 0 (by decide) l10 (fun _ h9 => h9) rfl dX6_go_19 ?_
      refine va_getN (D := D) (ci := 1) (v := .int b_now) (C := RX1) (T := TX1) (N := 9) hx hb hts in1 hown hK hP 1 rfl rfl 0 (by decide) l45 (fun _ h9 => h9) rfl dX6_go_22 ?_
      refine lv_sipush (v := (29999 : Int32)) hx hb dX6_go_25 (by decide) ?_
      refine lv_iload_n hx hb dX6_go_28 rfl (lv_at hl 1 rfl) ?_
      refine lv_isub hx hb dX6_go_29 ?_
      refine q_cle hx hb 39 h dX6_go_30 (by decide) (fun h => ?_) (fun h => ?_)
      · refine lv_aload_n hx hb dX6_go_39 rfl (lv_at hl 0 rfl) ?_
        refine va_get (D := D) (ci := 6) (v := .ref (qb 0)) (C := RX6) (T := TX6) (N := 7) hx hb hts in6 hown hK hP 0 rfl rfl 0 (by decide) l10 (fun _ h9 => h9) rfl dX6_go_40 ?_
        refine lv_dup hx hb dX6_go_43 rfl ?_
        refine va_getN (D := D) (ci := 1) (v := .int b_now) (C := RX1) (T := TX1) (N := 9) hx hb hts in1 hown hK hP 1 rfl rfl 0 (by decide) l45 (fun _ h9 => h9) rfl dX6_go_44 ?_
        refine lv_iload_n hx hb dX6_go_47 rfl (lv_at hl 1 rfl) ?_
        refine lv_iadd hx hb dX6_go_48 ?_
        refine q_let h (fun b_now_49 h => ?_)
        refine va_putN (D := D) (ci := 1) (v := .int b_now_49) (ty := .int) (C := RX1) (T := TX1) (N := 9) hx hb hts in1 tyX1 tyX1_ok nmX1 hown hK hP hD hS 1 rfl rfl 0 (by decide) l45 (fun _ h9 => h9) rfl (by decide +kernel) rfl rfl (Nat.le_of_ble_eq_true rfl) dX6_go_49 (fun H locs hP hD hS => ?_)
        have hP : va_P D vwCl [(qp 0, .inr (6, oX6 qp (qb 0) (qr 0) (qv 0) (qh 0) p_kept p_timesKept)), (qb 0, .inr (1, oX1 qb b_now_49 b_shutTill b_shutBy b_z b_waits (qa 0) (qt 0))), (qp 5, .inl (cI, 7, .inl p_errors))] H := hP
        have hD : va_D A [(qp 0, .inr (6, oX6 qp (qb 0) (qr 0) (qv 0) (qh 0) p_kept p_timesKept)), (qb 0, .inr (1, oX1 qb b_now_49 b_shutTill b_shutBy b_z b_waits (qa 0) (qt 0))), (qp 5, .inl (cI, 7, .inl p_errors))] := hD
        refine lv_aload_n hx hb dX6_go_52 rfl (lv_at hl 0 rfl) ?_
        refine va_get (D := D) (ci := 6) (v := .ref (qb 0)) (C := RX6) (T := TX6) (N := 7) hx hb hts in6 hown hK hP 0 rfl rfl 0 (by decide) l10 (fun _ h9 => h9) rfl dX6_go_53 ?_
        refine va_getN (D := D) (ci := 1) (v := .int b_now_49) (C := RX1) (T := TX1) (N := 9) hx hb hts in1 hown hK hP 1 rfl rfl 0 (by decide) l45 (fun _ h9 => h9) rfl dX6_go_56 ?_
        exact hret (b_now_49, b_now_49, p_errors) _ _ _ _ (vp_nar_int _) h hP hD hS dX6_go_59
      · refine lv_aload_n hx hb dX6_go_33 rfl (lv_at hl 0 rfl) ?_
        refine lv_iconst (v := (3 : Int32)) hx hb dX6_go_34 (by decide) ?_
        refine q_callW2 (cEok ad) (rest := []) (fun u => [(qp 0, .inr (6, oX6 qp (qb 0) (qr 0) (qv 0) (qh 0) p_kept p_timesKept)), (qp 5, .inl (cI, 7, .inl u.2))]) (fun u => u.1) ⟨hx, hb, hml, hown, hts⟩ (fun u hu => c6_error l D cI ad qp qb qr qv qh p_kept p_timesKept p_errors ((3 : Int32)) u hu) (cwV 1 hts gX6_go_X6_error rfl rfl rfl hdX6_error (rmq_ok (Nat.le_of_ble_eq_true rfl) (Nat.le_of_ble_eq_true rfl))) hK hEv hA hP hD hS [0, 2] (by decide) rfl (fun _ => rfl) (va_recv hK hP (ci := 6) (q0 := 0) rfl rfl) rfl rfl hl.1 (Nat.le_of_ble_eq_true rfl) ⟨Nat.zero_le _, Nat.zero_le _⟩ h dX6_go_35 (fun t35 p_errors_35 H locs h hP hD hS => ?_)
        have hP : va_P D vwCl [(qp 0, .inr (6, oX6 qp (qb 0) (qr 0) (qv 0) (qh 0) p_kept p_timesKept)), (qb 0, .inr (1, oX1 qb b_now b_shutTill b_shutBy b_z b_waits (qa 0) (qt 0))), (qp 5, .inl (cI, 7, .inl p_errors_35))] H := hP
        have hD : va_D A [(qp 0, .inr (6, oX6 qp (qb 0) (qr 0) (qv 0) (qh 0) p_kept p_timesKept)), (qb 0, .inr (1, oX1 qb b_now b_shutTill b_shutBy b_z b_waits (qa 0) (qt 0))), (qp 5, .inl (cI, 7, .inl p_errors_35))] := hD
        exact hret (t35, b_now, p_errors_35) _ _ _ _ (vp_nar_int _) h hP hD hS dX6_go_38
    · exact J12 b_now p_errors _ _ _ (lv_sub hl [0] rfl) hP hD hS h
set_option maxHeartbeats 4000000 in
set_option maxRecDepth 100000 in
theorem c0_pageSize (l : Launch) (D : va_G) (cI : ClassId) (ad : Nat → Nat) (qa : Nat → Nat) (a_done : Int32) (a_sizes : Nat → Int32) (u : Int32) (h : f0_pageSize a_done a_sizes = some u) : q_RO (cE ad) l yX0_pageSize wsX0_pageSize (rmq (0)) D cI [.ref (qa 0)] [(qa 0, .inr (0, oX0 qa a_done)), (qa 8, .inl (cI, 61, .inl a_sizes))] u := by
  refine q_startR (cc := cX0_pageSize) (maxL := 1) (ty := .int) (own := RX0) (by decide) rfl rfl (Nat.le_of_ble_eq_true rfl) rfl (fun p e s m args below meth c Q hx hb hml hown hts hP hK hEv hret ls hl => ?_)
  have in0 : ∀ w ∈ wsX00, w ∈ wsX0_pageSize := fun w h => List.mem_cons_of_mem _ (List.mem_append_right _ (h))
  have l30 := hts (.fieldLink RX0 30 "PageWars$Acts" "sizes" "[I") (List.mem_of_getElem? (i := 1) rfl)
  have l39 := hts (.fieldLink RX0 39 "PageWars$Acts" "done" "I") (List.mem_of_getElem? (i := 2) rfl)
  unfold f0_pageSize at h
  refine lv_aload_n hx hb dX0_pageSize_0 rfl (lv_at hl 0 rfl) ?_
  refine va_get (D := D) (ci := 0) (v := .ref (qa 8)) (C := RX0) (T := TX0) (N := 10) hx hb hts in0 hown hK hP 0 rfl rfl 7 (by decide) l30 (fun _ h9 => h9) rfl dX0_pageSize_1 ?_
  refine lv_aload_n hx hb dX0_pageSize_4 rfl (lv_at hl 0 rfl) ?_
  refine va_get (D := D) (ci := 0) (v := .int a_done) (C := RX0) (T := TX0) (N := 10) hx hb hts in0 hown hK hP 0 rfl rfl 0 (by decide) l39 (fun _ h9 => h9) rfl dX0_pageSize_5 ?_
  refine q_iald hx hb hK hP 1 0 rfl rfl h dX0_pageSize_8 (fun t8 h => ?_)
  exact hret _ _ _ (vp_nar_int _) h dX0_pageSize_9
set_option maxHeartbeats 4000000 in
set_option maxRecDepth 100000 in
theorem c6_isWriter (l : Launch) (D : va_G) (cI : ClassId) (ad : Nat → Nat) (x0 : Int32) (u : Int32) (h : f6_isWriter x0 = some u) : q_RO (cE ad) l yX6_isWriter wsX6_isWriter (rmq (0)) D cI [.int x0] [] u := by
  refine q_startR (cc := cX6_isWriter) (maxL := 1) (ty := .boolean) (own := RX6) (by decide) rfl rfl (Nat.le_of_ble_eq_true rfl) rfl (fun p e s m args below meth c Q hx hb hml hown hts hP hK hEv hret ls hl => ?_)
  have J15 : ∀ (s0 : Int32) (ls : Array Slot), lv_has ls 1 [] → f6_isWriter_15  s0 = some u → W p l e (rmq (0)) s m args below meth c s.heap [] 0 0 Q (F0 m 15 ls [.int s0]) := by
    intro s0  ls hl h
    unfold f6_isWriter_15 at h
    obtain ⟨hz, h⟩ := q_bz_of h
    exact hret _ _ _ (q_nz hz) h dX6_isWriter_15
  have J14 : ∀  (ls : Array Slot), lv_has ls 1 [] → f6_isWriter_14   = some u → W p l e (rmq (0)) s m args below meth c s.heap [] 0 0 Q (F0 m 14 ls []) := by
    intro   ls hl h
    unfold f6_isWriter_14 at h
    refine lv_iconst (v := (0 : Int32)) hx hb dX6_isWriter_14 (by decide) ?_
    exact J15 ((0 : Int32)) _ (lv_sub hl [] rfl) h
  unfold f6_isWriter at h
  refine lv_iload_n hx hb dX6_isWriter_0 rfl (lv_at hl 0 rfl) ?_
  refine q_iflt hx hb 14 h dX6_isWriter_1 (by decide) (fun h => ?_) (fun h => ?_)
  · exact J14  _ (lv_sub hl [] rfl) h
  · refine lv_iload_n hx hb dX6_isWriter_4 rfl (lv_at hl 0 rfl) ?_
    refine lv_bipush (v := (8 : Int32)) hx hb dX6_isWriter_5 (by decide) ?_
    refine q_cge hx hb 14 h dX6_isWriter_7 (by decide) (fun h => ?_) (fun h => ?_)
    · exact J14  _ (lv_sub hl [] rfl) h
    · refine lv_iconst (v := (1 : Int32)) hx hb dX6_isWriter_10 (by decide) ?_
      refine lv_goto (tgt := 15) hx hb dX6_isWriter_11 (by decide) ?_
      exact J15 ((1 : Int32)) _ (lv_sub hl [] rfl) h
set_option maxHeartbeats 4000000 in
set_option maxRecDepth 100000 in
theorem c6_isWord (l : Launch) (D : va_G) (cI : ClassId) (ad : Nat → Nat) (x0 : Int32) (u : Int32) (h : f6_isWord x0 = some u) : q_RO (cE ad) l yX6_isWord wsX6_isWord (rmq (0)) D cI [.int x0] [] u := by
  refine q_startR (cc := cX6_isWord) (maxL := 1) (ty := .boolean) (own := RX6) (by decide) rfl rfl (Nat.le_of_ble_eq_true rfl) rfl (fun p e s m args below meth c Q hx hb hml hown hts hP hK hEv hret ls hl => ?_)
  have J16 : ∀ (s0 : Int32) (ls : Array Slot), lv_has ls 1 [] → f6_isWord_16  s0 = some u → W p l e (rmq (0)) s m args below meth c s.heap [] 0 0 Q (F0 m 16 ls [.int s0]) := by
    intro s0  ls hl h
    unfold f6_isWord_16 at h
    obtain ⟨hz, h⟩ := q_bz_of h
    exact hret _ _ _ (q_nz hz) h dX6_isWord_16
  have J15 : ∀  (ls : Array Slot), lv_has ls 1 [] → f6_isWord_15   = some u → W p l e (rmq (0)) s m args below meth c s.heap [] 0 0 Q (F0 m 15 ls []) := by
    intro   ls hl h
    unfold f6_isWord_15 at h
    refine lv_iconst (v := (0 : Int32)) hx hb dX6_isWord_15 (by decide) ?_
    exact J16 ((0 : Int32)) _ (lv_sub hl [] rfl) h
  unfold f6_isWord at h
  refine lv_iload_n hx hb dX6_isWord_0 rfl (lv_at hl 0 rfl) ?_
  refine lv_iconst (v := (1 : Int32)) hx hb dX6_isWord_1 (by decide) ?_
  refine q_clt hx hb 15 h dX6_isWord_2 (by decide) (fun h => ?_) (fun h => ?_)
  · exact J15  _ (lv_sub hl [] rfl) h
  · refine lv_iload_n hx hb dX6_isWord_5 rfl (lv_at hl 0 rfl) ?_
    refine lv_bipush (v := (60 : Int32)) hx hb dX6_isWord_6 (by decide) ?_
    refine q_cgt hx hb 15 h dX6_isWord_8 (by decide) (fun h => ?_) (fun h => ?_)
    · exact J15  _ (lv_sub hl [] rfl) h
    · refine lv_iconst (v := (1 : Int32)) hx hb dX6_isWord_11 (by decide) ?_
      refine lv_goto (tgt := 16) hx hb dX6_isWord_12 (by decide) ?_
      exact J16 ((1 : Int32)) _ (lv_sub hl [] rfl) h
set_option maxHeartbeats 4000000 in
set_option maxRecDepth 100000 in
theorem c4_has (l : Launch) (D : va_G) (cI : ClassId) (ad : Nat → Nat) (qt : Nat → Nat) (t_taped : Int32) (t_lengths : Nat → Int32) (x1 : Int32) (u : Int32) (h : f4_has x1 t_lengths = some u) : q_RO (cE ad) l yX4_has wsX4_has (rmq (0)) D cI [.ref (qt 0), .int x1] [(qt 0, .inr (4, oX4 qt t_taped)), (qt 4, .inl (cI, 8, .inl t_lengths))] u := by
  refine q_startR (cc := cX4_has) (maxL := 2) (ty := .boolean) (own := RX4) (by decide) rfl rfl (Nat.le_of_ble_eq_true rfl) rfl (fun p e s m args below meth c Q hx hb hml hown hts hP hK hEv hret ls hl => ?_)
  have in4 : ∀ w ∈ wsX40, w ∈ wsX4_has := fun w h => List.mem_cons_of_mem _ (List.mem_append_right _ (h))
  have l18 := hts (.fieldLink RX4 18 "PageWars$Texts" "lengths" "[I") (List.mem_of_getElem? (i := 1) rfl)
  have J14 : ∀ (s0 : Int32) (ls : Array Slot), lv_has ls 2 [(0, .ref (qt 0))] → f4_has_14 t_lengths s0 = some u → W p l e (rmq (0)) s m args below meth c s.heap [] 0 0 Q (F0 m 14 ls [.int s0]) := by
    intro s0  ls hl h
    unfold f4_has_14 at h
    obtain ⟨hz, h⟩ := q_bz_of h
    exact hret _ _ _ (q_nz hz) h dX4_has_14
  unfold f4_has at h
  refine lv_aload_n hx hb dX4_has_0 rfl (lv_at hl 0 rfl) ?_
  refine va_get (D := D) (ci := 4) (v := .ref (qt 4)) (C := RX4) (T := TX4) (N := 6) hx hb hts in4 hown hK hP 0 rfl rfl 3 (by decide) l18 (fun _ h9 => h9) rfl dX4_has_1 ?_
  refine lv_iload_n hx hb dX4_has_4 rfl (lv_at hl 1 rfl) ?_
  refine q_iald hx hb hK hP 1 0 rfl rfl h dX4_has_5 (fun t5 h => ?_)
  refine q_ifle hx hb 13 h dX4_has_6 (by decide) (fun h => ?_) (fun h => ?_)
  · refine lv_iconst (v := (0 : Int32)) hx hb dX4_has_13 (by decide) ?_
    exact J14 ((0 : Int32)) _ (lv_sub hl [0] rfl) h
  · refine lv_iconst (v := (1 : Int32)) hx hb dX4_has_9 (by decide) ?_
    refine lv_goto (tgt := 14) hx hb dX4_has_10 (by decide) ?_
    exact J14 ((1 : Int32)) _ (lv_sub hl [0] rfl) h
set_option maxHeartbeats 4000000 in
set_option maxRecDepth 100000 in
theorem c0_isUnder (l : Launch) (D : va_G) (cI : ClassId) (ad : Nat → Nat) (x0 : Int32) (x1 : Int32) (n : Nat) (u : Int32) (h : f0_isUnder n x0 x1 = some u) : q_RO (cE ad) l yX0_isUnder wsX0_isUnder (rmq (0)) D cI [.int x0, .int x1] [] u := by
  refine q_startR (cc := cX0_isUnder) (maxL := 4) (ty := .boolean) (own := RX0) (by decide) rfl rfl (Nat.le_of_ble_eq_true rfl) rfl (fun p e s m args below meth c Q hx hb hml hown hts hP hK hEv hret ls hl => ?_)
  have l66 : (Cond.fieldLinkNest RX0 66 "PageWars" "KIND_ABOVE" "[I" "PageWars").before args s = true := cE_f0_66 hEv
  have J41 : ∀ (s0 : Int32) (ls : Array Slot), lv_has ls 4 [] → f0_isUnder_41 n s0 = some u → W p l e (rmq (0)) s m args below meth c s.heap [] 0 0 Q (F0 m 41 ls [.int s0]) := by
    intro s0  ls hl h
    unfold f0_isUnder_41 at h
    obtain ⟨hz, h⟩ := q_bz_of h
    exact hret _ _ _ (q_nz hz) h dX0_isUnder_41
  have J31 : ∀ (x1 : Int32) (x2 : Int32) (ls : Array Slot), lv_has ls 4 [(1, .int x1), (2, .int x2)] → f0_isUnder_31 n x1 x2 = some u → W p l e (rmq (0)) s m args below meth c s.heap [] 0 0 Q (F0 m 31 ls []) := by
    intro x1 x2  ls hl h
    unfold f0_isUnder_31 at h
    refine lv_iload_n hx hb dX0_isUnder_31 rfl (lv_at hl 1 rfl) ?_
    refine lv_iload_n hx hb dX0_isUnder_32 rfl (lv_at hl 0 rfl) ?_
    refine q_cne hx hb 40 h dX0_isUnder_33 (by decide) (fun h => ?_) (fun h => ?_)
    · refine lv_iconst (v := (0 : Int32)) hx hb dX0_isUnder_40 (by decide) ?_
      exact J41 ((0 : Int32)) _ (lv_sub hl [] rfl) h
    · refine lv_iconst (v := (1 : Int32)) hx hb dX0_isUnder_36 (by decide) ?_
      refine lv_goto (tgt := 41) hx hb dX0_isUnder_37 (by decide) ?_
      exact J41 ((1 : Int32)) _ (lv_sub hl [] rfl) h
  have J4 : ∀ (kk4 : Nat) (x1 : Int32) (x2 : Int32) (x3 : Int32) (ls : Array Slot), lv_has ls 4 [(1, .int x1), (2, .int x2), (3, .int x3)] → f0_isUnder_4 n kk4 x1 x2 x3 = some u → W p l e (rmq (0)) s m args below meth c s.heap [] 0 0 Q (F0 m 4 ls []) := by
    intro kk4
    induction kk4 with
    | zero => intro x1 x2 x3  ls hl h; exact nomatch (show (none : Option (Int32)) = some u from h)
    | succ kk4 ih4 =>
      intro x1 x2 x3  ls hl h
      rw [f0_isUnder_4.eq_2] at h
      refine lv_iload_n hx hb dX0_isUnder_4 rfl (lv_at hl 2 rfl) ?_
      refine lv_bipush (v := (8 : Int32)) hx hb dX0_isUnder_5 (by decide) ?_
      refine q_cge hx hb 31 h dX0_isUnder_7 (by decide) (fun h => ?_) (fun h => ?_)
      · exact J31 x1 x2 _ (lv_sub hl [0, 1] rfl) h
      · refine lv_iload_n hx hb dX0_isUnder_10 rfl (lv_at hl 1 rfl) ?_
        refine q_ifle hx hb 31 h dX0_isUnder_11 (by decide) (fun h => ?_) (fun h => ?_)
        · exact J31 x1 x2 _ (lv_sub hl [0, 1] rfl) h
        · refine lv_iload_n hx hb dX0_isUnder_14 rfl (lv_at hl 1 rfl) ?_
          refine lv_iload_n hx hb dX0_isUnder_15 rfl (lv_at hl 0 rfl) ?_
          refine q_ceq hx hb 31 h dX0_isUnder_16 (by decide) (fun h => ?_) (fun h => ?_)
          · exact J31 x1 x2 _ (lv_sub hl [0, 1] rfl) h
          · refine va_getsN hx hb (hEv.2.2.1).1 va_S.rf hown l66 (fun _ h9 => h9) dX0_isUnder_19 ?_
            refine lv_iload_n hx hb dX0_isUnder_22 rfl (lv_at hl 1 rfl) ?_
            refine q_tald hx hb (hEv.2.2.1).2 va_S.rf h dX0_isUnder_23 (fun t23 h => ?_)
            refine lv_istore_n (lv' := [(2, .int t23), (1, .int x1), (3, .int x3)]) hx hb dX0_isUnder_24 rfl hl (by decide) rfl (fun ls hl => ?_)
            refine q_iinc (fun v => [(3, .int v), (2, .int t23), (1, .int x1)]) hx hb h dX0_isUnder_25 (by decide) hl (k := 2) rfl (by decide) (fun _ => rfl) (fun x3_25 ls h hl => ?_)
            refine lv_goto (tgt := 4) hx hb dX0_isUnder_28 (by decide) ?_
            exact ih4 x1 t23 x3_25 _ (lv_sub hl [2, 1, 0] rfl) h
  unfold f0_isUnder at h
  refine lv_iload_n hx hb dX0_isUnder_0 rfl (lv_at hl 0 rfl) ?_
  refine lv_istore_n (lv' := [(2, .int x0), (0, .int x0), (1, .int x1)]) hx hb dX0_isUnder_1 rfl hl (by decide) rfl (fun ls hl => ?_)
  refine lv_iconst (v := (0 : Int32)) hx hb dX0_isUnder_2 (by decide) ?_
  refine lv_istore_n (lv' := [(3, .int ((0 : Int32))), (2, .int x0), (0, .int x0), (1, .int x1)]) hx hb dX0_isUnder_3 rfl hl (by decide) rfl (fun ls hl => ?_)
  exact J4 n x1 x0 ((0 : Int32)) _ (lv_sub hl [3, 1, 0] rfl) h
set_option maxHeartbeats 4000000 in
set_option maxRecDepth 100000 in
theorem c0_backsBy (l : Launch) (D : va_G) (cI : ClassId) (ad : Nat → Nat) (qa : Nat → Nat) (a_done : Int32) (a_kinds a_writers a_minutes : Nat → Int32) (x1 : Int32) (x2 : Int32) (n : Nat) (u : Int32) (h : f0_backsBy n x1 x2 a_done a_kinds a_writers a_minutes = some u) : q_RO (cE ad) l yX0_backsBy wsX0_backsBy (rmq (1)) D cI [.ref (qa 0), .int x1, .int x2] [(qa 0, .inr (0, oX0 qa a_done)), (qa 2, .inl (cI, 60, .inl a_kinds)), (qa 3, .inl (cI, 60, .inl a_writers)), (qa 4, .inl (cI, 60, .inl a_minutes))] u := by
  refine q_startR (cc := cX0_backsBy) (maxL := 5) (ty := .int) (own := RX0) (by decide) rfl rfl (Nat.le_of_ble_eq_true rfl) rfl (fun p e s m args below meth c Q hx hb hml hown hts hP hK hEv hret ls hl => ?_)
  have in0 : ∀ w ∈ wsX00, w ∈ wsX0_backsBy := fun w h => List.mem_cons_of_mem _ (List.mem_append_right _ (h))
  have l9 := hts (.fieldLink RX0 9 "PageWars$Acts" "kinds" "[I") (List.mem_of_getElem? (i := 4) rfl)
  have l15 := hts (.fieldLink RX0 15 "PageWars$Acts" "writers" "[I") (List.mem_of_getElem? (i := 2) rfl)
  have l18 := hts (.fieldLink RX0 18 "PageWars$Acts" "minutes" "[I") (List.mem_of_getElem? (i := 3) rfl)
  have l39 := hts (.fieldLink RX0 39 "PageWars$Acts" "done" "I") (List.mem_of_getElem? (i := 1) rfl)
  have J5 : ∀ (kk5 : Nat) (x1 : Int32) (x2 : Int32) (x3 : Int32) (x4 : Int32) (ls : Array Slot), lv_has ls 5 [(0, .ref (qa 0)), (1, .int x1), (2, .int x2), (3, .int x3), (4, .int x4)] → f0_backsBy_5 n a_done a_kinds a_writers a_minutes kk5 x1 x2 x3 x4 = some u → W p l e (rmq (1)) s m args below meth c s.heap [] 0 0 Q (F0 m 5 ls []) := by
    intro kk5
    induction kk5 with
    | zero => intro x1 x2 x3 x4  ls hl h; exact nomatch (show (none : Option (Int32)) = some u from h)
    | succ kk5 ih5 =>
      have J57 : ∀ (x1 : Int32) (x2 : Int32) (x3 : Int32) (x4 : Int32) (ls : Array Slot), lv_has ls 5 [(0, .ref (qa 0)), (1, .int x1), (2, .int x2), (3, .int x3), (4, .int x4)] → f0_backsBy_57 n a_done a_kinds a_writers a_minutes (f0_backsBy_5 n a_done a_kinds a_writers a_minutes kk5) x1 x2 x3 x4 = some u → W p l e (rmq (1)) s m args below meth c s.heap [] 0 0 Q (F0 m 57 ls []) := by
        intro x1 x2 x3 x4  ls hl h
        unfold f0_backsBy_57 at h
        refine q_iinc (fun v => [(4, .int v), (0, .ref (qa 0)), (1, .int x1), (2, .int x2), (3, .int x3)]) hx hb h dX0_backsBy_57 (by decide) hl (k := 4) rfl (by decide) (fun _ => rfl) (fun x4_57 ls h hl => ?_)
        refine lv_goto (tgt := 5) hx hb dX0_backsBy_60 (by decide) ?_
        exact ih5 x1 x2 x3 x4_57 _ (lv_sub hl [1, 2, 3, 4, 0] rfl) h
      intro x1 x2 x3 x4  ls hl h
      rw [f0_backsBy_5.eq_2] at h
      refine lv_iload hx hb dX0_backsBy_5 (lv_at hl 4 rfl) ?_
      refine lv_aload_n hx hb dX0_backsBy_7 rfl (lv_at hl 0 rfl) ?_
      refine va_get (D := D) (ci := 0) (v := .int a_done) (C := RX0) (T := TX0) (N := 10) hx hb hts in0 hown hK hP 0 rfl rfl 0 (by decide) l39 (fun _ h9 => h9) rfl dX0_backsBy_8 ?_
      refine q_cge hx hb 63 h dX0_backsBy_11 (by decide) (fun h => ?_) (fun h => ?_)
      · refine lv_iload_n hx hb dX0_backsBy_63 rfl (lv_at hl 3 rfl) ?_
        exact hret _ _ _ (vp_nar_int _) h dX0_backsBy_64
      · refine lv_aload_n hx hb dX0_backsBy_14 rfl (lv_at hl 0 rfl) ?_
        refine va_get (D := D) (ci := 0) (v := .ref (qa 3)) (C := RX0) (T := TX0) (N := 10) hx hb hts in0 hown hK hP 0 rfl rfl 2 (by decide) l15 (fun _ h9 => h9) rfl dX0_backsBy_15 ?_
        refine lv_iload hx hb dX0_backsBy_18 (lv_at hl 4 rfl) ?_
        refine q_iald hx hb hK hP 2 0 rfl rfl h dX0_backsBy_20 (fun t20 h => ?_)
        refine lv_iload_n hx hb dX0_backsBy_21 rfl (lv_at hl 1 rfl) ?_
        refine q_cne hx hb 57 h dX0_backsBy_22 (by decide) (fun h => ?_) (fun h => ?_)
        · exact J57 x1 x2 x3 x4 _ (lv_sub hl [0, 1, 2, 3, 4] rfl) h
        · refine lv_aload_n hx hb dX0_backsBy_25 rfl (lv_at hl 0 rfl) ?_
          refine va_get (D := D) (ci := 0) (v := .ref (qa 4)) (C := RX0) (T := TX0) (N := 10) hx hb hts in0 hown hK hP 0 rfl rfl 3 (by decide) l18 (fun _ h9 => h9) rfl dX0_backsBy_26 ?_
          refine lv_iload hx hb dX0_backsBy_29 (lv_at hl 4 rfl) ?_
          refine q_iald hx hb hK hP 3 0 rfl rfl h dX0_backsBy_31 (fun t31 h => ?_)
          refine lv_iload_n hx hb dX0_backsBy_32 rfl (lv_at hl 2 rfl) ?_
          refine lv_sipush (v := (1440 : Int32)) hx hb dX0_backsBy_33 (by decide) ?_
          refine lv_isub hx hb dX0_backsBy_36 ?_
          refine q_cle hx hb 57 h dX0_backsBy_37 (by decide) (fun h => ?_) (fun h => ?_)
          · exact J57 x1 x2 x3 x4 _ (lv_sub hl [0, 1, 2, 3, 4] rfl) h
          · refine lv_aload_n hx hb dX0_backsBy_40 rfl (lv_at hl 0 rfl) ?_
            refine va_get (D := D) (ci := 0) (v := .ref (qa 2)) (C := RX0) (T := TX0) (N := 10) hx hb hts in0 hown hK hP 0 rfl rfl 1 (by decide) l9 (fun _ h9 => h9) rfl dX0_backsBy_41 ?_
            refine lv_iload hx hb dX0_backsBy_44 (lv_at hl 4 rfl) ?_
            refine q_iald hx hb hK hP 1 0 rfl rfl h dX0_backsBy_46 (fun t46 h => ?_)
            refine lv_iconst (v := (2 : Int32)) hx hb dX0_backsBy_47 (by decide) ?_
            refine q_callRS (cEok ad) (rest := []) ⟨hx, hb, hml, hown, hts⟩ (fun r hr => c0_isUnder l D cI ad t46 ((2 : Int32)) n r hr) (va_cwS 2 hts gX0_backsBy_X0_isUnder rfl rfl rfl hdX0_isUnder (rmq_ok (Nat.le_of_ble_eq_true rfl) (Nat.le_of_ble_eq_true rfl))) hK hP hEv va_S.rf [] rfl rfl rfl hl.1 (Nat.le_of_ble_eq_true rfl) ⟨Nat.zero_le _, Nat.zero_le _⟩ h dX0_backsBy_48 (fun t48 h => ?_)
            refine q_ifeq hx hb 57 h dX0_backsBy_51 (by decide) (fun h => ?_) (fun h => ?_)
            · exact J57 x1 x2 x3 x4 _ (lv_sub hl [0, 1, 2, 3, 4] rfl) h
            · refine q_iinc (fun v => [(3, .int v), (0, .ref (qa 0)), (1, .int x1), (2, .int x2), (4, .int x4)]) hx hb h dX0_backsBy_54 (by decide) hl (k := 3) rfl (by decide) (fun _ => rfl) (fun x3_54 ls h hl => ?_)
              exact J57 x1 x2 x3_54 x4 _ (lv_sub hl [1, 2, 3, 0, 4] rfl) h
  unfold f0_backsBy at h
  refine lv_iconst (v := (0 : Int32)) hx hb dX0_backsBy_0 (by decide) ?_
  refine lv_istore_n (lv' := [(3, .int ((0 : Int32))), (0, .ref (qa 0)), (1, .int x1), (2, .int x2)]) hx hb dX0_backsBy_1 rfl hl (by decide) rfl (fun ls hl => ?_)
  refine lv_iconst (v := (0 : Int32)) hx hb dX0_backsBy_2 (by decide) ?_
  refine lv_istore (lv' := [(4, .int ((0 : Int32))), (3, .int ((0 : Int32))), (0, .ref (qa 0)), (1, .int x1), (2, .int x2)]) hx hb dX0_backsBy_3 hl (by decide) rfl (fun ls hl => ?_)
  exact J5 n x1 x2 ((0 : Int32)) ((0 : Int32)) _ (lv_sub hl [2, 3, 4, 1, 0] rfl) h
set_option maxHeartbeats 4000000 in
set_option maxRecDepth 100000 in
theorem c0_doneBy (l : Launch) (D : va_G) (cI : ClassId) (ad : Nat → Nat) (qa : Nat → Nat) (a_done : Int32) (a_writers : Nat → Int32) (x1 : Int32) (n : Nat) (u : Int32) (h : f0_doneBy n x1 a_done a_writers = some u) : q_RO (cE ad) l yX0_doneBy wsX0_doneBy (rmq (0)) D cI [.ref (qa 0), .int x1] [(qa 0, .inr (0, oX0 qa a_done)), (qa 3, .inl (cI, 60, .inl a_writers))] u := by
  refine q_startR (cc := cX0_doneBy) (maxL := 4) (ty := .int) (own := RX0) (by decide) rfl rfl (Nat.le_of_ble_eq_true rfl) rfl (fun p e s m args below meth c Q hx hb hml hown hts hP hK hEv hret ls hl => ?_)
  have in0 : ∀ w ∈ wsX00, w ∈ wsX0_doneBy := fun w h => List.mem_cons_of_mem _ (List.mem_append_right _ (h))
  have l15 := hts (.fieldLink RX0 15 "PageWars$Acts" "writers" "[I") (List.mem_of_getElem? (i := 2) rfl)
  have l39 := hts (.fieldLink RX0 39 "PageWars$Acts" "done" "I") (List.mem_of_getElem? (i := 1) rfl)
  have J4 : ∀ (kk4 : Nat) (x1 : Int32) (x2 : Int32) (x3 : Int32) (ls : Array Slot), lv_has ls 4 [(0, .ref (qa 0)), (1, .int x1), (2, .int x2), (3, .int x3)] → f0_doneBy_4 n a_done a_writers kk4 x1 x2 x3 = some u → W p l e (rmq (0)) s m args below meth c s.heap [] 0 0 Q (F0 m 4 ls []) := by
    intro kk4
    induction kk4 with
    | zero => intro x1 x2 x3  ls hl h; exact nomatch (show (none : Option (Int32)) = some u from h)
    | succ kk4 ih4 =>
      have J25 : ∀ (x1 : Int32) (x2 : Int32) (x3 : Int32) (ls : Array Slot), lv_has ls 4 [(0, .ref (qa 0)), (1, .int x1), (2, .int x2), (3, .int x3)] → f0_doneBy_25 n a_done a_writers (f0_doneBy_4 n a_done a_writers kk4) x1 x2 x3 = some u → W p l e (rmq (0)) s m args below meth c s.heap [] 0 0 Q (F0 m 25 ls []) := by
        intro x1 x2 x3  ls hl h
        unfold f0_doneBy_25 at h
        refine q_iinc (fun v => [(3, .int v), (0, .ref (qa 0)), (1, .int x1), (2, .int x2)]) hx hb h dX0_doneBy_25 (by decide) hl (k := 3) rfl (by decide) (fun _ => rfl) (fun x3_25 ls h hl => ?_)
        refine lv_goto (tgt := 4) hx hb dX0_doneBy_28 (by decide) ?_
        exact ih4 x1 x2 x3_25 _ (lv_sub hl [1, 2, 3, 0] rfl) h
      intro x1 x2 x3  ls hl h
      rw [f0_doneBy_4.eq_2] at h
      refine lv_iload_n hx hb dX0_doneBy_4 rfl (lv_at hl 3 rfl) ?_
      refine lv_aload_n hx hb dX0_doneBy_5 rfl (lv_at hl 0 rfl) ?_
      refine va_get (D := D) (ci := 0) (v := .int a_done) (C := RX0) (T := TX0) (N := 10) hx hb hts in0 hown hK hP 0 rfl rfl 0 (by decide) l39 (fun _ h9 => h9) rfl dX0_doneBy_6 ?_
      refine q_cge hx hb 31 h dX0_doneBy_9 (by decide) (fun h => ?_) (fun h => ?_)
      · refine lv_iload_n hx hb dX0_doneBy_31 rfl (lv_at hl 2 rfl) ?_
        exact hret _ _ _ (vp_nar_int _) h dX0_doneBy_32
      · refine lv_aload_n hx hb dX0_doneBy_12 rfl (lv_at hl 0 rfl) ?_
        refine va_get (D := D) (ci := 0) (v := .ref (qa 3)) (C := RX0) (T := TX0) (N := 10) hx hb hts in0 hown hK hP 0 rfl rfl 2 (by decide) l15 (fun _ h9 => h9) rfl dX0_doneBy_13 ?_
        refine lv_iload_n hx hb dX0_doneBy_16 rfl (lv_at hl 3 rfl) ?_
        refine q_iald hx hb hK hP 1 0 rfl rfl h dX0_doneBy_17 (fun t17 h => ?_)
        refine lv_iload_n hx hb dX0_doneBy_18 rfl (lv_at hl 1 rfl) ?_
        refine q_cne hx hb 25 h dX0_doneBy_19 (by decide) (fun h => ?_) (fun h => ?_)
        · exact J25 x1 x2 x3 _ (lv_sub hl [0, 1, 2, 3] rfl) h
        · refine q_iinc (fun v => [(2, .int v), (0, .ref (qa 0)), (1, .int x1), (3, .int x3)]) hx hb h dX0_doneBy_22 (by decide) hl (k := 2) rfl (by decide) (fun _ => rfl) (fun x2_22 ls h hl => ?_)
          exact J25 x1 x2_22 x3 _ (lv_sub hl [1, 2, 0, 3] rfl) h
  unfold f0_doneBy at h
  refine lv_iconst (v := (0 : Int32)) hx hb dX0_doneBy_0 (by decide) ?_
  refine lv_istore_n (lv' := [(2, .int ((0 : Int32))), (0, .ref (qa 0)), (1, .int x1)]) hx hb dX0_doneBy_1 rfl hl (by decide) rfl (fun ls hl => ?_)
  refine lv_iconst (v := (0 : Int32)) hx hb dX0_doneBy_2 (by decide) ?_
  refine lv_istore_n (lv' := [(3, .int ((0 : Int32))), (2, .int ((0 : Int32))), (0, .ref (qa 0)), (1, .int x1)]) hx hb dX0_doneBy_3 rfl hl (by decide) rfl (fun ls hl => ?_)
  exact J4 n x1 ((0 : Int32)) ((0 : Int32)) _ (lv_sub hl [2, 3, 1, 0] rfl) h
set_option maxHeartbeats 4000000 in
set_option maxRecDepth 100000 in
theorem c4_names (l : Launch) (D : va_G) (cI : ClassId) (ad : Nat → Nat) (qt : Nat → Nat) (t_taped : Int32) (t_named : Nat → Int32) (x1 : Int32) (x2 : Int32) (x3 : Int32) (x4 : Int32) (x5 : Int32) (u : (Nat → Int32)) (h : f4_names x1 x2 x3 x4 x5 t_named = some u) : q_RV (cE ad) l yX4_names wsX4_names (rmq (0)) D cI [.ref (qt 0), .int x1, .int x2, .int x3, .int x4, .int x5] [(qt 0, .inr (4, oX4 qt t_taped)), (qt 5, .inl (cI, 5, .inl t_named))] [(qt 0, .inr (4, oX4 qt t_taped)), (qt 5, .inl (cI, 5, .inl u))] := by
  refine q_startV (fun u : (Nat → Int32) => [(qt 0, .inr (4, oX4 qt t_taped)), (qt 5, .inl (cI, 5, .inl u))]) (cc := cX4_names) (maxL := 6) (own := RX4) (by decide) rfl rfl (Nat.le_of_ble_eq_true rfl) rfl (fun p e s m args below meth c Q A hx hb hml hown hts hK hEv hA hret hP hD hS ls hl => ?_)
  have in4 : ∀ w ∈ wsX40, w ∈ wsX4_names := fun w h => List.mem_cons_of_mem _ (List.mem_append_right _ (h))
  have l21 := hts (.fieldLink RX4 21 "PageWars$Texts" "named" "[I") (List.mem_of_getElem? (i := 1) rfl)
  unfold f4_names at h
  refine lv_aload_n hx hb dX4_names_0 rfl (lv_at hl 0 rfl) ?_
  refine va_get (D := D) (ci := 4) (v := .ref (qt 5)) (C := RX4) (T := TX4) (N := 6) hx hb hts in4 hown hK hP 0 rfl rfl 4 (by decide) l21 (fun _ h9 => h9) rfl dX4_names_1 ?_
  refine lv_iconst (v := (0 : Int32)) hx hb dX4_names_4 (by decide) ?_
  refine lv_iload_n hx hb dX4_names_5 rfl (lv_at hl 1 rfl) ?_
  refine q_iast hx hb hK hP hD hS 1 0 rfl rfl h dX4_names_6 (fun t_named_6 H locs h hP hD hS => ?_)
  have hP : va_P D vwCl [(qt 0, .inr (4, oX4 qt t_taped)), (qt 5, .inl (cI, 5, .inl t_named_6))] H := hP
  have hD : va_D A [(qt 0, .inr (4, oX4 qt t_taped)), (qt 5, .inl (cI, 5, .inl t_named_6))] := hD
  refine lv_aload_n hx hb dX4_names_7 rfl (lv_at hl 0 rfl) ?_
  refine va_get (D := D) (ci := 4) (v := .ref (qt 5)) (C := RX4) (T := TX4) (N := 6) hx hb hts in4 hown hK hP 0 rfl rfl 4 (by decide) l21 (fun _ h9 => h9) rfl dX4_names_8 ?_
  refine lv_iconst (v := (1 : Int32)) hx hb dX4_names_11 (by decide) ?_
  refine lv_iload_n hx hb dX4_names_12 rfl (lv_at hl 2 rfl) ?_
  refine q_iast hx hb hK hP hD hS 1 0 rfl rfl h dX4_names_13 (fun t_named_13 H locs h hP hD hS => ?_)
  have hP : va_P D vwCl [(qt 0, .inr (4, oX4 qt t_taped)), (qt 5, .inl (cI, 5, .inl t_named_13))] H := hP
  have hD : va_D A [(qt 0, .inr (4, oX4 qt t_taped)), (qt 5, .inl (cI, 5, .inl t_named_13))] := hD
  refine lv_aload_n hx hb dX4_names_14 rfl (lv_at hl 0 rfl) ?_
  refine va_get (D := D) (ci := 4) (v := .ref (qt 5)) (C := RX4) (T := TX4) (N := 6) hx hb hts in4 hown hK hP 0 rfl rfl 4 (by decide) l21 (fun _ h9 => h9) rfl dX4_names_15 ?_
  refine lv_iconst (v := (2 : Int32)) hx hb dX4_names_18 (by decide) ?_
  refine lv_iload_n hx hb dX4_names_19 rfl (lv_at hl 3 rfl) ?_
  refine q_iast hx hb hK hP hD hS 1 0 rfl rfl h dX4_names_20 (fun t_named_20 H locs h hP hD hS => ?_)
  have hP : va_P D vwCl [(qt 0, .inr (4, oX4 qt t_taped)), (qt 5, .inl (cI, 5, .inl t_named_20))] H := hP
  have hD : va_D A [(qt 0, .inr (4, oX4 qt t_taped)), (qt 5, .inl (cI, 5, .inl t_named_20))] := hD
  refine lv_aload_n hx hb dX4_names_21 rfl (lv_at hl 0 rfl) ?_
  refine va_get (D := D) (ci := 4) (v := .ref (qt 5)) (C := RX4) (T := TX4) (N := 6) hx hb hts in4 hown hK hP 0 rfl rfl 4 (by decide) l21 (fun _ h9 => h9) rfl dX4_names_22 ?_
  refine lv_iconst (v := (3 : Int32)) hx hb dX4_names_25 (by decide) ?_
  refine lv_iload hx hb dX4_names_26 (lv_at hl 4 rfl) ?_
  refine q_iast hx hb hK hP hD hS 1 0 rfl rfl h dX4_names_28 (fun t_named_28 H locs h hP hD hS => ?_)
  have hP : va_P D vwCl [(qt 0, .inr (4, oX4 qt t_taped)), (qt 5, .inl (cI, 5, .inl t_named_28))] H := hP
  have hD : va_D A [(qt 0, .inr (4, oX4 qt t_taped)), (qt 5, .inl (cI, 5, .inl t_named_28))] := hD
  refine lv_aload_n hx hb dX4_names_29 rfl (lv_at hl 0 rfl) ?_
  refine va_get (D := D) (ci := 4) (v := .ref (qt 5)) (C := RX4) (T := TX4) (N := 6) hx hb hts in4 hown hK hP 0 rfl rfl 4 (by decide) l21 (fun _ h9 => h9) rfl dX4_names_30 ?_
  refine lv_iconst (v := (4 : Int32)) hx hb dX4_names_33 (by decide) ?_
  refine lv_iload hx hb dX4_names_34 (lv_at hl 5 rfl) ?_
  refine q_iast hx hb hK hP hD hS 1 0 rfl rfl h dX4_names_36 (fun t_named_36 H locs h hP hD hS => ?_)
  have hP : va_P D vwCl [(qt 0, .inr (4, oX4 qt t_taped)), (qt 5, .inl (cI, 5, .inl t_named_36))] H := hP
  have hD : va_D A [(qt 0, .inr (4, oX4 qt t_taped)), (qt 5, .inl (cI, 5, .inl t_named_36))] := hD
  exact hret (t_named_36) _ _ _ _ h hP hD hS dX4_names_37
set_option maxHeartbeats 4000000 in
set_option maxRecDepth 100000 in
theorem c4_joined (l : Launch) (D : va_G) (cI : ClassId) (ad : Nat → Nat) (x0 : Int32) (x1 : Int32) (x2 : Int32) (u : Int32) (h : f4_joined x0 x1 x2 = some u) : q_RO (cE ad) l yX4_joined wsX4_joined (rmq (0)) D cI [.int x0, .int x1, .int x2] [] u := by
  refine q_startR (cc := cX4_joined) (maxL := 3) (ty := .int) (own := RX4) (by decide) rfl rfl (Nat.le_of_ble_eq_true rfl) rfl (fun p e s m args below meth c Q hx hb hml hown hts hP hK hEv hret ls hl => ?_)
  have J188 : ∀ (s0 : Int32) (ls : Array Slot), lv_has ls 3 [] → f4_joined_188  s0 = some u → W p l e (rmq (0)) s m args below meth c s.heap [] 0 0 Q (F0 m 188 ls [.int s0]) := by
    intro s0  ls hl h
    unfold f4_joined_188 at h
    exact hret _ _ _ (vp_nar_int _) h dX4_joined_188
  have J176 : ∀ (s0 : Int32) (ls : Array Slot), lv_has ls 3 [] → f4_joined_176  s0 = some u → W p l e (rmq (0)) s m args below meth c s.heap [] 0 0 Q (F0 m 176 ls [.int s0]) := by
    intro s0  ls hl h
    unfold f4_joined_176 at h
    exact hret _ _ _ (vp_nar_int _) h dX4_joined_176
  have J152 : ∀ (s0 : Int32) (ls : Array Slot), lv_has ls 3 [] → f4_joined_152  s0 = some u → W p l e (rmq (0)) s m args below meth c s.heap [] 0 0 Q (F0 m 152 ls [.int s0]) := by
    intro s0  ls hl h
    unfold f4_joined_152 at h
    exact hret _ _ _ (vp_nar_int _) h dX4_joined_152
  have J141 : ∀ (s0 : Int32) (ls : Array Slot), lv_has ls 3 [] → f4_joined_141  s0 = some u → W p l e (rmq (0)) s m args below meth c s.heap [] 0 0 Q (F0 m 141 ls [.int s0]) := by
    intro s0  ls hl h
    unfold f4_joined_141 at h
    exact hret _ _ _ (vp_nar_int _) h dX4_joined_141
  have J130 : ∀ (s0 : Int32) (ls : Array Slot), lv_has ls 3 [] → f4_joined_130  s0 = some u → W p l e (rmq (0)) s m args below meth c s.heap [] 0 0 Q (F0 m 130 ls [.int s0]) := by
    intro s0  ls hl h
    unfold f4_joined_130 at h
    exact hret _ _ _ (vp_nar_int _) h dX4_joined_130
  have J119 : ∀ (s0 : Int32) (ls : Array Slot), lv_has ls 3 [] → f4_joined_119  s0 = some u → W p l e (rmq (0)) s m args below meth c s.heap [] 0 0 Q (F0 m 119 ls [.int s0]) := by
    intro s0  ls hl h
    unfold f4_joined_119 at h
    exact hret _ _ _ (vp_nar_int _) h dX4_joined_119
  have J118 : ∀  (ls : Array Slot), lv_has ls 3 [] → f4_joined_118   = some u → W p l e (rmq (0)) s m args below meth c s.heap [] 0 0 Q (F0 m 118 ls []) := by
    intro   ls hl h
    unfold f4_joined_118 at h
    refine lv_iconst (v := (0 : Int32)) hx hb dX4_joined_118 (by decide) ?_
    exact J119 ((0 : Int32)) _ (lv_sub hl [] rfl) h
  have J105 : ∀ (s0 : Int32) (ls : Array Slot), lv_has ls 3 [] → f4_joined_105  s0 = some u → W p l e (rmq (0)) s m args below meth c s.heap [] 0 0 Q (F0 m 105 ls [.int s0]) := by
    intro s0  ls hl h
    unfold f4_joined_105 at h
    exact hret _ _ _ (vp_nar_int _) h dX4_joined_105
  have J100 : ∀  (ls : Array Slot), lv_has ls 3 [] → f4_joined_100   = some u → W p l e (rmq (0)) s m args below meth c s.heap [] 0 0 Q (F0 m 100 ls []) := by
    intro   ls hl h
    unfold f4_joined_100 at h
    refine lv_iconst (v := (1 : Int32)) hx hb dX4_joined_100 (by decide) ?_
    refine lv_goto (tgt := 105) hx hb dX4_joined_101 (by decide) ?_
    exact J105 ((1 : Int32)) _ (lv_sub hl [] rfl) h
  unfold f4_joined at h
  refine lv_iload_n hx hb dX4_joined_0 rfl (lv_at hl 0 rfl) ?_
  rcases Decidable.em (x0 = (37 : Int32)) with w0 | w0
  · have h := q_t h w0
    refine lv_lookup hx hb dX4_joined_1 (off := 176) (tgt := 177) (by decide +kernel) (by rw [w0]; decide +kernel) (by decide) ?_
    refine lv_iload_n hx hb dX4_joined_177 rfl (lv_at hl 2 rfl) ?_
    refine q_ifne hx hb 185 h dX4_joined_178 (by decide) (fun h => ?_) (fun h => ?_)
    · refine lv_iload_n hx hb dX4_joined_185 rfl (lv_at hl 1 rfl) ?_
      refine lv_iload_n hx hb dX4_joined_186 rfl (lv_at hl 2 rfl) ?_
      refine q_irem hx hb h dX4_joined_187 (fun h => ?_)
      exact J188 (x1 - x1 / x2 * x2) _ (lv_sub hl [] rfl) h
    · refine lv_iconst (v := (0 : Int32)) hx hb dX4_joined_181 (by decide) ?_
      refine lv_goto (tgt := 188) hx hb dX4_joined_182 (by decide) ?_
      exact J188 ((0 : Int32)) _ (lv_sub hl [] rfl) h
  have h := q_f h w0
  rcases Decidable.em (x0 = (38 : Int32)) with w1 | w1
  · have h := q_t h w1
    refine lv_lookup hx hb dX4_joined_1 (off := 105) (tgt := 106) (by decide +kernel) (by rw [w1]; decide +kernel) (by decide) ?_
    refine lv_iload_n hx hb dX4_joined_106 rfl (lv_at hl 1 rfl) ?_
    refine q_ifeq hx hb 118 h dX4_joined_107 (by decide) (fun h => ?_) (fun h => ?_)
    · exact J118  _ (lv_sub hl [] rfl) h
    · refine lv_iload_n hx hb dX4_joined_110 rfl (lv_at hl 2 rfl) ?_
      refine q_ifeq hx hb 118 h dX4_joined_111 (by decide) (fun h => ?_) (fun h => ?_)
      · exact J118  _ (lv_sub hl [] rfl) h
      · refine lv_iconst (v := (1 : Int32)) hx hb dX4_joined_114 (by decide) ?_
        refine lv_goto (tgt := 119) hx hb dX4_joined_115 (by decide) ?_
        exact J119 ((1 : Int32)) _ (lv_sub hl [] rfl) h
  have h := q_f h w1
  rcases Decidable.em (x0 = (42 : Int32)) with w2 | w2
  · have h := q_t h w2
    refine lv_lookup hx hb dX4_joined_1 (off := 160) (tgt := 161) (by decide +kernel) (by rw [w2]; decide +kernel) (by decide) ?_
    refine lv_iload_n hx hb dX4_joined_161 rfl (lv_at hl 1 rfl) ?_
    refine lv_iload_n hx hb dX4_joined_162 rfl (lv_at hl 2 rfl) ?_
    refine lv_imul hx hb dX4_joined_163 ?_
    exact hret _ _ _ (vp_nar_int _) h dX4_joined_164
  have h := q_f h w2
  rcases Decidable.em (x0 = (43 : Int32)) with w3 | w3
  · have h := q_t h w3
    refine lv_lookup hx hb dX4_joined_1 (off := 152) (tgt := 153) (by decide +kernel) (by rw [w3]; decide +kernel) (by decide) ?_
    refine lv_iload_n hx hb dX4_joined_153 rfl (lv_at hl 1 rfl) ?_
    refine lv_iload_n hx hb dX4_joined_154 rfl (lv_at hl 2 rfl) ?_
    refine lv_iadd hx hb dX4_joined_155 ?_
    exact hret _ _ _ (vp_nar_int _) h dX4_joined_156
  have h := q_f h w3
  rcases Decidable.em (x0 = (45 : Int32)) with w4 | w4
  · have h := q_t h w4
    refine lv_lookup hx hb dX4_joined_1 (off := 156) (tgt := 157) (by decide +kernel) (by rw [w4]; decide +kernel) (by decide) ?_
    refine lv_iload_n hx hb dX4_joined_157 rfl (lv_at hl 1 rfl) ?_
    refine lv_iload_n hx hb dX4_joined_158 rfl (lv_at hl 2 rfl) ?_
    refine lv_isub hx hb dX4_joined_159 ?_
    exact hret _ _ _ (vp_nar_int _) h dX4_joined_160
  have h := q_f h w4
  rcases Decidable.em (x0 = (47 : Int32)) with w5 | w5
  · have h := q_t h w5
    refine lv_lookup hx hb dX4_joined_1 (off := 164) (tgt := 165) (by decide +kernel) (by rw [w5]; decide +kernel) (by decide) ?_
    refine lv_iload_n hx hb dX4_joined_165 rfl (lv_at hl 2 rfl) ?_
    refine q_ifne hx hb 173 h dX4_joined_166 (by decide) (fun h => ?_) (fun h => ?_)
    · refine lv_iload_n hx hb dX4_joined_173 rfl (lv_at hl 1 rfl) ?_
      refine lv_iload_n hx hb dX4_joined_174 rfl (lv_at hl 2 rfl) ?_
      refine q_idiv hx hb h dX4_joined_175 (fun h => ?_)
      exact J176 (x1 / x2) _ (lv_sub hl [] rfl) h
    · refine lv_iconst (v := (0 : Int32)) hx hb dX4_joined_169 (by decide) ?_
      refine lv_goto (tgt := 176) hx hb dX4_joined_170 (by decide) ?_
      exact J176 ((0 : Int32)) _ (lv_sub hl [] rfl) h
  have h := q_f h w5
  rcases Decidable.em (x0 = (60 : Int32)) with w6 | w6
  · have h := q_t h w6
    refine lv_lookup hx hb dX4_joined_1 (off := 119) (tgt := 120) (by decide +kernel) (by rw [w6]; decide +kernel) (by decide) ?_
    refine lv_iload_n hx hb dX4_joined_120 rfl (lv_at hl 1 rfl) ?_
    refine lv_iload_n hx hb dX4_joined_121 rfl (lv_at hl 2 rfl) ?_
    refine q_cge hx hb 129 h dX4_joined_122 (by decide) (fun h => ?_) (fun h => ?_)
    · refine lv_iconst (v := (0 : Int32)) hx hb dX4_joined_129 (by decide) ?_
      exact J130 ((0 : Int32)) _ (lv_sub hl [] rfl) h
    · refine lv_iconst (v := (1 : Int32)) hx hb dX4_joined_125 (by decide) ?_
      refine lv_goto (tgt := 130) hx hb dX4_joined_126 (by decide) ?_
      exact J130 ((1 : Int32)) _ (lv_sub hl [] rfl) h
  have h := q_f h w6
  rcases Decidable.em (x0 = (61 : Int32)) with w7 | w7
  · have h := q_t h w7
    refine lv_lookup hx hb dX4_joined_1 (off := 130) (tgt := 131) (by decide +kernel) (by rw [w7]; decide +kernel) (by decide) ?_
    refine lv_iload_n hx hb dX4_joined_131 rfl (lv_at hl 1 rfl) ?_
    refine lv_iload_n hx hb dX4_joined_132 rfl (lv_at hl 2 rfl) ?_
    refine q_cne hx hb 140 h dX4_joined_133 (by decide) (fun h => ?_) (fun h => ?_)
    · refine lv_iconst (v := (0 : Int32)) hx hb dX4_joined_140 (by decide) ?_
      exact J141 ((0 : Int32)) _ (lv_sub hl [] rfl) h
    · refine lv_iconst (v := (1 : Int32)) hx hb dX4_joined_136 (by decide) ?_
      refine lv_goto (tgt := 141) hx hb dX4_joined_137 (by decide) ?_
      exact J141 ((1 : Int32)) _ (lv_sub hl [] rfl) h
  have h := q_f h w7
  rcases Decidable.em (x0 = (62 : Int32)) with w8 | w8
  · have h := q_t h w8
    refine lv_lookup hx hb dX4_joined_1 (off := 141) (tgt := 142) (by decide +kernel) (by rw [w8]; decide +kernel) (by decide) ?_
    refine lv_iload_n hx hb dX4_joined_142 rfl (lv_at hl 1 rfl) ?_
    refine lv_iload_n hx hb dX4_joined_143 rfl (lv_at hl 2 rfl) ?_
    refine q_cle hx hb 151 h dX4_joined_144 (by decide) (fun h => ?_) (fun h => ?_)
    · refine lv_iconst (v := (0 : Int32)) hx hb dX4_joined_151 (by decide) ?_
      exact J152 ((0 : Int32)) _ (lv_sub hl [] rfl) h
    · refine lv_iconst (v := (1 : Int32)) hx hb dX4_joined_147 (by decide) ?_
      refine lv_goto (tgt := 152) hx hb dX4_joined_148 (by decide) ?_
      exact J152 ((1 : Int32)) _ (lv_sub hl [] rfl) h
  have h := q_f h w8
  rcases Decidable.em (x0 = (124 : Int32)) with w9 | w9
  · have h := q_t h w9
    refine lv_lookup hx hb dX4_joined_1 (off := 91) (tgt := 92) (by decide +kernel) (by rw [w9]; decide +kernel) (by decide) ?_
    refine lv_iload_n hx hb dX4_joined_92 rfl (lv_at hl 1 rfl) ?_
    refine q_ifne hx hb 100 h dX4_joined_93 (by decide) (fun h => ?_) (fun h => ?_)
    · exact J100  _ (lv_sub hl [] rfl) h
    · refine lv_iload_n hx hb dX4_joined_96 rfl (lv_at hl 2 rfl) ?_
      refine q_ifeq hx hb 104 h dX4_joined_97 (by decide) (fun h => ?_) (fun h => ?_)
      · refine lv_iconst (v := (0 : Int32)) hx hb dX4_joined_104 (by decide) ?_
        exact J105 ((0 : Int32)) _ (lv_sub hl [] rfl) h
      · exact J100  _ (lv_sub hl [] rfl) h
  have h := q_f h w9
  refine lv_lookup hx hb dX4_joined_1 (off := 188) (tgt := 189) (by decide +kernel) (q_look ?_) (by decide) ?_
  · intro q hq e
    have hq : q ∈ ([(37, 176), (38, 105), (42, 160), (43, 152), (45, 156), (47, 164), (60, 119), (61, 130), (62, 141), (124, 91)] : List (Int × Int)) := hq
    simp only [List.mem_cons, List.not_mem_nil, or_false] at hq
    rcases hq with rfl | rfl | rfl | rfl | rfl | rfl | rfl | rfl | rfl | rfl
    · exact w0 (Int32.toInt_inj.mp (e.trans (by decide)))
    · exact w1 (Int32.toInt_inj.mp (e.trans (by decide)))
    · exact w2 (Int32.toInt_inj.mp (e.trans (by decide)))
    · exact w3 (Int32.toInt_inj.mp (e.trans (by decide)))
    · exact w4 (Int32.toInt_inj.mp (e.trans (by decide)))
    · exact w5 (Int32.toInt_inj.mp (e.trans (by decide)))
    · exact w6 (Int32.toInt_inj.mp (e.trans (by decide)))
    · exact w7 (Int32.toInt_inj.mp (e.trans (by decide)))
    · exact w8 (Int32.toInt_inj.mp (e.trans (by decide)))
    · exact w9 (Int32.toInt_inj.mp (e.trans (by decide)))
  · refine lv_iconst (v := (0 : Int32)) hx hb dX4_joined_189 (by decide) ?_
    exact hret _ _ _ (vp_nar_int _) h dX4_joined_190
set_option maxHeartbeats 4000000 in
set_option maxRecDepth 100000 in
theorem c4_worked (l : Launch) (D : va_G) (cI : ClassId) (ad : Nat → Nat) (qt : Nat → Nat) (t_taped : Int32) (t_codes t_lengths t_named t_stack : Nat → Int32) (x1 : Int32) (n : Nat) (u : Int32 × (Nat → Int32)) (h : f4_worked n x1 t_codes t_lengths t_named t_stack = some u) : q_RW (cE ad) l yX4_worked wsX4_worked (rmq (1)) D cI [.ref (qt 0), .int x1] [(qt 0, .inr (4, oX4 qt t_taped)), (qt 3, .inl (cI, 480, .inl t_codes)), (qt 4, .inl (cI, 8, .inl t_lengths)), (qt 5, .inl (cI, 5, .inl t_named)), (qt 6, .inl (cI, 60, .inl t_stack))] [(qt 0, .inr (4, oX4 qt t_taped)), (qt 3, .inl (cI, 480, .inl t_codes)), (qt 4, .inl (cI, 8, .inl t_lengths)), (qt 5, .inl (cI, 5, .inl t_named)), (qt 6, .inl (cI, 60, .inl u.2))] u.1 := by
  refine q_startW (fun u : Int32 × (Nat → Int32) => [(qt 0, .inr (4, oX4 qt t_taped)), (qt 3, .inl (cI, 480, .inl t_codes)), (qt 4, .inl (cI, 8, .inl t_lengths)), (qt 5, .inl (cI, 5, .inl t_named)), (qt 6, .inl (cI, 60, .inl u.2))]) (fun u => u.1) (cc := cX4_worked) (maxL := 5) (ty := .int) (own := RX4) (by decide) rfl rfl (Nat.le_of_ble_eq_true rfl) rfl (fun p e s m args below meth c Q A hx hb hml hown hts hK hEv hA hret hP hD hS ls hl => ?_)
  have in4 : ∀ w ∈ wsX40, w ∈ wsX4_worked := fun w h => List.mem_cons_of_mem _ (List.mem_append_right _ (h))
  have l15 := hts (.fieldLink RX4 15 "PageWars$Texts" "codes" "[I") (List.mem_of_getElem? (i := 2) rfl)
  have l18 := hts (.fieldLink RX4 18 "PageWars$Texts" "lengths" "[I") (List.mem_of_getElem? (i := 1) rfl)
  have l21 := hts (.fieldLink RX4 21 "PageWars$Texts" "named" "[I") (List.mem_of_getElem? (i := 4) rfl)
  have l24 := hts (.fieldLink RX4 24 "PageWars$Texts" "stack" "[I") (List.mem_of_getElem? (i := 3) rfl)
  have J4 : ∀ (kk4 : Nat) (x1 : Int32) (x2 : Int32) (x3 : Int32) (t_stack : (Nat → Int32)) (H : Heap) (locs : List Loc) (ls : Array Slot), lv_has ls 5 [(0, .ref (qt 0)), (1, .int x1), (2, .int x2), (3, .int x3)] → va_P D vwCl [(qt 0, .inr (4, oX4 qt t_taped)), (qt 3, .inl (cI, 480, .inl t_codes)), (qt 4, .inl (cI, 8, .inl t_lengths)), (qt 5, .inl (cI, 5, .inl t_named)), (qt 6, .inl (cI, 60, .inl t_stack))] H → va_D A [(qt 0, .inr (4, oX4 qt t_taped)), (qt 3, .inl (cI, 480, .inl t_codes)), (qt 4, .inl (cI, 8, .inl t_lengths)), (qt 5, .inl (cI, 5, .inl t_named)), (qt 6, .inl (cI, 60, .inl t_stack))] → va_S A s.heap H locs → f4_worked_4 n t_codes t_lengths t_named kk4 x1 x2 x3 t_stack = some u → W p l e (rmq (1)) s m args below meth c H locs 0 0 Q (F0 m 4 ls []) := by
    intro kk4
    induction kk4 with
    | zero => intro x1 x2 x3 t_stack H locs ls hl hP hD hS h; exact nomatch (show (none : Option (Int32 × (Nat → Int32))) = some u from h)
    | succ kk4 ih4 =>
      have J145 : ∀ (x1 : Int32) (x2 : Int32) (x3 : Int32) (t_stack : (Nat → Int32)) (H : Heap) (locs : List Loc) (ls : Array Slot), lv_has ls 5 [(0, .ref (qt 0)), (1, .int x1), (2, .int x2), (3, .int x3)] → va_P D vwCl [(qt 0, .inr (4, oX4 qt t_taped)), (qt 3, .inl (cI, 480, .inl t_codes)), (qt 4, .inl (cI, 8, .inl t_lengths)), (qt 5, .inl (cI, 5, .inl t_named)), (qt 6, .inl (cI, 60, .inl t_stack))] H → va_D A [(qt 0, .inr (4, oX4 qt t_taped)), (qt 3, .inl (cI, 480, .inl t_codes)), (qt 4, .inl (cI, 8, .inl t_lengths)), (qt 5, .inl (cI, 5, .inl t_named)), (qt 6, .inl (cI, 60, .inl t_stack))] → va_S A s.heap H locs → f4_worked_145 n t_codes t_lengths t_named (f4_worked_4 n t_codes t_lengths t_named kk4) x1 x2 x3 t_stack = some u → W p l e (rmq (1)) s m args below meth c H locs 0 0 Q (F0 m 145 ls []) := by
        intro x1 x2 x3 t_stack H locs ls hl hP hD hS h
        unfold f4_worked_145 at h
        refine q_iinc (fun v => [(3, .int v), (0, .ref (qt 0)), (1, .int x1), (2, .int x2)]) hx hb h dX4_worked_145 (by decide) hl (k := 3) rfl (by decide) (fun _ => rfl) (fun x3_145 ls h hl => ?_)
        refine lv_goto (tgt := 4) hx hb dX4_worked_148 (by decide) ?_
        exact ih4 x1 x2 x3_145 t_stack _ _ _ (lv_sub hl [1, 2, 3, 0] rfl) hP hD hS h
      have J109 : ∀ (x1 : Int32) (x2 : Int32) (x3 : Int32) (x4 : Int32) (t_stack : (Nat → Int32)) (H : Heap) (locs : List Loc) (ls : Array Slot), lv_has ls 5 [(0, .ref (qt 0)), (1, .int x1), (2, .int x2), (3, .int x3), (4, .int x4)] → va_P D vwCl [(qt 0, .inr (4, oX4 qt t_taped)), (qt 3, .inl (cI, 480, .inl t_codes)), (qt 4, .inl (cI, 8, .inl t_lengths)), (qt 5, .inl (cI, 5, .inl t_named)), (qt 6, .inl (cI, 60, .inl t_stack))] H → va_D A [(qt 0, .inr (4, oX4 qt t_taped)), (qt 3, .inl (cI, 480, .inl t_codes)), (qt 4, .inl (cI, 8, .inl t_lengths)), (qt 5, .inl (cI, 5, .inl t_named)), (qt 6, .inl (cI, 60, .inl t_stack))] → va_S A s.heap H locs → f4_worked_109 n t_codes t_lengths t_named (f4_worked_4 n t_codes t_lengths t_named kk4) x1 x2 x3 x4 t_stack = some u → W p l e (rmq (1)) s m args below meth c H locs 0 0 Q (F0 m 109 ls []) := by
        intro x1 x2 x3 x4 t_stack H locs ls hl hP hD hS h
        unfold f4_worked_109 at h
        refine lv_iload_n hx hb dX4_worked_109 rfl (lv_at hl 2 rfl) ?_
        refine lv_iconst (v := (1 : Int32)) hx hb dX4_worked_110 (by decide) ?_
        refine q_cle hx hb 145 h dX4_worked_111 (by decide) (fun h => ?_) (fun h => ?_)
        · exact J145 x1 x2 x3 t_stack _ _ _ (lv_sub hl [0, 1, 2, 3] rfl) hP hD hS h
        · refine q_iinc (fun v => [(2, .int v), (0, .ref (qt 0)), (1, .int x1), (3, .int x3), (4, .int x4)]) hx hb h dX4_worked_114 (by decide) hl (k := 2) rfl (by decide) (fun _ => rfl) (fun x2_114 ls h hl => ?_)
          refine lv_aload_n hx hb dX4_worked_117 rfl (lv_at hl 1 rfl) ?_
          refine va_get (D := D) (ci := 4) (v := .ref (qt 6)) (C := RX4) (T := TX4) (N := 6) hx hb hts in4 hown hK hP 0 rfl rfl 5 (by decide) l24 (fun _ h9 => h9) rfl dX4_worked_118 ?_
          refine lv_iload_n hx hb dX4_worked_121 rfl (lv_at hl 0 rfl) ?_
          refine lv_iconst (v := (1 : Int32)) hx hb dX4_worked_122 (by decide) ?_
          refine lv_isub hx hb dX4_worked_123 ?_
          refine lv_iload hx hb dX4_worked_124 (lv_at hl 4 rfl) ?_
          refine lv_ineg hx hb dX4_worked_126 ?_
          refine lv_aload_n hx hb dX4_worked_127 rfl (lv_at hl 1 rfl) ?_
          refine va_get (D := D) (ci := 4) (v := .ref (qt 6)) (C := RX4) (T := TX4) (N := 6) hx hb hts in4 hown hK hP 0 rfl rfl 5 (by decide) l24 (fun _ h9 => h9) rfl dX4_worked_128 ?_
          refine lv_iload_n hx hb dX4_worked_131 rfl (lv_at hl 0 rfl) ?_
          refine lv_iconst (v := (1 : Int32)) hx hb dX4_worked_132 (by decide) ?_
          refine lv_isub hx hb dX4_worked_133 ?_
          refine q_iald hx hb hK hP 4 0 rfl rfl h dX4_worked_134 (fun t134 h => ?_)
          refine lv_aload_n hx hb dX4_worked_135 rfl (lv_at hl 1 rfl) ?_
          refine va_get (D := D) (ci := 4) (v := .ref (qt 6)) (C := RX4) (T := TX4) (N := 6) hx hb hts in4 hown hK hP 0 rfl rfl 5 (by decide) l24 (fun _ h9 => h9) rfl dX4_worked_136 ?_
          refine lv_iload_n hx hb dX4_worked_139 rfl (lv_at hl 0 rfl) ?_
          refine q_iald hx hb hK hP 4 0 rfl rfl h dX4_worked_140 (fun t140 h => ?_)
          refine q_callRS (cEok ad) (rest := [.int (x2_114 - ((1 : Int32))), .ref (qt 6)]) ⟨hx, hb, hml, hown, hts⟩ (fun r hr => c4_joined l D cI ad (-x4) t134 t140 r hr) (va_cwS 3 hts gX4_worked_X4_joined rfl rfl rfl hdX4_joined (rmq_ok (Nat.le_of_ble_eq_true rfl) (Nat.le_of_ble_eq_true rfl))) hK hP hEv hS [] rfl rfl rfl hl.1 (Nat.le_of_ble_eq_true rfl) ⟨Nat.zero_le _, Nat.zero_le _⟩ h dX4_worked_141 (fun t141 h => ?_)
          refine q_iast hx hb hK hP hD hS 4 0 rfl rfl h dX4_worked_144 (fun t_stack_144 H locs h hP hD hS => ?_)
          have hP : va_P D vwCl [(qt 0, .inr (4, oX4 qt t_taped)), (qt 3, .inl (cI, 480, .inl t_codes)), (qt 4, .inl (cI, 8, .inl t_lengths)), (qt 5, .inl (cI, 5, .inl t_named)), (qt 6, .inl (cI, 60, .inl t_stack_144))] H := hP
          have hD : va_D A [(qt 0, .inr (4, oX4 qt t_taped)), (qt 3, .inl (cI, 480, .inl t_codes)), (qt 4, .inl (cI, 8, .inl t_lengths)), (qt 5, .inl (cI, 5, .inl t_named)), (qt 6, .inl (cI, 60, .inl t_stack_144))] := hD
          exact J145 x1 x2_114 x3 t_stack_144 _ _ _ (lv_sub hl [1, 2, 0, 3] rfl) hP hD hS h
      have J105 : ∀ (x1 : Int32) (x2 : Int32) (x3 : Int32) (s1 : Int32) (s2 : Int32) (t_stack : (Nat → Int32)) (H : Heap) (locs : List Loc) (ls : Array Slot), lv_has ls 5 [(0, .ref (qt 0)), (1, .int x1), (2, .int x2), (3, .int x3)] → va_P D vwCl [(qt 0, .inr (4, oX4 qt t_taped)), (qt 3, .inl (cI, 480, .inl t_codes)), (qt 4, .inl (cI, 8, .inl t_lengths)), (qt 5, .inl (cI, 5, .inl t_named)), (qt 6, .inl (cI, 60, .inl t_stack))] H → va_D A [(qt 0, .inr (4, oX4 qt t_taped)), (qt 3, .inl (cI, 480, .inl t_codes)), (qt 4, .inl (cI, 8, .inl t_lengths)), (qt 5, .inl (cI, 5, .inl t_named)), (qt 6, .inl (cI, 60, .inl t_stack))] → va_S A s.heap H locs → f4_worked_105 n t_codes t_lengths t_named (f4_worked_4 n t_codes t_lengths t_named kk4) x1 x2 x3 s1 s2 t_stack = some u → W p l e (rmq (1)) s m args below meth c H locs 0 0 Q (F0 m 105 ls [.int s2, .int s1, .ref (qt 6)]) := by
        intro x1 x2 x3 s1 s2 t_stack H locs ls hl hP hD hS h
        unfold f4_worked_105 at h
        refine q_iast hx hb hK hP hD hS 4 0 rfl rfl h dX4_worked_105 (fun t_stack_105 H locs h hP hD hS => ?_)
        have hP : va_P D vwCl [(qt 0, .inr (4, oX4 qt t_taped)), (qt 3, .inl (cI, 480, .inl t_codes)), (qt 4, .inl (cI, 8, .inl t_lengths)), (qt 5, .inl (cI, 5, .inl t_named)), (qt 6, .inl (cI, 60, .inl t_stack_105))] H := hP
        have hD : va_D A [(qt 0, .inr (4, oX4 qt t_taped)), (qt 3, .inl (cI, 480, .inl t_codes)), (qt 4, .inl (cI, 8, .inl t_lengths)), (qt 5, .inl (cI, 5, .inl t_named)), (qt 6, .inl (cI, 60, .inl t_stack_105))] := hD
        refine lv_goto (tgt := 145) hx hb dX4_worked_106 (by decide) ?_
        exact J145 x1 x2 x3 t_stack_105 _ _ _ (lv_sub hl [0, 1, 2, 3] rfl) hP hD hS h
      have J71 : ∀ (x1 : Int32) (x2 : Int32) (x3 : Int32) (x4 : Int32) (t_stack : (Nat → Int32)) (H : Heap) (locs : List Loc) (ls : Array Slot), lv_has ls 5 [(0, .ref (qt 0)), (1, .int x1), (2, .int x2), (3, .int x3), (4, .int x4)] → va_P D vwCl [(qt 0, .inr (4, oX4 qt t_taped)), (qt 3, .inl (cI, 480, .inl t_codes)), (qt 4, .inl (cI, 8, .inl t_lengths)), (qt 5, .inl (cI, 5, .inl t_named)), (qt 6, .inl (cI, 60, .inl t_stack))] H → va_D A [(qt 0, .inr (4, oX4 qt t_taped)), (qt 3, .inl (cI, 480, .inl t_codes)), (qt 4, .inl (cI, 8, .inl t_lengths)), (qt 5, .inl (cI, 5, .inl t_named)), (qt 6, .inl (cI, 60, .inl t_stack))] → va_S A s.heap H locs → f4_worked_71 n t_codes t_lengths t_named (f4_worked_4 n t_codes t_lengths t_named kk4) x1 x2 x3 x4 t_stack = some u → W p l e (rmq (1)) s m args below meth c H locs 0 0 Q (F0 m 71 ls []) := by
        intro x1 x2 x3 x4 t_stack H locs ls hl hP hD hS h
        unfold f4_worked_71 at h
        refine lv_iload hx hb dX4_worked_71 (lv_at hl 4 rfl) ?_
        refine lv_bipush (v := (-33 : Int32)) hx hb dX4_worked_73 (by decide) ?_
        refine q_cne hx hb 109 h dX4_worked_75 (by decide) (fun h => ?_) (fun h => ?_)
        · exact J109 x1 x2 x3 x4 t_stack _ _ _ (lv_sub hl [0, 1, 2, 3, 4] rfl) hP hD hS h
        · refine lv_iload_n hx hb dX4_worked_78 rfl (lv_at hl 2 rfl) ?_
          refine q_ifle hx hb 109 h dX4_worked_79 (by decide) (fun h => ?_) (fun h => ?_)
          · exact J109 x1 x2 x3 x4 t_stack _ _ _ (lv_sub hl [0, 1, 2, 3, 4] rfl) hP hD hS h
          · refine lv_aload_n hx hb dX4_worked_82 rfl (lv_at hl 0 rfl) ?_
            refine va_get (D := D) (ci := 4) (v := .ref (qt 6)) (C := RX4) (T := TX4) (N := 6) hx hb hts in4 hown hK hP 0 rfl rfl 5 (by decide) l24 (fun _ h9 => h9) rfl dX4_worked_83 ?_
            refine lv_iload_n hx hb dX4_worked_86 rfl (lv_at hl 2 rfl) ?_
            refine lv_iconst (v := (1 : Int32)) hx hb dX4_worked_87 (by decide) ?_
            refine lv_isub hx hb dX4_worked_88 ?_
            refine lv_aload_n hx hb dX4_worked_89 rfl (lv_at hl 0 rfl) ?_
            refine va_get (D := D) (ci := 4) (v := .ref (qt 6)) (C := RX4) (T := TX4) (N := 6) hx hb hts in4 hown hK hP 0 rfl rfl 5 (by decide) l24 (fun _ h9 => h9) rfl dX4_worked_90 ?_
            refine lv_iload_n hx hb dX4_worked_93 rfl (lv_at hl 2 rfl) ?_
            refine lv_iconst (v := (1 : Int32)) hx hb dX4_worked_94 (by decide) ?_
            refine lv_isub hx hb dX4_worked_95 ?_
            refine q_iald hx hb hK hP 4 0 rfl rfl h dX4_worked_96 (fun t96 h => ?_)
            refine q_ifne hx hb 104 h dX4_worked_97 (by decide) (fun h => ?_) (fun h => ?_)
            · refine lv_iconst (v := (0 : Int32)) hx hb dX4_worked_104 (by decide) ?_
              exact J105 x1 x2 x3 (x2 - ((1 : Int32))) ((0 : Int32)) t_stack _ _ _ (lv_sub hl [0, 1, 2, 3] rfl) hP hD hS h
            · refine lv_iconst (v := (1 : Int32)) hx hb dX4_worked_100 (by decide) ?_
              refine lv_goto (tgt := 105) hx hb dX4_worked_101 (by decide) ?_
              exact J105 x1 x2 x3 (x2 - ((1 : Int32))) ((1 : Int32)) t_stack _ _ _ (lv_sub hl [0, 1, 2, 3] rfl) hP hD hS h
      have J64 : ∀ (x1 : Int32) (x2 : Int32) (x3 : Int32) (s1 : Int32) (s2 : Int32) (t_stack : (Nat → Int32)) (H : Heap) (locs : List Loc) (ls : Array Slot), lv_has ls 5 [(0, .ref (qt 0)), (1, .int x1), (2, .int x2), (3, .int x3)] → va_P D vwCl [(qt 0, .inr (4, oX4 qt t_taped)), (qt 3, .inl (cI, 480, .inl t_codes)), (qt 4, .inl (cI, 8, .inl t_lengths)), (qt 5, .inl (cI, 5, .inl t_named)), (qt 6, .inl (cI, 60, .inl t_stack))] H → va_D A [(qt 0, .inr (4, oX4 qt t_taped)), (qt 3, .inl (cI, 480, .inl t_codes)), (qt 4, .inl (cI, 8, .inl t_lengths)), (qt 5, .inl (cI, 5, .inl t_named)), (qt 6, .inl (cI, 60, .inl t_stack))] → va_S A s.heap H locs → f4_worked_64 n t_codes t_lengths t_named (f4_worked_4 n t_codes t_lengths t_named kk4) x1 x2 x3 s1 s2 t_stack = some u → W p l e (rmq (1)) s m args below meth c H locs 0 0 Q (F0 m 64 ls [.int s2, .int s1, .ref (qt 6)]) := by
        intro x1 x2 x3 s1 s2 t_stack H locs ls hl hP hD hS h
        unfold f4_worked_64 at h
        refine q_iast hx hb hK hP hD hS 4 0 rfl rfl h dX4_worked_64 (fun t_stack_64 H locs h hP hD hS => ?_)
        have hP : va_P D vwCl [(qt 0, .inr (4, oX4 qt t_taped)), (qt 3, .inl (cI, 480, .inl t_codes)), (qt 4, .inl (cI, 8, .inl t_lengths)), (qt 5, .inl (cI, 5, .inl t_named)), (qt 6, .inl (cI, 60, .inl t_stack_64))] H := hP
        have hD : va_D A [(qt 0, .inr (4, oX4 qt t_taped)), (qt 3, .inl (cI, 480, .inl t_codes)), (qt 4, .inl (cI, 8, .inl t_lengths)), (qt 5, .inl (cI, 5, .inl t_named)), (qt 6, .inl (cI, 60, .inl t_stack_64))] := hD
        refine q_iinc (fun v => [(2, .int v), (0, .ref (qt 0)), (1, .int x1), (3, .int x3)]) hx hb h dX4_worked_65 (by decide) hl (k := 2) rfl (by decide) (fun _ => rfl) (fun x2_65 ls h hl => ?_)
        refine lv_goto (tgt := 145) hx hb dX4_worked_68 (by decide) ?_
        exact J145 x1 x2_65 x3 t_stack_64 _ _ _ (lv_sub hl [1, 2, 0, 3] rfl) hP hD hS h
      intro x1 x2 x3 t_stack H locs ls hl hP hD hS h
      rw [f4_worked_4.eq_2] at h
      refine lv_iload_n hx hb dX4_worked_4 rfl (lv_at hl 3 rfl) ?_
      refine lv_aload_n hx hb dX4_worked_5 rfl (lv_at hl 0 rfl) ?_
      refine va_get (D := D) (ci := 4) (v := .ref (qt 4)) (C := RX4) (T := TX4) (N := 6) hx hb hts in4 hown hK hP 0 rfl rfl 3 (by decide) l18 (fun _ h9 => h9) rfl dX4_worked_6 ?_
      refine lv_iload_n hx hb dX4_worked_9 rfl (lv_at hl 1 rfl) ?_
      refine q_iald hx hb hK hP 2 0 rfl rfl h dX4_worked_10 (fun t10 h => ?_)
      refine q_cge hx hb 151 h dX4_worked_11 (by decide) (fun h => ?_) (fun h => ?_)
      · refine lv_aload_n hx hb dX4_worked_151 rfl (lv_at hl 0 rfl) ?_
        refine va_get (D := D) (ci := 4) (v := .ref (qt 6)) (C := RX4) (T := TX4) (N := 6) hx hb hts in4 hown hK hP 0 rfl rfl 5 (by decide) l24 (fun _ h9 => h9) rfl dX4_worked_152 ?_
        refine lv_iconst (v := (0 : Int32)) hx hb dX4_worked_155 (by decide) ?_
        refine q_iald hx hb hK hP 4 0 rfl rfl h dX4_worked_156 (fun t156 h => ?_)
        exact hret (t156, t_stack) _ _ _ _ (vp_nar_int _) h hP hD hS dX4_worked_157
      · refine lv_aload_n hx hb dX4_worked_14 rfl (lv_at hl 0 rfl) ?_
        refine va_get (D := D) (ci := 4) (v := .ref (qt 3)) (C := RX4) (T := TX4) (N := 6) hx hb hts in4 hown hK hP 0 rfl rfl 2 (by decide) l15 (fun _ h9 => h9) rfl dX4_worked_15 ?_
        refine lv_iload_n hx hb dX4_worked_18 rfl (lv_at hl 1 rfl) ?_
        refine lv_bipush (v := (60 : Int32)) hx hb dX4_worked_19 (by decide) ?_
        refine lv_imul hx hb dX4_worked_21 ?_
        refine lv_iload_n hx hb dX4_worked_22 rfl (lv_at hl 3 rfl) ?_
        refine lv_iadd hx hb dX4_worked_23 ?_
        refine q_iald hx hb hK hP 1 0 rfl rfl h dX4_worked_24 (fun t24 h => ?_)
        refine lv_istore (lv' := [(4, .int t24), (0, .ref (qt 0)), (1, .int x1), (2, .int x2), (3, .int x3)]) hx hb dX4_worked_25 hl (by decide) rfl (fun ls hl => ?_)
        refine lv_iload hx hb dX4_worked_27 (lv_at hl 0 rfl) ?_
        refine lv_bipush (v := (-5 : Int32)) hx hb dX4_worked_29 (by decide) ?_
        refine q_clt hx hb 71 h dX4_worked_31 (by decide) (fun h => ?_) (fun h => ?_)
        · exact J71 x1 x2 x3 t24 t_stack _ _ _ (lv_sub hl [1, 2, 3, 4, 0] rfl) hP hD hS h
        · refine lv_iload_n hx hb dX4_worked_34 rfl (lv_at hl 3 rfl) ?_
          refine lv_bipush (v := (60 : Int32)) hx hb dX4_worked_35 (by decide) ?_
          refine q_cge hx hb 71 h dX4_worked_37 (by decide) (fun h => ?_) (fun h => ?_)
          · exact J71 x1 x2 x3 t24 t_stack _ _ _ (lv_sub hl [1, 2, 3, 4, 0] rfl) hP hD hS h
          · refine lv_aload_n hx hb dX4_worked_40 rfl (lv_at hl 1 rfl) ?_
            refine va_get (D := D) (ci := 4) (v := .ref (qt 6)) (C := RX4) (T := TX4) (N := 6) hx hb hts in4 hown hK hP 0 rfl rfl 5 (by decide) l24 (fun _ h9 => h9) rfl dX4_worked_41 ?_
            refine lv_iload_n hx hb dX4_worked_44 rfl (lv_at hl 3 rfl) ?_
            refine lv_iload hx hb dX4_worked_45 (lv_at hl 0 rfl) ?_
            refine q_iflt hx hb 55 h dX4_worked_47 (by decide) (fun h => ?_) (fun h => ?_)
            · refine lv_aload_n hx hb dX4_worked_55 rfl (lv_at hl 1 rfl) ?_
              refine va_get (D := D) (ci := 4) (v := .ref (qt 5)) (C := RX4) (T := TX4) (N := 6) hx hb hts in4 hown hK hP 0 rfl rfl 4 (by decide) l21 (fun _ h9 => h9) rfl dX4_worked_56 ?_
              refine lv_iconst (v := (-1 : Int32)) hx hb dX4_worked_59 (by decide) ?_
              refine lv_iload hx hb dX4_worked_60 (lv_at hl 0 rfl) ?_
              refine lv_isub hx hb dX4_worked_62 ?_
              refine q_iald hx hb hK hP 3 0 rfl rfl h dX4_worked_63 (fun t63 h => ?_)
              exact J64 x1 x2 x3 x2 t63 t_stack _ _ _ (lv_sub hl [1, 2, 3, 4] rfl) hP hD hS h
            · refine lv_iload hx hb dX4_worked_50 (lv_at hl 0 rfl) ?_
              refine lv_goto (tgt := 64) hx hb dX4_worked_52 (by decide) ?_
              exact J64 x1 x2 x3 x2 t24 t_stack _ _ _ (lv_sub hl [1, 2, 3, 4] rfl) hP hD hS h
  unfold f4_worked at h
  refine lv_iconst (v := (0 : Int32)) hx hb dX4_worked_0 (by decide) ?_
  refine lv_istore_n (lv' := [(2, .int ((0 : Int32))), (0, .ref (qt 0)), (1, .int x1)]) hx hb dX4_worked_1 rfl hl (by decide) rfl (fun ls hl => ?_)
  refine lv_iconst (v := (0 : Int32)) hx hb dX4_worked_2 (by decide) ?_
  refine lv_istore_n (lv' := [(3, .int ((0 : Int32))), (2, .int ((0 : Int32))), (0, .ref (qt 0)), (1, .int x1)]) hx hb dX4_worked_3 rfl hl (by decide) rfl (fun ls hl => ?_)
  exact J4 n x1 ((0 : Int32)) ((0 : Int32)) t_stack _ _ _ (lv_sub hl [2, 3, 1, 0] rfl) hP hD hS h
set_option maxHeartbeats 4000000 in
set_option maxRecDepth 100000 in
theorem c1_lets (l : Launch) (D : va_G) (cI : ClassId) (ad : Nat → Nat) (qb qa qt : Nat → Nat) (b_now b_shutTill b_shutBy b_z b_waits a_done t_taped : Int32) (a_kinds a_writers a_minutes a_sizes t_codes t_lengths t_named t_stack : Nat → Int32) (x1 : Int32) (n : Nat) (u : Int32 × (Nat → Int32) × (Nat → Int32)) (h : f1_lets n x1 b_now b_shutTill b_shutBy a_done a_kinds a_writers a_minutes a_sizes t_codes t_lengths t_named t_stack = some u) : q_RW (cE ad) l yX1_lets wsX1_lets (rmq (2)) D cI [.ref (qb 0), .int x1] [(qb 0, .inr (1, oX1 qb b_now b_shutTill b_shutBy b_z b_waits (qa 0) (qt 0))), (qa 0, .inr (0, oX0 qa a_done)), (qt 0, .inr (4, oX4 qt t_taped)), (qa 2, .inl (cI, 60, .inl a_kinds)), (qa 3, .inl (cI, 60, .inl a_writers)), (qa 4, .inl (cI, 60, .inl a_minutes)), (qa 8, .inl (cI, 61, .inl a_sizes)), (qt 3, .inl (cI, 480, .inl t_codes)), (qt 4, .inl (cI, 8, .inl t_lengths)), (qt 5, .inl (cI, 5, .inl t_named)), (qt 6, .inl (cI, 60, .inl t_stack))] [(qb 0, .inr (1, oX1 qb b_now b_shutTill b_shutBy b_z b_waits (qa 0) (qt 0))), (qa 0, .inr (0, oX0 qa a_done)), (qt 0, .inr (4, oX4 qt t_taped)), (qa 2, .inl (cI, 60, .inl a_kinds)), (qa 3, .inl (cI, 60, .inl a_writers)), (qa 4, .inl (cI, 60, .inl a_minutes)), (qa 8, .inl (cI, 61, .inl a_sizes)), (qt 3, .inl (cI, 480, .inl t_codes)), (qt 4, .inl (cI, 8, .inl t_lengths)), (qt 5, .inl (cI, 5, .inl u.2.1)), (qt 6, .inl (cI, 60, .inl u.2.2))] u.1 := by
  refine q_startW (fun u : Int32 × (Nat → Int32) × (Nat → Int32) => [(qb 0, .inr (1, oX1 qb b_now b_shutTill b_shutBy b_z b_waits (qa 0) (qt 0))), (qa 0, .inr (0, oX0 qa a_done)), (qt 0, .inr (4, oX4 qt t_taped)), (qa 2, .inl (cI, 60, .inl a_kinds)), (qa 3, .inl (cI, 60, .inl a_writers)), (qa 4, .inl (cI, 60, .inl a_minutes)), (qa 8, .inl (cI, 61, .inl a_sizes)), (qt 3, .inl (cI, 480, .inl t_codes)), (qt 4, .inl (cI, 8, .inl t_lengths)), (qt 5, .inl (cI, 5, .inl u.2.1)), (qt 6, .inl (cI, 60, .inl u.2.2))]) (fun u => u.1) (cc := cX1_lets) (maxL := 2) (ty := .boolean) (own := RX1) (by decide) rfl rfl (Nat.le_of_ble_eq_true rfl) rfl (fun p e s m args below meth c Q A hx hb hml hown hts hK hEv hA hret hP hD hS ls hl => ?_)
  have in0 : ∀ w ∈ wsX00, w ∈ wsX1_lets := fun w h => List.mem_cons_of_mem _ (List.mem_append_right _ (h))
  have in1 : ∀ w ∈ wsX10, w ∈ wsX1_lets := fun w h => List.mem_cons_of_mem _ (List.mem_append_left _ (List.mem_append_left _ (List.mem_append_right _ (h))))
  have in4 : ∀ w ∈ wsX40, w ∈ wsX1_lets := fun w h => List.mem_cons_of_mem _ (List.mem_append_left _ (List.mem_append_right _ (h)))
  have l25 := hts (.fieldLink RX1 25 "PageWars$Book" "acts" "LPageWars$Acts;") (List.mem_of_getElem? (i := 5) rfl)
  have l32 := hts (.fieldLink RX1 32 "PageWars$Book" "texts" "LPageWars$Texts;") (List.mem_of_getElem? (i := 4) rfl)
  have l36 := hts (.fieldLink RX1 36 "PageWars$Book" "now" "I") (List.mem_of_getElem? (i := 1) rfl)
  have l39 := hts (.fieldLink RX1 39 "PageWars$Book" "shutTill" "I") (List.mem_of_getElem? (i := 2) rfl)
  have l42 := hts (.fieldLink RX1 42 "PageWars$Book" "shutBy" "I") (List.mem_of_getElem? (i := 3) rfl)
  have J93 : ∀ (s0 : Int32) (t_named : (Nat → Int32)) (t_stack : (Nat → Int32)) (H : Heap) (locs : List Loc) (ls : Array Slot), lv_has ls 2 [(0, .ref (qb 0))] → va_P D vwCl [(qb 0, .inr (1, oX1 qb b_now b_shutTill b_shutBy b_z b_waits (qa 0) (qt 0))), (qa 0, .inr (0, oX0 qa a_done)), (qt 0, .inr (4, oX4 qt t_taped)), (qa 2, .inl (cI, 60, .inl a_kinds)), (qa 3, .inl (cI, 60, .inl a_writers)), (qa 4, .inl (cI, 60, .inl a_minutes)), (qa 8, .inl (cI, 61, .inl a_sizes)), (qt 3, .inl (cI, 480, .inl t_codes)), (qt 4, .inl (cI, 8, .inl t_lengths)), (qt 5, .inl (cI, 5, .inl t_named)), (qt 6, .inl (cI, 60, .inl t_stack))] H → va_D A [(qb 0, .inr (1, oX1 qb b_now b_shutTill b_shutBy b_z b_waits (qa 0) (qt 0))), (qa 0, .inr (0, oX0 qa a_done)), (qt 0, .inr (4, oX4 qt t_taped)), (qa 2, .inl (cI, 60, .inl a_kinds)), (qa 3, .inl (cI, 60, .inl a_writers)), (qa 4, .inl (cI, 60, .inl a_minutes)), (qa 8, .inl (cI, 61, .inl a_sizes)), (qt 3, .inl (cI, 480, .inl t_codes)), (qt 4, .inl (cI, 8, .inl t_lengths)), (qt 5, .inl (cI, 5, .inl t_named)), (qt 6, .inl (cI, 60, .inl t_stack))] → va_S A s.heap H locs → f1_lets_93 n b_now b_shutTill b_shutBy a_done a_kinds a_writers a_minutes a_sizes t_codes t_lengths s0 t_named t_stack = some u → W p l e (rmq (2)) s m args below meth c H locs 0 0 Q (F0 m 93 ls [.int s0]) := by
    intro s0 t_named t_stack H locs ls hl hP hD hS h
    unfold f1_lets_93 at h
    obtain ⟨hz, h⟩ := q_bz_of h
    exact hret (s0, t_named, t_stack) _ _ _ _ (q_nz hz) h hP hD hS dX1_lets_93
  have J21 : ∀ (x1 : Int32) (t_named : (Nat → Int32)) (t_stack : (Nat → Int32)) (H : Heap) (locs : List Loc) (ls : Array Slot), lv_has ls 2 [(0, .ref (qb 0)), (1, .int x1)] → va_P D vwCl [(qb 0, .inr (1, oX1 qb b_now b_shutTill b_shutBy b_z b_waits (qa 0) (qt 0))), (qa 0, .inr (0, oX0 qa a_done)), (qt 0, .inr (4, oX4 qt t_taped)), (qa 2, .inl (cI, 60, .inl a_kinds)), (qa 3, .inl (cI, 60, .inl a_writers)), (qa 4, .inl (cI, 60, .inl a_minutes)), (qa 8, .inl (cI, 61, .inl a_sizes)), (qt 3, .inl (cI, 480, .inl t_codes)), (qt 4, .inl (cI, 8, .inl t_lengths)), (qt 5, .inl (cI, 5, .inl t_named)), (qt 6, .inl (cI, 60, .inl t_stack))] H → va_D A [(qb 0, .inr (1, oX1 qb b_now b_shutTill b_shutBy b_z b_waits (qa 0) (qt 0))), (qa 0, .inr (0, oX0 qa a_done)), (qt 0, .inr (4, oX4 qt t_taped)), (qa 2, .inl (cI, 60, .inl a_kinds)), (qa 3, .inl (cI, 60, .inl a_writers)), (qa 4, .inl (cI, 60, .inl a_minutes)), (qa 8, .inl (cI, 61, .inl a_sizes)), (qt 3, .inl (cI, 480, .inl t_codes)), (qt 4, .inl (cI, 8, .inl t_lengths)), (qt 5, .inl (cI, 5, .inl t_named)), (qt 6, .inl (cI, 60, .inl t_stack))] → va_S A s.heap H locs → f1_lets_21 n b_now b_shutTill b_shutBy a_done a_kinds a_writers a_minutes a_sizes t_codes t_lengths x1 t_named t_stack = some u → W p l e (rmq (2)) s m args below meth c H locs 0 0 Q (F0 m 21 ls []) := by
    intro x1 t_named t_stack H locs ls hl hP hD hS h
    unfold f1_lets_21 at h
    refine lv_aload_n hx hb dX1_lets_21 rfl (lv_at hl 0 rfl) ?_
    refine va_get (D := D) (ci := 1) (v := .ref (qt 0)) (C := RX1) (T := TX1) (N := 9) hx hb hts in1 hown hK hP 0 rfl rfl 8 (by decide) l32 (fun _ h9 => h9) rfl dX1_lets_22 ?_
    refine lv_iconst (v := (0 : Int32)) hx hb dX1_lets_25 (by decide) ?_
    refine q_callR (cEok ad) (rest := []) ⟨hx, hb, hml, hown, hts⟩ (fun r hr => c4_has l D cI ad qt t_taped t_lengths ((0 : Int32)) r hr) (cwV 1 hts gX1_lets_X4_has rfl rfl rfl hdX4_has (rmq_ok (Nat.le_of_ble_eq_true rfl) (Nat.le_of_ble_eq_true rfl))) hK hP hEv hS [2, 8] rfl (va_recv hK hP (ci := 4) (q0 := 2) rfl rfl) rfl rfl hl.1 (Nat.le_of_ble_eq_true rfl) ⟨Nat.zero_le _, Nat.zero_le _⟩ h dX1_lets_26 (fun t26 h => ?_)
    refine q_ifne hx hb 34 h dX1_lets_29 (by decide) (fun h => ?_) (fun h => ?_)
    · refine lv_aload_n hx hb dX1_lets_34 rfl (lv_at hl 0 rfl) ?_
      refine va_get (D := D) (ci := 1) (v := .ref (qt 0)) (C := RX1) (T := TX1) (N := 9) hx hb hts in1 hown hK hP 0 rfl rfl 8 (by decide) l32 (fun _ h9 => h9) rfl dX1_lets_35 ?_
      refine lv_aload_n hx hb dX1_lets_38 rfl (lv_at hl 0 rfl) ?_
      refine va_get (D := D) (ci := 1) (v := .ref (qa 0)) (C := RX1) (T := TX1) (N := 9) hx hb hts in1 hown hK hP 0 rfl rfl 7 (by decide) l25 (fun _ h9 => h9) rfl dX1_lets_39 ?_
      refine lv_iload_n hx hb dX1_lets_42 rfl (lv_at hl 1 rfl) ?_
      refine lv_aload_n hx hb dX1_lets_43 rfl (lv_at hl 0 rfl) ?_
      refine va_get (D := D) (ci := 1) (v := .int b_now) (C := RX1) (T := TX1) (N := 9) hx hb hts in1 hown hK hP 0 rfl rfl 0 (by decide) l36 (fun _ h9 => h9) rfl dX1_lets_44 ?_
      refine q_callR (cEok ad) (rest := [.ref (qt 0)]) ⟨hx, hb, hml, hown, hts⟩ (fun r hr => c0_backsBy l D cI ad qa a_done a_kinds a_writers a_minutes x1 b_now n r hr) (cwV 2 hts gX1_lets_X0_backsBy rfl rfl rfl hdX0_backsBy (rmq_ok (Nat.le_of_ble_eq_true rfl) (Nat.le_of_ble_eq_true rfl))) hK hP hEv hS [1, 3, 4, 5] rfl (va_recv hK hP (ci := 0) (q0 := 1) rfl rfl) rfl rfl hl.1 (Nat.le_of_ble_eq_true rfl) ⟨Nat.zero_le _, Nat.zero_le _⟩ h dX1_lets_47 (fun t47 h => ?_)
      refine lv_iload_n hx hb dX1_lets_50 rfl (lv_at hl 1 rfl) ?_
      refine lv_aload_n hx hb dX1_lets_51 rfl (lv_at hl 0 rfl) ?_
      refine va_get (D := D) (ci := 1) (v := .int b_now) (C := RX1) (T := TX1) (N := 9) hx hb hts in1 hown hK hP 0 rfl rfl 0 (by decide) l36 (fun _ h9 => h9) rfl dX1_lets_52 ?_
      refine lv_sipush (v := (1440 : Int32)) hx hb dX1_lets_55 (by decide) ?_
      refine q_irem hx hb h dX1_lets_58 (fun h => ?_)
      refine lv_aload_n hx hb dX1_lets_59 rfl (lv_at hl 0 rfl) ?_
      refine va_get (D := D) (ci := 1) (v := .ref (qa 0)) (C := RX1) (T := TX1) (N := 9) hx hb hts in1 hown hK hP 0 rfl rfl 7 (by decide) l25 (fun _ h9 => h9) rfl dX1_lets_60 ?_
      refine q_callR (cEok ad) (rest := [.int (b_now - b_now / ((1440 : Int32)) * ((1440 : Int32))), .int x1, .int t47, .ref (qt 0)]) ⟨hx, hb, hml, hown, hts⟩ (fun r hr => c0_pageSize l D cI ad qa a_done a_sizes r hr) (cwV 0 hts gX1_lets_X0_pageSize rfl rfl rfl hdX0_pageSize (rmq_ok (Nat.le_of_ble_eq_true rfl) (Nat.le_of_ble_eq_true rfl))) hK hP hEv hS [1, 6] rfl (va_recv hK hP (ci := 0) (q0 := 1) rfl rfl) rfl rfl hl.1 (Nat.le_of_ble_eq_true rfl) ⟨Nat.zero_le _, Nat.zero_le _⟩ h dX1_lets_63 (fun t63 h => ?_)
      refine lv_aload_n hx hb dX1_lets_66 rfl (lv_at hl 0 rfl) ?_
      refine va_get (D := D) (ci := 1) (v := .ref (qa 0)) (C := RX1) (T := TX1) (N := 9) hx hb hts in1 hown hK hP 0 rfl rfl 7 (by decide) l25 (fun _ h9 => h9) rfl dX1_lets_67 ?_
      refine lv_iload_n hx hb dX1_lets_70 rfl (lv_at hl 1 rfl) ?_
      refine q_callR (cEok ad) (rest := [.int t63, .int (b_now - b_now / ((1440 : Int32)) * ((1440 : Int32))), .int x1, .int t47, .ref (qt 0)]) ⟨hx, hb, hml, hown, hts⟩ (fun r hr => c0_doneBy l D cI ad qa a_done a_writers x1 n r hr) (cwV 1 hts gX1_lets_X0_doneBy rfl rfl rfl hdX0_doneBy (rmq_ok (Nat.le_of_ble_eq_true rfl) (Nat.le_of_ble_eq_true rfl))) hK hP hEv hS [1, 4] rfl (va_recv hK hP (ci := 0) (q0 := 1) rfl rfl) rfl rfl hl.1 (Nat.le_of_ble_eq_true rfl) ⟨Nat.zero_le _, Nat.zero_le _⟩ h dX1_lets_71 (fun t71 h => ?_)
      refine q_callV1 (cEok ad) (rest := []) (fun u => [(qt 0, .inr (4, oX4 qt t_taped)), (qt 5, .inl (cI, 5, .inl u))]) ⟨hx, hb, hml, hown, hts⟩ (fun u hu => c4_names l D cI ad qt t_taped t_named t47 x1 (b_now - b_now / ((1440 : Int32)) * ((1440 : Int32))) t63 t71 u hu) (cwV 5 hts gX1_lets_X4_names rfl rfl rfl hdX4_names (rmq_ok (Nat.le_of_ble_eq_true rfl) (Nat.le_of_ble_eq_true rfl))) hK hEv hA hP hD hS [2, 9] (by decide) rfl (fun _ => rfl) (va_recv hK hP (ci := 4) (q0 := 2) rfl rfl) rfl rfl hl.1 (Nat.le_of_ble_eq_true rfl) ⟨Nat.zero_le _, Nat.zero_le _⟩ h dX1_lets_74 (fun t_named_74 H locs h hP hD hS => ?_)
      have hP : va_P D vwCl [(qb 0, .inr (1, oX1 qb b_now b_shutTill b_shutBy b_z b_waits (qa 0) (qt 0))), (qa 0, .inr (0, oX0 qa a_done)), (qt 0, .inr (4, oX4 qt t_taped)), (qa 2, .inl (cI, 60, .inl a_kinds)), (qa 3, .inl (cI, 60, .inl a_writers)), (qa 4, .inl (cI, 60, .inl a_minutes)), (qa 8, .inl (cI, 61, .inl a_sizes)), (qt 3, .inl (cI, 480, .inl t_codes)), (qt 4, .inl (cI, 8, .inl t_lengths)), (qt 5, .inl (cI, 5, .inl t_named_74)), (qt 6, .inl (cI, 60, .inl t_stack))] H := hP
      have hD : va_D A [(qb 0, .inr (1, oX1 qb b_now b_shutTill b_shutBy b_z b_waits (qa 0) (qt 0))), (qa 0, .inr (0, oX0 qa a_done)), (qt 0, .inr (4, oX4 qt t_taped)), (qa 2, .inl (cI, 60, .inl a_kinds)), (qa 3, .inl (cI, 60, .inl a_writers)), (qa 4, .inl (cI, 60, .inl a_minutes)), (qa 8, .inl (cI, 61, .inl a_sizes)), (qt 3, .inl (cI, 480, .inl t_codes)), (qt 4, .inl (cI, 8, .inl t_lengths)), (qt 5, .inl (cI, 5, .inl t_named_74)), (qt 6, .inl (cI, 60, .inl t_stack))] := hD
      refine lv_aload_n hx hb dX1_lets_77 rfl (lv_at hl 0 rfl) ?_
      refine va_get (D := D) (ci := 1) (v := .ref (qt 0)) (C := RX1) (T := TX1) (N := 9) hx hb hts in1 hown hK hP 0 rfl rfl 8 (by decide) l32 (fun _ h9 => h9) rfl dX1_lets_78 ?_
      refine lv_iconst (v := (0 : Int32)) hx hb dX1_lets_81 (by decide) ?_
      refine q_callW2 (cEok ad) (rest := []) (fun u => [(qt 0, .inr (4, oX4 qt t_taped)), (qt 3, .inl (cI, 480, .inl t_codes)), (qt 4, .inl (cI, 8, .inl t_lengths)), (qt 5, .inl (cI, 5, .inl t_named_74)), (qt 6, .inl (cI, 60, .inl u.2))]) (fun u => u.1) ⟨hx, hb, hml, hown, hts⟩ (fun u hu => c4_worked l D cI ad qt t_taped t_codes t_lengths t_named_74 t_stack ((0 : Int32)) n u hu) (cwV 1 hts gX1_lets_X4_worked rfl rfl rfl hdX4_worked (rmq_ok (Nat.le_of_ble_eq_true rfl) (Nat.le_of_ble_eq_true rfl))) hK hEv hA hP hD hS [2, 7, 8, 9, 10] (by decide) rfl (fun _ => rfl) (va_recv hK hP (ci := 4) (q0 := 2) rfl rfl) rfl rfl hl.1 (Nat.le_of_ble_eq_true rfl) ⟨Nat.zero_le _, Nat.zero_le _⟩ h dX1_lets_82 (fun t82 t_stack_82 H locs h hP hD hS => ?_)
      have hP : va_P D vwCl [(qb 0, .inr (1, oX1 qb b_now b_shutTill b_shutBy b_z b_waits (qa 0) (qt 0))), (qa 0, .inr (0, oX0 qa a_done)), (qt 0, .inr (4, oX4 qt t_taped)), (qa 2, .inl (cI, 60, .inl a_kinds)), (qa 3, .inl (cI, 60, .inl a_writers)), (qa 4, .inl (cI, 60, .inl a_minutes)), (qa 8, .inl (cI, 61, .inl a_sizes)), (qt 3, .inl (cI, 480, .inl t_codes)), (qt 4, .inl (cI, 8, .inl t_lengths)), (qt 5, .inl (cI, 5, .inl t_named_74)), (qt 6, .inl (cI, 60, .inl t_stack_82))] H := hP
      have hD : va_D A [(qb 0, .inr (1, oX1 qb b_now b_shutTill b_shutBy b_z b_waits (qa 0) (qt 0))), (qa 0, .inr (0, oX0 qa a_done)), (qt 0, .inr (4, oX4 qt t_taped)), (qa 2, .inl (cI, 60, .inl a_kinds)), (qa 3, .inl (cI, 60, .inl a_writers)), (qa 4, .inl (cI, 60, .inl a_minutes)), (qa 8, .inl (cI, 61, .inl a_sizes)), (qt 3, .inl (cI, 480, .inl t_codes)), (qt 4, .inl (cI, 8, .inl t_lengths)), (qt 5, .inl (cI, 5, .inl t_named_74)), (qt 6, .inl (cI, 60, .inl t_stack_82))] := hD
      refine q_ifeq hx hb 92 h dX1_lets_85 (by decide) (fun h => ?_) (fun h => ?_)
      · refine lv_iconst (v := (0 : Int32)) hx hb dX1_lets_92 (by decide) ?_
        exact J93 ((0 : Int32)) t_named_74 t_stack_82 _ _ _ (lv_sub hl [0] rfl) hP hD hS h
      · refine lv_iconst (v := (1 : Int32)) hx hb dX1_lets_88 (by decide) ?_
        refine lv_goto (tgt := 93) hx hb dX1_lets_89 (by decide) ?_
        exact J93 ((1 : Int32)) t_named_74 t_stack_82 _ _ _ (lv_sub hl [0] rfl) hP hD hS h
    · refine lv_iconst (v := (1 : Int32)) hx hb dX1_lets_32 (by decide) ?_
      obtain ⟨hz, h⟩ := q_bz_of h
      exact hret ((1 : Int32), t_named, t_stack) _ _ _ _ (q_nz hz) h hP hD hS dX1_lets_33
  unfold f1_lets at h
  refine lv_aload_n hx hb dX1_lets_0 rfl (lv_at hl 0 rfl) ?_
  refine va_get (D := D) (ci := 1) (v := .int b_now) (C := RX1) (T := TX1) (N := 9) hx hb hts in1 hown hK hP 0 rfl rfl 0 (by decide) l36 (fun _ h9 => h9) rfl dX1_lets_1 ?_
  refine lv_aload_n hx hb dX1_lets_4 rfl (lv_at hl 0 rfl) ?_
  refine va_get (D := D) (ci := 1) (v := .int b_shutTill) (C := RX1) (T := TX1) (N := 9) hx hb hts in1 hown hK hP 0 rfl rfl 1 (by decide) l39 (fun _ h9 => h9) rfl dX1_lets_5 ?_
  refine q_cge hx hb 21 h dX1_lets_8 (by decide) (fun h => ?_) (fun h => ?_)
  · exact J21 x1 t_named t_stack _ _ _ (lv_sub hl [0, 1] rfl) hP hD hS h
  · refine lv_iload_n hx hb dX1_lets_11 rfl (lv_at hl 1 rfl) ?_
    refine lv_aload_n hx hb dX1_lets_12 rfl (lv_at hl 0 rfl) ?_
    refine va_get (D := D) (ci := 1) (v := .int b_shutBy) (C := RX1) (T := TX1) (N := 9) hx hb hts in1 hown hK hP 0 rfl rfl 2 (by decide) l42 (fun _ h9 => h9) rfl dX1_lets_13 ?_
    refine q_ceq hx hb 21 h dX1_lets_16 (by decide) (fun h => ?_) (fun h => ?_)
    · exact J21 x1 t_named t_stack _ _ _ (lv_sub hl [0, 1] rfl) hP hD hS h
    · refine lv_iconst (v := (0 : Int32)) hx hb dX1_lets_19 (by decide) ?_
      obtain ⟨hz, h⟩ := q_bz_of h
      exact hret ((0 : Int32), t_named, t_stack) _ _ _ _ (q_nz hz) h hP hD hS dX1_lets_20
set_option maxHeartbeats 4000000 in
set_option maxRecDepth 100000 in
theorem c0_hasRoom (l : Launch) (D : va_G) (cI : ClassId) (ad : Nat → Nat) (qa : Nat → Nat) (a_done : Int32) (u : Int32) (h : f0_hasRoom a_done = some u) : q_RO (cE ad) l yX0_hasRoom wsX0_hasRoom (rmq (0)) D cI [.ref (qa 0)] [(qa 0, .inr (0, oX0 qa a_done))] u := by
  refine q_startR (cc := cX0_hasRoom) (maxL := 1) (ty := .boolean) (own := RX0) (by decide) rfl rfl (Nat.le_of_ble_eq_true rfl) rfl (fun p e s m args below meth c Q hx hb hml hown hts hP hK hEv hret ls hl => ?_)
  have in0 : ∀ w ∈ wsX00, w ∈ wsX0_hasRoom := fun w h => List.mem_cons_of_mem _ (List.mem_append_right _ (h))
  have l39 := hts (.fieldLink RX0 39 "PageWars$Acts" "done" "I") (List.mem_of_getElem? (i := 1) rfl)
  have J14 : ∀ (s0 : Int32) (ls : Array Slot), lv_has ls 1 [(0, .ref (qa 0))] → f0_hasRoom_14 a_done s0 = some u → W p l e (rmq (0)) s m args below meth c s.heap [] 0 0 Q (F0 m 14 ls [.int s0]) := by
    intro s0  ls hl h
    unfold f0_hasRoom_14 at h
    obtain ⟨hz, h⟩ := q_bz_of h
    exact hret _ _ _ (q_nz hz) h dX0_hasRoom_14
  unfold f0_hasRoom at h
  refine lv_aload_n hx hb dX0_hasRoom_0 rfl (lv_at hl 0 rfl) ?_
  refine va_get (D := D) (ci := 0) (v := .int a_done) (C := RX0) (T := TX0) (N := 10) hx hb hts in0 hown hK hP 0 rfl rfl 0 (by decide) l39 (fun _ h9 => h9) rfl dX0_hasRoom_1 ?_
  refine lv_bipush (v := (60 : Int32)) hx hb dX0_hasRoom_4 (by decide) ?_
  refine q_cge hx hb 13 h dX0_hasRoom_6 (by decide) (fun h => ?_) (fun h => ?_)
  · refine lv_iconst (v := (0 : Int32)) hx hb dX0_hasRoom_13 (by decide) ?_
    exact J14 ((0 : Int32)) _ (lv_sub hl [0] rfl) h
  · refine lv_iconst (v := (1 : Int32)) hx hb dX0_hasRoom_9 (by decide) ?_
    refine lv_goto (tgt := 14) hx hb dX0_hasRoom_10 (by decide) ?_
    exact J14 ((1 : Int32)) _ (lv_sub hl [0] rfl) h
set_option maxHeartbeats 4000000 in
set_option maxRecDepth 100000 in
theorem c1_refusesActing (l : Launch) (D : va_G) (cI : ClassId) (ad : Nat → Nat) (qb qa qt : Nat → Nat) (b_now b_shutTill b_shutBy b_z b_waits a_done t_taped : Int32) (a_kinds a_writers a_minutes a_sizes t_codes t_lengths t_named t_stack : Nat → Int32) (x1 : Int32) (n : Nat) (u : Int32 × (Nat → Int32) × (Nat → Int32)) (h : f1_refusesActing n x1 b_now b_shutTill b_shutBy a_done a_kinds a_writers a_minutes a_sizes t_codes t_lengths t_named t_stack = some u) : q_RW (cE ad) l yX1_refusesActing wsX1_refusesActing (rmq (3)) D cI [.ref (qb 0), .int x1] [(qb 0, .inr (1, oX1 qb b_now b_shutTill b_shutBy b_z b_waits (qa 0) (qt 0))), (qa 0, .inr (0, oX0 qa a_done)), (qt 0, .inr (4, oX4 qt t_taped)), (qa 2, .inl (cI, 60, .inl a_kinds)), (qa 3, .inl (cI, 60, .inl a_writers)), (qa 4, .inl (cI, 60, .inl a_minutes)), (qa 8, .inl (cI, 61, .inl a_sizes)), (qt 3, .inl (cI, 480, .inl t_codes)), (qt 4, .inl (cI, 8, .inl t_lengths)), (qt 5, .inl (cI, 5, .inl t_named)), (qt 6, .inl (cI, 60, .inl t_stack))] [(qb 0, .inr (1, oX1 qb b_now b_shutTill b_shutBy b_z b_waits (qa 0) (qt 0))), (qa 0, .inr (0, oX0 qa a_done)), (qt 0, .inr (4, oX4 qt t_taped)), (qa 2, .inl (cI, 60, .inl a_kinds)), (qa 3, .inl (cI, 60, .inl a_writers)), (qa 4, .inl (cI, 60, .inl a_minutes)), (qa 8, .inl (cI, 61, .inl a_sizes)), (qt 3, .inl (cI, 480, .inl t_codes)), (qt 4, .inl (cI, 8, .inl t_lengths)), (qt 5, .inl (cI, 5, .inl u.2.1)), (qt 6, .inl (cI, 60, .inl u.2.2))] u.1 := by
  refine q_startW (fun u : Int32 × (Nat → Int32) × (Nat → Int32) => [(qb 0, .inr (1, oX1 qb b_now b_shutTill b_shutBy b_z b_waits (qa 0) (qt 0))), (qa 0, .inr (0, oX0 qa a_done)), (qt 0, .inr (4, oX4 qt t_taped)), (qa 2, .inl (cI, 60, .inl a_kinds)), (qa 3, .inl (cI, 60, .inl a_writers)), (qa 4, .inl (cI, 60, .inl a_minutes)), (qa 8, .inl (cI, 61, .inl a_sizes)), (qt 3, .inl (cI, 480, .inl t_codes)), (qt 4, .inl (cI, 8, .inl t_lengths)), (qt 5, .inl (cI, 5, .inl u.2.1)), (qt 6, .inl (cI, 60, .inl u.2.2))]) (fun u => u.1) (cc := cX1_refusesActing) (maxL := 2) (ty := .int) (own := RX1) (by decide) rfl rfl (Nat.le_of_ble_eq_true rfl) rfl (fun p e s m args below meth c Q A hx hb hml hown hts hK hEv hA hret hP hD hS ls hl => ?_)
  have in0 : ∀ w ∈ wsX00, w ∈ wsX1_refusesActing := fun w h => List.mem_cons_of_mem _ (List.mem_append_right _ (h))
  have in1 : ∀ w ∈ wsX10, w ∈ wsX1_refusesActing := fun w h => List.mem_cons_of_mem _ (List.mem_append_left _ (List.mem_append_left _ (List.mem_append_right _ (h))))
  have in4 : ∀ w ∈ wsX40, w ∈ wsX1_refusesActing := fun w h => List.mem_cons_of_mem _ (List.mem_append_left _ (List.mem_append_right _ (h)))
  have l25 := hts (.fieldLink RX1 25 "PageWars$Book" "acts" "LPageWars$Acts;") (List.mem_of_getElem? (i := 1) rfl)
  have J25 : ∀ (s0 : Int32) (t_named : (Nat → Int32)) (t_stack : (Nat → Int32)) (H : Heap) (locs : List Loc) (ls : Array Slot), lv_has ls 2 [(0, .ref (qb 0))] → va_P D vwCl [(qb 0, .inr (1, oX1 qb b_now b_shutTill b_shutBy b_z b_waits (qa 0) (qt 0))), (qa 0, .inr (0, oX0 qa a_done)), (qt 0, .inr (4, oX4 qt t_taped)), (qa 2, .inl (cI, 60, .inl a_kinds)), (qa 3, .inl (cI, 60, .inl a_writers)), (qa 4, .inl (cI, 60, .inl a_minutes)), (qa 8, .inl (cI, 61, .inl a_sizes)), (qt 3, .inl (cI, 480, .inl t_codes)), (qt 4, .inl (cI, 8, .inl t_lengths)), (qt 5, .inl (cI, 5, .inl t_named)), (qt 6, .inl (cI, 60, .inl t_stack))] H → va_D A [(qb 0, .inr (1, oX1 qb b_now b_shutTill b_shutBy b_z b_waits (qa 0) (qt 0))), (qa 0, .inr (0, oX0 qa a_done)), (qt 0, .inr (4, oX4 qt t_taped)), (qa 2, .inl (cI, 60, .inl a_kinds)), (qa 3, .inl (cI, 60, .inl a_writers)), (qa 4, .inl (cI, 60, .inl a_minutes)), (qa 8, .inl (cI, 61, .inl a_sizes)), (qt 3, .inl (cI, 480, .inl t_codes)), (qt 4, .inl (cI, 8, .inl t_lengths)), (qt 5, .inl (cI, 5, .inl t_named)), (qt 6, .inl (cI, 60, .inl t_stack))] → va_S A s.heap H locs → f1_refusesActing_25 n b_now b_shutTill b_shutBy a_done a_kinds a_writers a_minutes a_sizes t_codes t_lengths s0 t_named t_stack = some u → W p l e (rmq (3)) s m args below meth c H locs 0 0 Q (F0 m 25 ls [.int s0]) := by
    intro s0 t_named t_stack H locs ls hl hP hD hS h
    unfold f1_refusesActing_25 at h
    exact hret (s0, t_named, t_stack) _ _ _ _ (vp_nar_int _) h hP hD hS dX1_refusesActing_25
  unfold f1_refusesActing at h
  refine lv_aload_n hx hb dX1_refusesActing_0 rfl (lv_at hl 0 rfl) ?_
  refine lv_iload_n hx hb dX1_refusesActing_1 rfl (lv_at hl 1 rfl) ?_
  refine q_callW3 (cEok ad) (rest := []) (fun u => [(qb 0, .inr (1, oX1 qb b_now b_shutTill b_shutBy b_z b_waits (qa 0) (qt 0))), (qa 0, .inr (0, oX0 qa a_done)), (qt 0, .inr (4, oX4 qt t_taped)), (qa 2, .inl (cI, 60, .inl a_kinds)), (qa 3, .inl (cI, 60, .inl a_writers)), (qa 4, .inl (cI, 60, .inl a_minutes)), (qa 8, .inl (cI, 61, .inl a_sizes)), (qt 3, .inl (cI, 480, .inl t_codes)), (qt 4, .inl (cI, 8, .inl t_lengths)), (qt 5, .inl (cI, 5, .inl u.2.1)), (qt 6, .inl (cI, 60, .inl u.2.2))]) (fun u => u.1) ⟨hx, hb, hml, hown, hts⟩ (fun u hu => c1_lets l D cI ad qb qa qt b_now b_shutTill b_shutBy b_z b_waits a_done t_taped a_kinds a_writers a_minutes a_sizes t_codes t_lengths t_named t_stack x1 n u hu) (cwV 1 hts gX1_refusesActing_X1_lets rfl rfl rfl hdX1_lets (rmq_ok (Nat.le_of_ble_eq_true rfl) (Nat.le_of_ble_eq_true rfl))) hK hEv hA hP hD hS [0, 1, 2, 3, 4, 5, 6, 7, 8, 9, 10] (by decide) rfl (fun _ => rfl) (va_recv hK hP (ci := 1) (q0 := 0) rfl rfl) rfl rfl hl.1 (Nat.le_of_ble_eq_true rfl) ⟨Nat.zero_le _, Nat.zero_le _⟩ h dX1_refusesActing_2 (fun t2 t_named_2 t_stack_2 H locs h hP hD hS => ?_)
  have hP : va_P D vwCl [(qb 0, .inr (1, oX1 qb b_now b_shutTill b_shutBy b_z b_waits (qa 0) (qt 0))), (qa 0, .inr (0, oX0 qa a_done)), (qt 0, .inr (4, oX4 qt t_taped)), (qa 2, .inl (cI, 60, .inl a_kinds)), (qa 3, .inl (cI, 60, .inl a_writers)), (qa 4, .inl (cI, 60, .inl a_minutes)), (qa 8, .inl (cI, 61, .inl a_sizes)), (qt 3, .inl (cI, 480, .inl t_codes)), (qt 4, .inl (cI, 8, .inl t_lengths)), (qt 5, .inl (cI, 5, .inl t_named_2)), (qt 6, .inl (cI, 60, .inl t_stack_2))] H := hP
  have hD : va_D A [(qb 0, .inr (1, oX1 qb b_now b_shutTill b_shutBy b_z b_waits (qa 0) (qt 0))), (qa 0, .inr (0, oX0 qa a_done)), (qt 0, .inr (4, oX4 qt t_taped)), (qa 2, .inl (cI, 60, .inl a_kinds)), (qa 3, .inl (cI, 60, .inl a_writers)), (qa 4, .inl (cI, 60, .inl a_minutes)), (qa 8, .inl (cI, 61, .inl a_sizes)), (qt 3, .inl (cI, 480, .inl t_codes)), (qt 4, .inl (cI, 8, .inl t_lengths)), (qt 5, .inl (cI, 5, .inl t_named_2)), (qt 6, .inl (cI, 60, .inl t_stack_2))] := hD
  refine q_ifne hx hb 10 h dX1_refusesActing_5 (by decide) (fun h => ?_) (fun h => ?_)
  · refine lv_aload_n hx hb dX1_refusesActing_10 rfl (lv_at hl 0 rfl) ?_
    refine va_get (D := D) (ci := 1) (v := .ref (qa 0)) (C := RX1) (T := TX1) (N := 9) hx hb hts in1 hown hK hP 0 rfl rfl 7 (by decide) l25 (fun _ h9 => h9) rfl dX1_refusesActing_11 ?_
    refine q_callR (cEok ad) (rest := []) ⟨hx, hb, hml, hown, hts⟩ (fun r hr => c0_hasRoom l D cI ad qa a_done r hr) (cwV 0 hts gX1_refusesActing_X0_hasRoom rfl rfl rfl hdX0_hasRoom (rmq_ok (Nat.le_of_ble_eq_true rfl) (Nat.le_of_ble_eq_true rfl))) hK hP hEv hS [1] rfl (va_recv hK hP (ci := 0) (q0 := 1) rfl rfl) rfl rfl hl.1 (Nat.le_of_ble_eq_true rfl) ⟨Nat.zero_le _, Nat.zero_le _⟩ h dX1_refusesActing_14 (fun t14 h => ?_)
    refine q_ifeq hx hb 24 h dX1_refusesActing_17 (by decide) (fun h => ?_) (fun h => ?_)
    · refine lv_iconst (v := (4 : Int32)) hx hb dX1_refusesActing_24 (by decide) ?_
      exact J25 ((4 : Int32)) t_named_2 t_stack_2 _ _ _ (lv_sub hl [0] rfl) hP hD hS h
    · refine lv_iconst (v := (0 : Int32)) hx hb dX1_refusesActing_20 (by decide) ?_
      refine lv_goto (tgt := 25) hx hb dX1_refusesActing_21 (by decide) ?_
      exact J25 ((0 : Int32)) t_named_2 t_stack_2 _ _ _ (lv_sub hl [0] rfl) hP hD hS h
  · refine lv_iconst (v := (3 : Int32)) hx hb dX1_refusesActing_8 (by decide) ?_
    exact hret ((3 : Int32), t_named_2, t_stack_2) _ _ _ _ (vp_nar_int _) h hP hD hS dX1_refusesActing_9
