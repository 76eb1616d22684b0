set_option maxHeartbeats 4000000 in
set_option maxRecDepth 100000 in
theorem c4_keeps (l : Launch) (D : va_G) (cI : ClassId) (ad : Nat → Nat) (qt : Nat → Nat) (qkc : Nat) (t_taped : Int32) (t_codes t_lengths kc : Nat → Int32) (x1 : Int32) (x3 : Int32) (u : (Nat → Int32) × (Nat → Int32)) (h : f4_keeps x1 x3 t_codes t_lengths kc = some u) : q_RV (cE ad) l yX4_keeps wsX4_keeps (rmq (1)) D cI [.ref (qt 0), .int x1, .ref (qkc), .int x3] [(qt 0, .inr (4, oX4 qt t_taped)), (qt 3, .inl (cI, 480, .inl t_codes)), (qt 4, .inl (cI, 8, .inl t_lengths)), (qkc, .inl (cI, 60, .inl kc))] [(qt 0, .inr (4, oX4 qt t_taped)), (qt 3, .inl (cI, 480, .inl u.1)), (qt 4, .inl (cI, 8, .inl u.2)), (qkc, .inl (cI, 60, .inl kc))] := by
  refine q_startV (fun u : (Nat → Int32) × (Nat → Int32) => [(qt 0, .inr (4, oX4 qt t_taped)), (qt 3, .inl (cI, 480, .inl u.1)), (qt 4, .inl (cI, 8, .inl u.2)), (qkc, .inl (cI, 60, .inl kc))]) (cc := cX4_keeps) (maxL := 4) (own := RX4) (by decide) rfl rfl (Nat.le_of_ble_eq_true rfl) rfl (fun p e s m args below meth c Q A hx hb hml hown hts hK hEv hA hret hP hD hS ls hl => ?_)
  have in4 : ∀ w ∈ wsX40, w ∈ wsX4_keeps := fun w h => List.mem_cons_of_mem _ (List.mem_append_right _ (h))
  have l15 := hts (.fieldLink RX4 15 "PageWars$Texts" "codes" "[I") (List.mem_of_getElem? (i := 1) rfl)
  have l18 := hts (.fieldLink RX4 18 "PageWars$Texts" "lengths" "[I") (List.mem_of_getElem? (i := 6) rfl)
  unfold f4_keeps at h
  refine lv_aload_n hx hb dX4_keeps_0 rfl (lv_at hl 2 rfl) ?_
  refine lv_iconst (v := (0 : Int32)) hx hb dX4_keeps_1 (by decide) ?_
  refine lv_aload_n hx hb dX4_keeps_2 rfl (lv_at hl 0 rfl) ?_
  refine va_get (D := D) (ci := 4) (v := .ref (qt 3)) (C := RX4) (T := TX4) (N := 6) hx hb hts in4 hown hK hP 0 rfl rfl 2 (by decide) l15 (fun _ h9 => h9) rfl dX4_keeps_3 ?_
  refine lv_iload_n hx hb dX4_keeps_6 rfl (lv_at hl 1 rfl) ?_
  refine lv_bipush (v := (60 : Int32)) hx hb dX4_keeps_7 (by decide) ?_
  refine lv_imul hx hb dX4_keeps_9 ?_
  refine lv_iload_n hx hb dX4_keeps_10 rfl (lv_at hl 3 rfl) ?_
  refine q_copy hx hb (hml.trans hl.1.symm) hown (hts (.methodLink RX4 31 arraycopyName) (List.mem_of_getElem? (i := 2) rfl)) (hts (.native arraycopyName) (List.mem_of_getElem? (i := 3) rfl)) (hts (.static arraycopyName) (List.mem_of_getElem? (i := 4) rfl)) (hts (.initialized "java/lang/System") (List.mem_of_getElem? (i := 5) rfl)) hK hP hD hS 3 1 rfl rfl (Nat.le_of_ble_eq_true rfl) (by decide +kernel) h dX4_keeps_11 (fun t_codes_11 H locs h hP hD hS => ?_)
  have hP : va_P D vwCl [(qt 0, .inr (4, oX4 qt t_taped)), (qt 3, .inl (cI, 480, .inl t_codes_11)), (qt 4, .inl (cI, 8, .inl t_lengths)), (qkc, .inl (cI, 60, .inl kc))] H := hP
  have hD : va_D A [(qt 0, .inr (4, oX4 qt t_taped)), (qt 3, .inl (cI, 480, .inl t_codes_11)), (qt 4, .inl (cI, 8, .inl t_lengths)), (qkc, .inl (cI, 60, .inl kc))] := hD
  refine lv_aload_n hx hb dX4_keeps_14 rfl (lv_at hl 0 rfl) ?_
  refine va_get (D := D) (ci := 4) (v := .ref (qt 4)) (C := RX4) (T := TX4) (N := 6) hx hb hts in4 hown hK hP 0 rfl rfl 3 (by decide) l18 (fun _ h9 => h9) rfl dX4_keeps_15 ?_
  refine lv_iload_n hx hb dX4_keeps_18 rfl (lv_at hl 1 rfl) ?_
  refine lv_iload_n hx hb dX4_keeps_19 rfl (lv_at hl 3 rfl) ?_
  refine q_iast hx hb hK hP hD hS 2 0 rfl rfl h dX4_keeps_20 (fun t_lengths_20 H locs h hP hD hS => ?_)
  have hP : va_P D vwCl [(qt 0, .inr (4, oX4 qt t_taped)), (qt 3, .inl (cI, 480, .inl t_codes_11)), (qt 4, .inl (cI, 8, .inl t_lengths_20)), (qkc, .inl (cI, 60, .inl kc))] H := hP
  have hD : va_D A [(qt 0, .inr (4, oX4 qt t_taped)), (qt 3, .inl (cI, 480, .inl t_codes_11)), (qt 4, .inl (cI, 8, .inl t_lengths_20)), (qkc, .inl (cI, 60, .inl kc))] := hD
  exact hret (t_codes_11, t_lengths_20) _ _ _ _ h hP hD hS dX4_keeps_21
set_option maxHeartbeats 4000000 in
set_option maxRecDepth 100000 in
theorem c4_drops (l : Launch) (D : va_G) (cI : ClassId) (ad : Nat → Nat) (qt : Nat → Nat) (t_taped : Int32) (t_lengths : Nat → Int32) (x1 : Int32) (u : Int32 × (Nat → Int32)) (h : f4_drops x1 t_lengths = some u) : q_RW (cE ad) l yX4_drops wsX4_drops (rmq (1)) D cI [.ref (qt 0), .int x1] [(qt 0, .inr (4, oX4 qt t_taped)), (qt 4, .inl (cI, 8, .inl t_lengths))] [(qt 0, .inr (4, oX4 qt t_taped)), (qt 4, .inl (cI, 8, .inl u.2))] u.1 := by
  refine q_startW (fun u : Int32 × (Nat → Int32) => [(qt 0, .inr (4, oX4 qt t_taped)), (qt 4, .inl (cI, 8, .inl u.2))]) (fun u => u.1) (cc := cX4_drops) (maxL := 3) (ty := .boolean) (own := RX4) (by decide) rfl rfl (Nat.le_of_ble_eq_true rfl) rfl (fun p e s m args below meth c Q A hx hb hml hown hts hK hEv hA hret hP hD hS ls hl => ?_)
  have in4 : ∀ w ∈ wsX40, w ∈ wsX4_drops := fun w h => List.mem_cons_of_mem _ (List.mem_append_right _ (h))
  have l18 := hts (.fieldLink RX4 18 "PageWars$Texts" "lengths" "[I") (List.mem_of_getElem? (i := 1) rfl)
  unfold f4_drops at h
  refine lv_aload_n hx hb dX4_drops_0 rfl (lv_at hl 0 rfl) ?_
  refine lv_iload_n hx hb dX4_drops_1 rfl (lv_at hl 1 rfl) ?_
  refine q_callR (cEok ad) (rest := []) ⟨hx, hb, hml, hown, hts⟩ (fun r hr => c4_has l D cI ad qt t_taped t_lengths x1 r hr) (cwV 1 hts gX4_drops_X4_has rfl rfl rfl hdX4_has (rmq_ok (Nat.le_of_ble_eq_true rfl) (Nat.le_of_ble_eq_true rfl))) hK hP hEv hS [0, 1] rfl (va_recv hK hP (ci := 4) (q0 := 0) rfl rfl) rfl rfl hl.1 (Nat.le_of_ble_eq_true rfl) ⟨Nat.zero_le _, Nat.zero_le _⟩ h dX4_drops_2 (fun t2 h => ?_)
  refine lv_istore_n (lv' := [(2, .int t2), (0, .ref (qt 0)), (1, .int x1)]) hx hb dX4_drops_5 rfl hl (by decide) rfl (fun ls hl => ?_)
  refine lv_aload_n hx hb dX4_drops_6 rfl (lv_at hl 1 rfl) ?_
  refine va_get (D := D) (ci := 4) (v := .ref (qt 4)) (C := RX4) (T := TX4) (N := 6) hx hb hts in4 hown hK hP 0 rfl rfl 3 (by decide) l18 (fun _ h9 => h9) rfl dX4_drops_7 ?_
  refine lv_iload_n hx hb dX4_drops_10 rfl (lv_at hl 2 rfl) ?_
  refine lv_iconst (v := (0 : Int32)) hx hb dX4_drops_11 (by decide) ?_
  refine q_iast hx hb hK hP hD hS 1 0 rfl rfl h dX4_drops_12 (fun t_lengths_12 H locs h hP hD hS => ?_)
  have hP : va_P D vwCl [(qt 0, .inr (4, oX4 qt t_taped)), (qt 4, .inl (cI, 8, .inl t_lengths_12))] H := hP
  have hD : va_D A [(qt 0, .inr (4, oX4 qt t_taped)), (qt 4, .inl (cI, 8, .inl t_lengths_12))] := hD
  refine lv_iload_n hx hb dX4_drops_13 rfl (lv_at hl 0 rfl) ?_
  obtain ⟨hz, h⟩ := q_bz_of h
  exact hret (t2, t_lengths_12) _ _ _ _ (q_nz hz) h hP hD hS dX4_drops_14
set_option maxHeartbeats 4000000 in
set_option maxRecDepth 100000 in
theorem c6_untell (l : Launch) (D : va_G) (cI : ClassId) (ad : Nat → Nat) (qp qb qa qt qr qv qh : Nat → Nat) (p_kept : Value) (p_timesKept b_now b_shutTill b_shutBy b_z b_waits t_taped : Int32) (p_errors t_lengths : Nat → Int32) (x1 : Int32) (u : Int32 × (Nat → Int32) × (Nat → Int32)) (h : f6_untell x1 p_errors t_lengths = some u) : q_RW (cE ad) l yX6_untell wsX6_untell (rmq (2)) D cI [.ref (qp 0), .int x1] [(qp 0, .inr (6, oX6 qp (qb 0) (qr 0) (qv 0) (qh 0) p_kept p_timesKept)), (qb 0, .inr (1, oX1 qb b_now b_shutTill b_shutBy b_z b_waits (qa 0) (qt 0))), (qt 0, .inr (4, oX4 qt t_taped)), (qp 5, .inl (cI, 7, .inl p_errors)), (qt 4, .inl (cI, 8, .inl t_lengths))] [(qp 0, .inr (6, oX6 qp (qb 0) (qr 0) (qv 0) (qh 0) p_kept p_timesKept)), (qb 0, .inr (1, oX1 qb b_now b_shutTill b_shutBy b_z b_waits (qa 0) (qt 0))), (qt 0, .inr (4, oX4 qt t_taped)), (qp 5, .inl (cI, 7, .inl u.2.1)), (qt 4, .inl (cI, 8, .inl u.2.2))] u.1 := by
  refine q_startW (fun u : Int32 × (Nat → Int32) × (Nat → Int32) => [(qp 0, .inr (6, oX6 qp (qb 0) (qr 0) (qv 0) (qh 0) p_kept p_timesKept)), (qb 0, .inr (1, oX1 qb b_now b_shutTill b_shutBy b_z b_waits (qa 0) (qt 0))), (qt 0, .inr (4, oX4 qt t_taped)), (qp 5, .inl (cI, 7, .inl u.2.1)), (qt 4, .inl (cI, 8, .inl u.2.2))]) (fun u => u.1) (cc := cX6_untell) (maxL := 2) (ty := .int) (own := RX6) (by decide) rfl rfl (Nat.le_of_ble_eq_true rfl) rfl (fun p e s m args below meth c Q A hx hb hml hown hts hK hEv hA hret hP hD hS ls hl => ?_)
  have in1 : ∀ w ∈ wsX10, w ∈ wsX6_untell := fun w h => List.mem_cons_of_mem _ (List.mem_append_left _ (List.mem_append_right _ (h)))
  have in4 : ∀ w ∈ wsX40, w ∈ wsX6_untell := fun w h => List.mem_cons_of_mem _ (List.mem_append_right _ (h))
  have in6 : ∀ w ∈ wsX60, w ∈ wsX6_untell := fun w h => List.mem_cons_of_mem _ (List.mem_append_left _ (List.mem_append_left _ (List.mem_append_right _ (h))))
  have l10 := hts (.fieldLink RX6 10 "PageWars" "book" "LPageWars$Book;") (List.mem_of_getElem? (i := 1) rfl)
  have l133 : (Cond.fieldLinkNest RX6 133 "PageWars$Book" "texts" "LPageWars$Texts;" "PageWars").before args s = true := cE_f6_133 hEv
  have J32 : ∀ (s0 : Int32) (p_errors : (Nat → Int32)) (t_lengths : (Nat → Int32)) (H : Heap) (locs : List Loc) (ls : Array Slot), lv_has ls 2 [(0, .ref (qp 0))] → va_P D vwCl [(qp 0, .inr (6, oX6 qp (qb 0) (qr 0) (qv 0) (qh 0) p_kept p_timesKept)), (qb 0, .inr (1, oX1 qb b_now b_shutTill b_shutBy b_z b_waits (qa 0) (qt 0))), (qt 0, .inr (4, oX4 qt t_taped)), (qp 5, .inl (cI, 7, .inl p_errors)), (qt 4, .inl (cI, 8, .inl t_lengths))] H → va_D A [(qp 0, .inr (6, oX6 qp (qb 0) (qr 0) (qv 0) (qh 0) p_kept p_timesKept)), (qb 0, .inr (1, oX1 qb b_now b_shutTill b_shutBy b_z b_waits (qa 0) (qt 0))), (qt 0, .inr (4, oX4 qt t_taped)), (qp 5, .inl (cI, 7, .inl p_errors)), (qt 4, .inl (cI, 8, .inl t_lengths))] → va_S A s.heap H locs → f6_untell_32  s0 p_errors t_lengths = some u → W p l e (rmq (2)) s m args below meth c H locs 0 0 Q (F0 m 32 ls [.int s0]) := by
    intro s0 p_errors t_lengths H locs ls hl hP hD hS h
    unfold f6_untell_32 at h
    exact hret (s0, p_errors, t_lengths) _ _ _ _ (vp_nar_int _) h hP hD hS dX6_untell_32
  unfold f6_untell at h
  refine lv_iload_n hx hb dX6_untell_0 rfl (lv_at hl 1 rfl) ?_
  refine q_callRS (cEok ad) (rest := []) ⟨hx, hb, hml, hown, hts⟩ (fun r hr => c6_isUse l D cI ad x1 r hr) (va_cwS 1 hts gX6_untell_X6_isUse rfl rfl rfl hdX6_isUse (rmq_ok (Nat.le_of_ble_eq_true rfl) (Nat.le_of_ble_eq_true rfl))) hK hP hEv hS [] rfl rfl rfl hl.1 (Nat.le_of_ble_eq_true rfl) ⟨Nat.zero_le _, Nat.zero_le _⟩ h dX6_untell_1 (fun t1 h => ?_)
  refine q_ifne hx hb 13 h dX6_untell_4 (by decide) (fun h => ?_) (fun h => ?_)
  · refine lv_aload_n hx hb dX6_untell_13 rfl (lv_at hl 0 rfl) ?_
    refine va_get (D := D) (ci := 6) (v := .ref (qb 0)) (C := RX6) (T := TX6) (N := 7) hx hb hts in6 hown hK hP 0 rfl rfl 0 (by decide) l10 (fun _ h9 => h9) rfl dX6_untell_14 ?_
    refine va_getN (D := D) (ci := 1) (v := .ref (qt 0)) (C := RX1) (T := TX1) (N := 9) hx hb hts in1 hown hK hP 1 rfl rfl 8 (by decide) l133 (fun _ h9 => h9) rfl dX6_untell_17 ?_
    refine lv_iload_n hx hb dX6_untell_20 rfl (lv_at hl 1 rfl) ?_
    refine q_callW2 (cEok ad) (rest := []) (fun u => [(qt 0, .inr (4, oX4 qt t_taped)), (qt 4, .inl (cI, 8, .inl u.2))]) (fun u => u.1) ⟨hx, hb, hml, hown, hts⟩ (fun u hu => c4_drops l D cI ad qt t_taped t_lengths x1 u hu) (cwV 1 hts gX6_untell_X4_drops rfl rfl rfl hdX4_drops (rmq_ok (Nat.le_of_ble_eq_true rfl) (Nat.le_of_ble_eq_true rfl))) hK hEv hA hP hD hS [2, 4] (by decide) rfl (fun _ => rfl) (va_recv hK hP (ci := 4) (q0 := 2) rfl rfl) rfl rfl hl.1 (Nat.le_of_ble_eq_true rfl) ⟨Nat.zero_le _, Nat.zero_le _⟩ h dX6_untell_21 (fun t21 t_lengths_21 H locs h hP hD hS => ?_)
    have hP : va_P D vwCl [(qp 0, .inr (6, oX6 qp (qb 0) (qr 0) (qv 0) (qh 0) p_kept p_timesKept)), (qb 0, .inr (1, oX1 qb b_now b_shutTill b_shutBy b_z b_waits (qa 0) (qt 0))), (qt 0, .inr (4, oX4 qt t_taped)), (qp 5, .inl (cI, 7, .inl p_errors)), (qt 4, .inl (cI, 8, .inl t_lengths_21))] H := hP
    have hD : va_D A [(qp 0, .inr (6, oX6 qp (qb 0) (qr 0) (qv 0) (qh 0) p_kept p_timesKept)), (qb 0, .inr (1, oX1 qb b_now b_shutTill b_shutBy b_z b_waits (qa 0) (qt 0))), (qt 0, .inr (4, oX4 qt t_taped)), (qp 5, .inl (cI, 7, .inl p_errors)), (qt 4, .inl (cI, 8, .inl t_lengths_21))] := hD
    refine q_ifeq hx hb 31 h dX6_untell_24 (by decide) (fun h => ?_) (fun h => ?_)
    · refine lv_iconst (v := (0 : Int32)) hx hb dX6_untell_31 (by decide) ?_
      exact J32 ((0 : Int32)) p_errors t_lengths_21 _ _ _ (lv_sub hl [0] rfl) hP hD hS h
    · refine lv_iconst (v := (1 : Int32)) hx hb dX6_untell_27 (by decide) ?_
      refine lv_goto (tgt := 32) hx hb dX6_untell_28 (by decide) ?_
      exact J32 ((1 : Int32)) p_errors t_lengths_21 _ _ _ (lv_sub hl [0] rfl) hP hD hS h
  · refine lv_aload_n hx hb dX6_untell_7 rfl (lv_at hl 0 rfl) ?_
    refine lv_iconst (v := (1 : Int32)) hx hb dX6_untell_8 (by decide) ?_
    refine q_callW2 (cEok ad) (rest := []) (fun u => [(qp 0, .inr (6, oX6 qp (qb 0) (qr 0) (qv 0) (qh 0) p_kept p_timesKept)), (qp 5, .inl (cI, 7, .inl u.2))]) (fun u => u.1) ⟨hx, hb, hml, hown, hts⟩ (fun u hu => c6_error l D cI ad qp qb qr qv qh p_kept p_timesKept p_errors ((1 : Int32)) u hu) (cwV 1 hts gX6_untell_X6_error rfl rfl rfl hdX6_error (rmq_ok (Nat.le_of_ble_eq_true rfl) (Nat.le_of_ble_eq_true rfl))) hK hEv hA hP hD hS [0, 3] (by decide) rfl (fun _ => rfl) (va_recv hK hP (ci := 6) (q0 := 0) rfl rfl) rfl rfl hl.1 (Nat.le_of_ble_eq_true rfl) ⟨Nat.zero_le _, Nat.zero_le _⟩ h dX6_untell_9 (fun t9 p_errors_9 H locs h hP hD hS => ?_)
    have hP : va_P D vwCl [(qp 0, .inr (6, oX6 qp (qb 0) (qr 0) (qv 0) (qh 0) p_kept p_timesKept)), (qb 0, .inr (1, oX1 qb b_now b_shutTill b_shutBy b_z b_waits (qa 0) (qt 0))), (qt 0, .inr (4, oX4 qt t_taped)), (qp 5, .inl (cI, 7, .inl p_errors_9)), (qt 4, .inl (cI, 8, .inl t_lengths))] H := hP
    have hD : va_D A [(qp 0, .inr (6, oX6 qp (qb 0) (qr 0) (qv 0) (qh 0) p_kept p_timesKept)), (qb 0, .inr (1, oX1 qb b_now b_shutTill b_shutBy b_z b_waits (qa 0) (qt 0))), (qt 0, .inr (4, oX4 qt t_taped)), (qp 5, .inl (cI, 7, .inl p_errors_9)), (qt 4, .inl (cI, 8, .inl t_lengths))] := hD
    exact hret (t9, p_errors_9, t_lengths) _ _ _ _ (vp_nar_int _) h hP hD hS dX6_untell_12
set_option maxHeartbeats 4000000 in
set_option maxRecDepth 100000 in
theorem c1_draws (l : Launch) (D : va_G) (cI : ClassId) (ad : Nat → Nat) (qb qa qt : Nat → Nat) (b_now b_shutTill b_shutBy b_z b_waits : Int32) (u : Int32 × Int32) (h : f1_draws b_z = some u) : q_RW (cE ad) l yX1_draws wsX1_draws (rmq (0)) D cI [.ref (qb 0)] [(qb 0, .inr (1, oX1 qb b_now b_shutTill b_shutBy b_z b_waits (qa 0) (qt 0)))] [(qb 0, .inr (1, oX1 qb b_now b_shutTill b_shutBy u.2 b_waits (qa 0) (qt 0)))] u.1 := by
  refine q_startW (fun u : Int32 × Int32 => [(qb 0, .inr (1, oX1 qb b_now b_shutTill b_shutBy u.2 b_waits (qa 0) (qt 0)))]) (fun u => u.1) (cc := cX1_draws) (maxL := 1) (ty := .int) (own := RX1) (by decide) rfl rfl (Nat.le_of_ble_eq_true rfl) rfl (fun p e s m args below meth c Q A hx hb hml hown hts hK hEv hA hret hP hD hS ls hl => ?_)
  have in1 : ∀ w ∈ wsX10, w ∈ wsX1_draws := fun w h => List.mem_cons_of_mem _ (List.mem_append_right _ (h))
  have l9 := hts (.fieldLink RX1 9 "PageWars$Book" "z" "I") (List.mem_of_getElem? (i := 1) rfl)
  unfold f1_draws at h
  refine lv_aload_n hx hb dX1_draws_0 rfl (lv_at hl 0 rfl) ?_
  refine lv_aload_n hx hb dX1_draws_1 rfl (lv_at hl 0 rfl) ?_
  refine va_get (D := D) (ci := 1) (v := .int b_z) (C := RX1) (T := TX1) (N := 9) hx hb hts in1 hown hK hP 0 rfl rfl 3 (by decide) l9 (fun _ h9 => h9) rfl dX1_draws_2 ?_
  refine lv_ldc (v := (1103515245 : Int32)) hx hb hown (hts (.constant RX1 154 (1103515245)) (List.mem_of_getElem? (i := 2) rfl)) dX1_draws_5 ?_
  refine lv_imul hx hb dX1_draws_7 ?_
  refine lv_sipush (v := (12345 : Int32)) hx hb dX1_draws_8 (by decide) ?_
  refine lv_iadd hx hb dX1_draws_11 ?_
  refine q_let h (fun b_z_12 h => ?_)
  refine va_put (D := D) (ci := 1) (v := .int b_z_12) (ty := .int) (C := RX1) (T := TX1) (N := 9) hx hb hts in1 tyX1 tyX1_ok nmX1 hown hK hP hD hS 0 rfl rfl 3 (by decide) l9 (fun _ h9 => h9) rfl (by decide +kernel) rfl rfl (Nat.le_of_ble_eq_true rfl) dX1_draws_12 (fun H locs hP hD hS => ?_)
  have hP : va_P D vwCl [(qb 0, .inr (1, oX1 qb b_now b_shutTill b_shutBy b_z_12 b_waits (qa 0) (qt 0)))] H := hP
  have hD : va_D A [(qb 0, .inr (1, oX1 qb b_now b_shutTill b_shutBy b_z_12 b_waits (qa 0) (qt 0)))] := hD
  refine lv_aload_n hx hb dX1_draws_15 rfl (lv_at hl 0 rfl) ?_
  refine va_get (D := D) (ci := 1) (v := .int b_z_12) (C := RX1) (T := TX1) (N := 9) hx hb hts in1 hown hK hP 0 rfl rfl 3 (by decide) l9 (fun _ h9 => h9) rfl dX1_draws_16 ?_
  refine lv_bipush (v := (8 : Int32)) hx hb dX1_draws_19 (by decide) ?_
  refine lv_iushr hx hb dX1_draws_21 rfl ?_
  exact hret ((b_z_12.toUInt32 >>> (((8 : Int32)).toUInt32 &&& Int32.toUInt32 31)).toInt32, b_z_12) _ _ _ _ (vp_nar_int _) h hP hD hS dX1_draws_22
set_option maxHeartbeats 4000000 in
set_option maxRecDepth 100000 in
theorem c0_wordsBy (l : Launch) (D : va_G) (cI : ClassId) (ad : Nat → Nat) (qa : Nat → Nat) (a_done : Int32) (a_writers a_sizes a_cells : Nat → Int32) (x1 : Int32) (x2 : Int32) (n : Nat) (u : Int32) (h : f0_wordsBy n x1 x2 a_writers a_sizes a_cells = some u) : q_RO (cE ad) l yX0_wordsBy wsX0_wordsBy (rmq (1)) D cI [.ref (qa 0), .int x1, .int x2] [(qa 0, .inr (0, oX0 qa a_done)), (qa 3, .inl (cI, 60, .inl a_writers)), (qa 8, .inl (cI, 61, .inl a_sizes)), (qa 9, .inl (cI, 1220, .inl a_cells))] u := by
  refine q_startR (cc := cX0_wordsBy) (maxL := 5) (ty := .int) (own := RX0) (by decide) rfl rfl (Nat.le_of_ble_eq_true rfl) rfl (fun p e s m args below meth c Q hx hb hml hown hts hP hK hEv hret ls hl => ?_)
  have in0 : ∀ w ∈ wsX00, w ∈ wsX0_wordsBy := fun w h => List.mem_cons_of_mem _ (List.mem_append_right _ (h))
  have l15 := hts (.fieldLink RX0 15 "PageWars$Acts" "writers" "[I") (List.mem_of_getElem? (i := 2) rfl)
  have l30 := hts (.fieldLink RX0 30 "PageWars$Acts" "sizes" "[I") (List.mem_of_getElem? (i := 1) rfl)
  have J5 : ∀ (kk5 : Nat) (x1 : Int32) (x2 : Int32) (x3 : Int32) (x4 : Int32) (ls : Array Slot), lv_has ls 5 [(0, .ref (qa 0)), (1, .int x1), (2, .int x2), (3, .int x3), (4, .int x4)] → f0_wordsBy_5 n a_writers a_sizes a_cells kk5 x1 x2 x3 x4 = some u → W p l e (rmq (1)) s m args below meth c s.heap [] 0 0 Q (F0 m 5 ls []) := by
    intro kk5
    induction kk5 with
    | zero => intro x1 x2 x3 x4  ls hl h; exact nomatch (show (none : Option (Int32)) = some u from h)
    | succ kk5 ih5 =>
      have J35 : ∀ (x1 : Int32) (x2 : Int32) (x3 : Int32) (x4 : Int32) (ls : Array Slot), lv_has ls 5 [(0, .ref (qa 0)), (1, .int x1), (2, .int x2), (3, .int x3), (4, .int x4)] → f0_wordsBy_35 n a_writers a_sizes a_cells (f0_wordsBy_5 n a_writers a_sizes a_cells kk5) x1 x2 x3 x4 = some u → W p l e (rmq (1)) s m args below meth c s.heap [] 0 0 Q (F0 m 35 ls []) := by
        intro x1 x2 x3 x4  ls hl h
        unfold f0_wordsBy_35 at h
        refine q_iinc (fun v => [(4, .int v), (0, .ref (qa 0)), (1, .int x1), (2, .int x2), (3, .int x3)]) hx hb h dX0_wordsBy_35 (by decide) hl (k := 4) rfl (by decide) (fun _ => rfl) (fun x4_35 ls h hl => ?_)
        refine lv_goto (tgt := 5) hx hb dX0_wordsBy_38 (by decide) ?_
        exact ih5 x1 x2 x3 x4_35 _ (lv_sub hl [1, 2, 3, 4, 0] rfl) h
      intro x1 x2 x3 x4  ls hl h
      rw [f0_wordsBy_5.eq_2] at h
      refine lv_iload hx hb dX0_wordsBy_5 (lv_at hl 4 rfl) ?_
      refine lv_aload_n hx hb dX0_wordsBy_7 rfl (lv_at hl 0 rfl) ?_
      refine va_get (D := D) (ci := 0) (v := .ref (qa 8)) (C := RX0) (T := TX0) (N := 10) hx hb hts in0 hown hK hP 0 rfl rfl 7 (by decide) l30 (fun _ h9 => h9) rfl dX0_wordsBy_8 ?_
      refine lv_iload_n hx hb dX0_wordsBy_11 rfl (lv_at hl 2 rfl) ?_
      refine q_iald hx hb hK hP 2 0 rfl rfl h dX0_wordsBy_12 (fun t12 h => ?_)
      refine q_cge hx hb 41 h dX0_wordsBy_13 (by decide) (fun h => ?_) (fun h => ?_)
      · refine lv_iload_n hx hb dX0_wordsBy_41 rfl (lv_at hl 3 rfl) ?_
        exact hret _ _ _ (vp_nar_int _) h dX0_wordsBy_42
      · refine lv_aload_n hx hb dX0_wordsBy_16 rfl (lv_at hl 0 rfl) ?_
        refine va_get (D := D) (ci := 0) (v := .ref (qa 3)) (C := RX0) (T := TX0) (N := 10) hx hb hts in0 hown hK hP 0 rfl rfl 2 (by decide) l15 (fun _ h9 => h9) rfl dX0_wordsBy_17 ?_
        refine lv_aload_n hx hb dX0_wordsBy_20 rfl (lv_at hl 0 rfl) ?_
        refine lv_iload_n hx hb dX0_wordsBy_21 rfl (lv_at hl 2 rfl) ?_
        refine lv_iload hx hb dX0_wordsBy_22 (lv_at hl 4 rfl) ?_
        refine q_callR (cEok ad) (rest := [.ref (qa 3)]) ⟨hx, hb, hml, hown, hts⟩ (fun r hr => c0_originAt l D cI ad qa a_done a_cells x2 x4 r hr) (cwV 2 hts gX0_wordsBy_X0_originAt rfl rfl rfl hdX0_originAt (rmq_ok (Nat.le_of_ble_eq_true rfl) (Nat.le_of_ble_eq_true rfl))) hK hP hEv va_S.rf [0, 3] rfl (va_recv hK hP (ci := 0) (q0 := 0) rfl rfl) rfl rfl hl.1 (Nat.le_of_ble_eq_true rfl) ⟨Nat.zero_le _, Nat.zero_le _⟩ h dX0_wordsBy_24 (fun t24 h => ?_)
        refine q_iald hx hb hK hP 1 0 rfl rfl h dX0_wordsBy_27 (fun t27 h => ?_)
        refine lv_iload_n hx hb dX0_wordsBy_28 rfl (lv_at hl 1 rfl) ?_
        refine q_cne hx hb 35 h dX0_wordsBy_29 (by decide) (fun h => ?_) (fun h => ?_)
        · exact J35 x1 x2 x3 x4 _ (lv_sub hl [0, 1, 2, 3, 4] rfl) h
        · refine q_iinc (fun v => [(3, .int v), (0, .ref (qa 0)), (1, .int x1), (2, .int x2), (4, .int x4)]) hx hb h dX0_wordsBy_32 (by decide) hl (k := 3) rfl (by decide) (fun _ => rfl) (fun x3_32 ls h hl => ?_)
          exact J35 x1 x2 x3_32 x4 _ (lv_sub hl [1, 2, 3, 0, 4] rfl) h
  unfold f0_wordsBy at h
  refine lv_iconst (v := (0 : Int32)) hx hb dX0_wordsBy_0 (by decide) ?_
  refine lv_istore_n (lv' := [(3, .int ((0 : Int32))), (0, .ref (qa 0)), (1, .int x1), (2, .int x2)]) hx hb dX0_wordsBy_1 rfl hl (by decide) rfl (fun ls hl => ?_)
  refine lv_iconst (v := (0 : Int32)) hx hb dX0_wordsBy_2 (by decide) ?_
  refine lv_istore (lv' := [(4, .int ((0 : Int32))), (3, .int ((0 : Int32))), (0, .ref (qa 0)), (1, .int x1), (2, .int x2)]) hx hb dX0_wordsBy_3 hl (by decide) rfl (fun ls hl => ?_)
  exact J5 n x1 x2 ((0 : Int32)) ((0 : Int32)) _ (lv_sub hl [2, 3, 4, 1, 0] rfl) h
set_option maxHeartbeats 4000000 in
set_option maxRecDepth 100000 in
theorem c0_latestOnPage (l : Launch) (D : va_G) (cI : ClassId) (ad : Nat → Nat) (qa : Nat → Nat) (a_done : Int32) (a_kinds a_writers : Nat → Int32) (x1 : Int32) (n : Nat) (u : Int32) (h : f0_latestOnPage n x1 a_done a_kinds a_writers = some u) : q_RO (cE ad) l yX0_latestOnPage wsX0_latestOnPage (rmq (0)) D cI [.ref (qa 0), .int x1] [(qa 0, .inr (0, oX0 qa a_done)), (qa 2, .inl (cI, 60, .inl a_kinds)), (qa 3, .inl (cI, 60, .inl a_writers))] u := by
  refine q_startR (cc := cX0_latestOnPage) (maxL := 3) (ty := .int) (own := RX0) (by decide) rfl rfl (Nat.le_of_ble_eq_true rfl) rfl (fun p e s m args below meth c Q hx hb hml hown hts hP hK hEv hret ls hl => ?_)
  have in0 : ∀ w ∈ wsX00, w ∈ wsX0_latestOnPage := fun w h => List.mem_cons_of_mem _ (List.mem_append_right _ (h))
  have l9 := hts (.fieldLink RX0 9 "PageWars$Acts" "kinds" "[I") (List.mem_of_getElem? (i := 3) rfl)
  have l15 := hts (.fieldLink RX0 15 "PageWars$Acts" "writers" "[I") (List.mem_of_getElem? (i := 2) rfl)
  have l39 := hts (.fieldLink RX0 39 "PageWars$Acts" "done" "I") (List.mem_of_getElem? (i := 1) rfl)
  have J7 : ∀ (kk7 : Nat) (x1 : Int32) (x2 : Int32) (ls : Array Slot), lv_has ls 3 [(0, .ref (qa 0)), (1, .int x1), (2, .int x2)] → f0_latestOnPage_7 n a_done a_kinds a_writers kk7 x1 x2 = some u → W p l e (rmq (0)) s m args below meth c s.heap [] 0 0 Q (F0 m 7 ls []) := by
    intro kk7
    induction kk7 with
    | zero => intro x1 x2  ls hl h; exact nomatch (show (none : Option (Int32)) = some u from h)
    | succ kk7 ih7 =>
      have J45 : ∀ (x1 : Int32) (x2 : Int32) (ls : Array Slot), lv_has ls 3 [(0, .ref (qa 0)), (1, .int x1), (2, .int x2)] → f0_latestOnPage_45 n a_done a_kinds a_writers (f0_latestOnPage_7 n a_done a_kinds a_writers kk7) x1 x2 = some u → W p l e (rmq (0)) s m args below meth c s.heap [] 0 0 Q (F0 m 45 ls []) := by
        intro x1 x2  ls hl h
        unfold f0_latestOnPage_45 at h
        refine q_iinc (fun v => [(2, .int v), (0, .ref (qa 0)), (1, .int x1)]) hx hb h dX0_latestOnPage_45 (by decide) hl (k := 2) rfl (by decide) (fun _ => rfl) (fun x2_45 ls h hl => ?_)
        refine lv_goto (tgt := 7) hx hb dX0_latestOnPage_48 (by decide) ?_
        exact ih7 x1 x2_45 _ (lv_sub hl [1, 2, 0] rfl) h
      intro x1 x2  ls hl h
      rw [f0_latestOnPage_7.eq_2] at h
      refine lv_iload_n hx hb dX0_latestOnPage_7 rfl (lv_at hl 2 rfl) ?_
      refine q_iflt hx hb 51 h dX0_latestOnPage_8 (by decide) (fun h => ?_) (fun h => ?_)
      · refine lv_iconst (v := (-1 : Int32)) hx hb dX0_latestOnPage_51 (by decide) ?_
        exact hret _ _ _ (vp_nar_int _) h dX0_latestOnPage_52
      · refine lv_aload_n hx hb dX0_latestOnPage_11 rfl (lv_at hl 0 rfl) ?_
        refine va_get (D := D) (ci := 0) (v := .ref (qa 3)) (C := RX0) (T := TX0) (N := 10) hx hb hts in0 hown hK hP 0 rfl rfl 2 (by decide) l15 (fun _ h9 => h9) rfl dX0_latestOnPage_12 ?_
        refine lv_iload_n hx hb dX0_latestOnPage_15 rfl (lv_at hl 2 rfl) ?_
        refine q_iald hx hb hK hP 2 0 rfl rfl h dX0_latestOnPage_16 (fun t16 h => ?_)
        refine lv_iload_n hx hb dX0_latestOnPage_17 rfl (lv_at hl 1 rfl) ?_
        refine q_cne hx hb 45 h dX0_latestOnPage_18 (by decide) (fun h => ?_) (fun h => ?_)
        · exact J45 x1 x2 _ (lv_sub hl [0, 1, 2] rfl) h
        · refine lv_aload_n hx hb dX0_latestOnPage_21 rfl (lv_at hl 0 rfl) ?_
          refine va_get (D := D) (ci := 0) (v := .ref (qa 2)) (C := RX0) (T := TX0) (N := 10) hx hb hts in0 hown hK hP 0 rfl rfl 1 (by decide) l9 (fun _ h9 => h9) rfl dX0_latestOnPage_22 ?_
          refine lv_iload_n hx hb dX0_latestOnPage_25 rfl (lv_at hl 2 rfl) ?_
          refine q_iald hx hb hK hP 1 0 rfl rfl h dX0_latestOnPage_26 (fun t26 h => ?_)
          refine lv_bipush (v := (7 : Int32)) hx hb dX0_latestOnPage_27 (by decide) ?_
          refine q_ceq hx hb 45 h dX0_latestOnPage_29 (by decide) (fun h => ?_) (fun h => ?_)
          · exact J45 x1 x2 _ (lv_sub hl [0, 1, 2] rfl) h
          · refine lv_aload_n hx hb dX0_latestOnPage_32 rfl (lv_at hl 0 rfl) ?_
            refine va_get (D := D) (ci := 0) (v := .ref (qa 2)) (C := RX0) (T := TX0) (N := 10) hx hb hts in0 hown hK hP 0 rfl rfl 1 (by decide) l9 (fun _ h9 => h9) rfl dX0_latestOnPage_33 ?_
            refine lv_iload_n hx hb dX0_latestOnPage_36 rfl (lv_at hl 2 rfl) ?_
            refine q_iald hx hb hK hP 1 0 rfl rfl h dX0_latestOnPage_37 (fun t37 h => ?_)
            refine lv_bipush (v := (6 : Int32)) hx hb dX0_latestOnPage_38 (by decide) ?_
            refine q_ceq hx hb 45 h dX0_latestOnPage_40 (by decide) (fun h => ?_) (fun h => ?_)
            · exact J45 x1 x2 _ (lv_sub hl [0, 1, 2] rfl) h
            · refine lv_iload_n hx hb dX0_latestOnPage_43 rfl (lv_at hl 2 rfl) ?_
              exact hret _ _ _ (vp_nar_int _) h dX0_latestOnPage_44
  unfold f0_latestOnPage at h
  refine lv_aload_n hx hb dX0_latestOnPage_0 rfl (lv_at hl 0 rfl) ?_
  refine va_get (D := D) (ci := 0) (v := .int a_done) (C := RX0) (T := TX0) (N := 10) hx hb hts in0 hown hK hP 0 rfl rfl 0 (by decide) l39 (fun _ h9 => h9) rfl dX0_latestOnPage_1 ?_
  refine lv_iconst (v := (1 : Int32)) hx hb dX0_latestOnPage_4 (by decide) ?_
  refine lv_isub hx hb dX0_latestOnPage_5 ?_
  refine q_let h (fun x2_6 h => ?_)
  refine lv_istore_n (lv' := [(2, .int x2_6), (0, .ref (qa 0)), (1, .int x1)]) hx hb dX0_latestOnPage_6 rfl hl (by decide) rfl (fun ls hl => ?_)
  exact J7 n x1 x2_6 _ (lv_sub hl [1, 2, 0] rfl) h
set_option maxHeartbeats 4000000 in
set_option maxRecDepth 100000 in
theorem c1_goesWay (l : Launch) (D : va_G) (cI : ClassId) (ad : Nat → Nat) (qb qa qt : Nat → Nat) (b_now b_shutTill b_shutBy b_z b_waits a_done : Int32) (a_kinds a_writers a_minutes a_matters a_undoers a_scores a_sizes a_cells : Nat → Int32) (x1 : Int32) (x2 : Int32) (n : Nat) (u : Int32 × Int32 × (Nat → Int32) × (Nat → Int32) × (Nat → Int32) × (Nat → Int32) × (Nat → Int32) × (Nat → Int32) × (Nat → Int32) × (Nat → Int32)) (h : f1_goesWay n x1 x2 b_now a_done a_kinds a_writers a_minutes a_matters a_undoers a_scores a_sizes a_cells = some u) : q_RW (cE ad) l yX1_goesWay wsX1_goesWay (rmq (4)) D cI [.ref (qb 0), .int x1, .int x2] [(qb 0, .inr (1, oX1 qb b_now b_shutTill b_shutBy b_z b_waits (qa 0) (qt 0))), (qa 0, .inr (0, oX0 qa a_done)), (qa 2, .inl (cI, 60, .inl a_kinds)), (qa 3, .inl (cI, 60, .inl a_writers)), (qa 4, .inl (cI, 60, .inl a_minutes)), (qa 5, .inl (cI, 60, .inl a_matters)), (qa 6, .inl (cI, 60, .inl a_undoers)), (qa 7, .inl (cI, 60, .inl a_scores)), (qa 8, .inl (cI, 61, .inl a_sizes)), (qa 9, .inl (cI, 1220, .inl a_cells))] [(qb 0, .inr (1, oX1 qb b_now b_shutTill b_shutBy b_z b_waits (qa 0) (qt 0))), (qa 0, .inr (0, oX0 qa u.2.1)), (qa 2, .inl (cI, 60, .inl u.2.2.1)), (qa 3, .inl (cI, 60, .inl u.2.2.2.1)), (qa 4, .inl (cI, 60, .inl u.2.2.2.2.1)), (qa 5, .inl (cI, 60, .inl u.2.2.2.2.2.1)), (qa 6, .inl (cI, 60, .inl u.2.2.2.2.2.2.1)), (qa 7, .inl (cI, 60, .inl u.2.2.2.2.2.2.2.1)), (qa 8, .inl (cI, 61, .inl u.2.2.2.2.2.2.2.2.1)), (qa 9, .inl (cI, 1220, .inl u.2.2.2.2.2.2.2.2.2))] u.1 := by
  refine q_startW (fun u : Int32 × Int32 × (Nat → Int32) × (Nat → Int32) × (Nat → Int32) × (Nat → Int32) × (Nat → Int32) × (Nat → Int32) × (Nat → Int32) × (Nat → Int32) => [(qb 0, .inr (1, oX1 qb b_now b_shutTill b_shutBy b_z b_waits (qa 0) (qt 0))), (qa 0, .inr (0, oX0 qa u.2.1)), (qa 2, .inl (cI, 60, .inl u.2.2.1)), (qa 3, .inl (cI, 60, .inl u.2.2.2.1)), (qa 4, .inl (cI, 60, .inl u.2.2.2.2.1)), (qa 5, .inl (cI, 60, .inl u.2.2.2.2.2.1)), (qa 6, .inl (cI, 60, .inl u.2.2.2.2.2.2.1)), (qa 7, .inl (cI, 60, .inl u.2.2.2.2.2.2.2.1)), (qa 8, .inl (cI, 61, .inl u.2.2.2.2.2.2.2.2.1)), (qa 9, .inl (cI, 1220, .inl u.2.2.2.2.2.2.2.2.2))]) (fun u => u.1) (cc := cX1_goesWay) (maxL := 5) (ty := .int) (own := RX1) (by decide) rfl rfl (Nat.le_of_ble_eq_true rfl) rfl (fun p e s m args below meth c Q A hx hb hml hown hts hK hEv hA hret hP hD hS ls hl => ?_)
  have in0 : ∀ w ∈ wsX00, w ∈ wsX1_goesWay := fun w h => List.mem_cons_of_mem _ (List.mem_append_right _ (h))
  have in1 : ∀ w ∈ wsX10, w ∈ wsX1_goesWay := fun w h => List.mem_cons_of_mem _ (List.mem_append_left _ (List.mem_append_right _ (h)))
  have l25 := hts (.fieldLink RX1 25 "PageWars$Book" "acts" "LPageWars$Acts;") (List.mem_of_getElem? (i := 1) rfl)
  have J113 : ∀ (s0 : Int32) (a_done : Int32) (a_kinds : (Nat → Int32)) (a_writers : (Nat → Int32)) (a_minutes : (Nat → Int32)) (a_matters : (Nat → Int32)) (a_undoers : (Nat → Int32)) (a_scores : (Nat → Int32)) (a_sizes : (Nat → Int32)) (a_cells : (Nat → Int32)) (H : Heap) (locs : List Loc) (ls : Array Slot), lv_has ls 5 [(0, .ref (qb 0))] → va_P D vwCl [(qb 0, .inr (1, oX1 qb b_now b_shutTill b_shutBy b_z b_waits (qa 0) (qt 0))), (qa 0, .inr (0, oX0 qa a_done)), (qa 2, .inl (cI, 60, .inl a_kinds)), (qa 3, .inl (cI, 60, .inl a_writers)), (qa 4, .inl (cI, 60, .inl a_minutes)), (qa 5, .inl (cI, 60, .inl a_matters)), (qa 6, .inl (cI, 60, .inl a_undoers)), (qa 7, .inl (cI, 60, .inl a_scores)), (qa 8, .inl (cI, 61, .inl a_sizes)), (qa 9, .inl (cI, 1220, .inl a_cells))] H → va_D A [(qb 0, .inr (1, oX1 qb b_now b_shutTill b_shutBy b_z b_waits (qa 0) (qt 0))), (qa 0, .inr (0, oX0 qa a_done)), (qa 2, .inl (cI, 60, .inl a_kinds)), (qa 3, .inl (cI, 60, .inl a_writers)), (qa 4, .inl (cI, 60, .inl a_minutes)), (qa 5, .inl (cI, 60, .inl a_matters)), (qa 6, .inl (cI, 60, .inl a_undoers)), (qa 7, .inl (cI, 60, .inl a_scores)), (qa 8, .inl (cI, 61, .inl a_sizes)), (qa 9, .inl (cI, 1220, .inl a_cells))] → va_S A s.heap H locs → f1_goesWay_113 n b_now s0 a_done a_kinds a_writers a_minutes a_matters a_undoers a_scores a_sizes a_cells = some u → W p l e (rmq (4)) s m args below meth c H locs 0 0 Q (F0 m 113 ls [.int s0]) := by
    intro s0 a_done a_kinds a_writers a_minutes a_matters a_undoers a_scores a_sizes a_cells H locs ls hl hP hD hS h
    unfold f1_goesWay_113 at h
    exact hret (s0, a_done, a_kinds, a_writers, a_minutes, a_matters, a_undoers, a_scores, a_sizes, a_cells) _ _ _ _ (vp_nar_int _) h hP hD hS dX1_goesWay_113
  have J81 : ∀ (s0 : Int32) (a_done : Int32) (a_kinds : (Nat → Int32)) (a_writers : (Nat → Int32)) (a_minutes : (Nat → Int32)) (a_matters : (Nat → Int32)) (a_undoers : (Nat → Int32)) (a_scores : (Nat → Int32)) (a_sizes : (Nat → Int32)) (a_cells : (Nat → Int32)) (H : Heap) (locs : List Loc) (ls : Array Slot), lv_has ls 5 [(0, .ref (qb 0))] → va_P D vwCl [(qb 0, .inr (1, oX1 qb b_now b_shutTill b_shutBy b_z b_waits (qa 0) (qt 0))), (qa 0, .inr (0, oX0 qa a_done)), (qa 2, .inl (cI, 60, .inl a_kinds)), (qa 3, .inl (cI, 60, .inl a_writers)), (qa 4, .inl (cI, 60, .inl a_minutes)), (qa 5, .inl (cI, 60, .inl a_matters)), (qa 6, .inl (cI, 60, .inl a_undoers)), (qa 7, .inl (cI, 60, .inl a_scores)), (qa 8, .inl (cI, 61, .inl a_sizes)), (qa 9, .inl (cI, 1220, .inl a_cells))] H → va_D A [(qb 0, .inr (1, oX1 qb b_now b_shutTill b_shutBy b_z b_waits (qa 0) (qt 0))), (qa 0, .inr (0, oX0 qa a_done)), (qa 2, .inl (cI, 60, .inl a_kinds)), (qa 3, .inl (cI, 60, .inl a_writers)), (qa 4, .inl (cI, 60, .inl a_minutes)), (qa 5, .inl (cI, 60, .inl a_matters)), (qa 6, .inl (cI, 60, .inl a_undoers)), (qa 7, .inl (cI, 60, .inl a_scores)), (qa 8, .inl (cI, 61, .inl a_sizes)), (qa 9, .inl (cI, 1220, .inl a_cells))] → va_S A s.heap H locs → f1_goesWay_81 n b_now s0 a_done a_kinds a_writers a_minutes a_matters a_undoers a_scores a_sizes a_cells = some u → W p l e (rmq (4)) s m args below meth c H locs 0 0 Q (F0 m 81 ls [.int s0]) := by
    intro s0 a_done a_kinds a_writers a_minutes a_matters a_undoers a_scores a_sizes a_cells H locs ls hl hP hD hS h
    unfold f1_goesWay_81 at h
    exact hret (s0, a_done, a_kinds, a_writers, a_minutes, a_matters, a_undoers, a_scores, a_sizes, a_cells) _ _ _ _ (vp_nar_int _) h hP hD hS dX1_goesWay_81
  have J64 : ∀ (s0 : Int32) (a_done : Int32) (a_kinds : (Nat → Int32)) (a_writers : (Nat → Int32)) (a_minutes : (Nat → Int32)) (a_matters : (Nat → Int32)) (a_undoers : (Nat → Int32)) (a_scores : (Nat → Int32)) (a_sizes : (Nat → Int32)) (a_cells : (Nat → Int32)) (H : Heap) (locs : List Loc) (ls : Array Slot), lv_has ls 5 [(0, .ref (qb 0))] → va_P D vwCl [(qb 0, .inr (1, oX1 qb b_now b_shutTill b_shutBy b_z b_waits (qa 0) (qt 0))), (qa 0, .inr (0, oX0 qa a_done)), (qa 2, .inl (cI, 60, .inl a_kinds)), (qa 3, .inl (cI, 60, .inl a_writers)), (qa 4, .inl (cI, 60, .inl a_minutes)), (qa 5, .inl (cI, 60, .inl a_matters)), (qa 6, .inl (cI, 60, .inl a_undoers)), (qa 7, .inl (cI, 60, .inl a_scores)), (qa 8, .inl (cI, 61, .inl a_sizes)), (qa 9, .inl (cI, 1220, .inl a_cells))] H → va_D A [(qb 0, .inr (1, oX1 qb b_now b_shutTill b_shutBy b_z b_waits (qa 0) (qt 0))), (qa 0, .inr (0, oX0 qa a_done)), (qa 2, .inl (cI, 60, .inl a_kinds)), (qa 3, .inl (cI, 60, .inl a_writers)), (qa 4, .inl (cI, 60, .inl a_minutes)), (qa 5, .inl (cI, 60, .inl a_matters)), (qa 6, .inl (cI, 60, .inl a_undoers)), (qa 7, .inl (cI, 60, .inl a_scores)), (qa 8, .inl (cI, 61, .inl a_sizes)), (qa 9, .inl (cI, 1220, .inl a_cells))] → va_S A s.heap H locs → f1_goesWay_64 n b_now s0 a_done a_kinds a_writers a_minutes a_matters a_undoers a_scores a_sizes a_cells = some u → W p l e (rmq (4)) s m args below meth c H locs 0 0 Q (F0 m 64 ls [.int s0]) := by
    intro s0 a_done a_kinds a_writers a_minutes a_matters a_undoers a_scores a_sizes a_cells H locs ls hl hP hD hS h
    unfold f1_goesWay_64 at h
    exact hret (s0, a_done, a_kinds, a_writers, a_minutes, a_matters, a_undoers, a_scores, a_sizes, a_cells) _ _ _ _ (vp_nar_int _) h hP hD hS dX1_goesWay_64
  unfold f1_goesWay at h
  refine lv_aload_n hx hb dX1_goesWay_0 rfl (lv_at hl 0 rfl) ?_
  refine va_get (D := D) (ci := 1) (v := .ref (qa 0)) (C := RX1) (T := TX1) (N := 9) hx hb hts in1 hown hK hP 0 rfl rfl 7 (by decide) l25 (fun _ h9 => h9) rfl dX1_goesWay_1 ?_
  refine q_callR (cEok ad) (rest := []) ⟨hx, hb, hml, hown, hts⟩ (fun r hr => c0_pageSize l D cI ad qa a_done a_sizes r hr) (cwV 0 hts gX1_goesWay_X0_pageSize rfl rfl rfl hdX0_pageSize (rmq_ok (Nat.le_of_ble_eq_true rfl) (Nat.le_of_ble_eq_true rfl))) hK hP hEv hS [1, 8] rfl (va_recv hK hP (ci := 0) (q0 := 1) rfl rfl) rfl rfl hl.1 (Nat.le_of_ble_eq_true rfl) ⟨Nat.zero_le _, Nat.zero_le _⟩ h dX1_goesWay_4 (fun t4 h => ?_)
  refine lv_istore_n (lv' := [(3, .int t4), (0, .ref (qb 0)), (1, .int x1), (2, .int x2)]) hx hb dX1_goesWay_7 rfl hl (by decide) rfl (fun ls hl => ?_)
  refine lv_iload_n hx hb dX1_goesWay_8 rfl (lv_at hl 3 rfl) ?_
  rcases Decidable.em (x2 = (1 : Int32)) with w0 | w0
  · have h := q_t h w0
    refine lv_tableIn hx hb dX1_goesWay_9 (off := 31) (tgt := 40) (by rw [w0]; decide) (by rw [w0]; decide) (by rw [w0]; rfl) (by decide) ?_
    refine lv_iload_n hx hb dX1_goesWay_40 rfl (lv_at hl 0 rfl) ?_
    refine lv_bipush (v := (20 : Int32)) hx hb dX1_goesWay_41 (by decide) ?_
    refine q_cge hx hb 63 h dX1_goesWay_43 (by decide) (fun h => ?_) (fun h => ?_)
    · refine lv_iconst (v := (-1 : Int32)) hx hb dX1_goesWay_63 (by decide) ?_
      exact J64 ((-1 : Int32)) a_done a_kinds a_writers a_minutes a_matters a_undoers a_scores a_sizes a_cells _ _ _ (lv_sub hl [1] rfl) hP hD hS h
    · refine lv_aload_n hx hb dX1_goesWay_46 rfl (lv_at hl 1 rfl) ?_
      refine lv_iconst (v := (1 : Int32)) hx hb dX1_goesWay_47 (by decide) ?_
      refine lv_bipush (v := (100 : Int32)) hx hb dX1_goesWay_48 (by decide) ?_
      refine lv_iload_n hx hb dX1_goesWay_50 rfl (lv_at hl 2 rfl) ?_
      refine lv_imul hx hb dX1_goesWay_51 ?_
      refine lv_iload_n hx hb dX1_goesWay_52 rfl (lv_at hl 0 rfl) ?_
      refine lv_iadd hx hb dX1_goesWay_53 ?_
      refine lv_iload_n hx hb dX1_goesWay_54 rfl (lv_at hl 2 rfl) ?_
      refine lv_iconst (v := (1 : Int32)) hx hb dX1_goesWay_55 (by decide) ?_
      refine lv_iadd hx hb dX1_goesWay_56 ?_
      refine q_callW10 (cEok ad) (rest := []) (fun u => [(qb 0, .inr (1, oX1 qb b_now b_shutTill b_shutBy b_z b_waits (qa 0) (qt 0))), (qa 0, .inr (0, oX0 qa u.2.1)), (qa 2, .inl (cI, 60, .inl u.2.2.1)), (qa 3, .inl (cI, 60, .inl u.2.2.2.1)), (qa 4, .inl (cI, 60, .inl u.2.2.2.2.1)), (qa 5, .inl (cI, 60, .inl u.2.2.2.2.2.1)), (qa 6, .inl (cI, 60, .inl u.2.2.2.2.2.2.1)), (qa 7, .inl (cI, 60, .inl u.2.2.2.2.2.2.2.1)), (qa 8, .inl (cI, 61, .inl u.2.2.2.2.2.2.2.2.1)), (qa 9, .inl (cI, 1220, .inl u.2.2.2.2.2.2.2.2.2))]) (fun u => u.1) ⟨hx, hb, hml, hown, hts⟩ (fun u hu => c1_puts l D cI ad qb qa qt b_now b_shutTill b_shutBy b_z b_waits a_done a_kinds a_writers a_minutes a_matters a_undoers a_scores a_sizes a_cells ((1 : Int32)) ((((100 : Int32)) * x1) + t4) (x1 + ((1 : Int32))) n u hu) (cwV 3 hts gX1_goesWay_X1_puts rfl rfl rfl hdX1_puts (rmq_ok (Nat.le_of_ble_eq_true rfl) (Nat.le_of_ble_eq_true rfl))) hK hEv hA hP hD hS [0, 1, 2, 3, 4, 5, 6, 7, 8, 9] (by decide) rfl (fun _ => rfl) (va_recv hK hP (ci := 1) (q0 := 0) rfl rfl) rfl rfl hl.1 (Nat.le_of_ble_eq_true rfl) ⟨Nat.zero_le _, Nat.zero_le _⟩ h dX1_goesWay_57 (fun t57 a_done_57 a_kinds_57 a_writers_57 a_minutes_57 a_matters_57 a_undoers_57 a_scores_57 a_sizes_57 a_cells_57 H locs h hP hD hS => ?_)
      have hP : va_P D vwCl [(qb 0, .inr (1, oX1 qb b_now b_shutTill b_shutBy b_z b_waits (qa 0) (qt 0))), (qa 0, .inr (0, oX0 qa a_done_57)), (qa 2, .inl (cI, 60, .inl a_kinds_57)), (qa 3, .inl (cI, 60, .inl a_writers_57)), (qa 4, .inl (cI, 60, .inl a_minutes_57)), (qa 5, .inl (cI, 60, .inl a_matters_57)), (qa 6, .inl (cI, 60, .inl a_undoers_57)), (qa 7, .inl (cI, 60, .inl a_scores_57)), (qa 8, .inl (cI, 61, .inl a_sizes_57)), (qa 9, .inl (cI, 1220, .inl a_cells_57))] H := hP
      have hD : va_D A [(qb 0, .inr (1, oX1 qb b_now b_shutTill b_shutBy b_z b_waits (qa 0) (qt 0))), (qa 0, .inr (0, oX0 qa a_done_57)), (qa 2, .inl (cI, 60, .inl a_kinds_57)), (qa 3, .inl (cI, 60, .inl a_writers_57)), (qa 4, .inl (cI, 60, .inl a_minutes_57)), (qa 5, .inl (cI, 60, .inl a_matters_57)), (qa 6, .inl (cI, 60, .inl a_undoers_57)), (qa 7, .inl (cI, 60, .inl a_scores_57)), (qa 8, .inl (cI, 61, .inl a_sizes_57)), (qa 9, .inl (cI, 1220, .inl a_cells_57))] := hD
      refine lv_goto (tgt := 64) hx hb dX1_goesWay_60 (by decide) ?_
      exact J64 t57 a_done_57 a_kinds_57 a_writers_57 a_minutes_57 a_matters_57 a_undoers_57 a_scores_57 a_sizes_57 a_cells_57 _ _ _ (lv_sub hl [1] rfl) hP hD hS h
  have h := q_f h w0
  rcases Decidable.em (x2 = (2 : Int32)) with w1 | w1
  · have h := q_t h w1
    refine lv_tableIn hx hb dX1_goesWay_9 (off := 56) (tgt := 65) (by rw [w1]; decide) (by rw [w1]; decide) (by rw [w1]; rfl) (by decide) ?_
    refine lv_iload_n hx hb dX1_goesWay_65 rfl (lv_at hl 0 rfl) ?_
    refine q_ifle hx hb 80 h dX1_goesWay_66 (by decide) (fun h => ?_) (fun h => ?_)
    · refine lv_iconst (v := (-1 : Int32)) hx hb dX1_goesWay_80 (by decide) ?_
      exact J81 ((-1 : Int32)) a_done a_kinds a_writers a_minutes a_matters a_undoers a_scores a_sizes a_cells _ _ _ (lv_sub hl [1] rfl) hP hD hS h
    · refine lv_aload_n hx hb dX1_goesWay_69 rfl (lv_at hl 1 rfl) ?_
      refine lv_iload_n hx hb dX1_goesWay_70 rfl (lv_at hl 2 rfl) ?_
      refine lv_iload_n hx hb dX1_goesWay_71 rfl (lv_at hl 0 rfl) ?_
      refine lv_iconst (v := (1 : Int32)) hx hb dX1_goesWay_72 (by decide) ?_
      refine lv_isub hx hb dX1_goesWay_73 ?_
      refine q_callW10 (cEok ad) (rest := []) (fun u => [(qb 0, .inr (1, oX1 qb b_now b_shutTill b_shutBy b_z b_waits (qa 0) (qt 0))), (qa 0, .inr (0, oX0 qa u.2.1)), (qa 2, .inl (cI, 60, .inl u.2.2.1)), (qa 3, .inl (cI, 60, .inl u.2.2.2.1)), (qa 4, .inl (cI, 60, .inl u.2.2.2.2.1)), (qa 5, .inl (cI, 60, .inl u.2.2.2.2.2.1)), (qa 6, .inl (cI, 60, .inl u.2.2.2.2.2.2.1)), (qa 7, .inl (cI, 60, .inl u.2.2.2.2.2.2.2.1)), (qa 8, .inl (cI, 61, .inl u.2.2.2.2.2.2.2.2.1)), (qa 9, .inl (cI, 1220, .inl u.2.2.2.2.2.2.2.2.2))]) (fun u => u.1) ⟨hx, hb, hml, hown, hts⟩ (fun u hu => c1_takesOut l D cI ad qb qa qt b_now b_shutTill b_shutBy b_z b_waits a_done a_kinds a_writers a_minutes a_matters a_undoers a_scores a_sizes a_cells x1 (t4 - ((1 : Int32))) n u hu) (cwV 2 hts gX1_goesWay_X1_takesOut rfl rfl rfl hdX1_takesOut (rmq_ok (Nat.le_of_ble_eq_true rfl) (Nat.le_of_ble_eq_true rfl))) hK hEv hA hP hD hS [0, 1, 2, 3, 4, 5, 6, 7, 8, 9] (by decide) rfl (fun _ => rfl) (va_recv hK hP (ci := 1) (q0 := 0) rfl rfl) rfl rfl hl.1 (Nat.le_of_ble_eq_true rfl) ⟨Nat.zero_le _, Nat.zero_le _⟩ h dX1_goesWay_74 (fun t74 a_done_74 a_kinds_74 a_writers_74 a_minutes_74 a_matters_74 a_undoers_74 a_scores_74 a_sizes_74 a_cells_74 H locs h hP hD hS => ?_)
      have hP : va_P D vwCl [(qb 0, .inr (1, oX1 qb b_now b_shutTill b_shutBy b_z b_waits (qa 0) (qt 0))), (qa 0, .inr (0, oX0 qa a_done_74)), (qa 2, .inl (cI, 60, .inl a_kinds_74)), (qa 3, .inl (cI, 60, .inl a_writers_74)), (qa 4, .inl (cI, 60, .inl a_minutes_74)), (qa 5, .inl (cI, 60, .inl a_matters_74)), (qa 6, .inl (cI, 60, .inl a_undoers_74)), (qa 7, .inl (cI, 60, .inl a_scores_74)), (qa 8, .inl (cI, 61, .inl a_sizes_74)), (qa 9, .inl (cI, 1220, .inl a_cells_74))] H := hP
      have hD : va_D A [(qb 0, .inr (1, oX1 qb b_now b_shutTill b_shutBy b_z b_waits (qa 0) (qt 0))), (qa 0, .inr (0, oX0 qa a_done_74)), (qa 2, .inl (cI, 60, .inl a_kinds_74)), (qa 3, .inl (cI, 60, .inl a_writers_74)), (qa 4, .inl (cI, 60, .inl a_minutes_74)), (qa 5, .inl (cI, 60, .inl a_matters_74)), (qa 6, .inl (cI, 60, .inl a_undoers_74)), (qa 7, .inl (cI, 60, .inl a_scores_74)), (qa 8, .inl (cI, 61, .inl a_sizes_74)), (qa 9, .inl (cI, 1220, .inl a_cells_74))] := hD
      refine lv_goto (tgt := 81) hx hb dX1_goesWay_77 (by decide) ?_
      exact J81 t74 a_done_74 a_kinds_74 a_writers_74 a_minutes_74 a_matters_74 a_undoers_74 a_scores_74 a_sizes_74 a_cells_74 _ _ _ (lv_sub hl [1] rfl) hP hD hS h
  have h := q_f h w1
  rcases Decidable.em (x2 = (3 : Int32)) with w2 | w2
  · have h := q_t h w2
    refine lv_tableIn hx hb dX1_goesWay_9 (off := 73) (tgt := 82) (by rw [w2]; decide) (by rw [w2]; decide) (by rw [w2]; rfl) (by decide) ?_
    refine lv_aload_n hx hb dX1_goesWay_82 rfl (lv_at hl 1 rfl) ?_
    refine va_get (D := D) (ci := 1) (v := .ref (qa 0)) (C := RX1) (T := TX1) (N := 9) hx hb hts in1 hown hK hP 0 rfl rfl 7 (by decide) l25 (fun _ h9 => h9) rfl dX1_goesWay_83 ?_
    refine lv_iload_n hx hb dX1_goesWay_86 rfl (lv_at hl 2 rfl) ?_
    refine q_callR (cEok ad) (rest := []) ⟨hx, hb, hml, hown, hts⟩ (fun r hr => c0_latestOnPage l D cI ad qa a_done a_kinds a_writers x1 n r hr) (cwV 1 hts gX1_goesWay_X0_latestOnPage rfl rfl rfl hdX0_latestOnPage (rmq_ok (Nat.le_of_ble_eq_true rfl) (Nat.le_of_ble_eq_true rfl))) hK hP hEv hS [1, 2, 3] rfl (va_recv hK hP (ci := 0) (q0 := 1) rfl rfl) rfl rfl hl.1 (Nat.le_of_ble_eq_true rfl) ⟨Nat.zero_le _, Nat.zero_le _⟩ h dX1_goesWay_87 (fun t87 h => ?_)
    refine lv_istore (lv' := [(4, .int t87), (3, .int t4), (0, .ref (qb 0)), (1, .int x1), (2, .int x2)]) hx hb dX1_goesWay_90 hl (by decide) rfl (fun ls hl => ?_)
    refine lv_iload hx hb dX1_goesWay_92 (lv_at hl 0 rfl) ?_
    refine q_iflt hx hb 112 h dX1_goesWay_94 (by decide) (fun h => ?_) (fun h => ?_)
    · refine lv_iconst (v := (-1 : Int32)) hx hb dX1_goesWay_112 (by decide) ?_
      exact J113 ((-1 : Int32)) a_done a_kinds a_writers a_minutes a_matters a_undoers a_scores a_sizes a_cells _ _ _ (lv_sub hl [2] rfl) hP hD hS h
    · refine lv_aload_n hx hb dX1_goesWay_97 rfl (lv_at hl 2 rfl) ?_
      refine lv_iconst (v := (2 : Int32)) hx hb dX1_goesWay_98 (by decide) ?_
      refine lv_iload_n hx hb dX1_goesWay_99 rfl (lv_at hl 3 rfl) ?_
      refine lv_iload hx hb dX1_goesWay_100 (lv_at hl 0 rfl) ?_
      refine lv_iconst (v := (1 : Int32)) hx hb dX1_goesWay_102 (by decide) ?_
      refine lv_iadd hx hb dX1_goesWay_103 ?_
      refine lv_bipush (v := (20 : Int32)) hx hb dX1_goesWay_104 (by decide) ?_
      refine q_callW10 (cEok ad) (rest := []) (fun u => [(qb 0, .inr (1, oX1 qb b_now b_shutTill b_shutBy b_z b_waits (qa 0) (qt 0))), (qa 0, .inr (0, oX0 qa u.2.1)), (qa 2, .inl (cI, 60, .inl u.2.2.1)), (qa 3, .inl (cI, 60, .inl u.2.2.2.1)), (qa 4, .inl (cI, 60, .inl u.2.2.2.2.1)), (qa 5, .inl (cI, 60, .inl u.2.2.2.2.2.1)), (qa 6, .inl (cI, 60, .inl u.2.2.2.2.2.2.1)), (qa 7, .inl (cI, 60, .inl u.2.2.2.2.2.2.2.1)), (qa 8, .inl (cI, 61, .inl u.2.2.2.2.2.2.2.2.1)), (qa 9, .inl (cI, 1220, .inl u.2.2.2.2.2.2.2.2.2))]) (fun u => u.1) ⟨hx, hb, hml, hown, hts⟩ (fun u hu => c1_putsBack l D cI ad qb qa qt b_now b_shutTill b_shutBy b_z b_waits a_done a_kinds a_writers a_minutes a_matters a_undoers a_scores a_sizes a_cells ((2 : Int32)) x1 (t87 + ((1 : Int32))) ((20 : Int32)) n u hu) (cwV 4 hts gX1_goesWay_X1_putsBack rfl rfl rfl hdX1_putsBack (rmq_ok (Nat.le_of_ble_eq_true rfl) (Nat.le_of_ble_eq_true rfl))) hK hEv hA hP hD hS [0, 1, 2, 3, 4, 5, 6, 7, 8, 9] (by decide) rfl (fun _ => rfl) (va_recv hK hP (ci := 1) (q0 := 0) rfl rfl) rfl rfl hl.1 (Nat.le_of_ble_eq_true rfl) ⟨Nat.zero_le _, Nat.zero_le _⟩ h dX1_goesWay_106 (fun t106 a_done_106 a_kinds_106 a_writers_106 a_minutes_106 a_matters_106 a_undoers_106 a_scores_106 a_sizes_106 a_cells_106 H locs h hP hD hS => ?_)
      have hP : va_P D vwCl [(qb 0, .inr (1, oX1 qb b_now b_shutTill b_shutBy b_z b_waits (qa 0) (qt 0))), (qa 0, .inr (0, oX0 qa a_done_106)), (qa 2, .inl (cI, 60, .inl a_kinds_106)), (qa 3, .inl (cI, 60, .inl a_writers_106)), (qa 4, .inl (cI, 60, .inl a_minutes_106)), (qa 5, .inl (cI, 60, .inl a_matters_106)), (qa 6, .inl (cI, 60, .inl a_undoers_106)), (qa 7, .inl (cI, 60, .inl a_scores_106)), (qa 8, .inl (cI, 61, .inl a_sizes_106)), (qa 9, .inl (cI, 1220, .inl a_cells_106))] H := hP
      have hD : va_D A [(qb 0, .inr (1, oX1 qb b_now b_shutTill b_shutBy b_z b_waits (qa 0) (qt 0))), (qa 0, .inr (0, oX0 qa a_done_106)), (qa 2, .inl (cI, 60, .inl a_kinds_106)), (qa 3, .inl (cI, 60, .inl a_writers_106)), (qa 4, .inl (cI, 60, .inl a_minutes_106)), (qa 5, .inl (cI, 60, .inl a_matters_106)), (qa 6, .inl (cI, 60, .inl a_undoers_106)), (qa 7, .inl (cI, 60, .inl a_scores_106)), (qa 8, .inl (cI, 61, .inl a_sizes_106)), (qa 9, .inl (cI, 1220, .inl a_cells_106))] := hD
      refine lv_goto (tgt := 113) hx hb dX1_goesWay_109 (by decide) ?_
      exact J113 t106 a_done_106 a_kinds_106 a_writers_106 a_minutes_106 a_matters_106 a_undoers_106 a_scores_106 a_sizes_106 a_cells_106 _ _ _ (lv_sub hl [2] rfl) hP hD hS h
  have h := q_f h w2
  rcases Decidable.em (x2 = (4 : Int32)) with w3 | w3
  · have h := q_t h w3
    refine lv_tableIn hx hb dX1_goesWay_9 (off := 105) (tgt := 114) (by rw [w3]; decide) (by rw [w3]; decide) (by rw [w3]; rfl) (by decide) ?_
    refine lv_aload_n hx hb dX1_goesWay_114 rfl (lv_at hl 1 rfl) ?_
    refine lv_iconst (v := (2 : Int32)) hx hb dX1_goesWay_115 (by decide) ?_
    refine lv_iload_n hx hb dX1_goesWay_116 rfl (lv_at hl 2 rfl) ?_
    refine lv_iconst (v := (0 : Int32)) hx hb dX1_goesWay_117 (by decide) ?_
    refine lv_bipush (v := (20 : Int32)) hx hb dX1_goesWay_118 (by decide) ?_
    refine q_callW10 (cEok ad) (rest := []) (fun u => [(qb 0, .inr (1, oX1 qb b_now b_shutTill b_shutBy b_z b_waits (qa 0) (qt 0))), (qa 0, .inr (0, oX0 qa u.2.1)), (qa 2, .inl (cI, 60, .inl u.2.2.1)), (qa 3, .inl (cI, 60, .inl u.2.2.2.1)), (qa 4, .inl (cI, 60, .inl u.2.2.2.2.1)), (qa 5, .inl (cI, 60, .inl u.2.2.2.2.2.1)), (qa 6, .inl (cI, 60, .inl u.2.2.2.2.2.2.1)), (qa 7, .inl (cI, 60, .inl u.2.2.2.2.2.2.2.1)), (qa 8, .inl (cI, 61, .inl u.2.2.2.2.2.2.2.2.1)), (qa 9, .inl (cI, 1220, .inl u.2.2.2.2.2.2.2.2.2))]) (fun u => u.1) ⟨hx, hb, hml, hown, hts⟩ (fun u hu => c1_putsBack l D cI ad qb qa qt b_now b_shutTill b_shutBy b_z b_waits a_done a_kinds a_writers a_minutes a_matters a_undoers a_scores a_sizes a_cells ((2 : Int32)) x1 ((0 : Int32)) ((20 : Int32)) n u hu) (cwV 4 hts gX1_goesWay_X1_putsBack rfl rfl rfl hdX1_putsBack (rmq_ok (Nat.le_of_ble_eq_true rfl) (Nat.le_of_ble_eq_true rfl))) hK hEv hA hP hD hS [0, 1, 2, 3, 4, 5, 6, 7, 8, 9] (by decide) rfl (fun _ => rfl) (va_recv hK hP (ci := 1) (q0 := 0) rfl rfl) rfl rfl hl.1 (Nat.le_of_ble_eq_true rfl) ⟨Nat.zero_le _, Nat.zero_le _⟩ h dX1_goesWay_120 (fun t120 a_done_120 a_kinds_120 a_writers_120 a_minutes_120 a_matters_120 a_undoers_120 a_scores_120 a_sizes_120 a_cells_120 H locs h hP hD hS => ?_)
    have hP : va_P D vwCl [(qb 0, .inr (1, oX1 qb b_now b_shutTill b_shutBy b_z b_waits (qa 0) (qt 0))), (qa 0, .inr (0, oX0 qa a_done_120)), (qa 2, .inl (cI, 60, .inl a_kinds_120)), (qa 3, .inl (cI, 60, .inl a_writers_120)), (qa 4, .inl (cI, 60, .inl a_minutes_120)), (qa 5, .inl (cI, 60, .inl a_matters_120)), (qa 6, .inl (cI, 60, .inl a_undoers_120)), (qa 7, .inl (cI, 60, .inl a_scores_120)), (qa 8, .inl (cI, 61, .inl a_sizes_120)), (qa 9, .inl (cI, 1220, .inl a_cells_120))] H := hP
    have hD : va_D A [(qb 0, .inr (1, oX1 qb b_now b_shutTill b_shutBy b_z b_waits (qa 0) (qt 0))), (qa 0, .inr (0, oX0 qa a_done_120)), (qa 2, .inl (cI, 60, .inl a_kinds_120)), (qa 3, .inl (cI, 60, .inl a_writers_120)), (qa 4, .inl (cI, 60, .inl a_minutes_120)), (qa 5, .inl (cI, 60, .inl a_matters_120)), (qa 6, .inl (cI, 60, .inl a_undoers_120)), (qa 7, .inl (cI, 60, .inl a_scores_120)), (qa 8, .inl (cI, 61, .inl a_sizes_120)), (qa 9, .inl (cI, 1220, .inl a_cells_120))] := hD
    exact hret (t120, a_done_120, a_kinds_120, a_writers_120, a_minutes_120, a_matters_120, a_undoers_120, a_scores_120, a_sizes_120, a_cells_120) _ _ _ _ (vp_nar_int _) h hP hD hS dX1_goesWay_123
  have h := q_f h w3
  refine lv_tableOut hx hb dX1_goesWay_9 (tgt := 124) (q_out (fun k hk e => ?_)) (by decide) ?_
  · rcases (show k = 0 ∨ k = 1 ∨ k = 2 ∨ k = 3 by omega) with rfl | rfl | rfl | rfl
    · exact w0 (Int32.toInt_inj.mp (e.trans (by decide)))
    · exact w1 (Int32.toInt_inj.mp (e.trans (by decide)))
    · exact w2 (Int32.toInt_inj.mp (e.trans (by decide)))
    · exact w3 (Int32.toInt_inj.mp (e.trans (by decide)))
  · refine lv_iconst (v := (-1 : Int32)) hx hb dX1_goesWay_124 (by decide) ?_
    exact hret ((-1 : Int32), a_done, a_kinds, a_writers, a_minutes, a_matters, a_undoers, a_scores, a_sizes, a_cells) _ _ _ _ (vp_nar_int _) h hP hD hS dX1_goesWay_125
set_option maxHeartbeats 4000000 in
set_option maxRecDepth 100000 in
theorem c1_livesAs (l : Launch) (D : va_G) (cI : ClassId) (ad : Nat → Nat) (qb qa qt : Nat → Nat) (b_now b_shutTill b_shutBy b_z b_waits a_done t_taped : Int32) (a_kinds a_writers a_minutes a_matters a_undoers a_scores a_sizes a_cells t_codes t_lengths t_named t_stack : Nat → Int32) (x1 : Int32) (n : Nat) (u : Int32 × Int32 × (Nat → Int32) × (Nat → Int32) × (Nat → Int32) × (Nat → Int32) × (Nat → Int32) × (Nat → Int32) × (Nat → Int32) × (Nat → Int32) × (Nat → Int32) × (Nat → Int32)) (h : f1_livesAs n x1 b_now b_shutTill b_shutBy b_z a_done a_kinds a_writers a_minutes a_matters a_undoers a_scores a_sizes a_cells t_codes t_lengths t_named t_stack = some u) : q_RV (cE ad) l yX1_livesAs wsX1_livesAs (rmq (5)) D cI [.ref (qb 0), .int x1] [(qb 0, .inr (1, oX1 qb b_now b_shutTill b_shutBy b_z b_waits (qa 0) (qt 0))), (qa 0, .inr (0, oX0 qa a_done)), (qt 0, .inr (4, oX4 qt t_taped)), (qa 2, .inl (cI, 60, .inl a_kinds)), (qa 3, .inl (cI, 60, .inl a_writers)), (qa 4, .inl (cI, 60, .inl a_minutes)), (qa 5, .inl (cI, 60, .inl a_matters)), (qa 6, .inl (cI, 60, .inl a_undoers)), (qa 7, .inl (cI, 60, .inl a_scores)), (qa 8, .inl (cI, 61, .inl a_sizes)), (qa 9, .inl (cI, 1220, .inl a_cells)), (qt 3, .inl (cI, 480, .inl t_codes)), (qt 4, .inl (cI, 8, .inl t_lengths)), (qt 5, .inl (cI, 5, .inl t_named)), (qt 6, .inl (cI, 60, .inl t_stack))] [(qb 0, .inr (1, oX1 qb b_now b_shutTill b_shutBy u.1 b_waits (qa 0) (qt 0))), (qa 0, .inr (0, oX0 qa u.2.1)), (qt 0, .inr (4, oX4 qt t_taped)), (qa 2, .inl (cI, 60, .inl u.2.2.1)), (qa 3, .inl (cI, 60, .inl u.2.2.2.1)), (qa 4, .inl (cI, 60, .inl u.2.2.2.2.1)), (qa 5, .inl (cI, 60, .inl u.2.2.2.2.2.1)), (qa 6, .inl (cI, 60, .inl u.2.2.2.2.2.2.1)), (qa 7, .inl (cI, 60, .inl u.2.2.2.2.2.2.2.1)), (qa 8, .inl (cI, 61, .inl u.2.2.2.2.2.2.2.2.1)), (qa 9, .inl (cI, 1220, .inl u.2.2.2.2.2.2.2.2.2.1)), (qt 3, .inl (cI, 480, .inl t_codes)), (qt 4, .inl (cI, 8, .inl t_lengths)), (qt 5, .inl (cI, 5, .inl u.2.2.2.2.2.2.2.2.2.2.1)), (qt 6, .inl (cI, 60, .inl u.2.2.2.2.2.2.2.2.2.2.2))] := by
  refine q_startV (fun u : Int32 × Int32 × (Nat → Int32) × (Nat → Int32) × (Nat → Int32) × (Nat → Int32) × (Nat → Int32) × (Nat → Int32) × (Nat → Int32) × (Nat → Int32) × (Nat → Int32) × (Nat → Int32) => [(qb 0, .inr (1, oX1 qb b_now b_shutTill b_shutBy u.1 b_waits (qa 0) (qt 0))), (qa 0, .inr (0, oX0 qa u.2.1)), (qt 0, .inr (4, oX4 qt t_taped)), (qa 2, .inl (cI, 60, .inl u.2.2.1)), (qa 3, .inl (cI, 60, .inl u.2.2.2.1)), (qa 4, .inl (cI, 60, .inl u.2.2.2.2.1)), (qa 5, .inl (cI, 60, .inl u.2.2.2.2.2.1)), (qa 6, .inl (cI, 60, .inl u.2.2.2.2.2.2.1)), (qa 7, .inl (cI, 60, .inl u.2.2.2.2.2.2.2.1)), (qa 8, .inl (cI, 61, .inl u.2.2.2.2.2.2.2.2.1)), (qa 9, .inl (cI, 1220, .inl u.2.2.2.2.2.2.2.2.2.1)), (qt 3, .inl (cI, 480, .inl t_codes)), (qt 4, .inl (cI, 8, .inl t_lengths)), (qt 5, .inl (cI, 5, .inl u.2.2.2.2.2.2.2.2.2.2.1)), (qt 6, .inl (cI, 60, .inl u.2.2.2.2.2.2.2.2.2.2.2))]) (cc := cX1_livesAs) (maxL := 5) (own := RX1) (by decide) rfl rfl (Nat.le_of_ble_eq_true rfl) rfl (fun p e s m args below meth c Q A hx hb hml hown hts hK hEv hA hret hP hD hS ls hl => ?_)
  have in0 : ∀ w ∈ wsX00, w ∈ wsX1_livesAs := fun w h => List.mem_cons_of_mem _ (List.mem_append_left _ (List.mem_append_right _ (h)))
  have in1 : ∀ w ∈ wsX10, w ∈ wsX1_livesAs := fun w h => List.mem_cons_of_mem _ (List.mem_append_left _ (List.mem_append_left _ (List.mem_append_right _ (h))))
  have in4 : ∀ w ∈ wsX40, w ∈ wsX1_livesAs := fun w h => List.mem_cons_of_mem _ (List.mem_append_right _ (h))
  have l25 := hts (.fieldLink RX1 25 "PageWars$Book" "acts" "LPageWars$Acts;") (List.mem_of_getElem? (i := 2) rfl)
  have l32 := hts (.fieldLink RX1 32 "PageWars$Book" "texts" "LPageWars$Texts;") (List.mem_of_getElem? (i := 1) rfl)
  have l36 := hts (.fieldLink RX1 36 "PageWars$Book" "now" "I") (List.mem_of_getElem? (i := 3) rfl)
  have l111 : (Cond.fieldLinkNest RX1 111 "PageWars$Acts" "done" "I" "PageWars").before args s = true := cE_f1_111 hEv
  have J125 : ∀ (b_z : Int32) (a_done : Int32) (a_kinds : (Nat → Int32)) (a_writers : (Nat → Int32)) (a_minutes : (Nat → Int32)) (a_matters : (Nat → Int32)) (a_undoers : (Nat → Int32)) (a_scores : (Nat → Int32)) (a_sizes : (Nat → Int32)) (a_cells : (Nat → Int32)) (t_named : (Nat → Int32)) (t_stack : (Nat → Int32)) (H : Heap) (locs : List Loc) (ls : Array Slot), lv_has ls 5 [(0, .ref (qb 0))] → va_P D vwCl [(qb 0, .inr (1, oX1 qb b_now b_shutTill b_shutBy b_z b_waits (qa 0) (qt 0))), (qa 0, .inr (0, oX0 qa a_done)), (qt 0, .inr (4, oX4 qt t_taped)), (qa 2, .inl (cI, 60, .inl a_kinds)), (qa 3, .inl (cI, 60, .inl a_writers)), (qa 4, .inl (cI, 60, .inl a_minutes)), (qa 5, .inl (cI, 60, .inl a_matters)), (qa 6, .inl (cI, 60, .inl a_undoers)), (qa 7, .inl (cI, 60, .inl a_scores)), (qa 8, .inl (cI, 61, .inl a_sizes)), (qa 9, .inl (cI, 1220, .inl a_cells)), (qt 3, .inl (cI, 480, .inl t_codes)), (qt 4, .inl (cI, 8, .inl t_lengths)), (qt 5, .inl (cI, 5, .inl t_named)), (qt 6, .inl (cI, 60, .inl t_stack))] H → va_D A [(qb 0, .inr (1, oX1 qb b_now b_shutTill b_shutBy b_z b_waits (qa 0) (qt 0))), (qa 0, .inr (0, oX0 qa a_done)), (qt 0, .inr (4, oX4 qt t_taped)), (qa 2, .inl (cI, 60, .inl a_kinds)), (qa 3, .inl (cI, 60, .inl a_writers)), (qa 4, .inl (cI, 60, .inl a_minutes)), (qa 5, .inl (cI, 60, .inl a_matters)), (qa 6, .inl (cI, 60, .inl a_undoers)), (qa 7, .inl (cI, 60, .inl a_scores)), (qa 8, .inl (cI, 61, .inl a_sizes)), (qa 9, .inl (cI, 1220, .inl a_cells)), (qt 3, .inl (cI, 480, .inl t_codes)), (qt 4, .inl (cI, 8, .inl t_lengths)), (qt 5, .inl (cI, 5, .inl t_named)), (qt 6, .inl (cI, 60, .inl t_stack))] → va_S A s.heap H locs → f1_livesAs_125 n b_now b_shutTill b_shutBy t_codes t_lengths b_z a_done a_kinds a_writers a_minutes a_matters a_undoers a_scores a_sizes a_cells t_named t_stack = some u → W p l e (rmq (5)) s m args below meth c H locs 0 0 Q (F0 m 125 ls []) := by
    intro b_z a_done a_kinds a_writers a_minutes a_matters a_undoers a_scores a_sizes a_cells t_named t_stack H locs ls hl hP hD hS h
    unfold f1_livesAs_125 at h
    exact hret (b_z, a_done, a_kinds, a_writers, a_minutes, a_matters, a_undoers, a_scores, a_sizes, a_cells, t_named, t_stack) _ _ _ _ h hP hD hS dX1_livesAs_125
  have J112 : ∀ (s0 : Int32) (b_z : Int32) (a_done : Int32) (a_kinds : (Nat → Int32)) (a_writers : (Nat → Int32)) (a_minutes : (Nat → Int32)) (a_matters : (Nat → Int32)) (a_undoers : (Nat → Int32)) (a_scores : (Nat → Int32)) (a_sizes : (Nat → Int32)) (a_cells : (Nat → Int32)) (t_named : (Nat → Int32)) (t_stack : (Nat → Int32)) (H : Heap) (locs : List Loc) (ls : Array Slot), lv_has ls 5 [(0, .ref (qb 0))] → va_P D vwCl [(qb 0, .inr (1, oX1 qb b_now b_shutTill b_shutBy b_z b_waits (qa 0) (qt 0))), (qa 0, .inr (0, oX0 qa a_done)), (qt 0, .inr (4, oX4 qt t_taped)), (qa 2, .inl (cI, 60, .inl a_kinds)), (qa 3, .inl (cI, 60, .inl a_writers)), (qa 4, .inl (cI, 60, .inl a_minutes)), (qa 5, .inl (cI, 60, .inl a_matters)), (qa 6, .inl (cI, 60, .inl a_undoers)), (qa 7, .inl (cI, 60, .inl a_scores)), (qa 8, .inl (cI, 61, .inl a_sizes)), (qa 9, .inl (cI, 1220, .inl a_cells)), (qt 3, .inl (cI, 480, .inl t_codes)), (qt 4, .inl (cI, 8, .inl t_lengths)), (qt 5, .inl (cI, 5, .inl t_named)), (qt 6, .inl (cI, 60, .inl t_stack))] H → va_D A [(qb 0, .inr (1, oX1 qb b_now b_shutTill b_shutBy b_z b_waits (qa 0) (qt 0))), (qa 0, .inr (0, oX0 qa a_done)), (qt 0, .inr (4, oX4 qt t_taped)), (qa 2, .inl (cI, 60, .inl a_kinds)), (qa 3, .inl (cI, 60, .inl a_writers)), (qa 4, .inl (cI, 60, .inl a_minutes)), (qa 5, .inl (cI, 60, .inl a_matters)), (qa 6, .inl (cI, 60, .inl a_undoers)), (qa 7, .inl (cI, 60, .inl a_scores)), (qa 8, .inl (cI, 61, .inl a_sizes)), (qa 9, .inl (cI, 1220, .inl a_cells)), (qt 3, .inl (cI, 480, .inl t_codes)), (qt 4, .inl (cI, 8, .inl t_lengths)), (qt 5, .inl (cI, 5, .inl t_named)), (qt 6, .inl (cI, 60, .inl t_stack))] → va_S A s.heap H locs → f1_livesAs_112 n b_now b_shutTill b_shutBy t_codes t_lengths s0 b_z a_done a_kinds a_writers a_minutes a_matters a_undoers a_scores a_sizes a_cells t_named t_stack = some u → W p l e (rmq (5)) s m args below meth c H locs 0 0 Q (F0 m 112 ls [.int s0]) := by
    intro s0 b_z a_done a_kinds a_writers a_minutes a_matters a_undoers a_scores a_sizes a_cells t_named t_stack H locs ls hl hP hD hS h
    unfold f1_livesAs_112 at h
    refine lv_istore (lv' := [(4, .int s0), (0, .ref (qb 0))]) hx hb dX1_livesAs_112 hl (by decide) rfl (fun ls hl => ?_)
    refine lv_iload hx hb dX1_livesAs_114 (lv_at hl 0 rfl) ?_
    refine q_iflt hx hb 125 h dX1_livesAs_116 (by decide) (fun h => ?_) (fun h => ?_)
    · exact J125 b_z a_done a_kinds a_writers a_minutes a_matters a_undoers a_scores a_sizes a_cells t_named t_stack _ _ _ (lv_sub hl [1] rfl) hP hD hS h
    · refine lv_aload_n hx hb dX1_livesAs_119 rfl (lv_at hl 1 rfl) ?_
      refine lv_iload hx hb dX1_livesAs_120 (lv_at hl 0 rfl) ?_
      refine q_callV11 (cEok ad) (rest := []) (fun u => [(qb 0, .inr (1, oX1 qb b_now b_shutTill b_shutBy b_z b_waits (qa 0) (qt 0))), (qa 0, .inr (0, oX0 qa u.1)), (qt 0, .inr (4, oX4 qt t_taped)), (qa 2, .inl (cI, 60, .inl u.2.1)), (qa 3, .inl (cI, 60, .inl u.2.2.1)), (qa 4, .inl (cI, 60, .inl u.2.2.2.1)), (qa 5, .inl (cI, 60, .inl u.2.2.2.2.1)), (qa 6, .inl (cI, 60, .inl u.2.2.2.2.2.1)), (qa 7, .inl (cI, 60, .inl u.2.2.2.2.2.2.1)), (qa 8, .inl (cI, 61, .inl u.2.2.2.2.2.2.2.1)), (qa 9, .inl (cI, 1220, .inl u.2.2.2.2.2.2.2.2.1)), (qt 3, .inl (cI, 480, .inl t_codes)), (qt 4, .inl (cI, 8, .inl t_lengths)), (qt 5, .inl (cI, 5, .inl u.2.2.2.2.2.2.2.2.2.1)), (qt 6, .inl (cI, 60, .inl u.2.2.2.2.2.2.2.2.2.2))]) ⟨hx, hb, hml, hown, hts⟩ (fun u hu => c1_machineAnswers l D cI ad qb qa qt b_now b_shutTill b_shutBy b_z b_waits a_done t_taped a_kinds a_writers a_minutes a_matters a_undoers a_scores a_sizes a_cells t_codes t_lengths t_named t_stack s0 n u hu) (cwV 1 hts gX1_livesAs_X1_machineAnswers rfl rfl rfl hdX1_machineAnswers (rmq_ok (Nat.le_of_ble_eq_true rfl) (Nat.le_of_ble_eq_true rfl))) hK hEv hA hP hD hS [0, 1, 2, 3, 4, 5, 6, 7, 8, 9, 10, 11, 12, 13, 14] (by decide) rfl (fun _ => rfl) (va_recv hK hP (ci := 1) (q0 := 0) rfl rfl) rfl rfl hl.1 (Nat.le_of_ble_eq_true rfl) ⟨Nat.zero_le _, Nat.zero_le _⟩ h dX1_livesAs_122 (fun a_done_122 a_kinds_122 a_writers_122 a_minutes_122 a_matters_122 a_undoers_122 a_scores_122 a_sizes_122 a_cells_122 t_named_122 t_stack_122 H locs h hP hD hS => ?_)
      have hP : va_P D vwCl [(qb 0, .inr (1, oX1 qb b_now b_shutTill b_shutBy b_z b_waits (qa 0) (qt 0))), (qa 0, .inr (0, oX0 qa a_done_122)), (qt 0, .inr (4, oX4 qt t_taped)), (qa 2, .inl (cI, 60, .inl a_kinds_122)), (qa 3, .inl (cI, 60, .inl a_writers_122)), (qa 4, .inl (cI, 60, .inl a_minutes_122)), (qa 5, .inl (cI, 60, .inl a_matters_122)), (qa 6, .inl (cI, 60, .inl a_undoers_122)), (qa 7, .inl (cI, 60, .inl a_scores_122)), (qa 8, .inl (cI, 61, .inl a_sizes_122)), (qa 9, .inl (cI, 1220, .inl a_cells_122)), (qt 3, .inl (cI, 480, .inl t_codes)), (qt 4, .inl (cI, 8, .inl t_lengths)), (qt 5, .inl (cI, 5, .inl t_named_122)), (qt 6, .inl (cI, 60, .inl t_stack_122))] H := hP
      have hD : va_D A [(qb 0, .inr (1, oX1 qb b_now b_shutTill b_shutBy b_z b_waits (qa 0) (qt 0))), (qa 0, .inr (0, oX0 qa a_done_122)), (qt 0, .inr (4, oX4 qt t_taped)), (qa 2, .inl (cI, 60, .inl a_kinds_122)), (qa 3, .inl (cI, 60, .inl a_writers_122)), (qa 4, .inl (cI, 60, .inl a_minutes_122)), (qa 5, .inl (cI, 60, .inl a_matters_122)), (qa 6, .inl (cI, 60, .inl a_undoers_122)), (qa 7, .inl (cI, 60, .inl a_scores_122)), (qa 8, .inl (cI, 61, .inl a_sizes_122)), (qa 9, .inl (cI, 1220, .inl a_cells_122)), (qt 3, .inl (cI, 480, .inl t_codes)), (qt 4, .inl (cI, 8, .inl t_lengths)), (qt 5, .inl (cI, 5, .inl t_named_122)), (qt 6, .inl (cI, 60, .inl t_stack_122))] := hD
      exact J125 b_z a_done_122 a_kinds_122 a_writers_122 a_minutes_122 a_matters_122 a_undoers_122 a_scores_122 a_sizes_122 a_cells_122 t_named_122 t_stack_122 _ _ _ (lv_sub hl [1] rfl) hP hD hS h
  unfold f1_livesAs at h
  refine lv_aload_n hx hb dX1_livesAs_0 rfl (lv_at hl 0 rfl) ?_
  refine va_get (D := D) (ci := 1) (v := .ref (qt 0)) (C := RX1) (T := TX1) (N := 9) hx hb hts in1 hown hK hP 0 rfl rfl 8 (by decide) l32 (fun _ h9 => h9) rfl dX1_livesAs_1 ?_
  refine lv_iconst (v := (2 : Int32)) hx hb dX1_livesAs_4 (by decide) ?_
  refine lv_iload_n hx hb dX1_livesAs_5 rfl (lv_at hl 1 rfl) ?_
  refine lv_iadd hx hb dX1_livesAs_6 ?_
  refine q_callR (cEok ad) (rest := []) ⟨hx, hb, hml, hown, hts⟩ (fun r hr => c4_has l D cI ad qt t_taped t_lengths (((2 : Int32)) + x1) r hr) (cwV 1 hts gX1_livesAs_X4_has rfl rfl rfl hdX4_has (rmq_ok (Nat.le_of_ble_eq_true rfl) (Nat.le_of_ble_eq_true rfl))) hK hP hEv hS [2, 12] rfl (va_recv hK hP (ci := 4) (q0 := 2) rfl rfl) rfl rfl hl.1 (Nat.le_of_ble_eq_true rfl) ⟨Nat.zero_le _, Nat.zero_le _⟩ h dX1_livesAs_7 (fun t7 h => ?_)
  refine q_ifne hx hb 14 h dX1_livesAs_10 (by decide) (fun h => ?_) (fun h => ?_)
  · refine lv_aload_n hx hb dX1_livesAs_14 rfl (lv_at hl 0 rfl) ?_
    refine q_callW2 (cEok ad) (rest := []) (fun u => [(qb 0, .inr (1, oX1 qb b_now b_shutTill b_shutBy u.2 b_waits (qa 0) (qt 0)))]) (fun u => u.1) ⟨hx, hb, hml, hown, hts⟩ (fun u hu => c1_draws l D cI ad qb qa qt b_now b_shutTill b_shutBy b_z b_waits u hu) (cwV 0 hts gX1_livesAs_X1_draws rfl rfl rfl hdX1_draws (rmq_ok (Nat.le_of_ble_eq_true rfl) (Nat.le_of_ble_eq_true rfl))) hK hEv hA hP hD hS [0] (by decide) rfl (fun _ => rfl) (va_recv hK hP (ci := 1) (q0 := 0) rfl rfl) rfl rfl hl.1 (Nat.le_of_ble_eq_true rfl) ⟨Nat.zero_le _, Nat.zero_le _⟩ h dX1_livesAs_15 (fun t15 b_z_15 H locs h hP hD hS => ?_)
    have hP : va_P D vwCl [(qb 0, .inr (1, oX1 qb b_now b_shutTill b_shutBy b_z_15 b_waits (qa 0) (qt 0))), (qa 0, .inr (0, oX0 qa a_done)), (qt 0, .inr (4, oX4 qt t_taped)), (qa 2, .inl (cI, 60, .inl a_kinds)), (qa 3, .inl (cI, 60, .inl a_writers)), (qa 4, .inl (cI, 60, .inl a_minutes)), (qa 5, .inl (cI, 60, .inl a_matters)), (qa 6, .inl (cI, 60, .inl a_undoers)), (qa 7, .inl (cI, 60, .inl a_scores)), (qa 8, .inl (cI, 61, .inl a_sizes)), (qa 9, .inl (cI, 1220, .inl a_cells)), (qt 3, .inl (cI, 480, .inl t_codes)), (qt 4, .inl (cI, 8, .inl t_lengths)), (qt 5, .inl (cI, 5, .inl t_named)), (qt 6, .inl (cI, 60, .inl t_stack))] H := hP
    have hD : va_D A [(qb 0, .inr (1, oX1 qb b_now b_shutTill b_shutBy b_z_15 b_waits (qa 0) (qt 0))), (qa 0, .inr (0, oX0 qa a_done)), (qt 0, .inr (4, oX4 qt t_taped)), (qa 2, .inl (cI, 60, .inl a_kinds)), (qa 3, .inl (cI, 60, .inl a_writers)), (qa 4, .inl (cI, 60, .inl a_minutes)), (qa 5, .inl (cI, 60, .inl a_matters)), (qa 6, .inl (cI, 60, .inl a_undoers)), (qa 7, .inl (cI, 60, .inl a_scores)), (qa 8, .inl (cI, 61, .inl a_sizes)), (qa 9, .inl (cI, 1220, .inl a_cells)), (qt 3, .inl (cI, 480, .inl t_codes)), (qt 4, .inl (cI, 8, .inl t_lengths)), (qt 5, .inl (cI, 5, .inl t_named)), (qt 6, .inl (cI, 60, .inl t_stack))] := hD
    refine lv_bipush (v := (100 : Int32)) hx hb dX1_livesAs_18 (by decide) ?_
    refine q_irem hx hb h dX1_livesAs_20 (fun h => ?_)
    refine q_let h (fun x2_21 h => ?_)
    refine lv_istore_n (lv' := [(2, .int x2_21), (0, .ref (qb 0)), (1, .int x1)]) hx hb dX1_livesAs_21 rfl hl (by decide) rfl (fun ls hl => ?_)
    refine lv_aload_n hx hb dX1_livesAs_22 rfl (lv_at hl 1 rfl) ?_
    refine va_get (D := D) (ci := 1) (v := .ref (qa 0)) (C := RX1) (T := TX1) (N := 9) hx hb hts in1 hown hK hP 0 rfl rfl 7 (by decide) l25 (fun _ h9 => h9) rfl dX1_livesAs_23 ?_
    refine q_callR (cEok ad) (rest := []) ⟨hx, hb, hml, hown, hts⟩ (fun r hr => c0_hasRoom l D cI ad qa a_done r hr) (cwV 0 hts gX1_livesAs_X0_hasRoom rfl rfl rfl hdX0_hasRoom (rmq_ok (Nat.le_of_ble_eq_true rfl) (Nat.le_of_ble_eq_true rfl))) hK hP hEv hS [1] rfl (va_recv hK hP (ci := 0) (q0 := 1) rfl rfl) rfl rfl hl.1 (Nat.le_of_ble_eq_true rfl) ⟨Nat.zero_le _, Nat.zero_le _⟩ h dX1_livesAs_26 (fun t26 h => ?_)
    refine q_ifne hx hb 33 h dX1_livesAs_29 (by decide) (fun h => ?_) (fun h => ?_)
    · refine lv_aload_n hx hb dX1_livesAs_33 rfl (lv_at hl 1 rfl) ?_
      refine va_get (D := D) (ci := 1) (v := .ref (qt 0)) (C := RX1) (T := TX1) (N := 9) hx hb hts in1 hown hK hP 0 rfl rfl 8 (by decide) l32 (fun _ h9 => h9) rfl dX1_livesAs_34 ?_
      refine lv_aload_n hx hb dX1_livesAs_37 rfl (lv_at hl 1 rfl) ?_
      refine va_get (D := D) (ci := 1) (v := .ref (qa 0)) (C := RX1) (T := TX1) (N := 9) hx hb hts in1 hown hK hP 0 rfl rfl 7 (by decide) l25 (fun _ h9 => h9) rfl dX1_livesAs_38 ?_
      refine q_callR (cEok ad) (rest := [.ref (qt 0)]) ⟨hx, hb, hml, hown, hts⟩ (fun r hr => c0_pageSize l D cI ad qa a_done a_sizes r hr) (cwV 0 hts gX1_livesAs_X0_pageSize rfl rfl rfl hdX0_pageSize (rmq_ok (Nat.le_of_ble_eq_true rfl) (Nat.le_of_ble_eq_true rfl))) hK hP hEv hS [1, 9] rfl (va_recv hK hP (ci := 0) (q0 := 1) rfl rfl) rfl rfl hl.1 (Nat.le_of_ble_eq_true rfl) ⟨Nat.zero_le _, Nat.zero_le _⟩ h dX1_livesAs_41 (fun t41 h => ?_)
      refine lv_aload_n hx hb dX1_livesAs_44 rfl (lv_at hl 1 rfl) ?_
      refine va_get (D := D) (ci := 1) (v := .int b_now) (C := RX1) (T := TX1) (N := 9) hx hb hts in1 hown hK hP 0 rfl rfl 0 (by decide) l36 (fun _ h9 => h9) rfl dX1_livesAs_45 ?_
      refine lv_sipush (v := (1440 : Int32)) hx hb dX1_livesAs_48 (by decide) ?_
      refine q_irem hx hb h dX1_livesAs_51 (fun h => ?_)
      refine lv_aload_n hx hb dX1_livesAs_52 rfl (lv_at hl 1 rfl) ?_
      refine va_get (D := D) (ci := 1) (v := .ref (qa 0)) (C := RX1) (T := TX1) (N := 9) hx hb hts in1 hown hK hP 0 rfl rfl 7 (by decide) l25 (fun _ h9 => h9) rfl dX1_livesAs_53 ?_
      refine lv_iload_n hx hb dX1_livesAs_56 rfl (lv_at hl 2 rfl) ?_
      refine lv_aload_n hx hb dX1_livesAs_57 rfl (lv_at hl 1 rfl) ?_
      refine va_get (D := D) (ci := 1) (v := .int b_now) (C := RX1) (T := TX1) (N := 9) hx hb hts in1 hown hK hP 0 rfl rfl 0 (by decide) l36 (fun _ h9 => h9) rfl dX1_livesAs_58 ?_
      refine q_callR (cEok ad) (rest := [.int (b_now - b_now / ((1440 : Int32)) * ((1440 : Int32))), .int t41, .ref (qt 0)]) ⟨hx, hb, hml, hown, hts⟩ (fun r hr => c0_backsBy l D cI ad qa a_done a_kinds a_writers a_minutes x1 b_now n r hr) (cwV 2 hts gX1_livesAs_X0_backsBy rfl rfl rfl hdX0_backsBy (rmq_ok (Nat.le_of_ble_eq_true rfl) (Nat.le_of_ble_eq_true rfl))) hK hP hEv hS [1, 3, 4, 5] rfl (va_recv hK hP (ci := 0) (q0 := 1) rfl rfl) rfl rfl hl.1 (Nat.le_of_ble_eq_true rfl) ⟨Nat.zero_le _, Nat.zero_le _⟩ h dX1_livesAs_61 (fun t61 h => ?_)
      refine lv_aload_n hx hb dX1_livesAs_64 rfl (lv_at hl 1 rfl) ?_
      refine va_get (D := D) (ci := 1) (v := .ref (qa 0)) (C := RX1) (T := TX1) (N := 9) hx hb hts in1 hown hK hP 0 rfl rfl 7 (by decide) l25 (fun _ h9 => h9) rfl dX1_livesAs_65 ?_
      refine lv_iload_n hx hb dX1_livesAs_68 rfl (lv_at hl 2 rfl) ?_
      refine lv_aload_n hx hb dX1_livesAs_69 rfl (lv_at hl 1 rfl) ?_
      refine va_get (D := D) (ci := 1) (v := .ref (qa 0)) (C := RX1) (T := TX1) (N := 9) hx hb hts in1 hown hK hP 0 rfl rfl 7 (by decide) l25 (fun _ h9 => h9) rfl dX1_livesAs_70 ?_
      refine va_getN (D := D) (ci := 0) (v := .int a_done) (C := RX0) (T := TX0) (N := 10) hx hb hts in0 hown hK hP 1 rfl rfl 0 (by decide) l111 (fun _ h9 => h9) rfl dX1_livesAs_73 ?_
      refine q_callR (cEok ad) (rest := [.int t61, .int (b_now - b_now / ((1440 : Int32)) * ((1440 : Int32))), .int t41, .ref (qt 0)]) ⟨hx, hb, hml, hown, hts⟩ (fun r hr => c0_wordsBy l D cI ad qa a_done a_writers a_sizes a_cells x1 a_done n r hr) (cwV 2 hts gX1_livesAs_X0_wordsBy rfl rfl rfl hdX0_wordsBy (rmq_ok (Nat.le_of_ble_eq_true rfl) (Nat.le_of_ble_eq_true rfl))) hK hP hEv hS [1, 4, 9, 10] rfl (va_recv hK hP (ci := 0) (q0 := 1) rfl rfl) rfl rfl hl.1 (Nat.le_of_ble_eq_true rfl) ⟨Nat.zero_le _, Nat.zero_le _⟩ h dX1_livesAs_76 (fun t76 h => ?_)
      refine lv_iload_n hx hb dX1_livesAs_79 rfl (lv_at hl 0 rfl) ?_
      refine q_callV1 (cEok ad) (rest := []) (fun u => [(qt 0, .inr (4, oX4 qt t_taped)), (qt 5, .inl (cI, 5, .inl u))]) ⟨hx, hb, hml, hown, hts⟩ (fun u hu => c4_names l D cI ad qt t_taped t_named t41 (b_now - b_now / ((1440 : Int32)) * ((1440 : Int32))) t61 t76 x2_21 u hu) (cwV 5 hts gX1_livesAs_X4_names rfl rfl rfl hdX4_names (rmq_ok (Nat.le_of_ble_eq_true rfl) (Nat.le_of_ble_eq_true rfl))) hK hEv hA hP hD hS [2, 13] (by decide) rfl (fun _ => rfl) (va_recv hK hP (ci := 4) (q0 := 2) rfl rfl) rfl rfl hl.1 (Nat.le_of_ble_eq_true rfl) ⟨Nat.zero_le _, Nat.zero_le _⟩ h dX1_livesAs_80 (fun t_named_80 H locs h hP hD hS => ?_)
      have hP : va_P D vwCl [(qb 0, .inr (1, oX1 qb b_now b_shutTill b_shutBy b_z_15 b_waits (qa 0) (qt 0))), (qa 0, .inr (0, oX0 qa a_done)), (qt 0, .inr (4, oX4 qt t_taped)), (qa 2, .inl (cI, 60, .inl a_kinds)), (qa 3, .inl (cI, 60, .inl a_writers)), (qa 4, .inl (cI, 60, .inl a_minutes)), (qa 5, .inl (cI, 60, .inl a_matters)), (qa 6, .inl (cI, 60, .inl a_undoers)), (qa 7, .inl (cI, 60, .inl a_scores)), (qa 8, .inl (cI, 61, .inl a_sizes)), (qa 9, .inl (cI, 1220, .inl a_cells)), (qt 3, .inl (cI, 480, .inl t_codes)), (qt 4, .inl (cI, 8, .inl t_lengths)), (qt 5, .inl (cI, 5, .inl t_named_80)), (qt 6, .inl (cI, 60, .inl t_stack))] H := hP
      have hD : va_D A [(qb 0, .inr (1, oX1 qb b_now b_shutTill b_shutBy b_z_15 b_waits (qa 0) (qt 0))), (qa 0, .inr (0, oX0 qa a_done)), (qt 0, .inr (4, oX4 qt t_taped)), (qa 2, .inl (cI, 60, .inl a_kinds)), (qa 3, .inl (cI, 60, .inl a_writers)), (qa 4, .inl (cI, 60, .inl a_minutes)), (qa 5, .inl (cI, 60, .inl a_matters)), (qa 6, .inl (cI, 60, .inl a_undoers)), (qa 7, .inl (cI, 60, .inl a_scores)), (qa 8, .inl (cI, 61, .inl a_sizes)), (qa 9, .inl (cI, 1220, .inl a_cells)), (qt 3, .inl (cI, 480, .inl t_codes)), (qt 4, .inl (cI, 8, .inl t_lengths)), (qt 5, .inl (cI, 5, .inl t_named_80)), (qt 6, .inl (cI, 60, .inl t_stack))] := hD
      refine lv_aload_n hx hb dX1_livesAs_83 rfl (lv_at hl 1 rfl) ?_
      refine va_get (D := D) (ci := 1) (v := .ref (qt 0)) (C := RX1) (T := TX1) (N := 9) hx hb hts in1 hown hK hP 0 rfl rfl 8 (by decide) l32 (fun _ h9 => h9) rfl dX1_livesAs_84 ?_
      refine lv_iconst (v := (2 : Int32)) hx hb dX1_livesAs_87 (by decide) ?_
      refine lv_iload_n hx hb dX1_livesAs_88 rfl (lv_at hl 2 rfl) ?_
      refine lv_iadd hx hb dX1_livesAs_89 ?_
      refine q_callW2 (cEok ad) (rest := []) (fun u => [(qt 0, .inr (4, oX4 qt t_taped)), (qt 3, .inl (cI, 480, .inl t_codes)), (qt 4, .inl (cI, 8, .inl t_lengths)), (qt 5, .inl (cI, 5, .inl t_named_80)), (qt 6, .inl (cI, 60, .inl u.2))]) (fun u => u.1) ⟨hx, hb, hml, hown, hts⟩ (fun u hu => c4_worked l D cI ad qt t_taped t_codes t_lengths t_named_80 t_stack (((2 : Int32)) + x1) n u hu) (cwV 1 hts gX1_livesAs_X4_worked rfl rfl rfl hdX4_worked (rmq_ok (Nat.le_of_ble_eq_true rfl) (Nat.le_of_ble_eq_true rfl))) hK hEv hA hP hD hS [2, 11, 12, 13, 14] (by decide) rfl (fun _ => rfl) (va_recv hK hP (ci := 4) (q0 := 2) rfl rfl) rfl rfl hl.1 (Nat.le_of_ble_eq_true rfl) ⟨Nat.zero_le _, Nat.zero_le _⟩ h dX1_livesAs_90 (fun t90 t_stack_90 H locs h hP hD hS => ?_)
      have hP : va_P D vwCl [(qb 0, .inr (1, oX1 qb b_now b_shutTill b_shutBy b_z_15 b_waits (qa 0) (qt 0))), (qa 0, .inr (0, oX0 qa a_done)), (qt 0, .inr (4, oX4 qt t_taped)), (qa 2, .inl (cI, 60, .inl a_kinds)), (qa 3, .inl (cI, 60, .inl a_writers)), (qa 4, .inl (cI, 60, .inl a_minutes)), (qa 5, .inl (cI, 60, .inl a_matters)), (qa 6, .inl (cI, 60, .inl a_undoers)), (qa 7, .inl (cI, 60, .inl a_scores)), (qa 8, .inl (cI, 61, .inl a_sizes)), (qa 9, .inl (cI, 1220, .inl a_cells)), (qt 3, .inl (cI, 480, .inl t_codes)), (qt 4, .inl (cI, 8, .inl t_lengths)), (qt 5, .inl (cI, 5, .inl t_named_80)), (qt 6, .inl (cI, 60, .inl t_stack_90))] H := hP
      have hD : va_D A [(qb 0, .inr (1, oX1 qb b_now b_shutTill b_shutBy b_z_15 b_waits (qa 0) (qt 0))), (qa 0, .inr (0, oX0 qa a_done)), (qt 0, .inr (4, oX4 qt t_taped)), (qa 2, .inl (cI, 60, .inl a_kinds)), (qa 3, .inl (cI, 60, .inl a_writers)), (qa 4, .inl (cI, 60, .inl a_minutes)), (qa 5, .inl (cI, 60, .inl a_matters)), (qa 6, .inl (cI, 60, .inl a_undoers)), (qa 7, .inl (cI, 60, .inl a_scores)), (qa 8, .inl (cI, 61, .inl a_sizes)), (qa 9, .inl (cI, 1220, .inl a_cells)), (qt 3, .inl (cI, 480, .inl t_codes)), (qt 4, .inl (cI, 8, .inl t_lengths)), (qt 5, .inl (cI, 5, .inl t_named_80)), (qt 6, .inl (cI, 60, .inl t_stack_90))] := hD
      refine lv_istore_n (lv' := [(3, .int t90), (2, .int x2_21), (0, .ref (qb 0)), (1, .int x1)]) hx hb dX1_livesAs_93 rfl hl (by decide) rfl (fun ls hl => ?_)
      refine lv_aload_n hx hb dX1_livesAs_94 rfl (lv_at hl 2 rfl) ?_
      refine lv_iload_n hx hb dX1_livesAs_95 rfl (lv_at hl 3 rfl) ?_
      refine q_callW3 (cEok ad) (rest := []) (fun u => [(qb 0, .inr (1, oX1 qb b_now b_shutTill b_shutBy b_z_15 b_waits (qa 0) (qt 0))), (qa 0, .inr (0, oX0 qa a_done)), (qt 0, .inr (4, oX4 qt t_taped)), (qa 2, .inl (cI, 60, .inl a_kinds)), (qa 3, .inl (cI, 60, .inl a_writers)), (qa 4, .inl (cI, 60, .inl a_minutes)), (qa 8, .inl (cI, 61, .inl a_sizes)), (qt 3, .inl (cI, 480, .inl t_codes)), (qt 4, .inl (cI, 8, .inl t_lengths)), (qt 5, .inl (cI, 5, .inl u.2.1)), (qt 6, .inl (cI, 60, .inl u.2.2))]) (fun u => u.1) ⟨hx, hb, hml, hown, hts⟩ (fun u hu => c1_lets l D cI ad qb qa qt b_now b_shutTill b_shutBy b_z_15 b_waits a_done t_taped a_kinds a_writers a_minutes a_sizes t_codes t_lengths t_named_80 t_stack_90 x1 n u hu) (cwV 1 hts gX1_livesAs_X1_lets rfl rfl rfl hdX1_lets (rmq_ok (Nat.le_of_ble_eq_true rfl) (Nat.le_of_ble_eq_true rfl))) hK hEv hA hP hD hS [0, 1, 2, 3, 4, 5, 9, 11, 12, 13, 14] (by decide) rfl (fun _ => rfl) (va_recv hK hP (ci := 1) (q0 := 0) rfl rfl) rfl rfl hl.1 (Nat.le_of_ble_eq_true rfl) ⟨Nat.zero_le _, Nat.zero_le _⟩ h dX1_livesAs_96 (fun t96 t_named_96 t_stack_96 H locs h hP hD hS => ?_)
      have hP : va_P D vwCl [(qb 0, .inr (1, oX1 qb b_now b_shutTill b_shutBy b_z_15 b_waits (qa 0) (qt 0))), (qa 0, .inr (0, oX0 qa a_done)), (qt 0, .inr (4, oX4 qt t_taped)), (qa 2, .inl (cI, 60, .inl a_kinds)), (qa 3, .inl (cI, 60, .inl a_writers)), (qa 4, .inl (cI, 60, .inl a_minutes)), (qa 5, .inl (cI, 60, .inl a_matters)), (qa 6, .inl (cI, 60, .inl a_undoers)), (qa 7, .inl (cI, 60, .inl a_scores)), (qa 8, .inl (cI, 61, .inl a_sizes)), (qa 9, .inl (cI, 1220, .inl a_cells)), (qt 3, .inl (cI, 480, .inl t_codes)), (qt 4, .inl (cI, 8, .inl t_lengths)), (qt 5, .inl (cI, 5, .inl t_named_96)), (qt 6, .inl (cI, 60, .inl t_stack_96))] H := hP
      have hD : va_D A [(qb 0, .inr (1, oX1 qb b_now b_shutTill b_shutBy b_z_15 b_waits (qa 0) (qt 0))), (qa 0, .inr (0, oX0 qa a_done)), (qt 0, .inr (4, oX4 qt t_taped)), (qa 2, .inl (cI, 60, .inl a_kinds)), (qa 3, .inl (cI, 60, .inl a_writers)), (qa 4, .inl (cI, 60, .inl a_minutes)), (qa 5, .inl (cI, 60, .inl a_matters)), (qa 6, .inl (cI, 60, .inl a_undoers)), (qa 7, .inl (cI, 60, .inl a_scores)), (qa 8, .inl (cI, 61, .inl a_sizes)), (qa 9, .inl (cI, 1220, .inl a_cells)), (qt 3, .inl (cI, 480, .inl t_codes)), (qt 4, .inl (cI, 8, .inl t_lengths)), (qt 5, .inl (cI, 5, .inl t_named_96)), (qt 6, .inl (cI, 60, .inl t_stack_96))] := hD
      refine q_ifeq hx hb 111 h dX1_livesAs_99 (by decide) (fun h => ?_) (fun h => ?_)
      · refine lv_iconst (v := (-1 : Int32)) hx hb dX1_livesAs_111 (by decide) ?_
        exact J112 ((-1 : Int32)) b_z_15 a_done a_kinds a_writers a_minutes a_matters a_undoers a_scores a_sizes a_cells t_named_96 t_stack_96 _ _ _ (lv_sub hl [2] rfl) hP hD hS h
      · refine lv_aload_n hx hb dX1_livesAs_102 rfl (lv_at hl 2 rfl) ?_
        refine lv_iload_n hx hb dX1_livesAs_103 rfl (lv_at hl 3 rfl) ?_
        refine lv_iload_n hx hb dX1_livesAs_104 rfl (lv_at hl 0 rfl) ?_
        refine q_callW10 (cEok ad) (rest := []) (fun u => [(qb 0, .inr (1, oX1 qb b_now b_shutTill b_shutBy b_z_15 b_waits (qa 0) (qt 0))), (qa 0, .inr (0, oX0 qa u.2.1)), (qa 2, .inl (cI, 60, .inl u.2.2.1)), (qa 3, .inl (cI, 60, .inl u.2.2.2.1)), (qa 4, .inl (cI, 60, .inl u.2.2.2.2.1)), (qa 5, .inl (cI, 60, .inl u.2.2.2.2.2.1)), (qa 6, .inl (cI, 60, .inl u.2.2.2.2.2.2.1)), (qa 7, .inl (cI, 60, .inl u.2.2.2.2.2.2.2.1)), (qa 8, .inl (cI, 61, .inl u.2.2.2.2.2.2.2.2.1)), (qa 9, .inl (cI, 1220, .inl u.2.2.2.2.2.2.2.2.2))]) (fun u => u.1) ⟨hx, hb, hml, hown, hts⟩ (fun u hu => c1_goesWay l D cI ad qb qa qt b_now b_shutTill b_shutBy b_z_15 b_waits a_done a_kinds a_writers a_minutes a_matters a_undoers a_scores a_sizes a_cells x1 t90 n u hu) (cwV 2 hts gX1_livesAs_X1_goesWay rfl rfl rfl hdX1_goesWay (rmq_ok (Nat.le_of_ble_eq_true rfl) (Nat.le_of_ble_eq_true rfl))) hK hEv hA hP hD hS [0, 1, 3, 4, 5, 6, 7, 8, 9, 10] (by decide) rfl (fun _ => rfl) (va_recv hK hP (ci := 1) (q0 := 0) rfl rfl) rfl rfl hl.1 (Nat.le_of_ble_eq_true rfl) ⟨Nat.zero_le _, Nat.zero_le _⟩ h dX1_livesAs_105 (fun t105 a_done_105 a_kinds_105 a_writers_105 a_minutes_105 a_matters_105 a_undoers_105 a_scores_105 a_sizes_105 a_cells_105 H locs h hP hD hS => ?_)
        have hP : va_P D vwCl [(qb 0, .inr (1, oX1 qb b_now b_shutTill b_shutBy b_z_15 b_waits (qa 0) (qt 0))), (qa 0, .inr (0, oX0 qa a_done_105)), (qt 0, .inr (4, oX4 qt t_taped)), (qa 2, .inl (cI, 60, .inl a_kinds_105)), (qa 3, .inl (cI, 60, .inl a_writers_105)), (qa 4, .inl (cI, 60, .inl a_minutes_105)), (qa 5, .inl (cI, 60, .inl a_matters_105)), (qa 6, .inl (cI, 60, .inl a_undoers_105)), (qa 7, .inl (cI, 60, .inl a_scores_105)), (qa 8, .inl (cI, 61, .inl a_sizes_105)), (qa 9, .inl (cI, 1220, .inl a_cells_105)), (qt 3, .inl (cI, 480, .inl t_codes)), (qt 4, .inl (cI, 8, .inl t_lengths)), (qt 5, .inl (cI, 5, .inl t_named_96)), (qt 6, .inl (cI, 60, .inl t_stack_96))] H := hP
        have hD : va_D A [(qb 0, .inr (1, oX1 qb b_now b_shutTill b_shutBy b_z_15 b_waits (qa 0) (qt 0))), (qa 0, .inr (0, oX0 qa a_done_105)), (qt 0, .inr (4, oX4 qt t_taped)), (qa 2, .inl (cI, 60, .inl a_kinds_105)), (qa 3, .inl (cI, 60, .inl a_writers_105)), (qa 4, .inl (cI, 60, .inl a_minutes_105)), (qa 5, .inl (cI, 60, .inl a_matters_105)), (qa 6, .inl (cI, 60, .inl a_undoers_105)), (qa 7, .inl (cI, 60, .inl a_scores_105)), (qa 8, .inl (cI, 61, .inl a_sizes_105)), (qa 9, .inl (cI, 1220, .inl a_cells_105)), (qt 3, .inl (cI, 480, .inl t_codes)), (qt 4, .inl (cI, 8, .inl t_lengths)), (qt 5, .inl (cI, 5, .inl t_named_96)), (qt 6, .inl (cI, 60, .inl t_stack_96))] := hD
        refine lv_goto (tgt := 112) hx hb dX1_livesAs_108 (by decide) ?_
        exact J112 t105 b_z_15 a_done_105 a_kinds_105 a_writers_105 a_minutes_105 a_matters_105 a_undoers_105 a_scores_105 a_sizes_105 a_cells_105 t_named_96 t_stack_96 _ _ _ (lv_sub hl [2] rfl) hP hD hS h
    · exact hret (b_z_15, a_done, a_kinds, a_writers, a_minutes, a_matters, a_undoers, a_scores, a_sizes, a_cells, t_named, t_stack) _ _ _ _ h hP hD hS dX1_livesAs_32
  · exact hret (b_z, a_done, a_kinds, a_writers, a_minutes, a_matters, a_undoers, a_scores, a_sizes, a_cells, t_named, t_stack) _ _ _ _ h hP hD hS dX1_livesAs_13
set_option maxHeartbeats 4000000 in
set_option maxRecDepth 100000 in
theorem c6_live (l : Launch) (D : va_G) (cI : ClassId) (ad : Nat → Nat) (qp qb qa qt qr qv qh : Nat → Nat) (p_kept : Value) (p_timesKept b_now b_shutTill b_shutBy b_z b_waits a_done t_taped : Int32) (p_errors a_kinds a_writers a_minutes a_matters a_undoers a_scores a_sizes a_cells t_codes t_lengths t_named t_stack : Nat → Int32) (x1 : Int32) (n : Nat) (u : Int32 × (Nat → Int32) × (Nat → Nat → Int32)) (h : f6_live n x1 b_now b_shutTill b_shutBy b_z a_done p_errors a_kinds a_writers a_minutes a_matters a_undoers a_scores a_sizes a_cells t_codes t_lengths t_named t_stack = some u) : q_RW (cE ad) l yX6_live wsX6_live (rmq (6)) D cI [.ref (qp 0), .int x1] [(qp 0, .inr (6, oX6 qp (qb 0) (qr 0) (qv 0) (qh 0) p_kept p_timesKept)), (qb 0, .inr (1, oX1 qb b_now b_shutTill b_shutBy b_z b_waits (qa 0) (qt 0))), (qa 0, .inr (0, oX0 qa a_done)), (qt 0, .inr (4, oX4 qt t_taped)), (qp 5, .inl (cI, 7, .inl p_errors)), (qa 2, .inl (cI, 60, .inl a_kinds)), (qa 3, .inl (cI, 60, .inl a_writers)), (qa 4, .inl (cI, 60, .inl a_minutes)), (qa 5, .inl (cI, 60, .inl a_matters)), (qa 6, .inl (cI, 60, .inl a_undoers)), (qa 7, .inl (cI, 60, .inl a_scores)), (qa 8, .inl (cI, 61, .inl a_sizes)), (qa 9, .inl (cI, 1220, .inl a_cells)), (qt 3, .inl (cI, 480, .inl t_codes)), (qt 4, .inl (cI, 8, .inl t_lengths)), (qt 5, .inl (cI, 5, .inl t_named)), (qt 6, .inl (cI, 60, .inl t_stack))] [(qp 0, .inr (6, oX6 qp (qb 0) (qr 0) (qv 0) (qh 0) p_kept p_timesKept)), (qb 0, .inr (1, oX1 qb (u.2.1 0) b_shutTill b_shutBy (u.2.1 1) b_waits (qa 0) (qt 0))), (qa 0, .inr (0, oX0 qa (u.2.1 2))), (qt 0, .inr (4, oX4 qt t_taped)), (qp 5, .inl (cI, 7, .inl (u.2.2 0))), (qa 2, .inl (cI, 60, .inl (u.2.2 1))), (qa 3, .inl (cI, 60, .inl (u.2.2 2))), (qa 4, .inl (cI, 60, .inl (u.2.2 3))), (qa 5, .inl (cI, 60, .inl (u.2.2 4))), (qa 6, .inl (cI, 60, .inl (u.2.2 5))), (qa 7, .inl (cI, 60, .inl (u.2.2 6))), (qa 8, .inl (cI, 61, .inl (u.2.2 7))), (qa 9, .inl (cI, 1220, .inl (u.2.2 8))), (qt 3, .inl (cI, 480, .inl t_codes)), (qt 4, .inl (cI, 8, .inl t_lengths)), (qt 5, .inl (cI, 5, .inl (u.2.2 9))), (qt 6, .inl (cI, 60, .inl (u.2.2 10)))] u.1 := by
  refine q_startW (fun u : Int32 × (Nat → Int32) × (Nat → Nat → Int32) => [(qp 0, .inr (6, oX6 qp (qb 0) (qr 0) (qv 0) (qh 0) p_kept p_timesKept)), (qb 0, .inr (1, oX1 qb (u.2.1 0) b_shutTill b_shutBy (u.2.1 1) b_waits (qa 0) (qt 0))), (qa 0, .inr (0, oX0 qa (u.2.1 2))), (qt 0, .inr (4, oX4 qt t_taped)), (qp 5, .inl (cI, 7, .inl (u.2.2 0))), (qa 2, .inl (cI, 60, .inl (u.2.2 1))), (qa 3, .inl (cI, 60, .inl (u.2.2 2))), (qa 4, .inl (cI, 60, .inl (u.2.2 3))), (qa 5, .inl (cI, 60, .inl (u.2.2 4))), (qa 6, .inl (cI, 60, .inl (u.2.2 5))), (qa 7, .inl (cI, 60, .inl (u.2.2 6))), (qa 8, .inl (cI, 61, .inl (u.2.2 7))), (qa 9, .inl (cI, 1220, .inl (u.2.2 8))), (qt 3, .inl (cI, 480, .inl t_codes)), (qt 4, .inl (cI, 8, .inl t_lengths)), (qt 5, .inl (cI, 5, .inl (u.2.2 9))), (qt 6, .inl (cI, 60, .inl (u.2.2 10)))]) (fun u => u.1) (cc := cX6_live) (u := u) (y := yX6_live) (av := [.ref (qp 0), .int x1]) (maxL := 4) (ty := .int) (own := RX6) (by decide) rfl rfl (Nat.le_of_ble_eq_true rfl) rfl (fun p e s m args below meth c Q A hx hb hml hown hts hK hEv hA hret hP hD hS ls hl => ?_)
  have in0 : ∀ w ∈ wsX00, w ∈ wsX6_live := fun w h => List.mem_cons_of_mem _ (List.mem_append_left _ (List.mem_append_right _ (h)))
  have in1 : ∀ w ∈ wsX10, w ∈ wsX6_live := fun w h => List.mem_cons_of_mem _ (List.mem_append_left _ (List.mem_append_left _ (List.mem_append_right _ (h))))
  have in4 : ∀ w ∈ wsX40, w ∈ wsX6_live := fun w h => List.mem_cons_of_mem _ (List.mem_append_right _ (h))
  have in6 : ∀ w ∈ wsX60, w ∈ wsX6_live := fun w h => List.mem_cons_of_mem _ (List.mem_append_left _ (List.mem_append_left _ (List.mem_append_left _ (List.mem_append_right _ (h)))))
  have l10 := hts (.fieldLink RX6 10 "PageWars" "book" "LPageWars$Book;") (List.mem_of_getElem? (i := 1) rfl)
  have l45 : (Cond.fieldLinkNest RX6 45 "PageWars$Book" "now" "I" "PageWars").before args s = true := cE_f6_45 hEv
  have J40 : ∀ (kk40 : Nat) (x1 : Int32) (x2 : Int32) (b_now : Int32) (b_z : Int32) (a_done : Int32) (p_errors : (Nat → Int32)) (a_kinds : (Nat → Int32)) (a_writers : (Nat → Int32)) (a_minutes : (Nat → Int32)) (a_matters : (Nat → Int32)) (a_undoers : (Nat → Int32)) (a_scores : (Nat → Int32)) (a_sizes : (Nat → Int32)) (a_cells : (Nat → Int32)) (t_named : (Nat → Int32)) (t_stack : (Nat → Int32)) (H : Heap) (locs : List Loc) (ls : Array Slot), lv_has ls 4 [(0, .ref (qp 0)), (1, .int x1), (2, .int x2)] → va_P D vwCl [(qp 0, .inr (6, oX6 qp (qb 0) (qr 0) (qv 0) (qh 0) p_kept p_timesKept)), (qb 0, .inr (1, oX1 qb b_now b_shutTill b_shutBy b_z b_waits (qa 0) (qt 0))), (qa 0, .inr (0, oX0 qa a_done)), (qt 0, .inr (4, oX4 qt t_taped)), (qp 5, .inl (cI, 7, .inl p_errors)), (qa 2, .inl (cI, 60, .inl a_kinds)), (qa 3, .inl (cI, 60, .inl a_writers)), (qa 4, .inl (cI, 60, .inl a_minutes)), (qa 5, .inl (cI, 60, .inl a_matters)), (qa 6, .inl (cI, 60, .inl a_undoers)), (qa 7, .inl (cI, 60, .inl a_scores)), (qa 8, .inl (cI, 61, .inl a_sizes)), (qa 9, .inl (cI, 1220, .inl a_cells)), (qt 3, .inl (cI, 480, .inl t_codes)), (qt 4, .inl (cI, 8, .inl t_lengths)), (qt 5, .inl (cI, 5, .inl t_named)), (qt 6, .inl (cI, 60, .inl t_stack))] H → va_D A [(qp 0, .inr (6, oX6 qp (qb 0) (qr 0) (qv 0) (qh 0) p_kept p_timesKept)), (qb 0, .inr (1, oX1 qb b_now b_shutTill b_shutBy b_z b_waits (qa 0) (qt 0))), (qa 0, .inr (0, oX0 qa a_done)), (qt 0, .inr (4, oX4 qt t_taped)), (qp 5, .inl (cI, 7, .inl p_errors)), (qa 2, .inl (cI, 60, .inl a_kinds)), (qa 3, .inl (cI, 60, .inl a_writers)), (qa 4, .inl (cI, 60, .inl a_minutes)), (qa 5, .inl (cI, 60, .inl a_matters)), (qa 6, .inl (cI, 60, .inl a_undoers)), (qa 7, .inl (cI, 60, .inl a_scores)), (qa 8, .inl (cI, 61, .inl a_sizes)), (qa 9, .inl (cI, 1220, .inl a_cells)), (qt 3, .inl (cI, 480, .inl t_codes)), (qt 4, .inl (cI, 8, .inl t_lengths)), (qt 5, .inl (cI, 5, .inl t_named)), (qt 6, .inl (cI, 60, .inl t_stack))] → va_S A s.heap H locs → f6_live_40 n b_shutTill b_shutBy t_codes t_lengths kk40 x1 x2 b_now b_z a_done p_errors a_kinds a_writers a_minutes a_matters a_undoers a_scores a_sizes a_cells t_named t_stack = some u → W p l e (rmq (6)) s m args below meth c H locs 0 0 Q (F0 m 40 ls []) := by
    intro kk40
    induction kk40 with
    | zero => intro x1 x2 b_now b_z a_done p_errors a_kinds a_writers a_minutes a_matters a_undoers a_scores a_sizes a_cells t_named t_stack H locs ls hl hP hD hS h; exact nomatch (show (none : Option (Int32 × (Nat → Int32) × (Nat → Nat → Int32))) = some u from h)
    | succ kk40 ih40 =>
      have J47 : ∀ (kk47 : Nat) (x1 : Int32) (x2 : Int32) (x3 : Int32) (b_now : Int32) (b_z : Int32) (a_done : Int32) (p_errors : (Nat → Int32)) (a_kinds : (Nat → Int32)) (a_writers : (Nat → Int32)) (a_minutes : (Nat → Int32)) (a_matters : (Nat → Int32)) (a_undoers : (Nat → Int32)) (a_scores : (Nat → Int32)) (a_sizes : (Nat → Int32)) (a_cells : (Nat → Int32)) (t_named : (Nat → Int32)) (t_stack : (Nat → Int32)) (H : Heap) (locs : List Loc) (ls : Array Slot), lv_has ls 4 [(0, .ref (qp 0)), (1, .int x1), (2, .int x2), (3, .int x3)] → va_P D vwCl [(qp 0, .inr (6, oX6 qp (qb 0) (qr 0) (qv 0) (qh 0) p_kept p_timesKept)), (qb 0, .inr (1, oX1 qb b_now b_shutTill b_shutBy b_z b_waits (qa 0) (qt 0))), (qa 0, .inr (0, oX0 qa a_done)), (qt 0, .inr (4, oX4 qt t_taped)), (qp 5, .inl (cI, 7, .inl p_errors)), (qa 2, .inl (cI, 60, .inl a_kinds)), (qa 3, .inl (cI, 60, .inl a_writers)), (qa 4, .inl (cI, 60, .inl a_minutes)), (qa 5, .inl (cI, 60, .inl a_matters)), (qa 6, .inl (cI, 60, .inl a_undoers)), (qa 7, .inl (cI, 60, .inl a_scores)), (qa 8, .inl (cI, 61, .inl a_sizes)), (qa 9, .inl (cI, 1220, .inl a_cells)), (qt 3, .inl (cI, 480, .inl t_codes)), (qt 4, .inl (cI, 8, .inl t_lengths)), (qt 5, .inl (cI, 5, .inl t_named)), (qt 6, .inl (cI, 60, .inl t_stack))] H → va_D A [(qp 0, .inr (6, oX6 qp (qb 0) (qr 0) (qv 0) (qh 0) p_kept p_timesKept)), (qb 0, .inr (1, oX1 qb b_now b_shutTill b_shutBy b_z b_waits (qa 0) (qt 0))), (qa 0, .inr (0, oX0 qa a_done)), (qt 0, .inr (4, oX4 qt t_taped)), (qp 5, .inl (cI, 7, .inl p_errors)), (qa 2, .inl (cI, 60, .inl a_kinds)), (qa 3, .inl (cI, 60, .inl a_writers)), (qa 4, .inl (cI, 60, .inl a_minutes)), (qa 5, .inl (cI, 60, .inl a_matters)), (qa 6, .inl (cI, 60, .inl a_undoers)), (qa 7, .inl (cI, 60, .inl a_scores)), (qa 8, .inl (cI, 61, .inl a_sizes)), (qa 9, .inl (cI, 1220, .inl a_cells)), (qt 3, .inl (cI, 480, .inl t_codes)), (qt 4, .inl (cI, 8, .inl t_lengths)), (qt 5, .inl (cI, 5, .inl t_named)), (qt 6, .inl (cI, 60, .inl t_stack))] → va_S A s.heap H locs → f6_live_47 n b_shutTill b_shutBy t_codes t_lengths (f6_live_40 n b_shutTill b_shutBy t_codes t_lengths kk40) kk47 x1 x2 x3 b_now b_z a_done p_errors a_kinds a_writers a_minutes a_matters a_undoers a_scores a_sizes a_cells t_named t_stack = some u → W p l e (rmq (6)) s m args below meth c H locs 0 0 Q (F0 m 47 ls []) := by
        intro kk47
        induction kk47 with
        | zero => intro x1 x2 x3 b_now b_z a_done p_errors a_kinds a_writers a_minutes a_matters a_undoers a_scores a_sizes a_cells t_named t_stack H locs ls hl hP hD hS h; exact nomatch (show (none : Option (Int32 × (Nat → Int32) × (Nat → Nat → Int32))) = some u from h)
        | succ kk47 ih47 =>
          intro x1 x2 x3 b_now b_z a_done p_errors a_kinds a_writers a_minutes a_matters a_undoers a_scores a_sizes a_cells t_named t_stack H locs ls hl hP hD hS h
          rw [f6_live_47.eq_2] at h
          refine lv_iload_n hx hb dX6_live_47 rfl (lv_at hl 3 rfl) ?_
          refine lv_bipush (v := (6 : Int32)) hx hb dX6_live_48 (by decide) ?_
          refine q_cge hx hb 67 h dX6_live_50 (by decide) (fun h => ?_) (fun h => ?_)
          · refine lv_aload_n hx hb dX6_live_67 rfl (lv_at hl 0 rfl) ?_
            refine va_get (D := D) (ci := 6) (v := .ref (qb 0)) (C := RX6) (T := TX6) (N := 7) hx hb hts in6 hown hK hP 0 rfl rfl 0 (by decide) l10 (fun _ h9 => h9) rfl dX6_live_68 ?_
            refine lv_dup hx hb dX6_live_71 rfl ?_
            refine va_getN (D := D) (ci := 1) (v := .int b_now) (C := RX1) (T := TX1) (N := 9) hx hb hts in1 hown hK hP 1 rfl rfl 0 (by decide) l45 (fun _ h9 => h9) rfl dX6_live_72 ?_
            refine lv_iconst (v := (1 : Int32)) hx hb dX6_live_75 (by decide) ?_
            refine lv_iadd hx hb dX6_live_76 ?_
            refine q_let h (fun b_now_77 h => ?_)
            refine va_putN (D := D) (ci := 1) (v := .int b_now_77) (ty := .int) (C := RX1) (T := TX1) (N := 9) hx hb hts in1 tyX1 tyX1_ok nmX1 hown hK hP hD hS 1 rfl rfl 0 (by decide) l45 (fun _ h9 => h9) rfl (by decide +kernel) rfl rfl (Nat.le_of_ble_eq_true rfl) dX6_live_77 (fun H locs hP hD hS => ?_)
            have hP : va_P D vwCl [(qp 0, .inr (6, oX6 qp (qb 0) (qr 0) (qv 0) (qh 0) p_kept p_timesKept)), (qb 0, .inr (1, oX1 qb b_now_77 b_shutTill b_shutBy b_z b_waits (qa 0) (qt 0))), (qa 0, .inr (0, oX0 qa a_done)), (qt 0, .inr (4, oX4 qt t_taped)), (qp 5, .inl (cI, 7, .inl p_errors)), (qa 2, .inl (cI, 60, .inl a_kinds)), (qa 3, .inl (cI, 60, .inl a_writers)), (qa 4, .inl (cI, 60, .inl a_minutes)), (qa 5, .inl (cI, 60, .inl a_matters)), (qa 6, .inl (cI, 60, .inl a_undoers)), (qa 7, .inl (cI, 60, .inl a_scores)), (qa 8, .inl (cI, 61, .inl a_sizes)), (qa 9, .inl (cI, 1220, .inl a_cells)), (qt 3, .inl (cI, 480, .inl t_codes)), (qt 4, .inl (cI, 8, .inl t_lengths)), (qt 5, .inl (cI, 5, .inl t_named)), (qt 6, .inl (cI, 60, .inl t_stack))] H := hP
            have hD : va_D A [(qp 0, .inr (6, oX6 qp (qb 0) (qr 0) (qv 0) (qh 0) p_kept p_timesKept)), (qb 0, .inr (1, oX1 qb b_now_77 b_shutTill b_shutBy b_z b_waits (qa 0) (qt 0))), (qa 0, .inr (0, oX0 qa a_done)), (qt 0, .inr (4, oX4 qt t_taped)), (qp 5, .inl (cI, 7, .inl p_errors)), (qa 2, .inl (cI, 60, .inl a_kinds)), (qa 3, .inl (cI, 60, .inl a_writers)), (qa 4, .inl (cI, 60, .inl a_minutes)), (qa 5, .inl (cI, 60, .inl a_matters)), (qa 6, .inl (cI, 60, .inl a_undoers)), (qa 7, .inl (cI, 60, .inl a_scores)), (qa 8, .inl (cI, 61, .inl a_sizes)), (qa 9, .inl (cI, 1220, .inl a_cells)), (qt 3, .inl (cI, 480, .inl t_codes)), (qt 4, .inl (cI, 8, .inl t_lengths)), (qt 5, .inl (cI, 5, .inl t_named)), (qt 6, .inl (cI, 60, .inl t_stack))] := hD
            refine q_iinc (fun v => [(2, .int v), (0, .ref (qp 0)), (1, .int x1), (3, .int x3)]) hx hb h dX6_live_80 (by decide) hl (k := 2) rfl (by decide) (fun _ => rfl) (fun x2_80 ls h hl => ?_)
            refine lv_goto (tgt := 40) hx hb dX6_live_83 (by decide) ?_
            exact ih40 x1 x2_80 b_now_77 b_z a_done p_errors a_kinds a_writers a_minutes a_matters a_undoers a_scores a_sizes a_cells t_named t_stack _ _ _ (lv_sub hl [1, 2, 0] rfl) hP hD hS h
          · refine lv_aload_n hx hb dX6_live_53 rfl (lv_at hl 0 rfl) ?_
            refine va_get (D := D) (ci := 6) (v := .ref (qb 0)) (C := RX6) (T := TX6) (N := 7) hx hb hts in6 hown hK hP 0 rfl rfl 0 (by decide) l10 (fun _ h9 => h9) rfl dX6_live_54 ?_
            refine lv_iload_n hx hb dX6_live_57 rfl (lv_at hl 3 rfl) ?_
            refine q_callV12 (cEok ad) (rest := []) (fun u => [(qb 0, .inr (1, oX1 qb b_now b_shutTill b_shutBy u.1 b_waits (qa 0) (qt 0))), (qa 0, .inr (0, oX0 qa u.2.1)), (qt 0, .inr (4, oX4 qt t_taped)), (qa 2, .inl (cI, 60, .inl u.2.2.1)), (qa 3, .inl (cI, 60, .inl u.2.2.2.1)), (qa 4, .inl (cI, 60, .inl u.2.2.2.2.1)), (qa 5, .inl (cI, 60, .inl u.2.2.2.2.2.1)), (qa 6, .inl (cI, 60, .inl u.2.2.2.2.2.2.1)), (qa 7, .inl (cI, 60, .inl u.2.2.2.2.2.2.2.1)), (qa 8, .inl (cI, 61, .inl u.2.2.2.2.2.2.2.2.1)), (qa 9, .inl (cI, 1220, .inl u.2.2.2.2.2.2.2.2.2.1)), (qt 3, .inl (cI, 480, .inl t_codes)), (qt 4, .inl (cI, 8, .inl t_lengths)), (qt 5, .inl (cI, 5, .inl u.2.2.2.2.2.2.2.2.2.2.1)), (qt 6, .inl (cI, 60, .inl u.2.2.2.2.2.2.2.2.2.2.2))]) ⟨hx, hb, hml, hown, hts⟩ (fun u hu => c1_livesAs l D cI ad qb qa qt b_now b_shutTill b_shutBy b_z b_waits a_done t_taped a_kinds a_writers a_minutes a_matters a_undoers a_scores a_sizes a_cells t_codes t_lengths t_named t_stack x3 n u hu) (cwV 1 hts gX6_live_X1_livesAs rfl rfl rfl hdX1_livesAs (rmq_ok (Nat.le_of_ble_eq_true rfl) (Nat.le_of_ble_eq_true rfl))) hK hEv hA hP hD hS [1, 2, 3, 5, 6, 7, 8, 9, 10, 11, 12, 13, 14, 15, 16] (by decide) rfl (fun _ => rfl) (va_recv hK hP (ci := 1) (q0 := 1) rfl rfl) rfl rfl hl.1 (Nat.le_of_ble_eq_true rfl) ⟨Nat.zero_le _, Nat.zero_le _⟩ h dX6_live_58 (fun b_z_58 a_done_58 a_kinds_58 a_writers_58 a_minutes_58 a_matters_58 a_undoers_58 a_scores_58 a_sizes_58 a_cells_58 t_named_58 t_stack_58 H locs h hP hD hS => ?_)
            have hP : va_P D vwCl [(qp 0, .inr (6, oX6 qp (qb 0) (qr 0) (qv 0) (qh 0) p_kept p_timesKept)), (qb 0, .inr (1, oX1 qb b_now b_shutTill b_shutBy b_z_58 b_waits (qa 0) (qt 0))), (qa 0, .inr (0, oX0 qa a_done_58)), (qt 0, .inr (4, oX4 qt t_taped)), (qp 5, .inl (cI, 7, .inl p_errors)), (qa 2, .inl (cI, 60, .inl a_kinds_58)), (qa 3, .inl (cI, 60, .inl a_writers_58)), (qa 4, .inl (cI, 60, .inl a_minutes_58)), (qa 5, .inl (cI, 60, .inl a_matters_58)), (qa 6, .inl (cI, 60, .inl a_undoers_58)), (qa 7, .inl (cI, 60, .inl a_scores_58)), (qa 8, .inl (cI, 61, .inl a_sizes_58)), (qa 9, .inl (cI, 1220, .inl a_cells_58)), (qt 3, .inl (cI, 480, .inl t_codes)), (qt 4, .inl (cI, 8, .inl t_lengths)), (qt 5, .inl (cI, 5, .inl t_named_58)), (qt 6, .inl (cI, 60, .inl t_stack_58))] H := hP
            have hD : va_D A [(qp 0, .inr (6, oX6 qp (qb 0) (qr 0) (qv 0) (qh 0) p_kept p_timesKept)), (qb 0, .inr (1, oX1 qb b_now b_shutTill b_shutBy b_z_58 b_waits (qa 0) (qt 0))), (qa 0, .inr (0, oX0 qa a_done_58)), (qt 0, .inr (4, oX4 qt t_taped)), (qp 5, .inl (cI, 7, .inl p_errors)), (qa 2, .inl (cI, 60, .inl a_kinds_58)), (qa 3, .inl (cI, 60, .inl a_writers_58)), (qa 4, .inl (cI, 60, .inl a_minutes_58)), (qa 5, .inl (cI, 60, .inl a_matters_58)), (qa 6, .inl (cI, 60, .inl a_undoers_58)), (qa 7, .inl (cI, 60, .inl a_scores_58)), (qa 8, .inl (cI, 61, .inl a_sizes_58)), (qa 9, .inl (cI, 1220, .inl a_cells_58)), (qt 3, .inl (cI, 480, .inl t_codes)), (qt 4, .inl (cI, 8, .inl t_lengths)), (qt 5, .inl (cI, 5, .inl t_named_58)), (qt 6, .inl (cI, 60, .inl t_stack_58))] := hD
            refine q_iinc (fun v => [(3, .int v), (0, .ref (qp 0)), (1, .int x1), (2, .int x2)]) hx hb h dX6_live_61 (by decide) hl (k := 3) rfl (by decide) (fun _ => rfl) (fun x3_61 ls h hl => ?_)
            refine lv_goto (tgt := 47) hx hb dX6_live_64 (by decide) ?_
            exact ih47 x1 x2 x3_61 b_now b_z_58 a_done_58 p_errors a_kinds_58 a_writers_58 a_minutes_58 a_matters_58 a_undoers_58 a_scores_58 a_sizes_58 a_cells_58 t_named_58 t_stack_58 _ _ _ (lv_sub hl [1, 2, 3, 0] rfl) hP hD hS h
      intro x1 x2 b_now b_z a_done p_errors a_kinds a_writers a_minutes a_matters a_undoers a_scores a_sizes a_cells t_named t_stack H locs ls hl hP hD hS h
      rw [f6_live_40.eq_2] at h
      refine lv_iload_n hx hb dX6_live_40 rfl (lv_at hl 2 rfl) ?_
      refine lv_iload_n hx hb dX6_live_41 rfl (lv_at hl 1 rfl) ?_
      refine q_cge hx hb 86 h dX6_live_42 (by decide) (fun h => ?_) (fun h => ?_)
      · refine lv_aload_n hx hb dX6_live_86 rfl (lv_at hl 0 rfl) ?_
        refine va_get (D := D) (ci := 6) (v := .ref (qb 0)) (C := RX6) (T := TX6) (N := 7) hx hb hts in6 hown hK hP 0 rfl rfl 0 (by decide) l10 (fun _ h9 => h9) rfl dX6_live_87 ?_
        refine va_getN (D := D) (ci := 1) (v := .int b_now) (C := RX1) (T := TX1) (N := 9) hx hb hts in1 hown hK hP 1 rfl rfl 0 (by decide) l45 (fun _ h9 => h9) rfl dX6_live_90 ?_
        exact hret (b_now, fun k => ([b_now, b_z, a_done] : List Int32).getD k 0, fun k => ([p_errors, a_kinds, a_writers, a_minutes, a_matters, a_undoers, a_scores, a_sizes, a_cells, t_named, t_stack] : List (Nat → Int32)).getD k (fun _ => 0)) _ _ _ _ (vp_nar_int _) h hP hD hS dX6_live_93
      · refine lv_iconst (v := (0 : Int32)) hx hb dX6_live_45 (by decide) ?_
        refine lv_istore_n (lv' := [(3, .int ((0 : Int32))), (0, .ref (qp 0)), (1, .int x1), (2, .int x2)]) hx hb dX6_live_46 rfl hl (by decide) rfl (fun ls hl => ?_)
        exact J47 n x1 x2 ((0 : Int32)) b_now b_z a_done p_errors a_kinds a_writers a_minutes a_matters a_undoers a_scores a_sizes a_cells t_named t_stack _ _ _ (lv_sub hl [1, 2, 3, 0] rfl) hP hD hS h
  have J11 : ∀ (b_now : Int32) (b_z : Int32) (a_done : Int32) (p_errors : (Nat → Int32)) (a_kinds : (Nat → Int32)) (a_writers : (Nat → Int32)) (a_minutes : (Nat → Int32)) (a_matters : (Nat → Int32)) (a_undoers : (Nat → Int32)) (a_scores : (Nat → Int32)) (a_sizes : (Nat → Int32)) (a_cells : (Nat → Int32)) (t_named : (Nat → Int32)) (t_stack : (Nat → Int32)) (H : Heap) (locs : List Loc) (ls : Array Slot), lv_has ls 4 [(0, .ref (qp 0))] → va_P D vwCl [(qp 0, .inr (6, oX6 qp (qb 0) (qr 0) (qv 0) (qh 0) p_kept p_timesKept)), (qb 0, .inr (1, oX1 qb b_now b_shutTill b_shutBy b_z b_waits (qa 0) (qt 0))), (qa 0, .inr (0, oX0 qa a_done)), (qt 0, .inr (4, oX4 qt t_taped)), (qp 5, .inl (cI, 7, .inl p_errors)), (qa 2, .inl (cI, 60, .inl a_kinds)), (qa 3, .inl (cI, 60, .inl a_writers)), (qa 4, .inl (cI, 60, .inl a_minutes)), (qa 5, .inl (cI, 60, .inl a_matters)), (qa 6, .inl (cI, 60, .inl a_undoers)), (qa 7, .inl (cI, 60, .inl a_scores)), (qa 8, .inl (cI, 61, .inl a_sizes)), (qa 9, .inl (cI, 1220, .inl a_cells)), (qt 3, .inl (cI, 480, .inl t_codes)), (qt 4, .inl (cI, 8, .inl t_lengths)), (qt 5, .inl (cI, 5, .inl t_named)), (qt 6, .inl (cI, 60, .inl t_stack))] H → va_D A [(qp 0, .inr (6, oX6 qp (qb 0) (qr 0) (qv 0) (qh 0) p_kept p_timesKept)), (qb 0, .inr (1, oX1 qb b_now b_shutTill b_shutBy b_z b_waits (qa 0) (qt 0))), (qa 0, .inr (0, oX0 qa a_done)), (qt 0, .inr (4, oX4 qt t_taped)), (qp 5, .inl (cI, 7, .inl p_errors)), (qa 2, .inl (cI, 60, .inl a_kinds)), (qa 3, .inl (cI, 60, .inl a_writers)), (qa 4, .inl (cI, 60, .inl a_minutes)), (qa 5, .inl (cI, 60, .inl a_matters)), (qa 6, .inl (cI, 60, .inl a_undoers)), (qa 7, .inl (cI, 60, .inl a_scores)), (qa 8, .inl (cI, 61, .inl a_sizes)), (qa 9, .inl (cI, 1220, .inl a_cells)), (qt 3, .inl (cI, 480, .inl t_codes)), (qt 4, .inl (cI, 8, .inl t_lengths)), (qt 5, .inl (cI, 5, .inl t_named)), (qt 6, .inl (cI, 60, .inl t_stack))] → va_S A s.heap H locs → f6_live_11 n b_shutTill b_shutBy t_codes t_lengths b_now b_z a_done p_errors a_kinds a_writers a_minutes a_matters a_undoers a_scores a_sizes a_cells t_named t_stack = some u → W p l e (rmq (6)) s m args below meth c H locs 0 0 Q (F0 m 11 ls []) := by
    intro b_now b_z a_done p_errors a_kinds a_writers a_minutes a_matters a_undoers a_scores a_sizes a_cells t_named t_stack H locs ls hl hP hD hS h
    unfold f6_live_11 at h
    refine lv_aload_n hx hb dX6_live_11 rfl (lv_at hl 0 rfl) ?_
    refine lv_iconst (v := (1 : Int32)) hx hb dX6_live_12 (by decide) ?_
    refine q_callW2 (cEok ad) (rest := []) (fun u => [(qp 0, .inr (6, oX6 qp (qb 0) (qr 0) (qv 0) (qh 0) p_kept p_timesKept)), (qp 5, .inl (cI, 7, .inl u.2))]) (fun u => u.1) ⟨hx, hb, hml, hown, hts⟩ (fun u hu => c6_error l D cI ad qp qb qr qv qh p_kept p_timesKept p_errors ((1 : Int32)) u hu) (cwV 1 hts gX6_live_X6_error rfl rfl rfl hdX6_error (rmq_ok (Nat.le_of_ble_eq_true rfl) (Nat.le_of_ble_eq_true rfl))) hK hEv hA hP hD hS [0, 4] (by decide) rfl (fun _ => rfl) (va_recv hK hP (ci := 6) (q0 := 0) rfl rfl) rfl rfl hl.1 (Nat.le_of_ble_eq_true rfl) ⟨Nat.zero_le _, Nat.zero_le _⟩ h dX6_live_13 (fun t13 p_errors_13 H locs h hP hD hS => ?_)
    have hP : va_P D vwCl [(qp 0, .inr (6, oX6 qp (qb 0) (qr 0) (qv 0) (qh 0) p_kept p_timesKept)), (qb 0, .inr (1, oX1 qb b_now b_shutTill b_shutBy b_z b_waits (qa 0) (qt 0))), (qa 0, .inr (0, oX0 qa a_done)), (qt 0, .inr (4, oX4 qt t_taped)), (qp 5, .inl (cI, 7, .inl p_errors_13)), (qa 2, .inl (cI, 60, .inl a_kinds)), (qa 3, .inl (cI, 60, .inl a_writers)), (qa 4, .inl (cI, 60, .inl a_minutes)), (qa 5, .inl (cI, 60, .inl a_matters)), (qa 6, .inl (cI, 60, .inl a_undoers)), (qa 7, .inl (cI, 60, .inl a_scores)), (qa 8, .inl (cI, 61, .inl a_sizes)), (qa 9, .inl (cI, 1220, .inl a_cells)), (qt 3, .inl (cI, 480, .inl t_codes)), (qt 4, .inl (cI, 8, .inl t_lengths)), (qt 5, .inl (cI, 5, .inl t_named)), (qt 6, .inl (cI, 60, .inl t_stack))] H := hP
    have hD : va_D A [(qp 0, .inr (6, oX6 qp (qb 0) (qr 0) (qv 0) (qh 0) p_kept p_timesKept)), (qb 0, .inr (1, oX1 qb b_now b_shutTill b_shutBy b_z b_waits (qa 0) (qt 0))), (qa 0, .inr (0, oX0 qa a_done)), (qt 0, .inr (4, oX4 qt t_taped)), (qp 5, .inl (cI, 7, .inl p_errors_13)), (qa 2, .inl (cI, 60, .inl a_kinds)), (qa 3, .inl (cI, 60, .inl a_writers)), (qa 4, .inl (cI, 60, .inl a_minutes)), (qa 5, .inl (cI, 60, .inl a_matters)), (qa 6, .inl (cI, 60, .inl a_undoers)), (qa 7, .inl (cI, 60, .inl a_scores)), (qa 8, .inl (cI, 61, .inl a_sizes)), (qa 9, .inl (cI, 1220, .inl a_cells)), (qt 3, .inl (cI, 480, .inl t_codes)), (qt 4, .inl (cI, 8, .inl t_lengths)), (qt 5, .inl (cI, 5, .inl t_named)), (qt 6, .inl (cI, 60, .inl t_stack))] := hD
    exact hret (t13, fun k => ([b_now, b_z, a_done] : List Int32).getD k 0, fun k => ([p_errors_13, a_kinds, a_writers, a_minutes, a_matters, a_undoers, a_scores, a_sizes, a_cells, t_named, t_stack] : List (Nat → Int32)).getD k (fun _ => 0)) _ _ _ _ (vp_nar_int _) h hP hD hS dX6_live_16
  unfold f6_live at h
  refine lv_iload_n hx hb dX6_live_0 rfl (lv_at hl 1 rfl) ?_
  refine lv_iconst (v := (1 : Int32)) hx hb dX6_live_1 (by decide) ?_
  refine q_clt hx hb 11 h dX6_live_2 (by decide) (fun h => ?_) (fun h => ?_)
  · exact J11 b_now b_z a_done p_errors a_kinds a_writers a_minutes a_matters a_undoers a_scores a_sizes a_cells t_named t_stack _ _ _ (lv_sub hl [0] rfl) hP hD hS h
  · refine lv_iload_n hx hb dX6_live_5 rfl (lv_at hl 1 rfl) ?_
    refine lv_bipush (v := (60 : Int32)) hx hb dX6_live_6 (by decide) ?_
    refine q_cle hx hb 17 h dX6_live_8 (by decide) (fun h => ?_) (fun h => ?_)
    · refine lv_aload_n hx hb dX6_live_17 rfl (lv_at hl 0 rfl) ?_
      refine va_get (D := D) (ci := 6) (v := .ref (qb 0)) (C := RX6) (T := TX6) (N := 7) hx hb hts in6 hown hK hP 0 rfl rfl 0 (by decide) l10 (fun _ h9 => h9) rfl dX6_live_18 ?_
      refine va_getN (D := D) (ci := 1) (v := .int b_now) (C := RX1) (T := TX1) (N := 9) hx hb hts in1 hown hK hP 1 rfl rfl 0 (by decide) l45 (fun _ h9 => h9) rfl dX6_live_21 ?_
      refine lv_sipush (v := (29999 : Int32)) hx hb dX6_live_24 (by decide) ?_
      refine lv_iload_n hx hb dX6_live_27 rfl (lv_at hl 1 rfl) ?_
      refine lv_isub hx hb dX6_live_28 ?_
      refine q_cle hx hb 38 h dX6_live_29 (by decide) (fun h => ?_) (fun h => ?_)
      · refine lv_iconst (v := (0 : Int32)) hx hb dX6_live_38 (by decide) ?_
        refine lv_istore_n (lv' := [(2, .int ((0 : Int32))), (0, .ref (qp 0)), (1, .int x1)]) hx hb dX6_live_39 rfl hl (by decide) rfl (fun ls hl => ?_)
        exact J40 n x1 ((0 : Int32)) b_now b_z a_done p_errors a_kinds a_writers a_minutes a_matters a_undoers a_scores a_sizes a_cells t_named t_stack _ _ _ (lv_sub hl [1, 2, 0] rfl) hP hD hS h
      · refine lv_aload_n hx hb dX6_live_32 rfl (lv_at hl 0 rfl) ?_
        refine lv_iconst (v := (3 : Int32)) hx hb dX6_live_33 (by decide) ?_
        refine q_callW2 (cEok ad) (rest := []) (fun u => [(qp 0, .inr (6, oX6 qp (qb 0) (qr 0) (qv 0) (qh 0) p_kept p_timesKept)), (qp 5, .inl (cI, 7, .inl u.2))]) (fun u => u.1) ⟨hx, hb, hml, hown, hts⟩ (fun u hu => c6_error l D cI ad qp qb qr qv qh p_kept p_timesKept p_errors ((3 : Int32)) u hu) (cwV 1 hts gX6_live_X6_error rfl rfl rfl hdX6_error (rmq_ok (Nat.le_of_ble_eq_true rfl) (Nat.le_of_ble_eq_true rfl))) hK hEv hA hP hD hS [0, 4] (by decide) rfl (fun _ => rfl) (va_recv hK hP (ci := 6) (q0 := 0) rfl rfl) rfl rfl hl.1 (Nat.le_of_ble_eq_true rfl) ⟨Nat.zero_le _, Nat.zero_le _⟩ h dX6_live_34 (fun t34 p_errors_34 H locs h hP hD hS => ?_)
        have hP : va_P D vwCl [(qp 0, .inr (6, oX6 qp (qb 0) (qr 0) (qv 0) (qh 0) p_kept p_timesKept)), (qb 0, .inr (1, oX1 qb b_now b_shutTill b_shutBy b_z b_waits (qa 0) (qt 0))), (qa 0, .inr (0, oX0 qa a_done)), (qt 0, .inr (4, oX4 qt t_taped)), (qp 5, .inl (cI, 7, .inl p_errors_34)), (qa 2, .inl (cI, 60, .inl a_kinds)), (qa 3, .inl (cI, 60, .inl a_writers)), (qa 4, .inl (cI, 60, .inl a_minutes)), (qa 5, .inl (cI, 60, .inl a_matters)), (qa 6, .inl (cI, 60, .inl a_undoers)), (qa 7, .inl (cI, 60, .inl a_scores)), (qa 8, .inl (cI, 61, .inl a_sizes)), (qa 9, .inl (cI, 1220, .inl a_cells)), (qt 3, .inl (cI, 480, .inl t_codes)), (qt 4, .inl (cI, 8, .inl t_lengths)), (qt 5, .inl (cI, 5, .inl t_named)), (qt 6, .inl (cI, 60, .inl t_stack))] H := hP
        have hD : va_D A [(qp 0, .inr (6, oX6 qp (qb 0) (qr 0) (qv 0) (qh 0) p_kept p_timesKept)), (qb 0, .inr (1, oX1 qb b_now b_shutTill b_shutBy b_z b_waits (qa 0) (qt 0))), (qa 0, .inr (0, oX0 qa a_done)), (qt 0, .inr (4, oX4 qt t_taped)), (qp 5, .inl (cI, 7, .inl p_errors_34)), (qa 2, .inl (cI, 60, .inl a_kinds)), (qa 3, .inl (cI, 60, .inl a_writers)), (qa 4, .inl (cI, 60, .inl a_minutes)), (qa 5, .inl (cI, 60, .inl a_matters)), (qa 6, .inl (cI, 60, .inl a_undoers)), (qa 7, .inl (cI, 60, .inl a_scores)), (qa 8, .inl (cI, 61, .inl a_sizes)), (qa 9, .inl (cI, 1220, .inl a_cells)), (qt 3, .inl (cI, 480, .inl t_codes)), (qt 4, .inl (cI, 8, .inl t_lengths)), (qt 5, .inl (cI, 5, .inl t_named)), (qt 6, .inl (cI, 60, .inl t_stack))] := hD
        exact hret (t34, fun k => ([b_now, b_z, a_done] : List Int32).getD k 0, fun k => ([p_errors_34, a_kinds, a_writers, a_minutes, a_matters, a_undoers, a_scores, a_sizes, a_cells, t_named, t_stack] : List (Nat → Int32)).getD k (fun _ => 0)) _ _ _ _ (vp_nar_int _) h hP hD hS dX6_live_37
    · exact J11 b_now b_z a_done p_errors a_kinds a_writers a_minutes a_matters a_undoers a_scores a_sizes a_cells t_named t_stack _ _ _ (lv_sub hl [0] rfl) hP hD hS h
set_option maxHeartbeats 4000000 in
set_option maxRecDepth 100000 in
theorem c6_seed (l : Launch) (D : va_G) (cI : ClassId) (ad : Nat → Nat) (qp qb qa qt qr qv qh : Nat → Nat) (p_kept : Value) (p_timesKept b_now b_shutTill b_shutBy b_z b_waits : Int32) (x1 : Int32) (u : Int32 × Int32) (h : f6_seed x1 b_z = some u) : q_RW (cE ad) l yX6_seed wsX6_seed (rmq (0)) D cI [.ref (qp 0), .int x1] [(qp 0, .inr (6, oX6 qp (qb 0) (qr 0) (qv 0) (qh 0) p_kept p_timesKept)), (qb 0, .inr (1, oX1 qb b_now b_shutTill b_shutBy b_z b_waits (qa 0) (qt 0)))] [(qp 0, .inr (6, oX6 qp (qb 0) (qr 0) (qv 0) (qh 0) p_kept p_timesKept)), (qb 0, .inr (1, oX1 qb b_now b_shutTill b_shutBy u.2 b_waits (qa 0) (qt 0)))] u.1 := by
  refine q_startW (fun u : Int32 × Int32 => [(qp 0, .inr (6, oX6 qp (qb 0) (qr 0) (qv 0) (qh 0) p_kept p_timesKept)), (qb 0, .inr (1, oX1 qb b_now b_shutTill b_shutBy u.2 b_waits (qa 0) (qt 0)))]) (fun u => u.1) (cc := cX6_seed) (maxL := 3) (ty := .int) (own := RX6) (by decide) rfl rfl (Nat.le_of_ble_eq_true rfl) rfl (fun p e s m args below meth c Q A hx hb hml hown hts hK hEv hA hret hP hD hS ls hl => ?_)
  have in1 : ∀ w ∈ wsX10, w ∈ wsX6_seed := fun w h => List.mem_cons_of_mem _ (List.mem_append_right _ (h))
  have in6 : ∀ w ∈ wsX60, w ∈ wsX6_seed := fun w h => List.mem_cons_of_mem _ (List.mem_append_left _ (List.mem_append_right _ (h)))
  have l10 := hts (.fieldLink RX6 10 "PageWars" "book" "LPageWars$Book;") (List.mem_of_getElem? (i := 1) rfl)
  have l160 : (Cond.fieldLinkNest RX6 160 "PageWars$Book" "z" "I" "PageWars").before args s = true := cE_f6_160 hEv
  unfold f6_seed at h
  refine lv_aload_n hx hb dX6_seed_0 rfl (lv_at hl 0 rfl) ?_
  refine va_get (D := D) (ci := 6) (v := .ref (qb 0)) (C := RX6) (T := TX6) (N := 7) hx hb hts in6 hown hK hP 0 rfl rfl 0 (by decide) l10 (fun _ h9 => h9) rfl dX6_seed_1 ?_
  refine va_getN (D := D) (ci := 1) (v := .int b_z) (C := RX1) (T := TX1) (N := 9) hx hb hts in1 hown hK hP 1 rfl rfl 3 (by decide) l160 (fun _ h9 => h9) rfl dX6_seed_4 ?_
  refine lv_istore_n (lv' := [(2, .int b_z), (0, .ref (qp 0)), (1, .int x1)]) hx hb dX6_seed_7 rfl hl (by decide) rfl (fun ls hl => ?_)
  refine lv_aload_n hx hb dX6_seed_8 rfl (lv_at hl 1 rfl) ?_
  refine va_get (D := D) (ci := 6) (v := .ref (qb 0)) (C := RX6) (T := TX6) (N := 7) hx hb hts in6 hown hK hP 0 rfl rfl 0 (by decide) l10 (fun _ h9 => h9) rfl dX6_seed_9 ?_
  refine lv_iload_n hx hb dX6_seed_12 rfl (lv_at hl 2 rfl) ?_
  refine va_putN (D := D) (ci := 1) (v := .int x1) (ty := .int) (C := RX1) (T := TX1) (N := 9) hx hb hts in1 tyX1 tyX1_ok nmX1 hown hK hP hD hS 1 rfl rfl 3 (by decide) l160 (fun _ h9 => h9) rfl (by decide +kernel) rfl rfl (Nat.le_of_ble_eq_true rfl) dX6_seed_13 (fun H locs hP hD hS => ?_)
  have hP : va_P D vwCl [(qp 0, .inr (6, oX6 qp (qb 0) (qr 0) (qv 0) (qh 0) p_kept p_timesKept)), (qb 0, .inr (1, oX1 qb b_now b_shutTill b_shutBy x1 b_waits (qa 0) (qt 0)))] H := hP
  have hD : va_D A [(qp 0, .inr (6, oX6 qp (qb 0) (qr 0) (qv 0) (qh 0) p_kept p_timesKept)), (qb 0, .inr (1, oX1 qb b_now b_shutTill b_shutBy x1 b_waits (qa 0) (qt 0)))] := hD
  refine lv_iload_n hx hb dX6_seed_16 rfl (lv_at hl 0 rfl) ?_
  exact hret (b_z, x1) _ _ _ _ (vp_nar_int _) h hP hD hS dX6_seed_17
set_option maxHeartbeats 4000000 in
set_option maxRecDepth 100000 in
theorem c6_alike (l : Launch) (D : va_G) (cI : ClassId) (ad : Nat → Nat) (qp qb qa qt qr qv qh : Nat → Nat) (p_kept : Value) (p_timesKept b_now b_shutTill b_shutBy b_z b_waits a_done : Int32) (p_errors a_sizes a_cells : Nat → Int32) (x1 : Int32) (x2 : Int32) (n : Nat) (u : Int32 × (Nat → Int32)) (h : f6_alike n x1 x2 a_done p_errors a_sizes a_cells = some u) : q_RW (cE ad) l yX6_alike wsX6_alike (rmq (2)) D cI [.ref (qp 0), .int x1, .int x2] [(qp 0, .inr (6, oX6 qp (qb 0) (qr 0) (qv 0) (qh 0) p_kept p_timesKept)), (qb 0, .inr (1, oX1 qb b_now b_shutTill b_shutBy b_z b_waits (qa 0) (qt 0))), (qa 0, .inr (0, oX0 qa a_done)), (qp 5, .inl (cI, 7, .inl p_errors)), (qa 8, .inl (cI, 61, .inl a_sizes)), (qa 9, .inl (cI, 1220, .inl a_cells))] [(qp 0, .inr (6, oX6 qp (qb 0) (qr 0) (qv 0) (qh 0) p_kept p_timesKept)), (qb 0, .inr (1, oX1 qb b_now b_shutTill b_shutBy b_z b_waits (qa 0) (qt 0))), (qa 0, .inr (0, oX0 qa a_done)), (qp 5, .inl (cI, 7, .inl u.2)), (qa 8, .inl (cI, 61, .inl a_sizes)), (qa 9, .inl (cI, 1220, .inl a_cells))] u.1 := by
  refine q_startW (fun u : Int32 × (Nat → Int32) => [(qp 0, .inr (6, oX6 qp (qb 0) (qr 0) (qv 0) (qh 0) p_kept p_timesKept)), (qb 0, .inr (1, oX1 qb b_now b_shutTill b_shutBy b_z b_waits (qa 0) (qt 0))), (qa 0, .inr (0, oX0 qa a_done)), (qp 5, .inl (cI, 7, .inl u.2)), (qa 8, .inl (cI, 61, .inl a_sizes)), (qa 9, .inl (cI, 1220, .inl a_cells))]) (fun u => u.1) (cc := cX6_alike) (maxL := 3) (ty := .int) (own := RX6) (by decide) rfl rfl (Nat.le_of_ble_eq_true rfl) rfl (fun p e s m args below meth c Q A hx hb hml hown hts hK hEv hA hret hP hD hS ls hl => ?_)
  have in0 : ∀ w ∈ wsX00, w ∈ wsX6_alike := fun w h => List.mem_cons_of_mem _ (List.mem_append_right _ (h))
  have in1 : ∀ w ∈ wsX10, w ∈ wsX6_alike := fun w h => List.mem_cons_of_mem _ (List.mem_append_left _ (List.mem_append_right _ (h)))
  have in6 : ∀ w ∈ wsX60, w ∈ wsX6_alike := fun w h => List.mem_cons_of_mem _ (List.mem_append_left _ (List.mem_append_left _ (List.mem_append_right _ (h))))
  have l10 := hts (.fieldLink RX6 10 "PageWars" "book" "LPageWars$Book;") (List.mem_of_getElem? (i := 1) rfl)
  have l63 : (Cond.fieldLinkNest RX6 63 "PageWars$Book" "acts" "LPageWars$Acts;" "PageWars").before args s = true := cE_f6_63 hEv
  have J42 : ∀ (s0 : Int32) (p_errors : (Nat → Int32)) (H : Heap) (locs : List Loc) (ls : Array Slot), lv_has ls 3 [(0, .ref (qp 0))] → va_P D vwCl [(qp 0, .inr (6, oX6 qp (qb 0) (qr 0) (qv 0) (qh 0) p_kept p_timesKept)), (qb 0, .inr (1, oX1 qb b_now b_shutTill b_shutBy b_z b_waits (qa 0) (qt 0))), (qa 0, .inr (0, oX0 qa a_done)), (qp 5, .inl (cI, 7, .inl p_errors)), (qa 8, .inl (cI, 61, .inl a_sizes)), (qa 9, .inl (cI, 1220, .inl a_cells))] H → va_D A [(qp 0, .inr (6, oX6 qp (qb 0) (qr 0) (qv 0) (qh 0) p_kept p_timesKept)), (qb 0, .inr (1, oX1 qb b_now b_shutTill b_shutBy b_z b_waits (qa 0) (qt 0))), (qa 0, .inr (0, oX0 qa a_done)), (qp 5, .inl (cI, 7, .inl p_errors)), (qa 8, .inl (cI, 61, .inl a_sizes)), (qa 9, .inl (cI, 1220, .inl a_cells))] → va_S A s.heap H locs → f6_alike_42 n a_done a_sizes a_cells s0 p_errors = some u → W p l e (rmq (2)) s m args below meth c H locs 0 0 Q (F0 m 42 ls [.int s0]) := by
    intro s0 p_errors H locs ls hl hP hD hS h
    unfold f6_alike_42 at h
    exact hret (s0, p_errors) _ _ _ _ (vp_nar_int _) h hP hD hS dX6_alike_42
  have J16 : ∀ (p_errors : (Nat → Int32)) (H : Heap) (locs : List Loc) (ls : Array Slot), lv_has ls 3 [(0, .ref (qp 0))] → va_P D vwCl [(qp 0, .inr (6, oX6 qp (qb 0) (qr 0) (qv 0) (qh 0) p_kept p_timesKept)), (qb 0, .inr (1, oX1 qb b_now b_shutTill b_shutBy b_z b_waits (qa 0) (qt 0))), (qa 0, .inr (0, oX0 qa a_done)), (qp 5, .inl (cI, 7, .inl p_errors)), (qa 8, .inl (cI, 61, .inl a_sizes)), (qa 9, .inl (cI, 1220, .inl a_cells))] H → va_D A [(qp 0, .inr (6, oX6 qp (qb 0) (qr 0) (qv 0) (qh 0) p_kept p_timesKept)), (qb 0, .inr (1, oX1 qb b_now b_shutTill b_shutBy b_z b_waits (qa 0) (qt 0))), (qa 0, .inr (0, oX0 qa a_done)), (qp 5, .inl (cI, 7, .inl p_errors)), (qa 8, .inl (cI, 61, .inl a_sizes)), (qa 9, .inl (cI, 1220, .inl a_cells))] → va_S A s.heap H locs → f6_alike_16 n a_done a_sizes a_cells p_errors = some u → W p l e (rmq (2)) s m args below meth c H locs 0 0 Q (F0 m 16 ls []) := by
    intro p_errors H locs ls hl hP hD hS h
    unfold f6_alike_16 at h
    refine lv_aload_n hx hb dX6_alike_16 rfl (lv_at hl 0 rfl) ?_
    refine lv_iconst (v := (1 : Int32)) hx hb dX6_alike_17 (by decide) ?_
    refine q_callW2 (cEok ad) (rest := []) (fun u => [(qp 0, .inr (6, oX6 qp (qb 0) (qr 0) (qv 0) (qh 0) p_kept p_timesKept)), (qp 5, .inl (cI, 7, .inl u.2))]) (fun u => u.1) ⟨hx, hb, hml, hown, hts⟩ (fun u hu => c6_error l D cI ad qp qb qr qv qh p_kept p_timesKept p_errors ((1 : Int32)) u hu) (cwV 1 hts gX6_alike_X6_error rfl rfl rfl hdX6_error (rmq_ok (Nat.le_of_ble_eq_true rfl) (Nat.le_of_ble_eq_true rfl))) hK hEv hA hP hD hS [0, 3] (by decide) rfl (fun _ => rfl) (va_recv hK hP (ci := 6) (q0 := 0) rfl rfl) rfl rfl hl.1 (Nat.le_of_ble_eq_true rfl) ⟨Nat.zero_le _, Nat.zero_le _⟩ h dX6_alike_18 (fun t18 p_errors_18 H locs h hP hD hS => ?_)
    have hP : va_P D vwCl [(qp 0, .inr (6, oX6 qp (qb 0) (qr 0) (qv 0) (qh 0) p_kept p_timesKept)), (qb 0, .inr (1, oX1 qb b_now b_shutTill b_shutBy b_z b_waits (qa 0) (qt 0))), (qa 0, .inr (0, oX0 qa a_done)), (qp 5, .inl (cI, 7, .inl p_errors_18)), (qa 8, .inl (cI, 61, .inl a_sizes)), (qa 9, .inl (cI, 1220, .inl a_cells))] H := hP
    have hD : va_D A [(qp 0, .inr (6, oX6 qp (qb 0) (qr 0) (qv 0) (qh 0) p_kept p_timesKept)), (qb 0, .inr (1, oX1 qb b_now b_shutTill b_shutBy b_z b_waits (qa 0) (qt 0))), (qa 0, .inr (0, oX0 qa a_done)), (qp 5, .inl (cI, 7, .inl p_errors_18)), (qa 8, .inl (cI, 61, .inl a_sizes)), (qa 9, .inl (cI, 1220, .inl a_cells))] := hD
    exact hret (t18, p_errors_18) _ _ _ _ (vp_nar_int _) h hP hD hS dX6_alike_21
  unfold f6_alike at h
  refine lv_aload_n hx hb dX6_alike_0 rfl (lv_at hl 0 rfl) ?_
  refine lv_iload_n hx hb dX6_alike_1 rfl (lv_at hl 1 rfl) ?_
  refine q_callR (cEok ad) (rest := []) ⟨hx, hb, hml, hown, hts⟩ (fun r hr => c6_isVersion l D cI ad qp qb qa qt qr qv qh p_kept p_timesKept b_now b_shutTill b_shutBy b_z b_waits a_done x1 r hr) (cwV 1 hts gX6_alike_X6_isVersion rfl rfl rfl hdX6_isVersion (rmq_ok (Nat.le_of_ble_eq_true rfl) (Nat.le_of_ble_eq_true rfl))) hK hP hEv hS [0, 1, 2] rfl (va_recv hK hP (ci := 6) (q0 := 0) rfl rfl) rfl rfl hl.1 (Nat.le_of_ble_eq_true rfl) ⟨Nat.zero_le _, Nat.zero_le _⟩ h dX6_alike_2 (fun t2 h => ?_)
  refine q_ifeq hx hb 16 h dX6_alike_5 (by decide) (fun h => ?_) (fun h => ?_)
  · exact J16 p_errors _ _ _ (lv_sub hl [0] rfl) hP hD hS h
  · refine lv_aload_n hx hb dX6_alike_8 rfl (lv_at hl 0 rfl) ?_
    refine lv_iload_n hx hb dX6_alike_9 rfl (lv_at hl 2 rfl) ?_
    refine q_callR (cEok ad) (rest := []) ⟨hx, hb, hml, hown, hts⟩ (fun r hr => c6_isVersion l D cI ad qp qb qa qt qr qv qh p_kept p_timesKept b_now b_shutTill b_shutBy b_z b_waits a_done x2 r hr) (cwV 1 hts gX6_alike_X6_isVersion rfl rfl rfl hdX6_isVersion (rmq_ok (Nat.le_of_ble_eq_true rfl) (Nat.le_of_ble_eq_true rfl))) hK hP hEv hS [0, 1, 2] rfl (va_recv hK hP (ci := 6) (q0 := 0) rfl rfl) rfl rfl hl.1 (Nat.le_of_ble_eq_true rfl) ⟨Nat.zero_le _, Nat.zero_le _⟩ h dX6_alike_10 (fun t10 h => ?_)
    refine q_ifne hx hb 22 h dX6_alike_13 (by decide) (fun h => ?_) (fun h => ?_)
    · refine lv_aload_n hx hb dX6_alike_22 rfl (lv_at hl 0 rfl) ?_
      refine va_get (D := D) (ci := 6) (v := .ref (qb 0)) (C := RX6) (T := TX6) (N := 7) hx hb hts in6 hown hK hP 0 rfl rfl 0 (by decide) l10 (fun _ h9 => h9) rfl dX6_alike_23 ?_
      refine va_getN (D := D) (ci := 1) (v := .ref (qa 0)) (C := RX1) (T := TX1) (N := 9) hx hb hts in1 hown hK hP 1 rfl rfl 7 (by decide) l63 (fun _ h9 => h9) rfl dX6_alike_26 ?_
      refine lv_iload_n hx hb dX6_alike_29 rfl (lv_at hl 1 rfl) ?_
      refine lv_iload_n hx hb dX6_alike_30 rfl (lv_at hl 2 rfl) ?_
      refine q_callR (cEok ad) (rest := []) ⟨hx, hb, hml, hown, hts⟩ (fun r hr => c0_areAlike l D cI ad qa a_done a_sizes a_cells x1 x2 n r hr) (cwV 2 hts gX6_alike_X0_areAlike rfl rfl rfl hdX0_areAlike (rmq_ok (Nat.le_of_ble_eq_true rfl) (Nat.le_of_ble_eq_true rfl))) hK hP hEv hS [2, 4, 5] rfl (va_recv hK hP (ci := 0) (q0 := 2) rfl rfl) rfl rfl hl.1 (Nat.le_of_ble_eq_true rfl) ⟨Nat.zero_le _, Nat.zero_le _⟩ h dX6_alike_31 (fun t31 h => ?_)
      refine q_ifeq hx hb 41 h dX6_alike_34 (by decide) (fun h => ?_) (fun h => ?_)
      · refine lv_iconst (v := (0 : Int32)) hx hb dX6_alike_41 (by decide) ?_
        exact J42 ((0 : Int32)) p_errors _ _ _ (lv_sub hl [0] rfl) hP hD hS h
      · refine lv_iconst (v := (1 : Int32)) hx hb dX6_alike_37 (by decide) ?_
        refine lv_goto (tgt := 42) hx hb dX6_alike_38 (by decide) ?_
        exact J42 ((1 : Int32)) p_errors _ _ _ (lv_sub hl [0] rfl) hP hD hS h
    · exact J16 p_errors _ _ _ (lv_sub hl [0] rfl) hP hD hS h
set_option maxHeartbeats 4000000 in
set_option maxRecDepth 100000 in
theorem c0_likenessOf (l : Launch) (D : va_G) (cI : ClassId) (ad : Nat → Nat) (qa : Nat → Nat) (a_done : Int32) (a_sizes a_cells a_common : Nat → Int32) (x1 : Int32) (x2 : Int32) (n : Nat) (u : Int32 × (Nat → Int32)) (h : f0_likenessOf n x1 x2 a_sizes a_cells a_common = some u) : q_RW (cE ad) l yX0_likenessOf wsX0_likenessOf (rmq (1)) D cI [.ref (qa 0), .int x1, .int x2] [(qa 0, .inr (0, oX0 qa a_done)), (qa 8, .inl (cI, 61, .inl a_sizes)), (qa 9, .inl (cI, 1220, .inl a_cells)), (qa 10, .inl (cI, 21, .inl a_common))] [(qa 0, .inr (0, oX0 qa a_done)), (qa 8, .inl (cI, 61, .inl a_sizes)), (qa 9, .inl (cI, 1220, .inl a_cells)), (qa 10, .inl (cI, 21, .inl u.2))] u.1 := by
  refine q_startW (fun u : Int32 × (Nat → Int32) => [(qa 0, .inr (0, oX0 qa a_done)), (qa 8, .inl (cI, 61, .inl a_sizes)), (qa 9, .inl (cI, 1220, .inl a_cells)), (qa 10, .inl (cI, 21, .inl u.2))]) (fun u => u.1) (cc := cX0_likenessOf) (maxL := 9) (ty := .int) (own := RX0) (by decide) rfl rfl (Nat.le_of_ble_eq_true rfl) rfl (fun p e s m args below meth c Q A hx hb hml hown hts hK hEv hA hret hP hD hS ls hl => ?_)
  have in0 : ∀ w ∈ wsX00, w ∈ wsX0_likenessOf := fun w h => List.mem_cons_of_mem _ (List.mem_append_right _ (h))
  have l30 := hts (.fieldLink RX0 30 "PageWars$Acts" "sizes" "[I") (List.mem_of_getElem? (i := 1) rfl)
  have l36 := hts (.fieldLink RX0 36 "PageWars$Acts" "common" "[I") (List.mem_of_getElem? (i := 6) rfl)
  have J53 : ∀ (kk53 : Nat) (x1 : Int32) (x2 : Int32) (x3 : Int32) (x4 : Int32) (a_common : (Nat → Int32)) (H : Heap) (locs : List Loc) (ls : Array Slot), lv_has ls 9 [(0, .ref (qa 0)), (1, .int x1), (2, .int x2), (3, .int x3), (4, .int x4)] → va_P D vwCl [(qa 0, .inr (0, oX0 qa a_done)), (qa 8, .inl (cI, 61, .inl a_sizes)), (qa 9, .inl (cI, 1220, .inl a_cells)), (qa 10, .inl (cI, 21, .inl a_common))] H → va_D A [(qa 0, .inr (0, oX0 qa a_done)), (qa 8, .inl (cI, 61, .inl a_sizes)), (qa 9, .inl (cI, 1220, .inl a_cells)), (qa 10, .inl (cI, 21, .inl a_common))] → va_S A s.heap H locs → f0_likenessOf_53 n a_sizes a_cells kk53 x1 x2 x3 x4 a_common = some u → W p l e (rmq (1)) s m args below meth c H locs 0 0 Q (F0 m 53 ls []) := by
    intro kk53
    induction kk53 with
    | zero => intro x1 x2 x3 x4 a_common H locs ls hl hP hD hS h; exact nomatch (show (none : Option (Int32 × (Nat → Int32))) = some u from h)
    | succ kk53 ih53 =>
      have J79 : ∀ (kk79 : Nat) (x1 : Int32) (x2 : Int32) (x3 : Int32) (x4 : Int32) (x5 : Int32) (x6 : Int32) (x7 : Int32) (a_common : (Nat → Int32)) (H : Heap) (locs : List Loc) (ls : Array Slot), lv_has ls 9 [(0, .ref (qa 0)), (1, .int x1), (2, .int x2), (3, .int x3), (4, .int x4), (5, .int x5), (6, .int x6), (7, .int x7)] → va_P D vwCl [(qa 0, .inr (0, oX0 qa a_done)), (qa 8, .inl (cI, 61, .inl a_sizes)), (qa 9, .inl (cI, 1220, .inl a_cells)), (qa 10, .inl (cI, 21, .inl a_common))] H → va_D A [(qa 0, .inr (0, oX0 qa a_done)), (qa 8, .inl (cI, 61, .inl a_sizes)), (qa 9, .inl (cI, 1220, .inl a_cells)), (qa 10, .inl (cI, 21, .inl a_common))] → va_S A s.heap H locs → f0_likenessOf_79 n a_sizes a_cells (f0_likenessOf_53 n a_sizes a_cells kk53) kk79 x1 x2 x3 x4 x5 x6 x7 a_common = some u → W p l e (rmq (1)) s m args below meth c H locs 0 0 Q (F0 m 79 ls []) := by
        intro kk79
        induction kk79 with
        | zero => intro x1 x2 x3 x4 x5 x6 x7 a_common H locs ls hl hP hD hS h; exact nomatch (show (none : Option (Int32 × (Nat → Int32))) = some u from h)
        | succ kk79 ih79 =>
          have J140 : ∀ (x1 : Int32) (x2 : Int32) (x3 : Int32) (x4 : Int32) (x5 : Int32) (x7 : Int32) (x8 : Int32) (s1 : Int32) (s2 : Int32) (a_common : (Nat → Int32)) (H : Heap) (locs : List Loc) (ls : Array Slot), lv_has ls 9 [(0, .ref (qa 0)), (1, .int x1), (2, .int x2), (3, .int x3), (4, .int x4), (5, .int x5), (7, .int x7), (8, .int x8)] → va_P D vwCl [(qa 0, .inr (0, oX0 qa a_done)), (qa 8, .inl (cI, 61, .inl a_sizes)), (qa 9, .inl (cI, 1220, .inl a_cells)), (qa 10, .inl (cI, 21, .inl a_common))] H → va_D A [(qa 0, .inr (0, oX0 qa a_done)), (qa 8, .inl (cI, 61, .inl a_sizes)), (qa 9, .inl (cI, 1220, .inl a_cells)), (qa 10, .inl (cI, 21, .inl a_common))] → va_S A s.heap H locs → f0_likenessOf_140 n a_sizes a_cells (f0_likenessOf_53 n a_sizes a_cells kk53) (f0_likenessOf_79 n a_sizes a_cells (f0_likenessOf_53 n a_sizes a_cells kk53) kk79) x1 x2 x3 x4 x5 x7 x8 s1 s2 a_common = some u → W p l e (rmq (1)) s m args below meth c H locs 0 0 Q (F0 m 140 ls [.int s2, .int s1, .ref (qa 10)]) := by
            intro x1 x2 x3 x4 x5 x7 x8 s1 s2 a_common H locs ls hl hP hD hS h
            unfold f0_likenessOf_140 at h
            refine q_iast hx hb hK hP hD hS 3 0 rfl rfl h dX0_likenessOf_140 (fun a_common_140 H locs h hP hD hS => ?_)
            have hP : va_P D vwCl [(qa 0, .inr (0, oX0 qa a_done)), (qa 8, .inl (cI, 61, .inl a_sizes)), (qa 9, .inl (cI, 1220, .inl a_cells)), (qa 10, .inl (cI, 21, .inl a_common_140))] H := hP
            have hD : va_D A [(qa 0, .inr (0, oX0 qa a_done)), (qa 8, .inl (cI, 61, .inl a_sizes)), (qa 9, .inl (cI, 1220, .inl a_cells)), (qa 10, .inl (cI, 21, .inl a_common_140))] := hD
            refine lv_iload hx hb dX0_likenessOf_141 (lv_at hl 7 rfl) ?_
            refine lv_istore (lv' := [(6, .int x8), (0, .ref (qa 0)), (1, .int x1), (2, .int x2), (3, .int x3), (4, .int x4), (5, .int x5), (7, .int x7), (8, .int x8)]) hx hb dX0_likenessOf_143 hl (by decide) rfl (fun ls hl => ?_)
            refine q_iinc (fun v => [(7, .int v), (6, .int x8), (0, .ref (qa 0)), (1, .int x1), (2, .int x2), (3, .int x3), (4, .int x4), (5, .int x5), (8, .int x8)]) hx hb h dX0_likenessOf_145 (by decide) hl (k := 7) rfl (by decide) (fun _ => rfl) (fun x7_145 ls h hl => ?_)
            refine lv_goto (tgt := 79) hx hb dX0_likenessOf_148 (by decide) ?_
            exact ih79 x1 x2 x3 x4 x5 x8 x7_145 a_common_140 _ _ _ (lv_sub hl [2, 3, 4, 5, 6, 7, 1, 0] rfl) hP hD hS h
          intro x1 x2 x3 x4 x5 x6 x7 a_common H locs ls hl hP hD hS h
          rw [f0_likenessOf_79.eq_2] at h
          refine lv_iload hx hb dX0_likenessOf_79 (lv_at hl 7 rfl) ?_
          refine lv_aload_n hx hb dX0_likenessOf_81 rfl (lv_at hl 0 rfl) ?_
          refine va_get (D := D) (ci := 0) (v := .ref (qa 8)) (C := RX0) (T := TX0) (N := 10) hx hb hts in0 hown hK hP 0 rfl rfl 7 (by decide) l30 (fun _ h9 => h9) rfl dX0_likenessOf_82 ?_
          refine lv_iload_n hx hb dX0_likenessOf_85 rfl (lv_at hl 2 rfl) ?_
          refine q_iald hx hb hK hP 1 0 rfl rfl h dX0_likenessOf_86 (fun t86 h => ?_)
          refine q_cge hx hb 151 h dX0_likenessOf_87 (by decide) (fun h => ?_) (fun h => ?_)
          · refine q_iinc (fun v => [(4, .int v), (0, .ref (qa 0)), (1, .int x1), (2, .int x2), (3, .int x3), (5, .int x5), (6, .int x6), (7, .int x7)]) hx hb h dX0_likenessOf_151 (by decide) hl (k := 4) rfl (by decide) (fun _ => rfl) (fun x4_151 ls h hl => ?_)
            refine lv_goto (tgt := 53) hx hb dX0_likenessOf_154 (by decide) ?_
            exact ih53 x1 x2 x3 x4_151 a_common _ _ _ (lv_sub hl [1, 2, 3, 4, 0] rfl) hP hD hS h
          · refine lv_aload_n hx hb dX0_likenessOf_90 rfl (lv_at hl 0 rfl) ?_
            refine va_get (D := D) (ci := 0) (v := .ref (qa 10)) (C := RX0) (T := TX0) (N := 10) hx hb hts in0 hown hK hP 0 rfl rfl 9 (by decide) l36 (fun _ h9 => h9) rfl dX0_likenessOf_91 ?_
            refine lv_iload hx hb dX0_likenessOf_94 (lv_at hl 7 rfl) ?_
            refine lv_iconst (v := (1 : Int32)) hx hb dX0_likenessOf_96 (by decide) ?_
            refine lv_iadd hx hb dX0_likenessOf_97 ?_
            refine q_iald hx hb hK hP 3 0 rfl rfl h dX0_likenessOf_98 (fun t98 h => ?_)
            refine lv_istore (lv' := [(8, .int t98), (0, .ref (qa 0)), (1, .int x1), (2, .int x2), (3, .int x3), (4, .int x4), (5, .int x5), (6, .int x6), (7, .int x7)]) hx hb dX0_likenessOf_99 hl (by decide) rfl (fun ls hl => ?_)
            refine lv_aload_n hx hb dX0_likenessOf_101 rfl (lv_at hl 1 rfl) ?_
            refine va_get (D := D) (ci := 0) (v := .ref (qa 10)) (C := RX0) (T := TX0) (N := 10) hx hb hts in0 hown hK hP 0 rfl rfl 9 (by decide) l36 (fun _ h9 => h9) rfl dX0_likenessOf_102 ?_
            refine lv_iload hx hb dX0_likenessOf_105 (lv_at hl 8 rfl) ?_
            refine lv_iconst (v := (1 : Int32)) hx hb dX0_likenessOf_107 (by decide) ?_
            refine lv_iadd hx hb dX0_likenessOf_108 ?_
            refine lv_iload hx hb dX0_likenessOf_109 (lv_at hl 6 rfl) ?_
            refine lv_aload_n hx hb dX0_likenessOf_111 rfl (lv_at hl 1 rfl) ?_
            refine lv_iload_n hx hb dX0_likenessOf_112 rfl (lv_at hl 3 rfl) ?_
            refine lv_iload hx hb dX0_likenessOf_113 (lv_at hl 8 rfl) ?_
            refine q_callR (cEok ad) (rest := [.int x5, .int (x7 + ((1 : Int32))), .ref (qa 10)]) ⟨hx, hb, hml, hown, hts⟩ (fun r hr => c0_wordAt l D cI ad qa a_done a_cells x2 x7 r hr) (cwV 2 hts gX0_likenessOf_X0_wordAt rfl rfl rfl hdX0_wordAt (rmq_ok (Nat.le_of_ble_eq_true rfl) (Nat.le_of_ble_eq_true rfl))) hK hP hEv hS [0, 2] rfl (va_recv hK hP (ci := 0) (q0 := 0) rfl rfl) rfl rfl hl.1 (Nat.le_of_ble_eq_true rfl) ⟨Nat.zero_le _, Nat.zero_le _⟩ h dX0_likenessOf_115 (fun t115 h => ?_)
            refine q_cne hx hb 128 h dX0_likenessOf_118 (by decide) (fun h => ?_) (fun h => ?_)
            · refine lv_iload hx hb dX0_likenessOf_128 (lv_at hl 0 rfl) ?_
              refine lv_aload_n hx hb dX0_likenessOf_130 rfl (lv_at hl 1 rfl) ?_
              refine va_get (D := D) (ci := 0) (v := .ref (qa 10)) (C := RX0) (T := TX0) (N := 10) hx hb hts in0 hown hK hP 0 rfl rfl 9 (by decide) l36 (fun _ h9 => h9) rfl dX0_likenessOf_131 ?_
              refine lv_iload hx hb dX0_likenessOf_134 (lv_at hl 8 rfl) ?_
              refine q_iald hx hb hK hP 3 0 rfl rfl h dX0_likenessOf_136 (fun t136 h => ?_)
              refine va_mmax hx hb (hml.trans hl.1.symm) hown (hts (.methodLink RX0 59 Lib.Math.max.name) (List.mem_of_getElem? (i := 2) rfl)) (hts (.static Lib.Math.max.name) (List.mem_of_getElem? (i := 3) rfl)) (hts (.initialized "java/lang/Math") (List.mem_of_getElem? (i := 4) rfl)) (hts (.code Lib.Math.max.name Lib.Math.max.code 2 (some .int)) (List.mem_of_getElem? (i := 5) rfl)) (Nat.le_of_ble_eq_true rfl) (Nat.le_of_ble_eq_true rfl) (Nat.zero_le _) (Nat.zero_le _) dX0_likenessOf_137 ?_
              refine q_let h (fun t137 h => ?_)
              exact J140 x1 x2 x3 x4 x5 x7 t98 (x7 + ((1 : Int32))) t137 a_common _ _ _ (lv_sub hl [1, 2, 3, 4, 5, 6, 8, 0] rfl) hP hD hS h
            · refine lv_iload hx hb dX0_likenessOf_121 (lv_at hl 7 rfl) ?_
              refine lv_iconst (v := (1 : Int32)) hx hb dX0_likenessOf_123 (by decide) ?_
              refine lv_iadd hx hb dX0_likenessOf_124 ?_
              refine lv_goto (tgt := 140) hx hb dX0_likenessOf_125 (by decide) ?_
              exact J140 x1 x2 x3 x4 x5 x7 t98 (x7 + ((1 : Int32))) (x6 + ((1 : Int32))) a_common _ _ _ (lv_sub hl [1, 2, 3, 4, 5, 6, 8, 0] rfl) hP hD hS h
      intro x1 x2 x3 x4 a_common H locs ls hl hP hD hS h
      rw [f0_likenessOf_53.eq_2] at h
      refine lv_iload hx hb dX0_likenessOf_53 (lv_at hl 4 rfl) ?_
      refine lv_aload_n hx hb dX0_likenessOf_55 rfl (lv_at hl 0 rfl) ?_
      refine va_get (D := D) (ci := 0) (v := .ref (qa 8)) (C := RX0) (T := TX0) (N := 10) hx hb hts in0 hown hK hP 0 rfl rfl 7 (by decide) l30 (fun _ h9 => h9) rfl dX0_likenessOf_56 ?_
      refine lv_iload_n hx hb dX0_likenessOf_59 rfl (lv_at hl 1 rfl) ?_
      refine q_iald hx hb hK hP 1 0 rfl rfl h dX0_likenessOf_60 (fun t60 h => ?_)
      refine q_cge hx hb 157 h dX0_likenessOf_61 (by decide) (fun h => ?_) (fun h => ?_)
      · refine lv_bipush (v := (100 : Int32)) hx hb dX0_likenessOf_157 (by decide) ?_
        refine lv_aload_n hx hb dX0_likenessOf_159 rfl (lv_at hl 0 rfl) ?_
        refine va_get (D := D) (ci := 0) (v := .ref (qa 10)) (C := RX0) (T := TX0) (N := 10) hx hb hts in0 hown hK hP 0 rfl rfl 9 (by decide) l36 (fun _ h9 => h9) rfl dX0_likenessOf_160 ?_
        refine lv_aload_n hx hb dX0_likenessOf_163 rfl (lv_at hl 0 rfl) ?_
        refine va_get (D := D) (ci := 0) (v := .ref (qa 8)) (C := RX0) (T := TX0) (N := 10) hx hb hts in0 hown hK hP 0 rfl rfl 7 (by decide) l30 (fun _ h9 => h9) rfl dX0_likenessOf_164 ?_
        refine lv_iload_n hx hb dX0_likenessOf_167 rfl (lv_at hl 2 rfl) ?_
        refine q_iald hx hb hK hP 1 0 rfl rfl h dX0_likenessOf_168 (fun t168 h => ?_)
        refine q_iald hx hb hK hP 3 0 rfl rfl h dX0_likenessOf_169 (fun t169 h => ?_)
        refine lv_imul hx hb dX0_likenessOf_170 ?_
        refine lv_iload_n hx hb dX0_likenessOf_171 rfl (lv_at hl 3 rfl) ?_
        refine q_idiv hx hb h dX0_likenessOf_172 (fun h => ?_)
        exact hret ((((100 : Int32)) * t169) / x3, a_common) _ _ _ _ (vp_nar_int _) h hP hD hS dX0_likenessOf_173
      · refine lv_aload_n hx hb dX0_likenessOf_64 rfl (lv_at hl 0 rfl) ?_
        refine lv_iload_n hx hb dX0_likenessOf_65 rfl (lv_at hl 1 rfl) ?_
        refine lv_iload hx hb dX0_likenessOf_66 (lv_at hl 4 rfl) ?_
        refine q_callR (cEok ad) (rest := []) ⟨hx, hb, hml, hown, hts⟩ (fun r hr => c0_wordAt l D cI ad qa a_done a_cells x1 x4 r hr) (cwV 2 hts gX0_likenessOf_X0_wordAt rfl rfl rfl hdX0_wordAt (rmq_ok (Nat.le_of_ble_eq_true rfl) (Nat.le_of_ble_eq_true rfl))) hK hP hEv hS [0, 2] rfl (va_recv hK hP (ci := 0) (q0 := 0) rfl rfl) rfl rfl hl.1 (Nat.le_of_ble_eq_true rfl) ⟨Nat.zero_le _, Nat.zero_le _⟩ h dX0_likenessOf_68 (fun t68 h => ?_)
        refine lv_istore (lv' := [(5, .int t68), (0, .ref (qa 0)), (1, .int x1), (2, .int x2), (3, .int x3), (4, .int x4)]) hx hb dX0_likenessOf_71 hl (by decide) rfl (fun ls hl => ?_)
        refine lv_iconst (v := (0 : Int32)) hx hb dX0_likenessOf_73 (by decide) ?_
        refine lv_istore (lv' := [(6, .int ((0 : Int32))), (5, .int t68), (0, .ref (qa 0)), (1, .int x1), (2, .int x2), (3, .int x3), (4, .int x4)]) hx hb dX0_likenessOf_74 hl (by decide) rfl (fun ls hl => ?_)
        refine lv_iconst (v := (0 : Int32)) hx hb dX0_likenessOf_76 (by decide) ?_
        refine lv_istore (lv' := [(7, .int ((0 : Int32))), (6, .int ((0 : Int32))), (5, .int t68), (0, .ref (qa 0)), (1, .int x1), (2, .int x2), (3, .int x3), (4, .int x4)]) hx hb dX0_likenessOf_77 hl (by decide) rfl (fun ls hl => ?_)
        exact J79 n x1 x2 x3 x4 t68 ((0 : Int32)) ((0 : Int32)) a_common _ _ _ (lv_sub hl [3, 4, 5, 6, 7, 2, 1, 0] rfl) hP hD hS h
  have J26 : ∀ (kk26 : Nat) (x1 : Int32) (x2 : Int32) (x3 : Int32) (x4 : Int32) (a_common : (Nat → Int32)) (H : Heap) (locs : List Loc) (ls : Array Slot), lv_has ls 9 [(0, .ref (qa 0)), (1, .int x1), (2, .int x2), (3, .int x3), (4, .int x4)] → va_P D vwCl [(qa 0, .inr (0, oX0 qa a_done)), (qa 8, .inl (cI, 61, .inl a_sizes)), (qa 9, .inl (cI, 1220, .inl a_cells)), (qa 10, .inl (cI, 21, .inl a_common))] H → va_D A [(qa 0, .inr (0, oX0 qa a_done)), (qa 8, .inl (cI, 61, .inl a_sizes)), (qa 9, .inl (cI, 1220, .inl a_cells)), (qa 10, .inl (cI, 21, .inl a_common))] → va_S A s.heap H locs → f0_likenessOf_26 n a_sizes a_cells kk26 x1 x2 x3 x4 a_common = some u → W p l e (rmq (1)) s m args below meth c H locs 0 0 Q (F0 m 26 ls []) := by
    intro kk26
    induction kk26 with
    | zero => intro x1 x2 x3 x4 a_common H locs ls hl hP hD hS h; exact nomatch (show (none : Option (Int32 × (Nat → Int32))) = some u from h)
    | succ kk26 ih26 =>
      intro x1 x2 x3 x4 a_common H locs ls hl hP hD hS h
      rw [f0_likenessOf_26.eq_2] at h
      refine lv_iload hx hb dX0_likenessOf_26 (lv_at hl 4 rfl) ?_
      refine lv_aload_n hx hb dX0_likenessOf_28 rfl (lv_at hl 0 rfl) ?_
      refine va_get (D := D) (ci := 0) (v := .ref (qa 10)) (C := RX0) (T := TX0) (N := 10) hx hb hts in0 hown hK hP 0 rfl rfl 9 (by decide) l36 (fun _ h9 => h9) rfl dX0_likenessOf_29 ?_
      refine va_alen hx hb hK hP 3 0 rfl (ty := .int) rfl (v := (21 : Int32)) rfl dX0_likenessOf_32 ?_
      refine q_cge hx hb 50 h dX0_likenessOf_33 (by decide) (fun h => ?_) (fun h => ?_)
      · refine lv_iconst (v := (0 : Int32)) hx hb dX0_likenessOf_50 (by decide) ?_
        refine lv_istore (lv' := [(4, .int ((0 : Int32))), (0, .ref (qa 0)), (1, .int x1), (2, .int x2), (3, .int x3)]) hx hb dX0_likenessOf_51 hl (by decide) rfl (fun ls hl => ?_)
        exact J53 n x1 x2 x3 ((0 : Int32)) a_common _ _ _ (lv_sub hl [1, 2, 3, 4, 0] rfl) hP hD hS h
      · refine lv_aload_n hx hb dX0_likenessOf_36 rfl (lv_at hl 0 rfl) ?_
        refine va_get (D := D) (ci := 0) (v := .ref (qa 10)) (C := RX0) (T := TX0) (N := 10) hx hb hts in0 hown hK hP 0 rfl rfl 9 (by decide) l36 (fun _ h9 => h9) rfl dX0_likenessOf_37 ?_
        refine lv_iload hx hb dX0_likenessOf_40 (lv_at hl 4 rfl) ?_
        refine lv_iconst (v := (0 : Int32)) hx hb dX0_likenessOf_42 (by decide) ?_
        refine q_iast hx hb hK hP hD hS 3 0 rfl rfl h dX0_likenessOf_43 (fun a_common_43 H locs h hP hD hS => ?_)
        have hP : va_P D vwCl [(qa 0, .inr (0, oX0 qa a_done)), (qa 8, .inl (cI, 61, .inl a_sizes)), (qa 9, .inl (cI, 1220, .inl a_cells)), (qa 10, .inl (cI, 21, .inl a_common_43))] H := hP
        have hD : va_D A [(qa 0, .inr (0, oX0 qa a_done)), (qa 8, .inl (cI, 61, .inl a_sizes)), (qa 9, .inl (cI, 1220, .inl a_cells)), (qa 10, .inl (cI, 21, .inl a_common_43))] := hD
        refine q_iinc (fun v => [(4, .int v), (0, .ref (qa 0)), (1, .int x1), (2, .int x2), (3, .int x3)]) hx hb h dX0_likenessOf_44 (by decide) hl (k := 4) rfl (by decide) (fun _ => rfl) (fun x4_44 ls h hl => ?_)
        refine lv_goto (tgt := 26) hx hb dX0_likenessOf_47 (by decide) ?_
        exact ih26 x1 x2 x3 x4_44 a_common_43 _ _ _ (lv_sub hl [1, 2, 3, 4, 0] rfl) hP hD hS h
  unfold f0_likenessOf at h
  refine lv_aload_n hx hb dX0_likenessOf_0 rfl (lv_at hl 0 rfl) ?_
  refine va_get (D := D) (ci := 0) (v := .ref (qa 8)) (C := RX0) (T := TX0) (N := 10) hx hb hts in0 hown hK hP 0 rfl rfl 7 (by decide) l30 (fun _ h9 => h9) rfl dX0_likenessOf_1 ?_
  refine lv_iload_n hx hb dX0_likenessOf_4 rfl (lv_at hl 1 rfl) ?_
  refine q_iald hx hb hK hP 1 0 rfl rfl h dX0_likenessOf_5 (fun t5 h => ?_)
  refine lv_aload_n hx hb dX0_likenessOf_6 rfl (lv_at hl 0 rfl) ?_
  refine va_get (D := D) (ci := 0) (v := .ref (qa 8)) (C := RX0) (T := TX0) (N := 10) hx hb hts in0 hown hK hP 0 rfl rfl 7 (by decide) l30 (fun _ h9 => h9) rfl dX0_likenessOf_7 ?_
  refine lv_iload_n hx hb dX0_likenessOf_10 rfl (lv_at hl 2 rfl) ?_
  refine q_iald hx hb hK hP 1 0 rfl rfl h dX0_likenessOf_11 (fun t11 h => ?_)
  refine va_mmax hx hb (hml.trans hl.1.symm) hown (hts (.methodLink RX0 59 Lib.Math.max.name) (List.mem_of_getElem? (i := 2) rfl)) (hts (.static Lib.Math.max.name) (List.mem_of_getElem? (i := 3) rfl)) (hts (.initialized "java/lang/Math") (List.mem_of_getElem? (i := 4) rfl)) (hts (.code Lib.Math.max.name Lib.Math.max.code 2 (some .int)) (List.mem_of_getElem? (i := 5) rfl)) (Nat.le_of_ble_eq_true rfl) (Nat.le_of_ble_eq_true rfl) (Nat.zero_le _) (Nat.zero_le _) dX0_likenessOf_12 ?_
  refine q_let h (fun t12 h => ?_)
  refine lv_istore_n (lv' := [(3, .int t12), (0, .ref (qa 0)), (1, .int x1), (2, .int x2)]) hx hb dX0_likenessOf_15 rfl hl (by decide) rfl (fun ls hl => ?_)
  refine lv_iload_n hx hb dX0_likenessOf_16 rfl (lv_at hl 0 rfl) ?_
  refine q_ifne hx hb 23 h dX0_likenessOf_17 (by decide) (fun h => ?_) (fun h => ?_)
  · refine lv_iconst (v := (0 : Int32)) hx hb dX0_likenessOf_23 (by decide) ?_
    refine lv_istore (lv' := [(4, .int ((0 : Int32))), (3, .int t12), (0, .ref (qa 0)), (1, .int x1), (2, .int x2)]) hx hb dX0_likenessOf_24 hl (by decide) rfl (fun ls hl => ?_)
    exact J26 n x1 x2 t12 ((0 : Int32)) a_common _ _ _ (lv_sub hl [2, 3, 4, 1, 0] rfl) hP hD hS h
  · refine lv_bipush (v := (100 : Int32)) hx hb dX0_likenessOf_20 (by decide) ?_
    exact hret ((100 : Int32), a_common) _ _ _ _ (vp_nar_int _) h hP hD hS dX0_likenessOf_22
