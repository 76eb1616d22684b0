set_option maxHeartbeats 4000000 in
set_option maxRecDepth 100000 in
theorem c7_error (l : Launch) (D : va_G) (cI : ClassId) (qm : Nat → Nat) (m_images m_newMany m_at m_open m_steps m_use m_traced m_speaks m_isParted : Int32) (m_errors : Nat → Int32) (x1 : Int32) (u : Int32 × (Nat → Int32)) (h : f7_error x1 m_errors = some u) : q_RW q_E0 l yX7_error wsX7_error (rmq (0)) D cI [.ref (qm 0), .int x1] [(qm 0, .inr (7, oX7 qm m_images m_newMany m_at m_open m_steps m_use m_traced m_speaks m_isParted)), (qm 4, .inl (cI, 7, .inl m_errors))] [(qm 0, .inr (7, oX7 qm m_images m_newMany m_at m_open m_steps m_use m_traced m_speaks m_isParted)), (qm 4, .inl (cI, 7, .inl u.2))] u.1 := by
  refine q_startW (fun u : Int32 × (Nat → Int32) => [(qm 0, .inr (7, oX7 qm m_images m_newMany m_at m_open m_steps m_use m_traced m_speaks m_isParted)), (qm 4, .inl (cI, 7, .inl u.2))]) (fun u => u.1) (cc := cX7_error) (maxL := 2) (ty := .int) (own := RX7) (by decide) rfl rfl (Nat.le_of_ble_eq_true rfl) rfl (fun p e s m args below meth c Q A hx hb hml hown hts hK hEv hA hret hP hD hS ls hl => ?_)
  have in7 : ∀ w ∈ wsX70, w ∈ wsX7_error := fun w h => List.mem_cons_of_mem _ (List.mem_append_right _ (h))
  have l16 := hts (.fieldLink RX7 16 "PageWarsModel" "errors" "[I") (List.mem_of_getElem? (i := 1) rfl)
  unfold f7_error at h
  refine lv_aload_n hx hb dX7_error_0 rfl (lv_at hl 0 rfl) ?_
  refine va_get (D := D) (ci := 7) (v := .ref (qm 4)) (C := RX7) (T := TX7) (N := 24) hx hb hts in7 hown hK hP 0 rfl rfl 3 (by decide) l16 (fun _ h9 => h9) rfl dX7_error_1 ?_
  refine lv_iload_n hx hb dX7_error_4 rfl (lv_at hl 1 rfl) ?_
  refine lv_dup2_11 hx hb dX7_error_5 rfl rfl ?_
  refine q_iald hx hb hK hP 1 0 rfl rfl h dX7_error_6 (fun t6 h => ?_)
  refine lv_iconst (v := (1 : Int32)) hx hb dX7_error_7 (by decide) ?_
  refine lv_iadd hx hb dX7_error_8 ?_
  refine q_iast hx hb hK hP hD hS 1 0 rfl rfl h dX7_error_9 (fun m_errors_9 H locs h hP hD hS => ?_)
  have hP : va_P D vwCl [(qm 0, .inr (7, oX7 qm m_images m_newMany m_at m_open m_steps m_use m_traced m_speaks m_isParted)), (qm 4, .inl (cI, 7, .inl m_errors_9))] H := hP
  have hD : va_D A [(qm 0, .inr (7, oX7 qm m_images m_newMany m_at m_open m_steps m_use m_traced m_speaks m_isParted)), (qm 4, .inl (cI, 7, .inl m_errors_9))] := hD
  refine lv_ldc (v := (-1000000 : Int32)) hx hb hown (hts (.constant RX7 55 (-1000000)) (List.mem_of_getElem? (i := 2) rfl)) dX7_error_10 ?_
  refine lv_iload_n hx hb dX7_error_12 rfl (lv_at hl 1 rfl) ?_
  refine lv_isub hx hb dX7_error_13 ?_
  exact hret (((-1000000 : Int32)) - x1, m_errors_9) _ _ _ _ (vp_nar_int _) h hP hD hS dX7_error_14
set_option maxHeartbeats 4000000 in
set_option maxRecDepth 100000 in
theorem c7_in (l : Launch) (D : va_G) (cI : ClassId) (x0 : Int32) (x1 : Int32) (x2 : Int32) (u : Int32) (h : f7_in x0 x1 x2 = some u) : q_RO q_E0 l yX7_in wsX7_in (rmq (0)) D cI [.int x0, .int x1, .int x2] [] u := by
  refine q_startR (cc := cX7_in) (maxL := 3) (ty := .boolean) (own := RX7) (by decide) rfl rfl (Nat.le_of_ble_eq_true rfl) rfl (fun p e s m args below meth c Q hx hb hml hown hts hP hK hEv hret ls hl => ?_)
  have J15 : ∀ (s0 : Int32) (ls : Array Slot), lv_has ls 3 [] → f7_in_15  s0 = some u → W p l e (rmq (0)) s m args below meth c s.heap [] 0 0 Q (F0 m 15 ls [.int s0]) := by
    intro s0  ls hl h
    unfold f7_in_15 at h
    obtain ⟨hz, h⟩ := q_bz_of h
    exact hret _ _ _ (q_nz hz) h dX7_in_15
  have J14 : ∀  (ls : Array Slot), lv_has ls 3 [] → f7_in_14   = some u → W p l e (rmq (0)) s m args below meth c s.heap [] 0 0 Q (F0 m 14 ls []) := by
    intro   ls hl h
    unfold f7_in_14 at h
    refine lv_iconst (v := (0 : Int32)) hx hb dX7_in_14 (by decide) ?_
    exact J15 ((0 : Int32)) _ (lv_sub hl [] rfl) h
  unfold f7_in at h
  refine lv_iload_n hx hb dX7_in_0 rfl (lv_at hl 0 rfl) ?_
  refine lv_iload_n hx hb dX7_in_1 rfl (lv_at hl 1 rfl) ?_
  refine q_clt hx hb 14 h dX7_in_2 (by decide) (fun h => ?_) (fun h => ?_)
  · exact J14  _ (lv_sub hl [] rfl) h
  · refine lv_iload_n hx hb dX7_in_5 rfl (lv_at hl 0 rfl) ?_
    refine lv_iload_n hx hb dX7_in_6 rfl (lv_at hl 2 rfl) ?_
    refine q_cgt hx hb 14 h dX7_in_7 (by decide) (fun h => ?_) (fun h => ?_)
    · exact J14  _ (lv_sub hl [] rfl) h
    · refine lv_iconst (v := (1 : Int32)) hx hb dX7_in_10 (by decide) ?_
      refine lv_goto (tgt := 15) hx hb dX7_in_11 (by decide) ?_
      exact J15 ((1 : Int32)) _ (lv_sub hl [] rfl) h
set_option maxHeartbeats 4000000 in
set_option maxRecDepth 100000 in
theorem c7_isWriter (l : Launch) (D : va_G) (cI : ClassId) (x0 : Int32) (u : Int32) (h : f7_isWriter x0 = some u) : q_RO q_E0 l yX7_isWriter wsX7_isWriter (rmq (1)) D cI [.int x0] [] u := by
  refine q_startR (cc := cX7_isWriter) (maxL := 1) (ty := .boolean) (own := RX7) (by decide) rfl rfl (Nat.le_of_ble_eq_true rfl) rfl (fun p e s m args below meth c Q hx hb hml hown hts hP hK hEv hret ls hl => ?_)
  unfold f7_isWriter at h
  refine lv_iload_n hx hb dX7_isWriter_0 rfl (lv_at hl 0 rfl) ?_
  refine lv_iconst (v := (0 : Int32)) hx hb dX7_isWriter_1 (by decide) ?_
  refine lv_bipush (v := (7 : Int32)) hx hb dX7_isWriter_2 (by decide) ?_
  refine q_callRS q_E0ok (rest := []) ⟨hx, hb, hml, hown, hts⟩ (fun r hr => c7_in l D cI x0 ((0 : Int32)) ((7 : Int32)) r hr) (va_cwS 3 hts gX7_isWriter_X7_in rfl rfl rfl hdX7_in (rmq_ok (Nat.le_of_ble_eq_true rfl) (Nat.le_of_ble_eq_true rfl))) hK hP hEv va_S.rf [] rfl rfl rfl hl.1 (Nat.le_of_ble_eq_true rfl) ⟨Nat.zero_le _, Nat.zero_le _⟩ h dX7_isWriter_4 (fun t4 h => ?_)
  obtain ⟨hz, h⟩ := q_bz_of h
  exact hret _ _ _ (q_nz hz) h dX7_isWriter_7
set_option maxHeartbeats 4000000 in
set_option maxRecDepth 100000 in
theorem c7_isAct (l : Launch) (D : va_G) (cI : ClassId) (qm : Nat → Nat) (m_images m_newMany m_at m_open m_steps m_use m_traced m_speaks m_isParted : Int32) (m_s : Nat → Int32) (x1 : Int32) (u : Int32) (h : f7_isAct x1 m_s = some u) : q_RO q_E0 l yX7_isAct wsX7_isAct (rmq (1)) D cI [.ref (qm 0), .int x1] [(qm 0, .inr (7, oX7 qm m_images m_newMany m_at m_open m_steps m_use m_traced m_speaks m_isParted)), (qm 1, .inl (cI, 3974, .inl m_s))] u := by
  refine q_startR (cc := cX7_isAct) (maxL := 2) (ty := .boolean) (own := RX7) (by decide) rfl rfl (Nat.le_of_ble_eq_true rfl) rfl (fun p e s m args below meth c Q hx hb hml hown hts hP hK hEv hret ls hl => ?_)
  have in7 : ∀ w ∈ wsX70, w ∈ wsX7_isAct := fun w h => List.mem_cons_of_mem _ (List.mem_append_right _ (h))
  have l7 := hts (.fieldLink RX7 7 "PageWarsModel" "s" "[I") (List.mem_of_getElem? (i := 1) rfl)
  unfold f7_isAct at h
  refine lv_iload_n hx hb dX7_isAct_0 rfl (lv_at hl 1 rfl) ?_
  refine lv_iconst (v := (0 : Int32)) hx hb dX7_isAct_1 (by decide) ?_
  refine lv_aload_n hx hb dX7_isAct_2 rfl (lv_at hl 0 rfl) ?_
  refine va_get (D := D) (ci := 7) (v := .ref (qm 1)) (C := RX7) (T := TX7) (N := 24) hx hb hts in7 hown hK hP 0 rfl rfl 0 (by decide) l7 (fun _ h9 => h9) rfl dX7_isAct_3 ?_
  refine lv_iconst (v := (1 : Int32)) hx hb dX7_isAct_6 (by decide) ?_
  refine q_iald hx hb hK hP 1 0 rfl rfl h dX7_isAct_7 (fun t7 h => ?_)
  refine lv_iconst (v := (1 : Int32)) hx hb dX7_isAct_8 (by decide) ?_
  refine lv_isub hx hb dX7_isAct_9 ?_
  refine q_callRS q_E0ok (rest := []) ⟨hx, hb, hml, hown, hts⟩ (fun r hr => c7_in l D cI x1 ((0 : Int32)) (t7 - ((1 : Int32))) r hr) (va_cwS 3 hts gX7_isAct_X7_in rfl rfl rfl hdX7_in (rmq_ok (Nat.le_of_ble_eq_true rfl) (Nat.le_of_ble_eq_true rfl))) hK hP hEv va_S.rf [] rfl rfl rfl hl.1 (Nat.le_of_ble_eq_true rfl) ⟨Nat.zero_le _, Nat.zero_le _⟩ h dX7_isAct_10 (fun t10 h => ?_)
  obtain ⟨hz, h⟩ := q_bz_of h
  exact hret _ _ _ (q_nz hz) h dX7_isAct_13
set_option maxHeartbeats 4000000 in
set_option maxRecDepth 100000 in
theorem c7_isVersion (l : Launch) (D : va_G) (cI : ClassId) (qm : Nat → Nat) (m_images m_newMany m_at m_open m_steps m_use m_traced m_speaks m_isParted : Int32) (m_s : Nat → Int32) (x1 : Int32) (u : Int32) (h : f7_isVersion x1 m_s = some u) : q_RO q_E0 l yX7_isVersion wsX7_isVersion (rmq (1)) D cI [.ref (qm 0), .int x1] [(qm 0, .inr (7, oX7 qm m_images m_newMany m_at m_open m_steps m_use m_traced m_speaks m_isParted)), (qm 1, .inl (cI, 3974, .inl m_s))] u := by
  refine q_startR (cc := cX7_isVersion) (maxL := 2) (ty := .boolean) (own := RX7) (by decide) rfl rfl (Nat.le_of_ble_eq_true rfl) rfl (fun p e s m args below meth c Q hx hb hml hown hts hP hK hEv hret ls hl => ?_)
  have in7 : ∀ w ∈ wsX70, w ∈ wsX7_isVersion := fun w h => List.mem_cons_of_mem _ (List.mem_append_right _ (h))
  have l7 := hts (.fieldLink RX7 7 "PageWarsModel" "s" "[I") (List.mem_of_getElem? (i := 1) rfl)
  unfold f7_isVersion at h
  refine lv_iload_n hx hb dX7_isVersion_0 rfl (lv_at hl 1 rfl) ?_
  refine lv_iconst (v := (0 : Int32)) hx hb dX7_isVersion_1 (by decide) ?_
  refine lv_aload_n hx hb dX7_isVersion_2 rfl (lv_at hl 0 rfl) ?_
  refine va_get (D := D) (ci := 7) (v := .ref (qm 1)) (C := RX7) (T := TX7) (N := 24) hx hb hts in7 hown hK hP 0 rfl rfl 0 (by decide) l7 (fun _ h9 => h9) rfl dX7_isVersion_3 ?_
  refine lv_iconst (v := (1 : Int32)) hx hb dX7_isVersion_6 (by decide) ?_
  refine q_iald hx hb hK hP 1 0 rfl rfl h dX7_isVersion_7 (fun t7 h => ?_)
  refine q_callRS q_E0ok (rest := []) ⟨hx, hb, hml, hown, hts⟩ (fun r hr => c7_in l D cI x1 ((0 : Int32)) t7 r hr) (va_cwS 3 hts gX7_isVersion_X7_in rfl rfl rfl hdX7_in (rmq_ok (Nat.le_of_ble_eq_true rfl) (Nat.le_of_ble_eq_true rfl))) hK hP hEv va_S.rf [] rfl rfl rfl hl.1 (Nat.le_of_ble_eq_true rfl) ⟨Nat.zero_le _, Nat.zero_le _⟩ h dX7_isVersion_8 (fun t8 h => ?_)
  obtain ⟨hz, h⟩ := q_bz_of h
  exact hret _ _ _ (q_nz hz) h dX7_isVersion_11
set_option maxHeartbeats 4000000 in
set_option maxRecDepth 100000 in
theorem c7_actIs1 (l : Launch) (D : va_G) (cI : ClassId) (qm : Nat → Nat) (m_images m_newMany m_at m_open m_steps m_use m_traced m_speaks m_isParted : Int32) (m_s : Nat → Int32) (x1 : Int32) (x2 : Int32) (u : Int32) (h : f7_actIs1 x1 x2 m_s = some u) : q_RO q_E0 l yX7_actIs1 wsX7_actIs1 (rmq (0)) D cI [.ref (qm 0), .int x1, .int x2] [(qm 0, .inr (7, oX7 qm m_images m_newMany m_at m_open m_steps m_use m_traced m_speaks m_isParted)), (qm 1, .inl (cI, 3974, .inl m_s))] u := by
  refine q_startR (cc := cX7_actIs1) (maxL := 3) (ty := .int) (own := RX7) (by decide) rfl rfl (Nat.le_of_ble_eq_true rfl) rfl (fun p e s m args below meth c Q hx hb hml hown hts hP hK hEv hret ls hl => ?_)
  have in7 : ∀ w ∈ wsX70, w ∈ wsX7_actIs1 := fun w h => List.mem_cons_of_mem _ (List.mem_append_right _ (h))
  have l7 := hts (.fieldLink RX7 7 "PageWarsModel" "s" "[I") (List.mem_of_getElem? (i := 1) rfl)
  unfold f7_actIs1 at h
  refine lv_aload_n hx hb dX7_actIs1_0 rfl (lv_at hl 0 rfl) ?_
  refine va_get (D := D) (ci := 7) (v := .ref (qm 1)) (C := RX7) (T := TX7) (N := 24) hx hb hts in7 hown hK hP 0 rfl rfl 0 (by decide) l7 (fun _ h9 => h9) rfl dX7_actIs1_1 ?_
  refine lv_bipush (v := (10 : Int32)) hx hb dX7_actIs1_4 (by decide) ?_
  refine lv_iconst (v := (5 : Int32)) hx hb dX7_actIs1_6 (by decide) ?_
  refine lv_iload_n hx hb dX7_actIs1_7 rfl (lv_at hl 1 rfl) ?_
  refine lv_imul hx hb dX7_actIs1_8 ?_
  refine lv_iadd hx hb dX7_actIs1_9 ?_
  refine lv_iload_n hx hb dX7_actIs1_10 rfl (lv_at hl 2 rfl) ?_
  refine lv_iadd hx hb dX7_actIs1_11 ?_
  refine q_iald hx hb hK hP 1 0 rfl rfl h dX7_actIs1_12 (fun t12 h => ?_)
  exact hret _ _ _ (vp_nar_int _) h dX7_actIs1_13
set_option maxHeartbeats 4000000 in
set_option maxRecDepth 100000 in
theorem c7_sizeOf (l : Launch) (D : va_G) (cI : ClassId) (qm : Nat → Nat) (m_images m_newMany m_at m_open m_steps m_use m_traced m_speaks m_isParted : Int32) (m_s : Nat → Int32) (x1 : Int32) (u : Int32) (h : f7_sizeOf x1 m_s = some u) : q_RO q_E0 l yX7_sizeOf wsX7_sizeOf (rmq (0)) D cI [.ref (qm 0), .int x1] [(qm 0, .inr (7, oX7 qm m_images m_newMany m_at m_open m_steps m_use m_traced m_speaks m_isParted)), (qm 1, .inl (cI, 3974, .inl m_s))] u := by
  refine q_startR (cc := cX7_sizeOf) (maxL := 2) (ty := .int) (own := RX7) (by decide) rfl rfl (Nat.le_of_ble_eq_true rfl) rfl (fun p e s m args below meth c Q hx hb hml hown hts hP hK hEv hret ls hl => ?_)
  have in7 : ∀ w ∈ wsX70, w ∈ wsX7_sizeOf := fun w h => List.mem_cons_of_mem _ (List.mem_append_right _ (h))
  have l7 := hts (.fieldLink RX7 7 "PageWarsModel" "s" "[I") (List.mem_of_getElem? (i := 1) rfl)
  unfold f7_sizeOf at h
  refine lv_aload_n hx hb dX7_sizeOf_0 rfl (lv_at hl 0 rfl) ?_
  refine va_get (D := D) (ci := 7) (v := .ref (qm 1)) (C := RX7) (T := TX7) (N := 24) hx hb hts in7 hown hK hP 0 rfl rfl 0 (by decide) l7 (fun _ h9 => h9) rfl dX7_sizeOf_1 ?_
  refine lv_sipush (v := (310 : Int32)) hx hb dX7_sizeOf_4 (by decide) ?_
  refine lv_iload_n hx hb dX7_sizeOf_7 rfl (lv_at hl 1 rfl) ?_
  refine lv_iadd hx hb dX7_sizeOf_8 ?_
  refine q_iald hx hb hK hP 1 0 rfl rfl h dX7_sizeOf_9 (fun t9 h => ?_)
  exact hret _ _ _ (vp_nar_int _) h dX7_sizeOf_10
set_option maxHeartbeats 4000000 in
set_option maxRecDepth 100000 in
theorem c7_wordAt (l : Launch) (D : va_G) (cI : ClassId) (qm : Nat → Nat) (m_images m_newMany m_at m_open m_steps m_use m_traced m_speaks m_isParted : Int32) (m_s : Nat → Int32) (x1 : Int32) (x2 : Int32) (u : Int32) (h : f7_wordAt x1 x2 m_s = some u) : q_RO q_E0 l yX7_wordAt wsX7_wordAt (rmq (0)) D cI [.ref (qm 0), .int x1, .int x2] [(qm 0, .inr (7, oX7 qm m_images m_newMany m_at m_open m_steps m_use m_traced m_speaks m_isParted)), (qm 1, .inl (cI, 3974, .inl m_s))] u := by
  refine q_startR (cc := cX7_wordAt) (maxL := 3) (ty := .int) (own := RX7) (by decide) rfl rfl (Nat.le_of_ble_eq_true rfl) rfl (fun p e s m args below meth c Q hx hb hml hown hts hP hK hEv hret ls hl => ?_)
  have in7 : ∀ w ∈ wsX70, w ∈ wsX7_wordAt := fun w h => List.mem_cons_of_mem _ (List.mem_append_right _ (h))
  have l7 := hts (.fieldLink RX7 7 "PageWarsModel" "s" "[I") (List.mem_of_getElem? (i := 1) rfl)
  unfold f7_wordAt at h
  refine lv_aload_n hx hb dX7_wordAt_0 rfl (lv_at hl 0 rfl) ?_
  refine va_get (D := D) (ci := 7) (v := .ref (qm 1)) (C := RX7) (T := TX7) (N := 24) hx hb hts in7 hown hK hP 0 rfl rfl 0 (by decide) l7 (fun _ h9 => h9) rfl dX7_wordAt_1 ?_
  refine lv_sipush (v := (380 : Int32)) hx hb dX7_wordAt_4 (by decide) ?_
  refine lv_bipush (v := (20 : Int32)) hx hb dX7_wordAt_7 (by decide) ?_
  refine lv_iload_n hx hb dX7_wordAt_9 rfl (lv_at hl 1 rfl) ?_
  refine lv_imul hx hb dX7_wordAt_10 ?_
  refine lv_iadd hx hb dX7_wordAt_11 ?_
  refine lv_iload_n hx hb dX7_wordAt_12 rfl (lv_at hl 2 rfl) ?_
  refine lv_iadd hx hb dX7_wordAt_13 ?_
  refine q_iald hx hb hK hP 1 0 rfl rfl h dX7_wordAt_14 (fun t14 h => ?_)
  exact hret _ _ _ (vp_nar_int _) h dX7_wordAt_15
set_option maxHeartbeats 4000000 in
set_option maxRecDepth 100000 in
theorem c7_originAt (l : Launch) (D : va_G) (cI : ClassId) (qm : Nat → Nat) (m_images m_newMany m_at m_open m_steps m_use m_traced m_speaks m_isParted : Int32) (m_s : Nat → Int32) (x1 : Int32) (x2 : Int32) (u : Int32) (h : f7_originAt x1 x2 m_s = some u) : q_RO q_E0 l yX7_originAt wsX7_originAt (rmq (0)) D cI [.ref (qm 0), .int x1, .int x2] [(qm 0, .inr (7, oX7 qm m_images m_newMany m_at m_open m_steps m_use m_traced m_speaks m_isParted)), (qm 1, .inl (cI, 3974, .inl m_s))] u := by
  refine q_startR (cc := cX7_originAt) (maxL := 3) (ty := .int) (own := RX7) (by decide) rfl rfl (Nat.le_of_ble_eq_true rfl) rfl (fun p e s m args below meth c Q hx hb hml hown hts hP hK hEv hret ls hl => ?_)
  have in7 : ∀ w ∈ wsX70, w ∈ wsX7_originAt := fun w h => List.mem_cons_of_mem _ (List.mem_append_right _ (h))
  have l7 := hts (.fieldLink RX7 7 "PageWarsModel" "s" "[I") (List.mem_of_getElem? (i := 1) rfl)
  unfold f7_originAt at h
  refine lv_aload_n hx hb dX7_originAt_0 rfl (lv_at hl 0 rfl) ?_
  refine va_get (D := D) (ci := 7) (v := .ref (qm 1)) (C := RX7) (T := TX7) (N := 24) hx hb hts in7 hown hK hP 0 rfl rfl 0 (by decide) l7 (fun _ h9 => h9) rfl dX7_originAt_1 ?_
  refine lv_sipush (v := (1600 : Int32)) hx hb dX7_originAt_4 (by decide) ?_
  refine lv_bipush (v := (20 : Int32)) hx hb dX7_originAt_7 (by decide) ?_
  refine lv_iload_n hx hb dX7_originAt_9 rfl (lv_at hl 1 rfl) ?_
  refine lv_imul hx hb dX7_originAt_10 ?_
  refine lv_iadd hx hb dX7_originAt_11 ?_
  refine lv_iload_n hx hb dX7_originAt_12 rfl (lv_at hl 2 rfl) ?_
  refine lv_iadd hx hb dX7_originAt_13 ?_
  refine q_iald hx hb hK hP 1 0 rfl rfl h dX7_originAt_14 (fun t14 h => ?_)
  exact hret _ _ _ (vp_nar_int _) h dX7_originAt_15
set_option maxHeartbeats 4000000 in
set_option maxRecDepth 100000 in
theorem c7_page (l : Launch) (D : va_G) (cI : ClassId) (qm : Nat → Nat) (m_images m_newMany m_at m_open m_steps m_use m_traced m_speaks m_isParted : Int32) (m_s : Nat → Int32) (u : Int32) (h : f7_page m_s = some u) : q_RO q_E0 l yX7_page wsX7_page (rmq (1)) D cI [.ref (qm 0)] [(qm 0, .inr (7, oX7 qm m_images m_newMany m_at m_open m_steps m_use m_traced m_speaks m_isParted)), (qm 1, .inl (cI, 3974, .inl m_s))] u := by
  refine q_startR (cc := cX7_page) (maxL := 1) (ty := .int) (own := RX7) (by decide) rfl rfl (Nat.le_of_ble_eq_true rfl) rfl (fun p e s m args below meth c Q hx hb hml hown hts hP hK hEv hret ls hl => ?_)
  have in7 : ∀ w ∈ wsX70, w ∈ wsX7_page := fun w h => List.mem_cons_of_mem _ (List.mem_append_right _ (h))
  have l7 := hts (.fieldLink RX7 7 "PageWarsModel" "s" "[I") (List.mem_of_getElem? (i := 1) rfl)
  unfold f7_page at h
  refine lv_aload_n hx hb dX7_page_0 rfl (lv_at hl 0 rfl) ?_
  refine lv_aload_n hx hb dX7_page_1 rfl (lv_at hl 0 rfl) ?_
  refine va_get (D := D) (ci := 7) (v := .ref (qm 1)) (C := RX7) (T := TX7) (N := 24) hx hb hts in7 hown hK hP 0 rfl rfl 0 (by decide) l7 (fun _ h9 => h9) rfl dX7_page_2 ?_
  refine lv_iconst (v := (1 : Int32)) hx hb dX7_page_5 (by decide) ?_
  refine q_iald hx hb hK hP 1 0 rfl rfl h dX7_page_6 (fun t6 h => ?_)
  refine q_callR q_E0ok (rest := []) ⟨hx, hb, hml, hown, hts⟩ (fun r hr => c7_sizeOf l D cI qm m_images m_newMany m_at m_open m_steps m_use m_traced m_speaks m_isParted m_s t6 r hr) (cwV 1 hts gX7_page_X7_sizeOf rfl rfl rfl hdX7_sizeOf (rmq_ok (Nat.le_of_ble_eq_true rfl) (Nat.le_of_ble_eq_true rfl))) hK hP hEv va_S.rf [0, 1] rfl (va_recv hK hP (ci := 7) (q0 := 0) rfl rfl) rfl rfl hl.1 (Nat.le_of_ble_eq_true rfl) ⟨Nat.zero_le _, Nat.zero_le _⟩ h dX7_page_7 (fun t7 h => ?_)
  exact hret _ _ _ (vp_nar_int _) h dX7_page_10
set_option maxHeartbeats 4000000 in
set_option maxRecDepth 100000 in
theorem c7_isUnder (l : Launch) (D : va_G) (cI : ClassId) (x0 : Int32) (x1 : Int32) (u : Int32) (h : f7_isUnder x0 x1 = some u) : q_RO q_E0 l yX7_isUnder wsX7_isUnder (rmq (0)) D cI [.int x0, .int x1] [] u := by
  refine q_startR (cc := cX7_isUnder) (maxL := 2) (ty := .boolean) (own := RX7) (by decide) rfl rfl (Nat.le_of_ble_eq_true rfl) rfl (fun p e s m args below meth c Q hx hb hml hown hts hP hK hEv hret ls hl => ?_)
  have J39 : ∀ (s0 : Int32) (ls : Array Slot), lv_has ls 2 [] → f7_isUnder_39  s0 = some u → W p l e (rmq (0)) s m args below meth c s.heap [] 0 0 Q (F0 m 39 ls [.int s0]) := by
    intro s0  ls hl h
    unfold f7_isUnder_39 at h
    obtain ⟨hz, h⟩ := q_bz_of h
    exact hret _ _ _ (q_nz hz) h dX7_isUnder_39
  have J38 : ∀  (ls : Array Slot), lv_has ls 2 [] → f7_isUnder_38   = some u → W p l e (rmq (0)) s m args below meth c s.heap [] 0 0 Q (F0 m 38 ls []) := by
    intro   ls hl h
    unfold f7_isUnder_38 at h
    refine lv_iconst (v := (0 : Int32)) hx hb dX7_isUnder_38 (by decide) ?_
    exact J39 ((0 : Int32)) _ (lv_sub hl [] rfl) h
  have J34 : ∀  (ls : Array Slot), lv_has ls 2 [] → f7_isUnder_34   = some u → W p l e (rmq (0)) s m args below meth c s.heap [] 0 0 Q (F0 m 34 ls []) := by
    intro   ls hl h
    unfold f7_isUnder_34 at h
    refine lv_iconst (v := (1 : Int32)) hx hb dX7_isUnder_34 (by decide) ?_
    refine lv_goto (tgt := 39) hx hb dX7_isUnder_35 (by decide) ?_
    exact J39 ((1 : Int32)) _ (lv_sub hl [] rfl) h
  have J24 : ∀ (x0 : Int32) (x1 : Int32) (ls : Array Slot), lv_has ls 2 [(0, .int x0), (1, .int x1)] → f7_isUnder_24  x0 x1 = some u → W p l e (rmq (0)) s m args below meth c s.heap [] 0 0 Q (F0 m 24 ls []) := by
    intro x0 x1  ls hl h
    unfold f7_isUnder_24 at h
    refine lv_iload_n hx hb dX7_isUnder_24 rfl (lv_at hl 1 rfl) ?_
    refine lv_iconst (v := (2 : Int32)) hx hb dX7_isUnder_25 (by decide) ?_
    refine q_cne hx hb 38 h dX7_isUnder_26 (by decide) (fun h => ?_) (fun h => ?_)
    · exact J38  _ (lv_sub hl [] rfl) h
    · refine lv_iload_n hx hb dX7_isUnder_29 rfl (lv_at hl 0 rfl) ?_
      refine lv_iconst (v := (3 : Int32)) hx hb dX7_isUnder_30 (by decide) ?_
      refine q_cne hx hb 38 h dX7_isUnder_31 (by decide) (fun h => ?_) (fun h => ?_)
      · exact J38  _ (lv_sub hl [] rfl) h
      · exact J34  _ (lv_sub hl [] rfl) h
  unfold f7_isUnder at h
  refine lv_iload_n hx hb dX7_isUnder_0 rfl (lv_at hl 1 rfl) ?_
  refine q_ifeq hx hb 34 h dX7_isUnder_1 (by decide) (fun h => ?_) (fun h => ?_)
  · exact J34  _ (lv_sub hl [] rfl) h
  · refine lv_iload_n hx hb dX7_isUnder_4 rfl (lv_at hl 0 rfl) ?_
    refine lv_iload_n hx hb dX7_isUnder_5 rfl (lv_at hl 1 rfl) ?_
    refine q_ceq hx hb 34 h dX7_isUnder_6 (by decide) (fun h => ?_) (fun h => ?_)
    · exact J34  _ (lv_sub hl [] rfl) h
    · refine lv_iload_n hx hb dX7_isUnder_9 rfl (lv_at hl 1 rfl) ?_
      refine lv_iconst (v := (1 : Int32)) hx hb dX7_isUnder_10 (by decide) ?_
      refine q_cne hx hb 24 h dX7_isUnder_11 (by decide) (fun h => ?_) (fun h => ?_)
      · exact J24 x0 x1 _ (lv_sub hl [0, 1] rfl) h
      · refine lv_iload_n hx hb dX7_isUnder_14 rfl (lv_at hl 0 rfl) ?_
        refine lv_iconst (v := (4 : Int32)) hx hb dX7_isUnder_15 (by decide) ?_
        refine q_ceq hx hb 34 h dX7_isUnder_16 (by decide) (fun h => ?_) (fun h => ?_)
        · exact J34  _ (lv_sub hl [] rfl) h
        · refine lv_iload_n hx hb dX7_isUnder_19 rfl (lv_at hl 0 rfl) ?_
          refine lv_iconst (v := (5 : Int32)) hx hb dX7_isUnder_20 (by decide) ?_
          refine q_ceq hx hb 34 h dX7_isUnder_21 (by decide) (fun h => ?_) (fun h => ?_)
          · exact J34  _ (lv_sub hl [] rfl) h
          · exact J24 x0 x1 _ (lv_sub hl [0, 1] rfl) h
set_option maxHeartbeats 4000000 in
set_option maxRecDepth 100000 in
theorem c7_go (l : Launch) (D : va_G) (cI : ClassId) (qm : Nat → Nat) (m_images m_newMany m_at m_open m_steps m_use m_traced m_speaks m_isParted : Int32) (m_s m_errors : Nat → Int32) (x1 : Int32) (u : Int32 × (Nat → Int32) × (Nat → Int32)) (h : f7_go x1 m_s m_errors = some u) : q_RW q_E0 l yX7_go wsX7_go (rmq (1)) D cI [.ref (qm 0), .int x1] [(qm 0, .inr (7, oX7 qm m_images m_newMany m_at m_open m_steps m_use m_traced m_speaks m_isParted)), (qm 1, .inl (cI, 3974, .inl m_s)), (qm 4, .inl (cI, 7, .inl m_errors))] [(qm 0, .inr (7, oX7 qm m_images m_newMany m_at m_open m_steps m_use m_traced m_speaks m_isParted)), (qm 1, .inl (cI, 3974, .inl u.2.1)), (qm 4, .inl (cI, 7, .inl u.2.2))] u.1 := by
  refine q_startW (fun u : Int32 × (Nat → Int32) × (Nat → Int32) => [(qm 0, .inr (7, oX7 qm m_images m_newMany m_at m_open m_steps m_use m_traced m_speaks m_isParted)), (qm 1, .inl (cI, 3974, .inl u.2.1)), (qm 4, .inl (cI, 7, .inl u.2.2))]) (fun u => u.1) (cc := cX7_go) (maxL := 2) (ty := .int) (own := RX7) (by decide) rfl rfl (Nat.le_of_ble_eq_true rfl) rfl (fun p e s m args below meth c Q A hx hb hml hown hts hK hEv hA hret hP hD hS ls hl => ?_)
  have in7 : ∀ w ∈ wsX70, w ∈ wsX7_go := fun w h => List.mem_cons_of_mem _ (List.mem_append_right _ (h))
  have l7 := hts (.fieldLink RX7 7 "PageWarsModel" "s" "[I") (List.mem_of_getElem? (i := 1) rfl)
  unfold f7_go at h
  refine lv_iload_n hx hb dX7_go_0 rfl (lv_at hl 1 rfl) ?_
  refine lv_iconst (v := (1 : Int32)) hx hb dX7_go_1 (by decide) ?_
  refine lv_sipush (v := (9999 : Int32)) hx hb dX7_go_2 (by decide) ?_
  refine q_callRS q_E0ok (rest := []) ⟨hx, hb, hml, hown, hts⟩ (fun r hr => c7_in l D cI x1 ((1 : Int32)) ((9999 : Int32)) r hr) (va_cwS 3 hts gX7_go_X7_in rfl rfl rfl hdX7_in (rmq_ok (Nat.le_of_ble_eq_true rfl) (Nat.le_of_ble_eq_true rfl))) hK hP hEv hS [] rfl rfl rfl hl.1 (Nat.le_of_ble_eq_true rfl) ⟨Nat.zero_le _, Nat.zero_le _⟩ h dX7_go_5 (fun t5 h => ?_)
  refine q_ifne hx hb 17 h dX7_go_8 (by decide) (fun h => ?_) (fun h => ?_)
  · refine lv_aload_n hx hb dX7_go_17 rfl (lv_at hl 0 rfl) ?_
    refine va_get (D := D) (ci := 7) (v := .ref (qm 1)) (C := RX7) (T := TX7) (N := 24) hx hb hts in7 hown hK hP 0 rfl rfl 0 (by decide) l7 (fun _ h9 => h9) rfl dX7_go_18 ?_
    refine lv_iconst (v := (0 : Int32)) hx hb dX7_go_21 (by decide) ?_
    refine q_iald hx hb hK hP 1 0 rfl rfl h dX7_go_22 (fun t22 h => ?_)
    refine lv_iload_n hx hb dX7_go_23 rfl (lv_at hl 1 rfl) ?_
    refine lv_iadd hx hb dX7_go_24 ?_
    refine lv_sipush (v := (29999 : Int32)) hx hb dX7_go_25 (by decide) ?_
    refine q_cle hx hb 37 h dX7_go_28 (by decide) (fun h => ?_) (fun h => ?_)
    · refine lv_aload_n hx hb dX7_go_37 rfl (lv_at hl 0 rfl) ?_
      refine va_get (D := D) (ci := 7) (v := .ref (qm 1)) (C := RX7) (T := TX7) (N := 24) hx hb hts in7 hown hK hP 0 rfl rfl 0 (by decide) l7 (fun _ h9 => h9) rfl dX7_go_38 ?_
      refine lv_iconst (v := (0 : Int32)) hx hb dX7_go_41 (by decide) ?_
      refine lv_dup2_11 hx hb dX7_go_42 rfl rfl ?_
      refine q_iald hx hb hK hP 1 0 rfl rfl h dX7_go_43 (fun t43 h => ?_)
      refine lv_iload_n hx hb dX7_go_44 rfl (lv_at hl 1 rfl) ?_
      refine lv_iadd hx hb dX7_go_45 ?_
      refine q_iast hx hb hK hP hD hS 1 0 rfl rfl h dX7_go_46 (fun m_s_46 H locs h hP hD hS => ?_)
      have hP : va_P D vwCl [(qm 0, .inr (7, oX7 qm m_images m_newMany m_at m_open m_steps m_use m_traced m_speaks m_isParted)), (qm 1, .inl (cI, 3974, .inl m_s_46)), (qm 4, .inl (cI, 7, .inl m_errors))] H := hP
      have hD : va_D A [(qm 0, .inr (7, oX7 qm m_images m_newMany m_at m_open m_steps m_use m_traced m_speaks m_isParted)), (qm 1, .inl (cI, 3974, .inl m_s_46)), (qm 4, .inl (cI, 7, .inl m_errors))] := hD
      refine lv_aload_n hx hb dX7_go_47 rfl (lv_at hl 0 rfl) ?_
      refine va_get (D := D) (ci := 7) (v := .ref (qm 1)) (C := RX7) (T := TX7) (N := 24) hx hb hts in7 hown hK hP 0 rfl rfl 0 (by decide) l7 (fun _ h9 => h9) rfl dX7_go_48 ?_
      refine lv_iconst (v := (0 : Int32)) hx hb dX7_go_51 (by decide) ?_
      refine q_iald hx hb hK hP 1 0 rfl rfl h dX7_go_52 (fun t52 h => ?_)
      exact hret (t52, m_s_46, m_errors) _ _ _ _ (vp_nar_int _) h hP hD hS dX7_go_53
    · refine lv_aload_n hx hb dX7_go_31 rfl (lv_at hl 0 rfl) ?_
      refine lv_iconst (v := (3 : Int32)) hx hb dX7_go_32 (by decide) ?_
      refine q_callW2 q_E0ok (rest := []) (fun u => [(qm 0, .inr (7, oX7 qm m_images m_newMany m_at m_open m_steps m_use m_traced m_speaks m_isParted)), (qm 4, .inl (cI, 7, .inl u.2))]) (fun u => u.1) ⟨hx, hb, hml, hown, hts⟩ (fun u hu => c7_error l D cI qm m_images m_newMany m_at m_open m_steps m_use m_traced m_speaks m_isParted m_errors ((3 : Int32)) u hu) (cwV 1 hts gX7_go_X7_error rfl rfl rfl hdX7_error (rmq_ok (Nat.le_of_ble_eq_true rfl) (Nat.le_of_ble_eq_true rfl))) hK hEv hA hP hD hS [0, 2] (by decide) rfl (fun _ => rfl) (va_recv hK hP (ci := 7) (q0 := 0) rfl rfl) rfl rfl hl.1 (Nat.le_of_ble_eq_true rfl) ⟨Nat.zero_le _, Nat.zero_le _⟩ h dX7_go_33 (fun t33 m_errors_33 H locs h hP hD hS => ?_)
      have hP : va_P D vwCl [(qm 0, .inr (7, oX7 qm m_images m_newMany m_at m_open m_steps m_use m_traced m_speaks m_isParted)), (qm 1, .inl (cI, 3974, .inl m_s)), (qm 4, .inl (cI, 7, .inl m_errors_33))] H := hP
      have hD : va_D A [(qm 0, .inr (7, oX7 qm m_images m_newMany m_at m_open m_steps m_use m_traced m_speaks m_isParted)), (qm 1, .inl (cI, 3974, .inl m_s)), (qm 4, .inl (cI, 7, .inl m_errors_33))] := hD
      exact hret (t33, m_s, m_errors_33) _ _ _ _ (vp_nar_int _) h hP hD hS dX7_go_36
  · refine lv_aload_n hx hb dX7_go_11 rfl (lv_at hl 0 rfl) ?_
    refine lv_iconst (v := (1 : Int32)) hx hb dX7_go_12 (by decide) ?_
    refine q_callW2 q_E0ok (rest := []) (fun u => [(qm 0, .inr (7, oX7 qm m_images m_newMany m_at m_open m_steps m_use m_traced m_speaks m_isParted)), (qm 4, .inl (cI, 7, .inl u.2))]) (fun u => u.1) ⟨hx, hb, hml, hown, hts⟩ (fun u hu => c7_error l D cI qm m_images m_newMany m_at m_open m_steps m_use m_traced m_speaks m_isParted m_errors ((1 : Int32)) u hu) (cwV 1 hts gX7_go_X7_error rfl rfl rfl hdX7_error (rmq_ok (Nat.le_of_ble_eq_true rfl) (Nat.le_of_ble_eq_true rfl))) hK hEv hA hP hD hS [0, 2] (by decide) rfl (fun _ => rfl) (va_recv hK hP (ci := 7) (q0 := 0) rfl rfl) rfl rfl hl.1 (Nat.le_of_ble_eq_true rfl) ⟨Nat.zero_le _, Nat.zero_le _⟩ h dX7_go_13 (fun t13 m_errors_13 H locs h hP hD hS => ?_)
    have hP : va_P D vwCl [(qm 0, .inr (7, oX7 qm m_images m_newMany m_at m_open m_steps m_use m_traced m_speaks m_isParted)), (qm 1, .inl (cI, 3974, .inl m_s)), (qm 4, .inl (cI, 7, .inl m_errors_13))] H := hP
    have hD : va_D A [(qm 0, .inr (7, oX7 qm m_images m_newMany m_at m_open m_steps m_use m_traced m_speaks m_isParted)), (qm 1, .inl (cI, 3974, .inl m_s)), (qm 4, .inl (cI, 7, .inl m_errors_13))] := hD
    exact hret (t13, m_s, m_errors_13) _ _ _ _ (vp_nar_int _) h hP hD hS dX7_go_16
set_option maxHeartbeats 4000000 in
set_option maxRecDepth 100000 in
theorem c7_backsOf (l : Launch) (D : va_G) (cI : ClassId) (qm : Nat → Nat) (m_images m_newMany m_at m_open m_steps m_use m_traced m_speaks m_isParted : Int32) (m_s : Nat → Int32) (x1 : Int32) (n : Nat) (u : Int32) (h : f7_backsOf n x1 m_s = some u) : q_RO q_E0 l yX7_backsOf wsX7_backsOf (rmq (1)) D cI [.ref (qm 0), .int x1] [(qm 0, .inr (7, oX7 qm m_images m_newMany m_at m_open m_steps m_use m_traced m_speaks m_isParted)), (qm 1, .inl (cI, 3974, .inl m_s))] u := by
  refine q_startR (cc := cX7_backsOf) (maxL := 4) (ty := .int) (own := RX7) (by decide) rfl rfl (Nat.le_of_ble_eq_true rfl) rfl (fun p e s m args below meth c Q hx hb hml hown hts hP hK hEv hret ls hl => ?_)
  have in7 : ∀ w ∈ wsX70, w ∈ wsX7_backsOf := fun w h => List.mem_cons_of_mem _ (List.mem_append_right _ (h))
  have l7 := hts (.fieldLink RX7 7 "PageWarsModel" "s" "[I") (List.mem_of_getElem? (i := 1) rfl)
  have J4 : ∀ (kk4 : Nat) (x1 : Int32) (x2 : Int32) (x3 : Int32) (ls : Array Slot), lv_has ls 4 [(0, .ref (qm 0)), (1, .int x1), (2, .int x2), (3, .int x3)] → f7_backsOf_4 n m_s kk4 x1 x2 x3 = some u → W p l e (rmq (1)) s m args below meth c s.heap [] 0 0 Q (F0 m 4 ls []) := by
    intro kk4
    induction kk4 with
    | zero => intro x1 x2 x3  ls hl h; exact nomatch (show (none : Option (Int32)) = some u from h)
    | succ kk4 ih4 =>
      have J62 : ∀ (x1 : Int32) (x3 : Int32) (s0 : Int32) (s1 : Int32) (ls : Array Slot), lv_has ls 4 [(0, .ref (qm 0)), (1, .int x1), (3, .int x3)] → f7_backsOf_62 n m_s (f7_backsOf_4 n m_s kk4) x1 x3 s0 s1 = some u → W p l e (rmq (1)) s m args below meth c s.heap [] 0 0 Q (F0 m 62 ls [.int s1, .int s0]) := by
        intro x1 x3 s0 s1  ls hl h
        unfold f7_backsOf_62 at h
        refine lv_iadd hx hb dX7_backsOf_62 ?_
        refine q_let h (fun x2_63 h => ?_)
        refine lv_istore_n (lv' := [(2, .int x2_63), (0, .ref (qm 0)), (1, .int x1), (3, .int x3)]) hx hb dX7_backsOf_63 rfl hl (by decide) rfl (fun ls hl => ?_)
        refine q_iinc (fun v => [(3, .int v), (2, .int x2_63), (0, .ref (qm 0)), (1, .int x1)]) hx hb h dX7_backsOf_64 (by decide) hl (k := 3) rfl (by decide) (fun _ => rfl) (fun x3_64 ls h hl => ?_)
        refine lv_goto (tgt := 4) hx hb dX7_backsOf_67 (by decide) ?_
        exact ih4 x1 x2_63 x3_64 _ (lv_sub hl [2, 3, 1, 0] rfl) h
      have J61 : ∀ (x1 : Int32) (x3 : Int32) (s0 : Int32) (ls : Array Slot), lv_has ls 4 [(0, .ref (qm 0)), (1, .int x1), (3, .int x3)] → f7_backsOf_61 n m_s (f7_backsOf_4 n m_s kk4) x1 x3 s0 = some u → W p l e (rmq (1)) s m args below meth c s.heap [] 0 0 Q (F0 m 61 ls [.int s0]) := by
        intro x1 x3 s0  ls hl h
        unfold f7_backsOf_61 at h
        refine lv_iconst (v := (0 : Int32)) hx hb dX7_backsOf_61 (by decide) ?_
        exact J62 x1 x3 s0 ((0 : Int32)) _ (lv_sub hl [0, 1, 2] rfl) h
      intro x1 x2 x3  ls hl h
      rw [f7_backsOf_4.eq_2] at h
      refine lv_iload_n hx hb dX7_backsOf_4 rfl (lv_at hl 3 rfl) ?_
      refine lv_aload_n hx hb dX7_backsOf_5 rfl (lv_at hl 0 rfl) ?_
      refine va_get (D := D) (ci := 7) (v := .ref (qm 1)) (C := RX7) (T := TX7) (N := 24) hx hb hts in7 hown hK hP 0 rfl rfl 0 (by decide) l7 (fun _ h9 => h9) rfl dX7_backsOf_6 ?_
      refine lv_iconst (v := (1 : Int32)) hx hb dX7_backsOf_9 (by decide) ?_
      refine q_iald hx hb hK hP 1 0 rfl rfl h dX7_backsOf_10 (fun t10 h => ?_)
      refine q_cge hx hb 70 h dX7_backsOf_11 (by decide) (fun h => ?_) (fun h => ?_)
      · refine lv_iload_n hx hb dX7_backsOf_70 rfl (lv_at hl 2 rfl) ?_
        exact hret _ _ _ (vp_nar_int _) h dX7_backsOf_71
      · refine lv_iload_n hx hb dX7_backsOf_14 rfl (lv_at hl 2 rfl) ?_
        refine lv_aload_n hx hb dX7_backsOf_15 rfl (lv_at hl 0 rfl) ?_
        refine lv_iload_n hx hb dX7_backsOf_16 rfl (lv_at hl 3 rfl) ?_
        refine lv_iconst (v := (1 : Int32)) hx hb dX7_backsOf_17 (by decide) ?_
        refine q_callR q_E0ok (rest := [.int x2]) ⟨hx, hb, hml, hown, hts⟩ (fun r hr => c7_actIs1 l D cI qm m_images m_newMany m_at m_open m_steps m_use m_traced m_speaks m_isParted m_s x3 ((1 : Int32)) r hr) (cwV 2 hts gX7_backsOf_X7_actIs1 rfl rfl rfl hdX7_actIs1 (rmq_ok (Nat.le_of_ble_eq_true rfl) (Nat.le_of_ble_eq_true rfl))) hK hP hEv va_S.rf [0, 1] rfl (va_recv hK hP (ci := 7) (q0 := 0) rfl rfl) rfl rfl hl.1 (Nat.le_of_ble_eq_true rfl) ⟨Nat.zero_le _, Nat.zero_le _⟩ h dX7_backsOf_18 (fun t18 h => ?_)
        refine lv_iload_n hx hb dX7_backsOf_21 rfl (lv_at hl 1 rfl) ?_
        refine q_cne hx hb 61 h dX7_backsOf_22 (by decide) (fun h => ?_) (fun h => ?_)
        · exact J61 x1 x3 x2 _ (lv_sub hl [0, 1, 3] rfl) h
        · refine lv_aload_n hx hb dX7_backsOf_25 rfl (lv_at hl 0 rfl) ?_
          refine lv_iload_n hx hb dX7_backsOf_26 rfl (lv_at hl 3 rfl) ?_
          refine lv_iconst (v := (0 : Int32)) hx hb dX7_backsOf_27 (by decide) ?_
          refine q_callR q_E0ok (rest := [.int x2]) ⟨hx, hb, hml, hown, hts⟩ (fun r hr => c7_actIs1 l D cI qm m_images m_newMany m_at m_open m_steps m_use m_traced m_speaks m_isParted m_s x3 ((0 : Int32)) r hr) (cwV 2 hts gX7_backsOf_X7_actIs1 rfl rfl rfl hdX7_actIs1 (rmq_ok (Nat.le_of_ble_eq_true rfl) (Nat.le_of_ble_eq_true rfl))) hK hP hEv va_S.rf [0, 1] rfl (va_recv hK hP (ci := 7) (q0 := 0) rfl rfl) rfl rfl hl.1 (Nat.le_of_ble_eq_true rfl) ⟨Nat.zero_le _, Nat.zero_le _⟩ h dX7_backsOf_28 (fun t28 h => ?_)
          refine lv_iconst (v := (2 : Int32)) hx hb dX7_backsOf_31 (by decide) ?_
          refine q_callRS q_E0ok (rest := [.int x2]) ⟨hx, hb, hml, hown, hts⟩ (fun r hr => c7_isUnder l D cI t28 ((2 : Int32)) r hr) (va_cwS 2 hts gX7_backsOf_X7_isUnder rfl rfl rfl hdX7_isUnder (rmq_ok (Nat.le_of_ble_eq_true rfl) (Nat.le_of_ble_eq_true rfl))) hK hP hEv va_S.rf [] rfl rfl rfl hl.1 (Nat.le_of_ble_eq_true rfl) ⟨Nat.zero_le _, Nat.zero_le _⟩ h dX7_backsOf_32 (fun t32 h => ?_)
          refine q_ifeq hx hb 61 h dX7_backsOf_35 (by decide) (fun h => ?_) (fun h => ?_)
          · exact J61 x1 x3 x2 _ (lv_sub hl [0, 1, 3] rfl) h
          · refine lv_aload_n hx hb dX7_backsOf_38 rfl (lv_at hl 0 rfl) ?_
            refine lv_iload_n hx hb dX7_backsOf_39 rfl (lv_at hl 3 rfl) ?_
            refine lv_iconst (v := (2 : Int32)) hx hb dX7_backsOf_40 (by decide) ?_
            refine q_callR q_E0ok (rest := [.int x2]) ⟨hx, hb, hml, hown, hts⟩ (fun r hr => c7_actIs1 l D cI qm m_images m_newMany m_at m_open m_steps m_use m_traced m_speaks m_isParted m_s x3 ((2 : Int32)) r hr) (cwV 2 hts gX7_backsOf_X7_actIs1 rfl rfl rfl hdX7_actIs1 (rmq_ok (Nat.le_of_ble_eq_true rfl) (Nat.le_of_ble_eq_true rfl))) hK hP hEv va_S.rf [0, 1] rfl (va_recv hK hP (ci := 7) (q0 := 0) rfl rfl) rfl rfl hl.1 (Nat.le_of_ble_eq_true rfl) ⟨Nat.zero_le _, Nat.zero_le _⟩ h dX7_backsOf_41 (fun t41 h => ?_)
            refine lv_aload_n hx hb dX7_backsOf_44 rfl (lv_at hl 0 rfl) ?_
            refine va_get (D := D) (ci := 7) (v := .ref (qm 1)) (C := RX7) (T := TX7) (N := 24) hx hb hts in7 hown hK hP 0 rfl rfl 0 (by decide) l7 (fun _ h9 => h9) rfl dX7_backsOf_45 ?_
            refine lv_iconst (v := (0 : Int32)) hx hb dX7_backsOf_48 (by decide) ?_
            refine q_iald hx hb hK hP 1 0 rfl rfl h dX7_backsOf_49 (fun t49 h => ?_)
            refine lv_sipush (v := (1440 : Int32)) hx hb dX7_backsOf_50 (by decide) ?_
            refine lv_isub hx hb dX7_backsOf_53 ?_
            refine q_cle hx hb 61 h dX7_backsOf_54 (by decide) (fun h => ?_) (fun h => ?_)
            · exact J61 x1 x3 x2 _ (lv_sub hl [0, 1, 3] rfl) h
            · refine lv_iconst (v := (1 : Int32)) hx hb dX7_backsOf_57 (by decide) ?_
              refine lv_goto (tgt := 62) hx hb dX7_backsOf_58 (by decide) ?_
              exact J62 x1 x3 x2 ((1 : Int32)) _ (lv_sub hl [0, 1, 3] rfl) h
  unfold f7_backsOf at h
  refine lv_iconst (v := (0 : Int32)) hx hb dX7_backsOf_0 (by decide) ?_
  refine lv_istore_n (lv' := [(2, .int ((0 : Int32))), (0, .ref (qm 0)), (1, .int x1)]) hx hb dX7_backsOf_1 rfl hl (by decide) rfl (fun ls hl => ?_)
  refine lv_iconst (v := (0 : Int32)) hx hb dX7_backsOf_2 (by decide) ?_
  refine lv_istore_n (lv' := [(3, .int ((0 : Int32))), (2, .int ((0 : Int32))), (0, .ref (qm 0)), (1, .int x1)]) hx hb dX7_backsOf_3 rfl hl (by decide) rfl (fun ls hl => ?_)
  exact J4 n x1 ((0 : Int32)) ((0 : Int32)) _ (lv_sub hl [2, 3, 1, 0] rfl) h
set_option maxHeartbeats 4000000 in
set_option maxRecDepth 100000 in
theorem c7_actsOf (l : Launch) (D : va_G) (cI : ClassId) (qm : Nat → Nat) (m_images m_newMany m_at m_open m_steps m_use m_traced m_speaks m_isParted : Int32) (m_s : Nat → Int32) (x1 : Int32) (n : Nat) (u : Int32) (h : f7_actsOf n x1 m_s = some u) : q_RO q_E0 l yX7_actsOf wsX7_actsOf (rmq (1)) D cI [.ref (qm 0), .int x1] [(qm 0, .inr (7, oX7 qm m_images m_newMany m_at m_open m_steps m_use m_traced m_speaks m_isParted)), (qm 1, .inl (cI, 3974, .inl m_s))] u := by
  refine q_startR (cc := cX7_actsOf) (maxL := 4) (ty := .int) (own := RX7) (by decide) rfl rfl (Nat.le_of_ble_eq_true rfl) rfl (fun p e s m args below meth c Q hx hb hml hown hts hP hK hEv hret ls hl => ?_)
  have in7 : ∀ w ∈ wsX70, w ∈ wsX7_actsOf := fun w h => List.mem_cons_of_mem _ (List.mem_append_right _ (h))
  have l7 := hts (.fieldLink RX7 7 "PageWarsModel" "s" "[I") (List.mem_of_getElem? (i := 1) rfl)
  have J4 : ∀ (kk4 : Nat) (x1 : Int32) (x2 : Int32) (x3 : Int32) (ls : Array Slot), lv_has ls 4 [(0, .ref (qm 0)), (1, .int x1), (2, .int x2), (3, .int x3)] → f7_actsOf_4 n m_s kk4 x1 x2 x3 = some u → W p l e (rmq (1)) s m args below meth c s.heap [] 0 0 Q (F0 m 4 ls []) := by
    intro kk4
    induction kk4 with
    | zero => intro x1 x2 x3  ls hl h; exact nomatch (show (none : Option (Int32)) = some u from h)
    | succ kk4 ih4 =>
      have J30 : ∀ (x1 : Int32) (x3 : Int32) (s0 : Int32) (s1 : Int32) (ls : Array Slot), lv_has ls 4 [(0, .ref (qm 0)), (1, .int x1), (3, .int x3)] → f7_actsOf_30 n m_s (f7_actsOf_4 n m_s kk4) x1 x3 s0 s1 = some u → W p l e (rmq (1)) s m args below meth c s.heap [] 0 0 Q (F0 m 30 ls [.int s1, .int s0]) := by
        intro x1 x3 s0 s1  ls hl h
        unfold f7_actsOf_30 at h
        refine lv_iadd hx hb dX7_actsOf_30 ?_
        refine q_let h (fun x2_31 h => ?_)
        refine lv_istore_n (lv' := [(2, .int x2_31), (0, .ref (qm 0)), (1, .int x1), (3, .int x3)]) hx hb dX7_actsOf_31 rfl hl (by decide) rfl (fun ls hl => ?_)
        refine q_iinc (fun v => [(3, .int v), (2, .int x2_31), (0, .ref (qm 0)), (1, .int x1)]) hx hb h dX7_actsOf_32 (by decide) hl (k := 3) rfl (by decide) (fun _ => rfl) (fun x3_32 ls h hl => ?_)
        refine lv_goto (tgt := 4) hx hb dX7_actsOf_35 (by decide) ?_
        exact ih4 x1 x2_31 x3_32 _ (lv_sub hl [2, 3, 1, 0] rfl) h
      intro x1 x2 x3  ls hl h
      rw [f7_actsOf_4.eq_2] at h
      refine lv_iload_n hx hb dX7_actsOf_4 rfl (lv_at hl 3 rfl) ?_
      refine lv_aload_n hx hb dX7_actsOf_5 rfl (lv_at hl 0 rfl) ?_
      refine va_get (D := D) (ci := 7) (v := .ref (qm 1)) (C := RX7) (T := TX7) (N := 24) hx hb hts in7 hown hK hP 0 rfl rfl 0 (by decide) l7 (fun _ h9 => h9) rfl dX7_actsOf_6 ?_
      refine lv_iconst (v := (1 : Int32)) hx hb dX7_actsOf_9 (by decide) ?_
      refine q_iald hx hb hK hP 1 0 rfl rfl h dX7_actsOf_10 (fun t10 h => ?_)
      refine q_cge hx hb 38 h dX7_actsOf_11 (by decide) (fun h => ?_) (fun h => ?_)
      · refine lv_iload_n hx hb dX7_actsOf_38 rfl (lv_at hl 2 rfl) ?_
        exact hret _ _ _ (vp_nar_int _) h dX7_actsOf_39
      · refine lv_iload_n hx hb dX7_actsOf_14 rfl (lv_at hl 2 rfl) ?_
        refine lv_aload_n hx hb dX7_actsOf_15 rfl (lv_at hl 0 rfl) ?_
        refine lv_iload_n hx hb dX7_actsOf_16 rfl (lv_at hl 3 rfl) ?_
        refine lv_iconst (v := (1 : Int32)) hx hb dX7_actsOf_17 (by decide) ?_
        refine q_callR q_E0ok (rest := [.int x2]) ⟨hx, hb, hml, hown, hts⟩ (fun r hr => c7_actIs1 l D cI qm m_images m_newMany m_at m_open m_steps m_use m_traced m_speaks m_isParted m_s x3 ((1 : Int32)) r hr) (cwV 2 hts gX7_actsOf_X7_actIs1 rfl rfl rfl hdX7_actIs1 (rmq_ok (Nat.le_of_ble_eq_true rfl) (Nat.le_of_ble_eq_true rfl))) hK hP hEv va_S.rf [0, 1] rfl (va_recv hK hP (ci := 7) (q0 := 0) rfl rfl) rfl rfl hl.1 (Nat.le_of_ble_eq_true rfl) ⟨Nat.zero_le _, Nat.zero_le _⟩ h dX7_actsOf_18 (fun t18 h => ?_)
        refine lv_iload_n hx hb dX7_actsOf_21 rfl (lv_at hl 1 rfl) ?_
        refine q_cne hx hb 29 h dX7_actsOf_22 (by decide) (fun h => ?_) (fun h => ?_)
        · refine lv_iconst (v := (0 : Int32)) hx hb dX7_actsOf_29 (by decide) ?_
          exact J30 x1 x3 x2 ((0 : Int32)) _ (lv_sub hl [0, 1, 3] rfl) h
        · refine lv_iconst (v := (1 : Int32)) hx hb dX7_actsOf_25 (by decide) ?_
          refine lv_goto (tgt := 30) hx hb dX7_actsOf_26 (by decide) ?_
          exact J30 x1 x3 x2 ((1 : Int32)) _ (lv_sub hl [0, 1, 3] rfl) h
  unfold f7_actsOf at h
  refine lv_iconst (v := (0 : Int32)) hx hb dX7_actsOf_0 (by decide) ?_
  refine lv_istore_n (lv' := [(2, .int ((0 : Int32))), (0, .ref (qm 0)), (1, .int x1)]) hx hb dX7_actsOf_1 rfl hl (by decide) rfl (fun ls hl => ?_)
  refine lv_iconst (v := (0 : Int32)) hx hb dX7_actsOf_2 (by decide) ?_
  refine lv_istore_n (lv' := [(3, .int ((0 : Int32))), (2, .int ((0 : Int32))), (0, .ref (qm 0)), (1, .int x1)]) hx hb dX7_actsOf_3 rfl hl (by decide) rfl (fun ls hl => ?_)
  exact J4 n x1 ((0 : Int32)) ((0 : Int32)) _ (lv_sub hl [2, 3, 1, 0] rfl) h
set_option maxHeartbeats 4000000 in
set_option maxRecDepth 100000 in
theorem c7_hasText (l : Launch) (D : va_G) (cI : ClassId) (qm : Nat → Nat) (m_images m_newMany m_at m_open m_steps m_use m_traced m_speaks m_isParted : Int32) (m_s : Nat → Int32) (x1 : Int32) (u : Int32) (h : f7_hasText x1 m_s = some u) : q_RO q_E0 l yX7_hasText wsX7_hasText (rmq (0)) D cI [.ref (qm 0), .int x1] [(qm 0, .inr (7, oX7 qm m_images m_newMany m_at m_open m_steps m_use m_traced m_speaks m_isParted)), (qm 1, .inl (cI, 3974, .inl m_s))] u := by
  refine q_startR (cc := cX7_hasText) (maxL := 2) (ty := .boolean) (own := RX7) (by decide) rfl rfl (Nat.le_of_ble_eq_true rfl) rfl (fun p e s m args below meth c Q hx hb hml hown hts hP hK hEv hret ls hl => ?_)
  have in7 : ∀ w ∈ wsX70, w ∈ wsX7_hasText := fun w h => List.mem_cons_of_mem _ (List.mem_append_right _ (h))
  have l7 := hts (.fieldLink RX7 7 "PageWarsModel" "s" "[I") (List.mem_of_getElem? (i := 1) rfl)
  have J21 : ∀ (s0 : Int32) (ls : Array Slot), lv_has ls 2 [(0, .ref (qm 0))] → f7_hasText_21 m_s s0 = some u → W p l e (rmq (0)) s m args below meth c s.heap [] 0 0 Q (F0 m 21 ls [.int s0]) := by
    intro s0  ls hl h
    unfold f7_hasText_21 at h
    obtain ⟨hz, h⟩ := q_bz_of h
    exact hret _ _ _ (q_nz hz) h dX7_hasText_21
  unfold f7_hasText at h
  refine lv_aload_n hx hb dX7_hasText_0 rfl (lv_at hl 0 rfl) ?_
  refine va_get (D := D) (ci := 7) (v := .ref (qm 1)) (C := RX7) (T := TX7) (N := 24) hx hb hts in7 hown hK hP 0 rfl rfl 0 (by decide) l7 (fun _ h9 => h9) rfl dX7_hasText_1 ?_
  refine lv_sipush (v := (2890 : Int32)) hx hb dX7_hasText_4 (by decide) ?_
  refine lv_bipush (v := (125 : Int32)) hx hb dX7_hasText_7 (by decide) ?_
  refine lv_iload_n hx hb dX7_hasText_9 rfl (lv_at hl 1 rfl) ?_
  refine lv_imul hx hb dX7_hasText_10 ?_
  refine lv_iadd hx hb dX7_hasText_11 ?_
  refine q_iald hx hb hK hP 1 0 rfl rfl h dX7_hasText_12 (fun t12 h => ?_)
  refine q_ifle hx hb 20 h dX7_hasText_13 (by decide) (fun h => ?_) (fun h => ?_)
  · refine lv_iconst (v := (0 : Int32)) hx hb dX7_hasText_20 (by decide) ?_
    exact J21 ((0 : Int32)) _ (lv_sub hl [0] rfl) h
  · refine lv_iconst (v := (1 : Int32)) hx hb dX7_hasText_16 (by decide) ?_
    refine lv_goto (tgt := 21) hx hb dX7_hasText_17 (by decide) ?_
    exact J21 ((1 : Int32)) _ (lv_sub hl [0] rfl) h
set_option maxHeartbeats 4000000 in
set_option maxRecDepth 100000 in
theorem c7_joined (l : Launch) (D : va_G) (cI : ClassId) (x0 : Int32) (x1 : Int32) (x2 : Int32) (u : Int32) (h : f7_joined x0 x1 x2 = some u) : q_RO q_E0 l yX7_joined wsX7_joined (rmq (0)) D cI [.int x0, .int x1, .int x2] [] u := by
  refine q_startR (cc := cX7_joined) (maxL := 3) (ty := .int) (own := RX7) (by decide) rfl rfl (Nat.le_of_ble_eq_true rfl) rfl (fun p e s m args below meth c Q hx hb hml hown hts hP hK hEv hret ls hl => ?_)
  have J231 : ∀ (s0 : Int32) (ls : Array Slot), lv_has ls 3 [] → f7_joined_231  s0 = some u → W p l e (rmq (0)) s m args below meth c s.heap [] 0 0 Q (F0 m 231 ls [.int s0]) := by
    intro s0  ls hl h
    unfold f7_joined_231 at h
    exact hret _ _ _ (vp_nar_int _) h dX7_joined_231
  have J226 : ∀  (ls : Array Slot), lv_has ls 3 [] → f7_joined_226   = some u → W p l e (rmq (0)) s m args below meth c s.heap [] 0 0 Q (F0 m 226 ls []) := by
    intro   ls hl h
    unfold f7_joined_226 at h
    refine lv_iconst (v := (1 : Int32)) hx hb dX7_joined_226 (by decide) ?_
    refine lv_goto (tgt := 231) hx hb dX7_joined_227 (by decide) ?_
    exact J231 ((1 : Int32)) _ (lv_sub hl [] rfl) h
  have J218 : ∀ (x1 : Int32) (x2 : Int32) (ls : Array Slot), lv_has ls 3 [(1, .int x1), (2, .int x2)] → f7_joined_218  x1 x2 = some u → W p l e (rmq (0)) s m args below meth c s.heap [] 0 0 Q (F0 m 218 ls []) := by
    intro x1 x2  ls hl h
    unfold f7_joined_218 at h
    refine lv_iload_n hx hb dX7_joined_218 rfl (lv_at hl 0 rfl) ?_
    refine q_ifne hx hb 226 h dX7_joined_219 (by decide) (fun h => ?_) (fun h => ?_)
    · exact J226  _ (lv_sub hl [] rfl) h
    · refine lv_iload_n hx hb dX7_joined_222 rfl (lv_at hl 1 rfl) ?_
      refine q_ifeq hx hb 230 h dX7_joined_223 (by decide) (fun h => ?_) (fun h => ?_)
      · refine lv_iconst (v := (0 : Int32)) hx hb dX7_joined_230 (by decide) ?_
        exact J231 ((0 : Int32)) _ (lv_sub hl [] rfl) h
      · exact J226  _ (lv_sub hl [] rfl) h
  have J217 : ∀ (s0 : Int32) (ls : Array Slot), lv_has ls 3 [] → f7_joined_217  s0 = some u → W p l e (rmq (0)) s m args below meth c s.heap [] 0 0 Q (F0 m 217 ls [.int s0]) := by
    intro s0  ls hl h
    unfold f7_joined_217 at h
    exact hret _ _ _ (vp_nar_int _) h dX7_joined_217
  have J216 : ∀  (ls : Array Slot), lv_has ls 3 [] → f7_joined_216   = some u → W p l e (rmq (0)) s m args below meth c s.heap [] 0 0 Q (F0 m 216 ls []) := by
    intro   ls hl h
    unfold f7_joined_216 at h
    refine lv_iconst (v := (0 : Int32)) hx hb dX7_joined_216 (by decide) ?_
    exact J217 ((0 : Int32)) _ (lv_sub hl [] rfl) h
  have J203 : ∀ (s0 : Int32) (ls : Array Slot), lv_has ls 3 [] → f7_joined_203  s0 = some u → W p l e (rmq (0)) s m args below meth c s.heap [] 0 0 Q (F0 m 203 ls [.int s0]) := by
    intro s0  ls hl h
    unfold f7_joined_203 at h
    exact hret _ _ _ (vp_nar_int _) h dX7_joined_203
  have J192 : ∀ (s0 : Int32) (ls : Array Slot), lv_has ls 3 [] → f7_joined_192  s0 = some u → W p l e (rmq (0)) s m args below meth c s.heap [] 0 0 Q (F0 m 192 ls [.int s0]) := by
    intro s0  ls hl h
    unfold f7_joined_192 at h
    exact hret _ _ _ (vp_nar_int _) h dX7_joined_192
  have J181 : ∀ (s0 : Int32) (ls : Array Slot), lv_has ls 3 [] → f7_joined_181  s0 = some u → W p l e (rmq (0)) s m args below meth c s.heap [] 0 0 Q (F0 m 181 ls [.int s0]) := by
    intro s0  ls hl h
    unfold f7_joined_181 at h
    exact hret _ _ _ (vp_nar_int _) h dX7_joined_181
  have J170 : ∀ (s0 : Int32) (ls : Array Slot), lv_has ls 3 [] → f7_joined_170  s0 = some u → W p l e (rmq (0)) s m args below meth c s.heap [] 0 0 Q (F0 m 170 ls [.int s0]) := by
    intro s0  ls hl h
    unfold f7_joined_170 at h
    exact hret _ _ _ (vp_nar_int _) h dX7_joined_170
  have J163 : ∀  (ls : Array Slot), lv_has ls 3 [] → f7_joined_163   = some u → W p l e (rmq (0)) s m args below meth c s.heap [] 0 0 Q (F0 m 163 ls []) := by
    intro   ls hl h
    unfold f7_joined_163 at h
    refine lv_iconst (v := (0 : Int32)) hx hb dX7_joined_163 (by decide) ?_
    refine lv_goto (tgt := 170) hx hb dX7_joined_164 (by decide) ?_
    exact J170 ((0 : Int32)) _ (lv_sub hl [] rfl) h
  have J153 : ∀ (s0 : Int32) (ls : Array Slot), lv_has ls 3 [] → f7_joined_153  s0 = some u → W p l e (rmq (0)) s m args below meth c s.heap [] 0 0 Q (F0 m 153 ls [.int s0]) := by
    intro s0  ls hl h
    unfold f7_joined_153 at h
    exact hret _ _ _ (vp_nar_int _) h dX7_joined_153
  unfold f7_joined at h
  refine lv_iload_n hx hb dX7_joined_0 rfl (lv_at hl 0 rfl) ?_
  rcases Decidable.em (x0 = (37 : Int32)) with w0 | w0
  · have h := q_t h w0
    refine lv_tableIn hx hb dX7_joined_1 (off := 153) (tgt := 154) (by rw [w0]; decide) (by rw [w0]; decide) (by rw [w0]; rfl) (by decide) ?_
    refine lv_iload_n hx hb dX7_joined_154 rfl (lv_at hl 2 rfl) ?_
    refine q_ifeq hx hb 163 h dX7_joined_155 (by decide) (fun h => ?_) (fun h => ?_)
    · exact J163  _ (lv_sub hl [] rfl) h
    · refine lv_iload_n hx hb dX7_joined_158 rfl (lv_at hl 2 rfl) ?_
      refine lv_iconst (v := (-1 : Int32)) hx hb dX7_joined_159 (by decide) ?_
      refine q_cne hx hb 167 h dX7_joined_160 (by decide) (fun h => ?_) (fun h => ?_)
      · refine lv_iload_n hx hb dX7_joined_167 rfl (lv_at hl 1 rfl) ?_
        refine lv_iload_n hx hb dX7_joined_168 rfl (lv_at hl 2 rfl) ?_
        refine q_irem hx hb h dX7_joined_169 (fun h => ?_)
        exact J170 (x1 - x1 / x2 * x2) _ (lv_sub hl [] rfl) h
      · exact J163  _ (lv_sub hl [] rfl) h
  have h := q_f h w0
  rcases Decidable.em (x0 = (38 : Int32)) with w1 | w1
  · have h := q_t h w1
    refine lv_tableIn hx hb dX7_joined_1 (off := 203) (tgt := 204) (by rw [w1]; decide) (by rw [w1]; decide) (by rw [w1]; rfl) (by decide) ?_
    refine lv_iload_n hx hb dX7_joined_204 rfl (lv_at hl 1 rfl) ?_
    refine q_ifeq hx hb 216 h dX7_joined_205 (by decide) (fun h => ?_) (fun h => ?_)
    · exact J216  _ (lv_sub hl [] rfl) h
    · refine lv_iload_n hx hb dX7_joined_208 rfl (lv_at hl 2 rfl) ?_
      refine q_ifeq hx hb 216 h dX7_joined_209 (by decide) (fun h => ?_) (fun h => ?_)
      · exact J216  _ (lv_sub hl [] rfl) h
      · refine lv_iconst (v := (1 : Int32)) hx hb dX7_joined_212 (by decide) ?_
        refine lv_goto (tgt := 217) hx hb dX7_joined_213 (by decide) ?_
        exact J217 ((1 : Int32)) _ (lv_sub hl [] rfl) h
  have h := q_f h w1
  rcases Decidable.em (x0 = (39 : Int32)) with w2 | w2
  · have h := q_t h w2
    refine lv_tableIn hx hb dX7_joined_1 (off := 217) (tgt := 218) (by rw [w2]; decide) (by rw [w2]; decide) (by rw [w2]; rfl) (by decide) ?_
    exact J218 x1 x2 _ (lv_sub hl [1, 2] rfl) h
  have h := q_f h w2
  rcases Decidable.em (x0 = (40 : Int32)) with w3 | w3
  · have h := q_t h w3
    refine lv_tableIn hx hb dX7_joined_1 (off := 217) (tgt := 218) (by rw [w3]; decide) (by rw [w3]; decide) (by rw [w3]; rfl) (by decide) ?_
    exact J218 x1 x2 _ (lv_sub hl [1, 2] rfl) h
  have h := q_f h w3
  rcases Decidable.em (x0 = (41 : Int32)) with w4 | w4
  · have h := q_t h w4
    refine lv_tableIn hx hb dX7_joined_1 (off := 217) (tgt := 218) (by rw [w4]; decide) (by rw [w4]; decide) (by rw [w4]; rfl) (by decide) ?_
    exact J218 x1 x2 _ (lv_sub hl [1, 2] rfl) h
  have h := q_f h w4
  rcases Decidable.em (x0 = (42 : Int32)) with w5 | w5
  · have h := q_t h w5
    refine lv_tableIn hx hb dX7_joined_1 (off := 127) (tgt := 128) (by rw [w5]; decide) (by rw [w5]; decide) (by rw [w5]; rfl) (by decide) ?_
    refine lv_iload_n hx hb dX7_joined_128 rfl (lv_at hl 1 rfl) ?_
    refine lv_iload_n hx hb dX7_joined_129 rfl (lv_at hl 2 rfl) ?_
    refine lv_imul hx hb dX7_joined_130 ?_
    exact hret _ _ _ (vp_nar_int _) h dX7_joined_131
  have h := q_f h w5
  rcases Decidable.em (x0 = (43 : Int32)) with w6 | w6
  · have h := q_t h w6
    refine lv_tableIn hx hb dX7_joined_1 (off := 119) (tgt := 120) (by rw [w6]; decide) (by rw [w6]; decide) (by rw [w6]; rfl) (by decide) ?_
    refine lv_iload_n hx hb dX7_joined_120 rfl (lv_at hl 1 rfl) ?_
    refine lv_iload_n hx hb dX7_joined_121 rfl (lv_at hl 2 rfl) ?_
    refine lv_iadd hx hb dX7_joined_122 ?_
    exact hret _ _ _ (vp_nar_int _) h dX7_joined_123
  have h := q_f h w6
  rcases Decidable.em (x0 = (44 : Int32)) with w7 | w7
  · have h := q_t h w7
    refine lv_tableIn hx hb dX7_joined_1 (off := 217) (tgt := 218) (by rw [w7]; decide) (by rw [w7]; decide) (by rw [w7]; rfl) (by decide) ?_
    exact J218 x1 x2 _ (lv_sub hl [1, 2] rfl) h
  have h := q_f h w7
  rcases Decidable.em (x0 = (45 : Int32)) with w8 | w8
  · have h := q_t h w8
    refine lv_tableIn hx hb dX7_joined_1 (off := 123) (tgt := 124) (by rw [w8]; decide) (by rw [w8]; decide) (by rw [w8]; rfl) (by decide) ?_
    refine lv_iload_n hx hb dX7_joined_124 rfl (lv_at hl 1 rfl) ?_
    refine lv_iload_n hx hb dX7_joined_125 rfl (lv_at hl 2 rfl) ?_
    refine lv_isub hx hb dX7_joined_126 ?_
    exact hret _ _ _ (vp_nar_int _) h dX7_joined_127
  have h := q_f h w8
  rcases Decidable.em (x0 = (46 : Int32)) with w9 | w9
  · have h := q_t h w9
    refine lv_tableIn hx hb dX7_joined_1 (off := 217) (tgt := 218) (by rw [w9]; decide) (by rw [w9]; decide) (by rw [w9]; rfl) (by decide) ?_
    exact J218 x1 x2 _ (lv_sub hl [1, 2] rfl) h
  have h := q_f h w9
  rcases Decidable.em (x0 = (47 : Int32)) with w10 | w10
  · have h := q_t h w10
    refine lv_tableIn hx hb dX7_joined_1 (off := 131) (tgt := 132) (by rw [w10]; decide) (by rw [w10]; decide) (by rw [w10]; rfl) (by decide) ?_
    refine lv_iload_n hx hb dX7_joined_132 rfl (lv_at hl 2 rfl) ?_
    refine q_ifne hx hb 140 h dX7_joined_133 (by decide) (fun h => ?_) (fun h => ?_)
    · refine lv_iload_n hx hb dX7_joined_140 rfl (lv_at hl 2 rfl) ?_
      refine lv_iconst (v := (-1 : Int32)) hx hb dX7_joined_141 (by decide) ?_
      refine q_cne hx hb 150 h dX7_joined_142 (by decide) (fun h => ?_) (fun h => ?_)
      · refine lv_iload_n hx hb dX7_joined_150 rfl (lv_at hl 1 rfl) ?_
        refine lv_iload_n hx hb dX7_joined_151 rfl (lv_at hl 2 rfl) ?_
        refine q_idiv hx hb h dX7_joined_152 (fun h => ?_)
        exact J153 (x1 / x2) _ (lv_sub hl [] rfl) h
      · refine lv_iload_n hx hb dX7_joined_145 rfl (lv_at hl 1 rfl) ?_
        refine lv_ineg hx hb dX7_joined_146 ?_
        refine lv_goto (tgt := 153) hx hb dX7_joined_147 (by decide) ?_
        exact J153 (-x1) _ (lv_sub hl [] rfl) h
    · refine lv_iconst (v := (0 : Int32)) hx hb dX7_joined_136 (by decide) ?_
      refine lv_goto (tgt := 153) hx hb dX7_joined_137 (by decide) ?_
      exact J153 ((0 : Int32)) _ (lv_sub hl [] rfl) h
  have h := q_f h w10
  rcases Decidable.em (x0 = (48 : Int32)) with w11 | w11
  · have h := q_t h w11
    refine lv_tableIn hx hb dX7_joined_1 (off := 217) (tgt := 218) (by rw [w11]; decide) (by rw [w11]; decide) (by rw [w11]; rfl) (by decide) ?_
    exact J218 x1 x2 _ (lv_sub hl [1, 2] rfl) h
  have h := q_f h w11
  rcases Decidable.em (x0 = (49 : Int32)) with w12 | w12
  · have h := q_t h w12
    refine lv_tableIn hx hb dX7_joined_1 (off := 217) (tgt := 218) (by rw [w12]; decide) (by rw [w12]; decide) (by rw [w12]; rfl) (by decide) ?_
    exact J218 x1 x2 _ (lv_sub hl [1, 2] rfl) h
  have h := q_f h w12
  rcases Decidable.em (x0 = (50 : Int32)) with w13 | w13
  · have h := q_t h w13
    refine lv_tableIn hx hb dX7_joined_1 (off := 217) (tgt := 218) (by rw [w13]; decide) (by rw [w13]; decide) (by rw [w13]; rfl) (by decide) ?_
    exact J218 x1 x2 _ (lv_sub hl [1, 2] rfl) h
  have h := q_f h w13
  rcases Decidable.em (x0 = (51 : Int32)) with w14 | w14
  · have h := q_t h w14
    refine lv_tableIn hx hb dX7_joined_1 (off := 217) (tgt := 218) (by rw [w14]; decide) (by rw [w14]; decide) (by rw [w14]; rfl) (by decide) ?_
    exact J218 x1 x2 _ (lv_sub hl [1, 2] rfl) h
  have h := q_f h w14
  rcases Decidable.em (x0 = (52 : Int32)) with w15 | w15
  · have h := q_t h w15
    refine lv_tableIn hx hb dX7_joined_1 (off := 217) (tgt := 218) (by rw [w15]; decide) (by rw [w15]; decide) (by rw [w15]; rfl) (by decide) ?_
    exact J218 x1 x2 _ (lv_sub hl [1, 2] rfl) h
  have h := q_f h w15
  rcases Decidable.em (x0 = (53 : Int32)) with w16 | w16
  · have h := q_t h w16
    refine lv_tableIn hx hb dX7_joined_1 (off := 217) (tgt := 218) (by rw [w16]; decide) (by rw [w16]; decide) (by rw [w16]; rfl) (by decide) ?_
    exact J218 x1 x2 _ (lv_sub hl [1, 2] rfl) h
  have h := q_f h w16
  rcases Decidable.em (x0 = (54 : Int32)) with w17 | w17
  · have h := q_t h w17
    refine lv_tableIn hx hb dX7_joined_1 (off := 217) (tgt := 218) (by rw [w17]; decide) (by rw [w17]; decide) (by rw [w17]; rfl) (by decide) ?_
    exact J218 x1 x2 _ (lv_sub hl [1, 2] rfl) h
  have h := q_f h w17
  rcases Decidable.em (x0 = (55 : Int32)) with w18 | w18
  · have h := q_t h w18
    refine lv_tableIn hx hb dX7_joined_1 (off := 217) (tgt := 218) (by rw [w18]; decide) (by rw [w18]; decide) (by rw [w18]; rfl) (by decide) ?_
    exact J218 x1 x2 _ (lv_sub hl [1, 2] rfl) h
  have h := q_f h w18
  rcases Decidable.em (x0 = (56 : Int32)) with w19 | w19
  · have h := q_t h w19
    refine lv_tableIn hx hb dX7_joined_1 (off := 217) (tgt := 218) (by rw [w19]; decide) (by rw [w19]; decide) (by rw [w19]; rfl) (by decide) ?_
    exact J218 x1 x2 _ (lv_sub hl [1, 2] rfl) h
  have h := q_f h w19
  rcases Decidable.em (x0 = (57 : Int32)) with w20 | w20
  · have h := q_t h w20
    refine lv_tableIn hx hb dX7_joined_1 (off := 217) (tgt := 218) (by rw [w20]; decide) (by rw [w20]; decide) (by rw [w20]; rfl) (by decide) ?_
    exact J218 x1 x2 _ (lv_sub hl [1, 2] rfl) h
  have h := q_f h w20
  rcases Decidable.em (x0 = (58 : Int32)) with w21 | w21
  · have h := q_t h w21
    refine lv_tableIn hx hb dX7_joined_1 (off := 217) (tgt := 218) (by rw [w21]; decide) (by rw [w21]; decide) (by rw [w21]; rfl) (by decide) ?_
    exact J218 x1 x2 _ (lv_sub hl [1, 2] rfl) h
  have h := q_f h w21
  rcases Decidable.em (x0 = (59 : Int32)) with w22 | w22
  · have h := q_t h w22
    refine lv_tableIn hx hb dX7_joined_1 (off := 217) (tgt := 218) (by rw [w22]; decide) (by rw [w22]; decide) (by rw [w22]; rfl) (by decide) ?_
    exact J218 x1 x2 _ (lv_sub hl [1, 2] rfl) h
  have h := q_f h w22
  rcases Decidable.em (x0 = (60 : Int32)) with w23 | w23
  · have h := q_t h w23
    refine lv_tableIn hx hb dX7_joined_1 (off := 170) (tgt := 171) (by rw [w23]; decide) (by rw [w23]; decide) (by rw [w23]; rfl) (by decide) ?_
    refine lv_iload_n hx hb dX7_joined_171 rfl (lv_at hl 1 rfl) ?_
    refine lv_iload_n hx hb dX7_joined_172 rfl (lv_at hl 2 rfl) ?_
    refine q_cge hx hb 180 h dX7_joined_173 (by decide) (fun h => ?_) (fun h => ?_)
    · refine lv_iconst (v := (0 : Int32)) hx hb dX7_joined_180 (by decide) ?_
      exact J181 ((0 : Int32)) _ (lv_sub hl [] rfl) h
    · refine lv_iconst (v := (1 : Int32)) hx hb dX7_joined_176 (by decide) ?_
      refine lv_goto (tgt := 181) hx hb dX7_joined_177 (by decide) ?_
      exact J181 ((1 : Int32)) _ (lv_sub hl [] rfl) h
  have h := q_f h w23
  rcases Decidable.em (x0 = (61 : Int32)) with w24 | w24
  · have h := q_t h w24
    refine lv_tableIn hx hb dX7_joined_1 (off := 192) (tgt := 193) (by rw [w24]; decide) (by rw [w24]; decide) (by rw [w24]; rfl) (by decide) ?_
    refine lv_iload_n hx hb dX7_joined_193 rfl (lv_at hl 1 rfl) ?_
    refine lv_iload_n hx hb dX7_joined_194 rfl (lv_at hl 2 rfl) ?_
    refine q_cne hx hb 202 h dX7_joined_195 (by decide) (fun h => ?_) (fun h => ?_)
    · refine lv_iconst (v := (0 : Int32)) hx hb dX7_joined_202 (by decide) ?_
      exact J203 ((0 : Int32)) _ (lv_sub hl [] rfl) h
    · refine lv_iconst (v := (1 : Int32)) hx hb dX7_joined_198 (by decide) ?_
      refine lv_goto (tgt := 203) hx hb dX7_joined_199 (by decide) ?_
      exact J203 ((1 : Int32)) _ (lv_sub hl [] rfl) h
  have h := q_f h w24
  rcases Decidable.em (x0 = (62 : Int32)) with w25 | w25
  · have h := q_t h w25
    refine lv_tableIn hx hb dX7_joined_1 (off := 181) (tgt := 182) (by rw [w25]; decide) (by rw [w25]; decide) (by rw [w25]; rfl) (by decide) ?_
    refine lv_iload_n hx hb dX7_joined_182 rfl (lv_at hl 1 rfl) ?_
    refine lv_iload_n hx hb dX7_joined_183 rfl (lv_at hl 2 rfl) ?_
    refine q_cle hx hb 191 h dX7_joined_184 (by decide) (fun h => ?_) (fun h => ?_)
    · refine lv_iconst (v := (0 : Int32)) hx hb dX7_joined_191 (by decide) ?_
      exact J192 ((0 : Int32)) _ (lv_sub hl [] rfl) h
    · refine lv_iconst (v := (1 : Int32)) hx hb dX7_joined_187 (by decide) ?_
      refine lv_goto (tgt := 192) hx hb dX7_joined_188 (by decide) ?_
      exact J192 ((1 : Int32)) _ (lv_sub hl [] rfl) h
  have h := q_f h w25
  refine lv_tableOut hx hb dX7_joined_1 (tgt := 218) (q_out (fun k hk e => ?_)) (by decide) ?_
  · rcases (show k = 0 ∨ k = 1 ∨ k = 2 ∨ k = 3 ∨ k = 4 ∨ k = 5 ∨ k = 6 ∨ k = 7 ∨ k = 8 ∨ k = 9 ∨ k = 10 ∨ k = 11 ∨ k = 12 ∨ k = 13 ∨ k = 14 ∨ k = 15 ∨ k = 16 ∨ k = 17 ∨ k = 18 ∨ k = 19 ∨ k = 20 ∨ k = 21 ∨ k = 22 ∨ k = 23 ∨ k = 24 ∨ k = 25 by omega) with rfl | rfl | rfl | rfl | rfl | rfl | rfl | rfl | rfl | rfl | rfl | rfl | rfl | rfl | rfl | rfl | rfl | rfl | rfl | rfl | rfl | rfl | rfl | rfl | rfl | rfl
    · exact w0 (Int32.toInt_inj.mp (e.trans (by decide)))
    · exact w1 (Int32.toInt_inj.mp (e.trans (by decide)))
    · exact w2 (Int32.toInt_inj.mp (e.trans (by decide)))
    · exact w3 (Int32.toInt_inj.mp (e.trans (by decide)))
    · exact w4 (Int32.toInt_inj.mp (e.trans (by decide)))
    · exact w5 (Int32.toInt_inj.mp (e.trans (by decide)))
    · exact w6 (Int32.toInt_inj.mp (e.trans (by decide)))
    · exact w7 (Int32.toInt_inj.mp (e.trans (by decide)))
    · exact w8 (Int32.toInt_inj.mp (e.trans (by decide)))
    · exact w9 (Int32.toInt_inj.mp (e.trans (by decide)))
    · exact w10 (Int32.toInt_inj.mp (e.trans (by decide)))
    · exact w11 (Int32.toInt_inj.mp (e.trans (by decide)))
    · exact w12 (Int32.toInt_inj.mp (e.trans (by decide)))
    · exact w13 (Int32.toInt_inj.mp (e.trans (by decide)))
    · exact w14 (Int32.toInt_inj.mp (e.trans (by decide)))
    · exact w15 (Int32.toInt_inj.mp (e.trans (by decide)))
    · exact w16 (Int32.toInt_inj.mp (e.trans (by decide)))
    · exact w17 (Int32.toInt_inj.mp (e.trans (by decide)))
    · exact w18 (Int32.toInt_inj.mp (e.trans (by decide)))
    · exact w19 (Int32.toInt_inj.mp (e.trans (by decide)))
    · exact w20 (Int32.toInt_inj.mp (e.trans (by decide)))
    · exact w21 (Int32.toInt_inj.mp (e.trans (by decide)))
    · exact w22 (Int32.toInt_inj.mp (e.trans (by decide)))
    · exact w23 (Int32.toInt_inj.mp (e.trans (by decide)))
    · exact w24 (Int32.toInt_inj.mp (e.trans (by decide)))
    · exact w25 (Int32.toInt_inj.mp (e.trans (by decide)))
  · exact J218 x1 x2 _ (lv_sub hl [1, 2] rfl) h
set_option maxHeartbeats 4000000 in
set_option maxRecDepth 100000 in
theorem c7_worked (l : Launch) (D : va_G) (cI : ClassId) (qm : Nat → Nat) (m_images m_newMany m_at m_open m_steps m_use m_traced m_speaks m_isParted : Int32) (m_s m_named m_pile : Nat → Int32) (x1 : Int32) (n : Nat) (u : Int32 × (Nat → Int32)) (h : f7_worked n x1 m_s m_named m_pile = some u) : q_RW q_E0 l yX7_worked wsX7_worked (rmq (1)) D cI [.ref (qm 0), .int x1] [(qm 0, .inr (7, oX7 qm m_images m_newMany m_at m_open m_steps m_use m_traced m_speaks m_isParted)), (qm 1, .inl (cI, 3974, .inl m_s)), (qm 13, .inl (cI, 128, .inl m_named)), (qm 14, .inl (cI, 64, .inl m_pile))] [(qm 0, .inr (7, oX7 qm m_images m_newMany m_at m_open m_steps m_use m_traced m_speaks m_isParted)), (qm 1, .inl (cI, 3974, .inl m_s)), (qm 13, .inl (cI, 128, .inl m_named)), (qm 14, .inl (cI, 64, .inl u.2))] u.1 := by
  refine q_startW (fun u : Int32 × (Nat → Int32) => [(qm 0, .inr (7, oX7 qm m_images m_newMany m_at m_open m_steps m_use m_traced m_speaks m_isParted)), (qm 1, .inl (cI, 3974, .inl m_s)), (qm 13, .inl (cI, 128, .inl m_named)), (qm 14, .inl (cI, 64, .inl u.2))]) (fun u => u.1) (cc := cX7_worked) (maxL := 7) (ty := .int) (own := RX7) (by decide) rfl rfl (Nat.le_of_ble_eq_true rfl) rfl (fun p e s m args below meth c Q A hx hb hml hown hts hK hEv hA hret hP hD hS ls hl => ?_)
  have in7 : ∀ w ∈ wsX70, w ∈ wsX7_worked := fun w h => List.mem_cons_of_mem _ (List.mem_append_right _ (h))
  have l7 := hts (.fieldLink RX7 7 "PageWarsModel" "s" "[I") (List.mem_of_getElem? (i := 1) rfl)
  have l28 := hts (.fieldLink RX7 28 "PageWarsModel" "named" "[I") (List.mem_of_getElem? (i := 3) rfl)
  have l31 := hts (.fieldLink RX7 31 "PageWarsModel" "pile" "[I") (List.mem_of_getElem? (i := 2) rfl)
  have J14 : ∀ (kk14 : Nat) (x2 : Int32) (x3 : Int32) (x4 : Int32) (m_pile : (Nat → Int32)) (H : Heap) (locs : List Loc) (ls : Array Slot), lv_has ls 7 [(0, .ref (qm 0)), (2, .int x2), (3, .int x3), (4, .int x4)] → va_P D vwCl [(qm 0, .inr (7, oX7 qm m_images m_newMany m_at m_open m_steps m_use m_traced m_speaks m_isParted)), (qm 1, .inl (cI, 3974, .inl m_s)), (qm 13, .inl (cI, 128, .inl m_named)), (qm 14, .inl (cI, 64, .inl m_pile))] H → va_D A [(qm 0, .inr (7, oX7 qm m_images m_newMany m_at m_open m_steps m_use m_traced m_speaks m_isParted)), (qm 1, .inl (cI, 3974, .inl m_s)), (qm 13, .inl (cI, 128, .inl m_named)), (qm 14, .inl (cI, 64, .inl m_pile))] → va_S A s.heap H locs → f7_worked_14 n m_s m_named kk14 x2 x3 x4 m_pile = some u → W p l e (rmq (1)) s m args below meth c H locs 0 0 Q (F0 m 14 ls []) := by
    intro kk14
    induction kk14 with
    | zero => intro x2 x3 x4 m_pile H locs ls hl hP hD hS h; exact nomatch (show (none : Option (Int32 × (Nat → Int32))) = some u from h)
    | succ kk14 ih14 =>
      have J158 : ∀ (x2 : Int32) (x3 : Int32) (x4 : Int32) (m_pile : (Nat → Int32)) (H : Heap) (locs : List Loc) (ls : Array Slot), lv_has ls 7 [(0, .ref (qm 0)), (2, .int x2), (3, .int x3), (4, .int x4)] → va_P D vwCl [(qm 0, .inr (7, oX7 qm m_images m_newMany m_at m_open m_steps m_use m_traced m_speaks m_isParted)), (qm 1, .inl (cI, 3974, .inl m_s)), (qm 13, .inl (cI, 128, .inl m_named)), (qm 14, .inl (cI, 64, .inl m_pile))] H → va_D A [(qm 0, .inr (7, oX7 qm m_images m_newMany m_at m_open m_steps m_use m_traced m_speaks m_isParted)), (qm 1, .inl (cI, 3974, .inl m_s)), (qm 13, .inl (cI, 128, .inl m_named)), (qm 14, .inl (cI, 64, .inl m_pile))] → va_S A s.heap H locs → f7_worked_158 n m_s m_named (f7_worked_14 n m_s m_named kk14) x2 x3 x4 m_pile = some u → W p l e (rmq (1)) s m args below meth c H locs 0 0 Q (F0 m 158 ls []) := by
        intro x2 x3 x4 m_pile H locs ls hl hP hD hS h
        unfold f7_worked_158 at h
        refine q_iinc (fun v => [(4, .int v), (0, .ref (qm 0)), (2, .int x2), (3, .int x3)]) hx hb h dX7_worked_158 (by decide) hl (k := 3) rfl (by decide) (fun _ => rfl) (fun x4_158 ls h hl => ?_)
        refine lv_goto (tgt := 14) hx hb dX7_worked_161 (by decide) ?_
        exact ih14 x2 x3 x4_158 m_pile _ _ _ (lv_sub hl [1, 2, 3, 0] rfl) hP hD hS h
      have J124 : ∀ (x2 : Int32) (x3 : Int32) (x4 : Int32) (s1 : Int32) (s2 : Int32) (m_pile : (Nat → Int32)) (H : Heap) (locs : List Loc) (ls : Array Slot), lv_has ls 7 [(0, .ref (qm 0)), (2, .int x2), (3, .int x3), (4, .int x4)] → va_P D vwCl [(qm 0, .inr (7, oX7 qm m_images m_newMany m_at m_open m_steps m_use m_traced m_speaks m_isParted)), (qm 1, .inl (cI, 3974, .inl m_s)), (qm 13, .inl (cI, 128, .inl m_named)), (qm 14, .inl (cI, 64, .inl m_pile))] H → va_D A [(qm 0, .inr (7, oX7 qm m_images m_newMany m_at m_open m_steps m_use m_traced m_speaks m_isParted)), (qm 1, .inl (cI, 3974, .inl m_s)), (qm 13, .inl (cI, 128, .inl m_named)), (qm 14, .inl (cI, 64, .inl m_pile))] → va_S A s.heap H locs → f7_worked_124 n m_s m_named (f7_worked_14 n m_s m_named kk14) x2 x3 x4 s1 s2 m_pile = some u → W p l e (rmq (1)) s m args below meth c H locs 0 0 Q (F0 m 124 ls [.int s2, .int s1, .ref (qm 14)]) := by
        intro x2 x3 x4 s1 s2 m_pile H locs ls hl hP hD hS h
        unfold f7_worked_124 at h
        refine q_iast hx hb hK hP hD hS 3 0 rfl rfl h dX7_worked_124 (fun m_pile_124 H locs h hP hD hS => ?_)
        have hP : va_P D vwCl [(qm 0, .inr (7, oX7 qm m_images m_newMany m_at m_open m_steps m_use m_traced m_speaks m_isParted)), (qm 1, .inl (cI, 3974, .inl m_s)), (qm 13, .inl (cI, 128, .inl m_named)), (qm 14, .inl (cI, 64, .inl m_pile_124))] H := hP
        have hD : va_D A [(qm 0, .inr (7, oX7 qm m_images m_newMany m_at m_open m_steps m_use m_traced m_speaks m_isParted)), (qm 1, .inl (cI, 3974, .inl m_s)), (qm 13, .inl (cI, 128, .inl m_named)), (qm 14, .inl (cI, 64, .inl m_pile_124))] := hD
        refine lv_goto (tgt := 158) hx hb dX7_worked_125 (by decide) ?_
        exact J158 x2 x3 x4 m_pile_124 _ _ _ (lv_sub hl [0, 1, 2, 3] rfl) hP hD hS h
      have J88 : ∀ (x2 : Int32) (x3 : Int32) (x4 : Int32) (s1 : Int32) (s2 : Int32) (m_pile : (Nat → Int32)) (H : Heap) (locs : List Loc) (ls : Array Slot), lv_has ls 7 [(0, .ref (qm 0)), (2, .int x2), (3, .int x3), (4, .int x4)] → va_P D vwCl [(qm 0, .inr (7, oX7 qm m_images m_newMany m_at m_open m_steps m_use m_traced m_speaks m_isParted)), (qm 1, .inl (cI, 3974, .inl m_s)), (qm 13, .inl (cI, 128, .inl m_named)), (qm 14, .inl (cI, 64, .inl m_pile))] H → va_D A [(qm 0, .inr (7, oX7 qm m_images m_newMany m_at m_open m_steps m_use m_traced m_speaks m_isParted)), (qm 1, .inl (cI, 3974, .inl m_s)), (qm 13, .inl (cI, 128, .inl m_named)), (qm 14, .inl (cI, 64, .inl m_pile))] → va_S A s.heap H locs → f7_worked_88 n m_s m_named (f7_worked_14 n m_s m_named kk14) x2 x3 x4 s1 s2 m_pile = some u → W p l e (rmq (1)) s m args below meth c H locs 0 0 Q (F0 m 88 ls [.int s2, .int s1, .ref (qm 14)]) := by
        intro x2 x3 x4 s1 s2 m_pile H locs ls hl hP hD hS h
        unfold f7_worked_88 at h
        refine q_iast hx hb hK hP hD hS 3 0 rfl rfl h dX7_worked_88 (fun m_pile_88 H locs h hP hD hS => ?_)
        have hP : va_P D vwCl [(qm 0, .inr (7, oX7 qm m_images m_newMany m_at m_open m_steps m_use m_traced m_speaks m_isParted)), (qm 1, .inl (cI, 3974, .inl m_s)), (qm 13, .inl (cI, 128, .inl m_named)), (qm 14, .inl (cI, 64, .inl m_pile_88))] H := hP
        have hD : va_D A [(qm 0, .inr (7, oX7 qm m_images m_newMany m_at m_open m_steps m_use m_traced m_speaks m_isParted)), (qm 1, .inl (cI, 3974, .inl m_s)), (qm 13, .inl (cI, 128, .inl m_named)), (qm 14, .inl (cI, 64, .inl m_pile_88))] := hD
        refine q_iinc (fun v => [(3, .int v), (0, .ref (qm 0)), (2, .int x2), (4, .int x4)]) hx hb h dX7_worked_89 (by decide) hl (k := 2) rfl (by decide) (fun _ => rfl) (fun x3_89 ls h hl => ?_)
        refine lv_goto (tgt := 158) hx hb dX7_worked_92 (by decide) ?_
        exact J158 x2 x3_89 x4 m_pile_88 _ _ _ (lv_sub hl [1, 2, 0, 3] rfl) hP hD hS h
      have J66 : ∀ (x2 : Int32) (x3 : Int32) (x4 : Int32) (x5 : Int32) (x6 : Int32) (m_pile : (Nat → Int32)) (H : Heap) (locs : List Loc) (ls : Array Slot), lv_has ls 7 [(0, .ref (qm 0)), (2, .int x2), (3, .int x3), (4, .int x4), (5, .int x5), (6, .int x6)] → va_P D vwCl [(qm 0, .inr (7, oX7 qm m_images m_newMany m_at m_open m_steps m_use m_traced m_speaks m_isParted)), (qm 1, .inl (cI, 3974, .inl m_s)), (qm 13, .inl (cI, 128, .inl m_named)), (qm 14, .inl (cI, 64, .inl m_pile))] H → va_D A [(qm 0, .inr (7, oX7 qm m_images m_newMany m_at m_open m_steps m_use m_traced m_speaks m_isParted)), (qm 1, .inl (cI, 3974, .inl m_s)), (qm 13, .inl (cI, 128, .inl m_named)), (qm 14, .inl (cI, 64, .inl m_pile))] → va_S A s.heap H locs → f7_worked_66 n m_s m_named (f7_worked_14 n m_s m_named kk14) x2 x3 x4 x5 x6 m_pile = some u → W p l e (rmq (1)) s m args below meth c H locs 0 0 Q (F0 m 66 ls []) := by
        intro x2 x3 x4 x5 x6 m_pile H locs ls hl hP hD hS h
        unfold f7_worked_66 at h
        refine lv_aload_n hx hb dX7_worked_66 rfl (lv_at hl 0 rfl) ?_
        refine va_get (D := D) (ci := 7) (v := .ref (qm 14)) (C := RX7) (T := TX7) (N := 24) hx hb hts in7 hown hK hP 0 rfl rfl 13 (by decide) l31 (fun _ h9 => h9) rfl dX7_worked_67 ?_
        refine lv_iload_n hx hb dX7_worked_70 rfl (lv_at hl 2 rfl) ?_
        refine lv_iload hx hb dX7_worked_71 (lv_at hl 4 rfl) ?_
        refine q_ifne hx hb 81 h dX7_worked_73 (by decide) (fun h => ?_) (fun h => ?_)
        · refine lv_aload_n hx hb dX7_worked_81 rfl (lv_at hl 0 rfl) ?_
          refine va_get (D := D) (ci := 7) (v := .ref (qm 13)) (C := RX7) (T := TX7) (N := 24) hx hb hts in7 hown hK hP 0 rfl rfl 12 (by decide) l28 (fun _ h9 => h9) rfl dX7_worked_82 ?_
          refine lv_iload hx hb dX7_worked_85 (lv_at hl 5 rfl) ?_
          refine q_iald hx hb hK hP 2 0 rfl rfl h dX7_worked_87 (fun t87 h => ?_)
          exact J88 x2 x3 x4 x3 t87 m_pile _ _ _ (lv_sub hl [0, 1, 2, 3] rfl) hP hD hS h
        · refine lv_iload hx hb dX7_worked_76 (lv_at hl 5 rfl) ?_
          refine lv_goto (tgt := 88) hx hb dX7_worked_78 (by decide) ?_
          exact J88 x2 x3 x4 x3 x6 m_pile _ _ _ (lv_sub hl [0, 1, 2, 3] rfl) hP hD hS h
      intro x2 x3 x4 m_pile H locs ls hl hP hD hS h
      rw [f7_worked_14.eq_2] at h
      refine lv_iload hx hb dX7_worked_14 (lv_at hl 3 rfl) ?_
      refine lv_aload_n hx hb dX7_worked_16 rfl (lv_at hl 0 rfl) ?_
      refine va_get (D := D) (ci := 7) (v := .ref (qm 1)) (C := RX7) (T := TX7) (N := 24) hx hb hts in7 hown hK hP 0 rfl rfl 0 (by decide) l7 (fun _ h9 => h9) rfl dX7_worked_17 ?_
      refine lv_iload_n hx hb dX7_worked_20 rfl (lv_at hl 1 rfl) ?_
      refine q_iald hx hb hK hP 1 0 rfl rfl h dX7_worked_21 (fun t21 h => ?_)
      refine q_cge hx hb 164 h dX7_worked_22 (by decide) (fun h => ?_) (fun h => ?_)
      · refine lv_aload_n hx hb dX7_worked_164 rfl (lv_at hl 0 rfl) ?_
        refine va_get (D := D) (ci := 7) (v := .ref (qm 14)) (C := RX7) (T := TX7) (N := 24) hx hb hts in7 hown hK hP 0 rfl rfl 13 (by decide) l31 (fun _ h9 => h9) rfl dX7_worked_165 ?_
        refine lv_iconst (v := (0 : Int32)) hx hb dX7_worked_168 (by decide) ?_
        refine q_iald hx hb hK hP 3 0 rfl rfl h dX7_worked_169 (fun t169 h => ?_)
        exact hret (t169, m_pile) _ _ _ _ (vp_nar_int _) h hP hD hS dX7_worked_170
      · refine lv_aload_n hx hb dX7_worked_25 rfl (lv_at hl 0 rfl) ?_
        refine va_get (D := D) (ci := 7) (v := .ref (qm 1)) (C := RX7) (T := TX7) (N := 24) hx hb hts in7 hown hK hP 0 rfl rfl 0 (by decide) l7 (fun _ h9 => h9) rfl dX7_worked_26 ?_
        refine lv_iload_n hx hb dX7_worked_29 rfl (lv_at hl 1 rfl) ?_
        refine lv_iconst (v := (1 : Int32)) hx hb dX7_worked_30 (by decide) ?_
        refine lv_iadd hx hb dX7_worked_31 ?_
        refine lv_iconst (v := (2 : Int32)) hx hb dX7_worked_32 (by decide) ?_
        refine lv_iload hx hb dX7_worked_33 (lv_at hl 3 rfl) ?_
        refine lv_imul hx hb dX7_worked_35 ?_
        refine lv_iadd hx hb dX7_worked_36 ?_
        refine q_iald hx hb hK hP 1 0 rfl rfl h dX7_worked_37 (fun t37 h => ?_)
        refine lv_istore (lv' := [(5, .int t37), (0, .ref (qm 0)), (2, .int x2), (3, .int x3), (4, .int x4)]) hx hb dX7_worked_38 hl (by decide) rfl (fun ls hl => ?_)
        refine lv_aload_n hx hb dX7_worked_40 rfl (lv_at hl 1 rfl) ?_
        refine va_get (D := D) (ci := 7) (v := .ref (qm 1)) (C := RX7) (T := TX7) (N := 24) hx hb hts in7 hown hK hP 0 rfl rfl 0 (by decide) l7 (fun _ h9 => h9) rfl dX7_worked_41 ?_
        refine lv_iload_n hx hb dX7_worked_44 rfl (lv_at hl 2 rfl) ?_
        refine lv_iconst (v := (2 : Int32)) hx hb dX7_worked_45 (by decide) ?_
        refine lv_iadd hx hb dX7_worked_46 ?_
        refine lv_iconst (v := (2 : Int32)) hx hb dX7_worked_47 (by decide) ?_
        refine lv_iload hx hb dX7_worked_48 (lv_at hl 4 rfl) ?_
        refine lv_imul hx hb dX7_worked_50 ?_
        refine lv_iadd hx hb dX7_worked_51 ?_
        refine q_iald hx hb hK hP 1 0 rfl rfl h dX7_worked_52 (fun t52 h => ?_)
        refine lv_istore (lv' := [(6, .int t52), (5, .int t37), (0, .ref (qm 0)), (2, .int x2), (3, .int x3), (4, .int x4)]) hx hb dX7_worked_53 hl (by decide) rfl (fun ls hl => ?_)
        refine lv_iload hx hb dX7_worked_55 (lv_at hl 1 rfl) ?_
        refine q_ifeq hx hb 66 h dX7_worked_57 (by decide) (fun h => ?_) (fun h => ?_)
        · exact J66 x2 x3 x4 t37 t52 m_pile _ _ _ (lv_sub hl [2, 3, 4, 5, 1, 0] rfl) hP hD hS h
        · refine lv_iload hx hb dX7_worked_60 (lv_at hl 1 rfl) ?_
          refine lv_iconst (v := (1 : Int32)) hx hb dX7_worked_62 (by decide) ?_
          refine q_cne hx hb 95 h dX7_worked_63 (by decide) (fun h => ?_) (fun h => ?_)
          · refine lv_iload hx hb dX7_worked_95 (lv_at hl 1 rfl) ?_
            refine lv_iconst (v := (2 : Int32)) hx hb dX7_worked_97 (by decide) ?_
            refine q_cne hx hb 128 h dX7_worked_98 (by decide) (fun h => ?_) (fun h => ?_)
            · refine q_iinc (fun v => [(3, .int v), (6, .int t52), (5, .int t37), (0, .ref (qm 0)), (2, .int x2), (4, .int x4)]) hx hb h dX7_worked_128 (by decide) hl (k := 4) rfl (by decide) (fun _ => rfl) (fun x3_128 ls h hl => ?_)
              refine lv_aload_n hx hb dX7_worked_131 rfl (lv_at hl 3 rfl) ?_
              refine va_get (D := D) (ci := 7) (v := .ref (qm 14)) (C := RX7) (T := TX7) (N := 24) hx hb hts in7 hown hK hP 0 rfl rfl 13 (by decide) l31 (fun _ h9 => h9) rfl dX7_worked_132 ?_
              refine lv_iload_n hx hb dX7_worked_135 rfl (lv_at hl 0 rfl) ?_
              refine lv_iconst (v := (1 : Int32)) hx hb dX7_worked_136 (by decide) ?_
              refine lv_isub hx hb dX7_worked_137 ?_
              refine lv_iload hx hb dX7_worked_138 (lv_at hl 1 rfl) ?_
              refine lv_aload_n hx hb dX7_worked_140 rfl (lv_at hl 3 rfl) ?_
              refine va_get (D := D) (ci := 7) (v := .ref (qm 14)) (C := RX7) (T := TX7) (N := 24) hx hb hts in7 hown hK hP 0 rfl rfl 13 (by decide) l31 (fun _ h9 => h9) rfl dX7_worked_141 ?_
              refine lv_iload_n hx hb dX7_worked_144 rfl (lv_at hl 0 rfl) ?_
              refine lv_iconst (v := (1 : Int32)) hx hb dX7_worked_145 (by decide) ?_
              refine lv_isub hx hb dX7_worked_146 ?_
              refine q_iald hx hb hK hP 3 0 rfl rfl h dX7_worked_147 (fun t147 h => ?_)
              refine lv_aload_n hx hb dX7_worked_148 rfl (lv_at hl 3 rfl) ?_
              refine va_get (D := D) (ci := 7) (v := .ref (qm 14)) (C := RX7) (T := TX7) (N := 24) hx hb hts in7 hown hK hP 0 rfl rfl 13 (by decide) l31 (fun _ h9 => h9) rfl dX7_worked_149 ?_
              refine lv_iload_n hx hb dX7_worked_152 rfl (lv_at hl 0 rfl) ?_
              refine q_iald hx hb hK hP 3 0 rfl rfl h dX7_worked_153 (fun t153 h => ?_)
              refine q_callRS q_E0ok (rest := [.int (x3_128 - ((1 : Int32))), .ref (qm 14)]) ⟨hx, hb, hml, hown, hts⟩ (fun r hr => c7_joined l D cI t52 t147 t153 r hr) (va_cwS 3 hts gX7_worked_X7_joined rfl rfl rfl hdX7_joined (rmq_ok (Nat.le_of_ble_eq_true rfl) (Nat.le_of_ble_eq_true rfl))) hK hP hEv hS [] rfl rfl rfl hl.1 (Nat.le_of_ble_eq_true rfl) ⟨Nat.zero_le _, Nat.zero_le _⟩ h dX7_worked_154 (fun t154 h => ?_)
              refine q_iast hx hb hK hP hD hS 3 0 rfl rfl h dX7_worked_157 (fun m_pile_157 H locs h hP hD hS => ?_)
              have hP : va_P D vwCl [(qm 0, .inr (7, oX7 qm m_images m_newMany m_at m_open m_steps m_use m_traced m_speaks m_isParted)), (qm 1, .inl (cI, 3974, .inl m_s)), (qm 13, .inl (cI, 128, .inl m_named)), (qm 14, .inl (cI, 64, .inl m_pile_157))] H := hP
              have hD : va_D A [(qm 0, .inr (7, oX7 qm m_images m_newMany m_at m_open m_steps m_use m_traced m_speaks m_isParted)), (qm 1, .inl (cI, 3974, .inl m_s)), (qm 13, .inl (cI, 128, .inl m_named)), (qm 14, .inl (cI, 64, .inl m_pile_157))] := hD
              exact J158 x2 x3_128 x4 m_pile_157 _ _ _ (lv_sub hl [3, 4, 0, 5] rfl) hP hD hS h
            · refine lv_aload_n hx hb dX7_worked_101 rfl (lv_at hl 2 rfl) ?_
              refine va_get (D := D) (ci := 7) (v := .ref (qm 14)) (C := RX7) (T := TX7) (N := 24) hx hb hts in7 hown hK hP 0 rfl rfl 13 (by decide) l31 (fun _ h9 => h9) rfl dX7_worked_102 ?_
              refine lv_iload_n hx hb dX7_worked_105 rfl (lv_at hl 4 rfl) ?_
              refine lv_iconst (v := (1 : Int32)) hx hb dX7_worked_106 (by decide) ?_
              refine lv_isub hx hb dX7_worked_107 ?_
              refine lv_aload_n hx hb dX7_worked_108 rfl (lv_at hl 2 rfl) ?_
              refine va_get (D := D) (ci := 7) (v := .ref (qm 14)) (C := RX7) (T := TX7) (N := 24) hx hb hts in7 hown hK hP 0 rfl rfl 13 (by decide) l31 (fun _ h9 => h9) rfl dX7_worked_109 ?_
              refine lv_iload_n hx hb dX7_worked_112 rfl (lv_at hl 4 rfl) ?_
              refine lv_iconst (v := (1 : Int32)) hx hb dX7_worked_113 (by decide) ?_
              refine lv_isub hx hb dX7_worked_114 ?_
              refine q_iald hx hb hK hP 3 0 rfl rfl h dX7_worked_115 (fun t115 h => ?_)
              refine q_ifne hx hb 123 h dX7_worked_116 (by decide) (fun h => ?_) (fun h => ?_)
              · refine lv_iconst (v := (0 : Int32)) hx hb dX7_worked_123 (by decide) ?_
                exact J124 x2 x3 x4 (x3 - ((1 : Int32))) ((0 : Int32)) m_pile _ _ _ (lv_sub hl [2, 3, 4, 5] rfl) hP hD hS h
              · refine lv_iconst (v := (1 : Int32)) hx hb dX7_worked_119 (by decide) ?_
                refine lv_goto (tgt := 124) hx hb dX7_worked_120 (by decide) ?_
                exact J124 x2 x3 x4 (x3 - ((1 : Int32))) ((1 : Int32)) m_pile _ _ _ (lv_sub hl [2, 3, 4, 5] rfl) hP hD hS h
          · exact J66 x2 x3 x4 t37 t52 m_pile _ _ _ (lv_sub hl [2, 3, 4, 5, 1, 0] rfl) hP hD hS h
  unfold f7_worked at h
  refine lv_sipush (v := (2890 : Int32)) hx hb dX7_worked_0 (by decide) ?_
  refine lv_bipush (v := (125 : Int32)) hx hb dX7_worked_3 (by decide) ?_
  refine lv_iload_n hx hb dX7_worked_5 rfl (lv_at hl 1 rfl) ?_
  refine lv_imul hx hb dX7_worked_6 ?_
  refine lv_iadd hx hb dX7_worked_7 ?_
  refine q_let h (fun x2_8 h => ?_)
  refine lv_istore_n (lv' := [(2, .int x2_8), (0, .ref (qm 0)), (1, .int x1)]) hx hb dX7_worked_8 rfl hl (by decide) rfl (fun ls hl => ?_)
  refine lv_iconst (v := (0 : Int32)) hx hb dX7_worked_9 (by decide) ?_
  refine lv_istore_n (lv' := [(3, .int ((0 : Int32))), (2, .int x2_8), (0, .ref (qm 0)), (1, .int x1)]) hx hb dX7_worked_10 rfl hl (by decide) rfl (fun ls hl => ?_)
  refine lv_iconst (v := (0 : Int32)) hx hb dX7_worked_11 (by decide) ?_
  refine lv_istore (lv' := [(4, .int ((0 : Int32))), (3, .int ((0 : Int32))), (2, .int x2_8), (0, .ref (qm 0)), (1, .int x1)]) hx hb dX7_worked_12 hl (by decide) rfl (fun ls hl => ?_)
  exact J14 n x2_8 ((0 : Int32)) ((0 : Int32)) m_pile _ _ _ (lv_sub hl [3, 2, 1, 0] rfl) hP hD hS h
