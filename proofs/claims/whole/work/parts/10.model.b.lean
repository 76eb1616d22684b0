set_option maxHeartbeats 4000000 in
set_option maxRecDepth 100000 in
theorem c7_mayAct (l : Launch) (D : va_G) (cI : ClassId) (qm : Nat → Nat) (m_images m_newMany m_at m_open m_steps m_use m_traced m_speaks m_isParted : Int32) (m_s m_named m_pile : Nat → Int32) (x1 : Int32) (n : Nat) (u : Int32 × (Nat → Int32) × (Nat → Int32)) (h : f7_mayAct n x1 m_s m_named m_pile = some u) : q_RW q_E0 l yX7_mayAct wsX7_mayAct (rmq (2)) D cI [.ref (qm 0), .int x1] [(qm 0, .inr (7, oX7 qm m_images m_newMany m_at m_open m_steps m_use m_traced m_speaks m_isParted)), (qm 1, .inl (cI, 3974, .inl m_s)), (qm 13, .inl (cI, 128, .inl m_named)), (qm 14, .inl (cI, 64, .inl m_pile))] [(qm 0, .inr (7, oX7 qm m_images m_newMany m_at m_open m_steps m_use m_traced m_speaks m_isParted)), (qm 1, .inl (cI, 3974, .inl m_s)), (qm 13, .inl (cI, 128, .inl u.2.1)), (qm 14, .inl (cI, 64, .inl u.2.2))] u.1 := by
  refine q_startW (fun u : Int32 × (Nat → Int32) × (Nat → Int32) => [(qm 0, .inr (7, oX7 qm m_images m_newMany m_at m_open m_steps m_use m_traced m_speaks m_isParted)), (qm 1, .inl (cI, 3974, .inl m_s)), (qm 13, .inl (cI, 128, .inl u.2.1)), (qm 14, .inl (cI, 64, .inl u.2.2))]) (fun u => u.1) (cc := cX7_mayAct) (maxL := 2) (ty := .boolean) (own := RX7) (by decide) rfl rfl (Nat.le_of_ble_eq_true rfl) rfl (fun p e s m args below meth c Q A hx hb hml hown hts hK hEv hA hret hP hD hS ls hl => ?_)
  have in7 : ∀ w ∈ wsX70, w ∈ wsX7_mayAct := fun w h => List.mem_cons_of_mem _ (List.mem_append_right _ (h))
  have l7 := hts (.fieldLink RX7 7 "PageWarsModel" "s" "[I") (List.mem_of_getElem? (i := 1) rfl)
  have l28 := hts (.fieldLink RX7 28 "PageWarsModel" "named" "[I") (List.mem_of_getElem? (i := 2) rfl)
  have J110 : ∀ (s0 : Int32) (m_named : (Nat → Int32)) (m_pile : (Nat → Int32)) (H : Heap) (locs : List Loc) (ls : Array Slot), lv_has ls 2 [(0, .ref (qm 0))] → va_P D vwCl [(qm 0, .inr (7, oX7 qm m_images m_newMany m_at m_open m_steps m_use m_traced m_speaks m_isParted)), (qm 1, .inl (cI, 3974, .inl m_s)), (qm 13, .inl (cI, 128, .inl m_named)), (qm 14, .inl (cI, 64, .inl m_pile))] H → va_D A [(qm 0, .inr (7, oX7 qm m_images m_newMany m_at m_open m_steps m_use m_traced m_speaks m_isParted)), (qm 1, .inl (cI, 3974, .inl m_s)), (qm 13, .inl (cI, 128, .inl m_named)), (qm 14, .inl (cI, 64, .inl m_pile))] → va_S A s.heap H locs → f7_mayAct_110 n m_s s0 m_named m_pile = some u → W p l e (rmq (2)) s m args below meth c H locs 0 0 Q (F0 m 110 ls [.int s0]) := by
    intro s0 m_named m_pile H locs ls hl hP hD hS h
    unfold f7_mayAct_110 at h
    obtain ⟨hz, h⟩ := q_bz_of h
    exact hret (s0, m_named, m_pile) _ _ _ _ (q_nz hz) h hP hD hS dX7_mayAct_110
  have J27 : ∀ (x1 : Int32) (m_named : (Nat → Int32)) (m_pile : (Nat → Int32)) (H : Heap) (locs : List Loc) (ls : Array Slot), lv_has ls 2 [(0, .ref (qm 0)), (1, .int x1)] → va_P D vwCl [(qm 0, .inr (7, oX7 qm m_images m_newMany m_at m_open m_steps m_use m_traced m_speaks m_isParted)), (qm 1, .inl (cI, 3974, .inl m_s)), (qm 13, .inl (cI, 128, .inl m_named)), (qm 14, .inl (cI, 64, .inl m_pile))] H → va_D A [(qm 0, .inr (7, oX7 qm m_images m_newMany m_at m_open m_steps m_use m_traced m_speaks m_isParted)), (qm 1, .inl (cI, 3974, .inl m_s)), (qm 13, .inl (cI, 128, .inl m_named)), (qm 14, .inl (cI, 64, .inl m_pile))] → va_S A s.heap H locs → f7_mayAct_27 n m_s x1 m_named m_pile = some u → W p l e (rmq (2)) s m args below meth c H locs 0 0 Q (F0 m 27 ls []) := by
    intro x1 m_named m_pile H locs ls hl hP hD hS h
    unfold f7_mayAct_27 at h
    refine lv_aload_n hx hb dX7_mayAct_27 rfl (lv_at hl 0 rfl) ?_
    refine lv_iconst (v := (0 : Int32)) hx hb dX7_mayAct_28 (by decide) ?_
    refine q_callR q_E0ok (rest := []) ⟨hx, hb, hml, hown, hts⟩ (fun r hr => c7_hasText l D cI qm m_images m_newMany m_at m_open m_steps m_use m_traced m_speaks m_isParted m_s ((0 : Int32)) r hr) (cwV 1 hts gX7_mayAct_X7_hasText rfl rfl rfl hdX7_hasText (rmq_ok (Nat.le_of_ble_eq_true rfl) (Nat.le_of_ble_eq_true rfl))) hK hP hEv hS [0, 1] rfl (va_recv hK hP (ci := 7) (q0 := 0) rfl rfl) rfl rfl hl.1 (Nat.le_of_ble_eq_true rfl) ⟨Nat.zero_le _, Nat.zero_le _⟩ h dX7_mayAct_29 (fun t29 h => ?_)
    refine q_ifne hx hb 37 h dX7_mayAct_32 (by decide) (fun h => ?_) (fun h => ?_)
    · refine lv_aload_n hx hb dX7_mayAct_37 rfl (lv_at hl 0 rfl) ?_
      refine va_get (D := D) (ci := 7) (v := .ref (qm 13)) (C := RX7) (T := TX7) (N := 24) hx hb hts in7 hown hK hP 0 rfl rfl 12 (by decide) l28 (fun _ h9 => h9) rfl dX7_mayAct_38 ?_
      refine lv_bipush (v := (98 : Int32)) hx hb dX7_mayAct_41 (by decide) ?_
      refine lv_aload_n hx hb dX7_mayAct_43 rfl (lv_at hl 0 rfl) ?_
      refine lv_iload_n hx hb dX7_mayAct_44 rfl (lv_at hl 1 rfl) ?_
      refine q_callR q_E0ok (rest := [.int ((98 : Int32)), .ref (qm 13)]) ⟨hx, hb, hml, hown, hts⟩ (fun r hr => c7_backsOf l D cI qm m_images m_newMany m_at m_open m_steps m_use m_traced m_speaks m_isParted m_s x1 n r hr) (cwV 1 hts gX7_mayAct_X7_backsOf rfl rfl rfl hdX7_backsOf (rmq_ok (Nat.le_of_ble_eq_true rfl) (Nat.le_of_ble_eq_true rfl))) hK hP hEv hS [0, 1] rfl (va_recv hK hP (ci := 7) (q0 := 0) rfl rfl) rfl rfl hl.1 (Nat.le_of_ble_eq_true rfl) ⟨Nat.zero_le _, Nat.zero_le _⟩ h dX7_mayAct_45 (fun t45 h => ?_)
      refine q_iast hx hb hK hP hD hS 2 0 rfl rfl h dX7_mayAct_48 (fun m_named_48 H locs h hP hD hS => ?_)
      have hP : va_P D vwCl [(qm 0, .inr (7, oX7 qm m_images m_newMany m_at m_open m_steps m_use m_traced m_speaks m_isParted)), (qm 1, .inl (cI, 3974, .inl m_s)), (qm 13, .inl (cI, 128, .inl m_named_48)), (qm 14, .inl (cI, 64, .inl m_pile))] H := hP
      have hD : va_D A [(qm 0, .inr (7, oX7 qm m_images m_newMany m_at m_open m_steps m_use m_traced m_speaks m_isParted)), (qm 1, .inl (cI, 3974, .inl m_s)), (qm 13, .inl (cI, 128, .inl m_named_48)), (qm 14, .inl (cI, 64, .inl m_pile))] := hD
      refine lv_aload_n hx hb dX7_mayAct_49 rfl (lv_at hl 0 rfl) ?_
      refine va_get (D := D) (ci := 7) (v := .ref (qm 13)) (C := RX7) (T := TX7) (N := 24) hx hb hts in7 hown hK hP 0 rfl rfl 12 (by decide) l28 (fun _ h9 => h9) rfl dX7_mayAct_50 ?_
      refine lv_bipush (v := (119 : Int32)) hx hb dX7_mayAct_53 (by decide) ?_
      refine lv_iload_n hx hb dX7_mayAct_55 rfl (lv_at hl 1 rfl) ?_
      refine q_iast hx hb hK hP hD hS 2 0 rfl rfl h dX7_mayAct_56 (fun m_named_56 H locs h hP hD hS => ?_)
      have hP : va_P D vwCl [(qm 0, .inr (7, oX7 qm m_images m_newMany m_at m_open m_steps m_use m_traced m_speaks m_isParted)), (qm 1, .inl (cI, 3974, .inl m_s)), (qm 13, .inl (cI, 128, .inl m_named_56)), (qm 14, .inl (cI, 64, .inl m_pile))] H := hP
      have hD : va_D A [(qm 0, .inr (7, oX7 qm m_images m_newMany m_at m_open m_steps m_use m_traced m_speaks m_isParted)), (qm 1, .inl (cI, 3974, .inl m_s)), (qm 13, .inl (cI, 128, .inl m_named_56)), (qm 14, .inl (cI, 64, .inl m_pile))] := hD
      refine lv_aload_n hx hb dX7_mayAct_57 rfl (lv_at hl 0 rfl) ?_
      refine va_get (D := D) (ci := 7) (v := .ref (qm 13)) (C := RX7) (T := TX7) (N := 24) hx hb hts in7 hown hK hP 0 rfl rfl 12 (by decide) l28 (fun _ h9 => h9) rfl dX7_mayAct_58 ?_
      refine lv_bipush (v := (109 : Int32)) hx hb dX7_mayAct_61 (by decide) ?_
      refine lv_aload_n hx hb dX7_mayAct_63 rfl (lv_at hl 0 rfl) ?_
      refine va_get (D := D) (ci := 7) (v := .ref (qm 1)) (C := RX7) (T := TX7) (N := 24) hx hb hts in7 hown hK hP 0 rfl rfl 0 (by decide) l7 (fun _ h9 => h9) rfl dX7_mayAct_64 ?_
      refine lv_iconst (v := (0 : Int32)) hx hb dX7_mayAct_67 (by decide) ?_
      refine q_iald hx hb hK hP 1 0 rfl rfl h dX7_mayAct_68 (fun t68 h => ?_)
      refine lv_sipush (v := (1440 : Int32)) hx hb dX7_mayAct_69 (by decide) ?_
      refine q_irem hx hb h dX7_mayAct_72 (fun h => ?_)
      refine q_iast hx hb hK hP hD hS 2 0 rfl rfl h dX7_mayAct_73 (fun m_named_73 H locs h hP hD hS => ?_)
      have hP : va_P D vwCl [(qm 0, .inr (7, oX7 qm m_images m_newMany m_at m_open m_steps m_use m_traced m_speaks m_isParted)), (qm 1, .inl (cI, 3974, .inl m_s)), (qm 13, .inl (cI, 128, .inl m_named_73)), (qm 14, .inl (cI, 64, .inl m_pile))] H := hP
      have hD : va_D A [(qm 0, .inr (7, oX7 qm m_images m_newMany m_at m_open m_steps m_use m_traced m_speaks m_isParted)), (qm 1, .inl (cI, 3974, .inl m_s)), (qm 13, .inl (cI, 128, .inl m_named_73)), (qm 14, .inl (cI, 64, .inl m_pile))] := hD
      refine lv_aload_n hx hb dX7_mayAct_74 rfl (lv_at hl 0 rfl) ?_
      refine va_get (D := D) (ci := 7) (v := .ref (qm 13)) (C := RX7) (T := TX7) (N := 24) hx hb hts in7 hown hK hP 0 rfl rfl 12 (by decide) l28 (fun _ h9 => h9) rfl dX7_mayAct_75 ?_
      refine lv_bipush (v := (108 : Int32)) hx hb dX7_mayAct_78 (by decide) ?_
      refine lv_aload_n hx hb dX7_mayAct_80 rfl (lv_at hl 0 rfl) ?_
      refine q_callR q_E0ok (rest := [.int ((108 : Int32)), .ref (qm 13)]) ⟨hx, hb, hml, hown, hts⟩ (fun r hr => c7_page l D cI qm m_images m_newMany m_at m_open m_steps m_use m_traced m_speaks m_isParted m_s r hr) (cwV 0 hts gX7_mayAct_X7_page rfl rfl rfl hdX7_page (rmq_ok (Nat.le_of_ble_eq_true rfl) (Nat.le_of_ble_eq_true rfl))) hK hP hEv hS [0, 1] rfl (va_recv hK hP (ci := 7) (q0 := 0) rfl rfl) rfl rfl hl.1 (Nat.le_of_ble_eq_true rfl) ⟨Nat.zero_le _, Nat.zero_le _⟩ h dX7_mayAct_81 (fun t81 h => ?_)
      refine q_iast hx hb hK hP hD hS 2 0 rfl rfl h dX7_mayAct_84 (fun m_named_84 H locs h hP hD hS => ?_)
      have hP : va_P D vwCl [(qm 0, .inr (7, oX7 qm m_images m_newMany m_at m_open m_steps m_use m_traced m_speaks m_isParted)), (qm 1, .inl (cI, 3974, .inl m_s)), (qm 13, .inl (cI, 128, .inl m_named_84)), (qm 14, .inl (cI, 64, .inl m_pile))] H := hP
      have hD : va_D A [(qm 0, .inr (7, oX7 qm m_images m_newMany m_at m_open m_steps m_use m_traced m_speaks m_isParted)), (qm 1, .inl (cI, 3974, .inl m_s)), (qm 13, .inl (cI, 128, .inl m_named_84)), (qm 14, .inl (cI, 64, .inl m_pile))] := hD
      refine lv_aload_n hx hb dX7_mayAct_85 rfl (lv_at hl 0 rfl) ?_
      refine va_get (D := D) (ci := 7) (v := .ref (qm 13)) (C := RX7) (T := TX7) (N := 24) hx hb hts in7 hown hK hP 0 rfl rfl 12 (by decide) l28 (fun _ h9 => h9) rfl dX7_mayAct_86 ?_
      refine lv_bipush (v := (97 : Int32)) hx hb dX7_mayAct_89 (by decide) ?_
      refine lv_aload_n hx hb dX7_mayAct_91 rfl (lv_at hl 0 rfl) ?_
      refine lv_iload_n hx hb dX7_mayAct_92 rfl (lv_at hl 1 rfl) ?_
      refine q_callR q_E0ok (rest := [.int ((97 : Int32)), .ref (qm 13)]) ⟨hx, hb, hml, hown, hts⟩ (fun r hr => c7_actsOf l D cI qm m_images m_newMany m_at m_open m_steps m_use m_traced m_speaks m_isParted m_s x1 n r hr) (cwV 1 hts gX7_mayAct_X7_actsOf rfl rfl rfl hdX7_actsOf (rmq_ok (Nat.le_of_ble_eq_true rfl) (Nat.le_of_ble_eq_true rfl))) hK hP hEv hS [0, 1] rfl (va_recv hK hP (ci := 7) (q0 := 0) rfl rfl) rfl rfl hl.1 (Nat.le_of_ble_eq_true rfl) ⟨Nat.zero_le _, Nat.zero_le _⟩ h dX7_mayAct_93 (fun t93 h => ?_)
      refine q_iast hx hb hK hP hD hS 2 0 rfl rfl h dX7_mayAct_96 (fun m_named_96 H locs h hP hD hS => ?_)
      have hP : va_P D vwCl [(qm 0, .inr (7, oX7 qm m_images m_newMany m_at m_open m_steps m_use m_traced m_speaks m_isParted)), (qm 1, .inl (cI, 3974, .inl m_s)), (qm 13, .inl (cI, 128, .inl m_named_96)), (qm 14, .inl (cI, 64, .inl m_pile))] H := hP
      have hD : va_D A [(qm 0, .inr (7, oX7 qm m_images m_newMany m_at m_open m_steps m_use m_traced m_speaks m_isParted)), (qm 1, .inl (cI, 3974, .inl m_s)), (qm 13, .inl (cI, 128, .inl m_named_96)), (qm 14, .inl (cI, 64, .inl m_pile))] := hD
      refine lv_aload_n hx hb dX7_mayAct_97 rfl (lv_at hl 0 rfl) ?_
      refine lv_iconst (v := (0 : Int32)) hx hb dX7_mayAct_98 (by decide) ?_
      refine q_callW2 q_E0ok (rest := []) (fun u => [(qm 0, .inr (7, oX7 qm m_images m_newMany m_at m_open m_steps m_use m_traced m_speaks m_isParted)), (qm 1, .inl (cI, 3974, .inl m_s)), (qm 13, .inl (cI, 128, .inl m_named_96)), (qm 14, .inl (cI, 64, .inl u.2))]) (fun u => u.1) ⟨hx, hb, hml, hown, hts⟩ (fun u hu => c7_worked l D cI qm m_images m_newMany m_at m_open m_steps m_use m_traced m_speaks m_isParted m_s m_named_96 m_pile ((0 : Int32)) n u hu) (cwV 1 hts gX7_mayAct_X7_worked rfl rfl rfl hdX7_worked (rmq_ok (Nat.le_of_ble_eq_true rfl) (Nat.le_of_ble_eq_true rfl))) hK hEv hA hP hD hS [0, 1, 2, 3] (by decide) rfl (fun _ => rfl) (va_recv hK hP (ci := 7) (q0 := 0) rfl rfl) rfl rfl hl.1 (Nat.le_of_ble_eq_true rfl) ⟨Nat.zero_le _, Nat.zero_le _⟩ h dX7_mayAct_99 (fun t99 m_pile_99 H locs h hP hD hS => ?_)
      have hP : va_P D vwCl [(qm 0, .inr (7, oX7 qm m_images m_newMany m_at m_open m_steps m_use m_traced m_speaks m_isParted)), (qm 1, .inl (cI, 3974, .inl m_s)), (qm 13, .inl (cI, 128, .inl m_named_96)), (qm 14, .inl (cI, 64, .inl m_pile_99))] H := hP
      have hD : va_D A [(qm 0, .inr (7, oX7 qm m_images m_newMany m_at m_open m_steps m_use m_traced m_speaks m_isParted)), (qm 1, .inl (cI, 3974, .inl m_s)), (qm 13, .inl (cI, 128, .inl m_named_96)), (qm 14, .inl (cI, 64, .inl m_pile_99))] := hD
      refine q_ifeq hx hb 109 h dX7_mayAct_102 (by decide) (fun h => ?_) (fun h => ?_)
      · refine lv_iconst (v := (0 : Int32)) hx hb dX7_mayAct_109 (by decide) ?_
        exact J110 ((0 : Int32)) m_named_96 m_pile_99 _ _ _ (lv_sub hl [0] rfl) hP hD hS h
      · refine lv_iconst (v := (1 : Int32)) hx hb dX7_mayAct_105 (by decide) ?_
        refine lv_goto (tgt := 110) hx hb dX7_mayAct_106 (by decide) ?_
        exact J110 ((1 : Int32)) m_named_96 m_pile_99 _ _ _ (lv_sub hl [0] rfl) hP hD hS h
    · refine lv_iconst (v := (1 : Int32)) hx hb dX7_mayAct_35 (by decide) ?_
      obtain ⟨hz, h⟩ := q_bz_of h
      exact hret ((1 : Int32), m_named, m_pile) _ _ _ _ (q_nz hz) h hP hD hS dX7_mayAct_36
  unfold f7_mayAct at h
  refine lv_aload_n hx hb dX7_mayAct_0 rfl (lv_at hl 0 rfl) ?_
  refine va_get (D := D) (ci := 7) (v := .ref (qm 1)) (C := RX7) (T := TX7) (N := 24) hx hb hts in7 hown hK hP 0 rfl rfl 0 (by decide) l7 (fun _ h9 => h9) rfl dX7_mayAct_1 ?_
  refine lv_iconst (v := (0 : Int32)) hx hb dX7_mayAct_4 (by decide) ?_
  refine q_iald hx hb hK hP 1 0 rfl rfl h dX7_mayAct_5 (fun t5 h => ?_)
  refine lv_aload_n hx hb dX7_mayAct_6 rfl (lv_at hl 0 rfl) ?_
  refine va_get (D := D) (ci := 7) (v := .ref (qm 1)) (C := RX7) (T := TX7) (N := 24) hx hb hts in7 hown hK hP 0 rfl rfl 0 (by decide) l7 (fun _ h9 => h9) rfl dX7_mayAct_7 ?_
  refine lv_iconst (v := (2 : Int32)) hx hb dX7_mayAct_10 (by decide) ?_
  refine q_iald hx hb hK hP 1 0 rfl rfl h dX7_mayAct_11 (fun t11 h => ?_)
  refine q_cge hx hb 27 h dX7_mayAct_12 (by decide) (fun h => ?_) (fun h => ?_)
  · exact J27 x1 m_named m_pile _ _ _ (lv_sub hl [0, 1] rfl) hP hD hS h
  · refine lv_aload_n hx hb dX7_mayAct_15 rfl (lv_at hl 0 rfl) ?_
    refine va_get (D := D) (ci := 7) (v := .ref (qm 1)) (C := RX7) (T := TX7) (N := 24) hx hb hts in7 hown hK hP 0 rfl rfl 0 (by decide) l7 (fun _ h9 => h9) rfl dX7_mayAct_16 ?_
    refine lv_iconst (v := (3 : Int32)) hx hb dX7_mayAct_19 (by decide) ?_
    refine q_iald hx hb hK hP 1 0 rfl rfl h dX7_mayAct_20 (fun t20 h => ?_)
    refine lv_iload_n hx hb dX7_mayAct_21 rfl (lv_at hl 1 rfl) ?_
    refine q_ceq hx hb 27 h dX7_mayAct_22 (by decide) (fun h => ?_) (fun h => ?_)
    · exact J27 x1 m_named m_pile _ _ _ (lv_sub hl [0, 1] rfl) hP hD hS h
    · refine lv_iconst (v := (0 : Int32)) hx hb dX7_mayAct_25 (by decide) ?_
      obtain ⟨hz, h⟩ := q_bz_of h
      exact hret ((0 : Int32), m_named, m_pile) _ _ _ _ (q_nz hz) h hP hD hS dX7_mayAct_26
set_option maxHeartbeats 4000000 in
set_option maxRecDepth 100000 in
theorem c7_takeOver (l : Launch) (D : va_G) (cI : ClassId) (qm : Nat → Nat) (m_images m_newMany m_at m_open m_steps m_use m_traced m_speaks m_isParted : Int32) (m_s m_newWord m_newOrigin : Nat → Int32) (x1 : Int32) (x2 : Int32) (x3 : Int32) (n : Nat) (u : Int32 × (Nat → Int32) × (Nat → Int32)) (h : f7_takeOver n x1 x2 x3 m_newMany m_s m_newWord m_newOrigin = some u) : q_RV q_E0 l yX7_takeOver wsX7_takeOver (rmq (1)) D cI [.ref (qm 0), .int x1, .int x2, .int x3] [(qm 0, .inr (7, oX7 qm m_images m_newMany m_at m_open m_steps m_use m_traced m_speaks m_isParted)), (qm 1, .inl (cI, 3974, .inl m_s)), (qm 5, .inl (cI, 40, .inl m_newWord)), (qm 6, .inl (cI, 40, .inl m_newOrigin))] [(qm 0, .inr (7, oX7 qm m_images u.1 m_at m_open m_steps m_use m_traced m_speaks m_isParted)), (qm 1, .inl (cI, 3974, .inl m_s)), (qm 5, .inl (cI, 40, .inl u.2.1)), (qm 6, .inl (cI, 40, .inl u.2.2))] := by
  refine q_startV (fun u : Int32 × (Nat → Int32) × (Nat → Int32) => [(qm 0, .inr (7, oX7 qm m_images u.1 m_at m_open m_steps m_use m_traced m_speaks m_isParted)), (qm 1, .inl (cI, 3974, .inl m_s)), (qm 5, .inl (cI, 40, .inl u.2.1)), (qm 6, .inl (cI, 40, .inl u.2.2))]) (cc := cX7_takeOver) (maxL := 5) (own := RX7) (by decide) rfl rfl (Nat.le_of_ble_eq_true rfl) rfl (fun p e s m args below meth c Q A hx hb hml hown hts hK hEv hA hret hP hD hS ls hl => ?_)
  have in7 : ∀ w ∈ wsX70, w ∈ wsX7_takeOver := fun w h => List.mem_cons_of_mem _ (List.mem_append_right _ (h))
  have l19 := hts (.fieldLink RX7 19 "PageWarsModel" "newWord" "[I") (List.mem_of_getElem? (i := 1) rfl)
  have l22 := hts (.fieldLink RX7 22 "PageWarsModel" "newOrigin" "[I") (List.mem_of_getElem? (i := 3) rfl)
  have l92 := hts (.fieldLink RX7 92 "PageWarsModel" "newMany" "I") (List.mem_of_getElem? (i := 2) rfl)
  have J3 : ∀ (kk3 : Nat) (x1 : Int32) (x3 : Int32) (x4 : Int32) (m_newMany : Int32) (m_newWord : (Nat → Int32)) (m_newOrigin : (Nat → Int32)) (H : Heap) (locs : List Loc) (ls : Array Slot), lv_has ls 5 [(0, .ref (qm 0)), (1, .int x1), (3, .int x3), (4, .int x4)] → va_P D vwCl [(qm 0, .inr (7, oX7 qm m_images m_newMany m_at m_open m_steps m_use m_traced m_speaks m_isParted)), (qm 1, .inl (cI, 3974, .inl m_s)), (qm 5, .inl (cI, 40, .inl m_newWord)), (qm 6, .inl (cI, 40, .inl m_newOrigin))] H → va_D A [(qm 0, .inr (7, oX7 qm m_images m_newMany m_at m_open m_steps m_use m_traced m_speaks m_isParted)), (qm 1, .inl (cI, 3974, .inl m_s)), (qm 5, .inl (cI, 40, .inl m_newWord)), (qm 6, .inl (cI, 40, .inl m_newOrigin))] → va_S A s.heap H locs → f7_takeOver_3 n m_s kk3 x1 x3 x4 m_newMany m_newWord m_newOrigin = some u → W p l e (rmq (1)) s m args below meth c H locs 0 0 Q (F0 m 3 ls []) := by
    intro kk3
    induction kk3 with
    | zero => intro x1 x3 x4 m_newMany m_newWord m_newOrigin H locs ls hl hP hD hS h; exact nomatch (show (none : Option (Int32 × (Nat → Int32) × (Nat → Int32))) = some u from h)
    | succ kk3 ih3 =>
      intro x1 x3 x4 m_newMany m_newWord m_newOrigin H locs ls hl hP hD hS h
      rw [f7_takeOver_3.eq_2] at h
      refine lv_iload hx hb dX7_takeOver_3 (lv_at hl 3 rfl) ?_
      refine lv_iload_n hx hb dX7_takeOver_5 rfl (lv_at hl 2 rfl) ?_
      refine q_cge hx hb 57 h dX7_takeOver_6 (by decide) (fun h => ?_) (fun h => ?_)
      · exact hret (m_newMany, m_newWord, m_newOrigin) _ _ _ _ h hP hD hS dX7_takeOver_57
      · refine lv_aload_n hx hb dX7_takeOver_9 rfl (lv_at hl 0 rfl) ?_
        refine va_get (D := D) (ci := 7) (v := .ref (qm 5)) (C := RX7) (T := TX7) (N := 24) hx hb hts in7 hown hK hP 0 rfl rfl 4 (by decide) l19 (fun _ h9 => h9) rfl dX7_takeOver_10 ?_
        refine lv_aload_n hx hb dX7_takeOver_13 rfl (lv_at hl 0 rfl) ?_
        refine va_get (D := D) (ci := 7) (v := .int m_newMany) (C := RX7) (T := TX7) (N := 24) hx hb hts in7 hown hK hP 0 rfl rfl 6 (by decide) l92 (fun _ h9 => h9) rfl dX7_takeOver_14 ?_
        refine lv_aload_n hx hb dX7_takeOver_17 rfl (lv_at hl 0 rfl) ?_
        refine lv_iload_n hx hb dX7_takeOver_18 rfl (lv_at hl 1 rfl) ?_
        refine lv_iload hx hb dX7_takeOver_19 (lv_at hl 3 rfl) ?_
        refine q_callR q_E0ok (rest := [.int m_newMany, .ref (qm 5)]) ⟨hx, hb, hml, hown, hts⟩ (fun r hr => c7_wordAt l D cI qm m_images m_newMany m_at m_open m_steps m_use m_traced m_speaks m_isParted m_s x1 x4 r hr) (cwV 2 hts gX7_takeOver_X7_wordAt rfl rfl rfl hdX7_wordAt (rmq_ok (Nat.le_of_ble_eq_true rfl) (Nat.le_of_ble_eq_true rfl))) hK hP hEv hS [0, 1] rfl (va_recv hK hP (ci := 7) (q0 := 0) rfl rfl) rfl rfl hl.1 (Nat.le_of_ble_eq_true rfl) ⟨Nat.zero_le _, Nat.zero_le _⟩ h dX7_takeOver_21 (fun t21 h => ?_)
        refine q_iast hx hb hK hP hD hS 2 0 rfl rfl h dX7_takeOver_24 (fun m_newWord_24 H locs h hP hD hS => ?_)
        have hP : va_P D vwCl [(qm 0, .inr (7, oX7 qm m_images m_newMany m_at m_open m_steps m_use m_traced m_speaks m_isParted)), (qm 1, .inl (cI, 3974, .inl m_s)), (qm 5, .inl (cI, 40, .inl m_newWord_24)), (qm 6, .inl (cI, 40, .inl m_newOrigin))] H := hP
        have hD : va_D A [(qm 0, .inr (7, oX7 qm m_images m_newMany m_at m_open m_steps m_use m_traced m_speaks m_isParted)), (qm 1, .inl (cI, 3974, .inl m_s)), (qm 5, .inl (cI, 40, .inl m_newWord_24)), (qm 6, .inl (cI, 40, .inl m_newOrigin))] := hD
        refine lv_aload_n hx hb dX7_takeOver_25 rfl (lv_at hl 0 rfl) ?_
        refine va_get (D := D) (ci := 7) (v := .ref (qm 6)) (C := RX7) (T := TX7) (N := 24) hx hb hts in7 hown hK hP 0 rfl rfl 5 (by decide) l22 (fun _ h9 => h9) rfl dX7_takeOver_26 ?_
        refine lv_aload_n hx hb dX7_takeOver_29 rfl (lv_at hl 0 rfl) ?_
        refine va_get (D := D) (ci := 7) (v := .int m_newMany) (C := RX7) (T := TX7) (N := 24) hx hb hts in7 hown hK hP 0 rfl rfl 6 (by decide) l92 (fun _ h9 => h9) rfl dX7_takeOver_30 ?_
        refine lv_aload_n hx hb dX7_takeOver_33 rfl (lv_at hl 0 rfl) ?_
        refine lv_iload_n hx hb dX7_takeOver_34 rfl (lv_at hl 1 rfl) ?_
        refine lv_iload hx hb dX7_takeOver_35 (lv_at hl 3 rfl) ?_
        refine q_callR q_E0ok (rest := [.int m_newMany, .ref (qm 6)]) ⟨hx, hb, hml, hown, hts⟩ (fun r hr => c7_originAt l D cI qm m_images m_newMany m_at m_open m_steps m_use m_traced m_speaks m_isParted m_s x1 x4 r hr) (cwV 2 hts gX7_takeOver_X7_originAt rfl rfl rfl hdX7_originAt (rmq_ok (Nat.le_of_ble_eq_true rfl) (Nat.le_of_ble_eq_true rfl))) hK hP hEv hS [0, 1] rfl (va_recv hK hP (ci := 7) (q0 := 0) rfl rfl) rfl rfl hl.1 (Nat.le_of_ble_eq_true rfl) ⟨Nat.zero_le _, Nat.zero_le _⟩ h dX7_takeOver_37 (fun t37 h => ?_)
        refine q_iast hx hb hK hP hD hS 3 0 rfl rfl h dX7_takeOver_40 (fun m_newOrigin_40 H locs h hP hD hS => ?_)
        have hP : va_P D vwCl [(qm 0, .inr (7, oX7 qm m_images m_newMany m_at m_open m_steps m_use m_traced m_speaks m_isParted)), (qm 1, .inl (cI, 3974, .inl m_s)), (qm 5, .inl (cI, 40, .inl m_newWord_24)), (qm 6, .inl (cI, 40, .inl m_newOrigin_40))] H := hP
        have hD : va_D A [(qm 0, .inr (7, oX7 qm m_images m_newMany m_at m_open m_steps m_use m_traced m_speaks m_isParted)), (qm 1, .inl (cI, 3974, .inl m_s)), (qm 5, .inl (cI, 40, .inl m_newWord_24)), (qm 6, .inl (cI, 40, .inl m_newOrigin_40))] := hD
        refine lv_aload_n hx hb dX7_takeOver_41 rfl (lv_at hl 0 rfl) ?_
        refine lv_dup hx hb dX7_takeOver_42 rfl ?_
        refine va_get (D := D) (ci := 7) (v := .int m_newMany) (C := RX7) (T := TX7) (N := 24) hx hb hts in7 hown hK hP 0 rfl rfl 6 (by decide) l92 (fun _ h9 => h9) rfl dX7_takeOver_43 ?_
        refine lv_iconst (v := (1 : Int32)) hx hb dX7_takeOver_46 (by decide) ?_
        refine lv_iadd hx hb dX7_takeOver_47 ?_
        refine q_let h (fun m_newMany_48 h => ?_)
        refine va_put (D := D) (ci := 7) (v := .int m_newMany_48) (ty := .int) (C := RX7) (T := TX7) (N := 24) hx hb hts in7 tyX7 tyX7_ok nmX7 hown hK hP hD hS 0 rfl rfl 6 (by decide) l92 (fun _ h9 => h9) rfl (by decide +kernel) rfl rfl (Nat.le_of_ble_eq_true rfl) dX7_takeOver_48 (fun H locs hP hD hS => ?_)
        have hP : va_P D vwCl [(qm 0, .inr (7, oX7 qm m_images m_newMany_48 m_at m_open m_steps m_use m_traced m_speaks m_isParted)), (qm 1, .inl (cI, 3974, .inl m_s)), (qm 5, .inl (cI, 40, .inl m_newWord_24)), (qm 6, .inl (cI, 40, .inl m_newOrigin_40))] H := hP
        have hD : va_D A [(qm 0, .inr (7, oX7 qm m_images m_newMany_48 m_at m_open m_steps m_use m_traced m_speaks m_isParted)), (qm 1, .inl (cI, 3974, .inl m_s)), (qm 5, .inl (cI, 40, .inl m_newWord_24)), (qm 6, .inl (cI, 40, .inl m_newOrigin_40))] := hD
        refine q_iinc (fun v => [(4, .int v), (0, .ref (qm 0)), (1, .int x1), (3, .int x3)]) hx hb h dX7_takeOver_51 (by decide) hl (k := 3) rfl (by decide) (fun _ => rfl) (fun x4_51 ls h hl => ?_)
        refine lv_goto (tgt := 3) hx hb dX7_takeOver_54 (by decide) ?_
        exact ih3 x1 x3 x4_51 m_newMany_48 m_newWord_24 m_newOrigin_40 _ _ _ (lv_sub hl [1, 2, 3, 0] rfl) hP hD hS h
  unfold f7_takeOver at h
  refine lv_iload_n hx hb dX7_takeOver_0 rfl (lv_at hl 2 rfl) ?_
  refine lv_istore (lv' := [(4, .int x2), (0, .ref (qm 0)), (1, .int x1), (2, .int x2), (3, .int x3)]) hx hb dX7_takeOver_1 hl (by decide) rfl (fun ls hl => ?_)
  exact J3 n x1 x3 x2 m_newMany m_newWord m_newOrigin _ _ _ (lv_sub hl [1, 2, 4, 0] rfl) hP hD hS h
set_option maxHeartbeats 4000000 in
set_option maxRecDepth 100000 in
theorem c7_putNew (l : Launch) (D : va_G) (cI : ClassId) (qm : Nat → Nat) (m_images m_newMany m_at m_open m_steps m_use m_traced m_speaks m_isParted : Int32) (m_newWord m_newOrigin : Nat → Int32) (x1 : Int32) (u : Int32 × (Nat → Int32) × (Nat → Int32)) (h : f7_putNew x1 m_newMany m_newWord m_newOrigin = some u) : q_RV q_E0 l yX7_putNew wsX7_putNew (rmq (0)) D cI [.ref (qm 0), .int x1] [(qm 0, .inr (7, oX7 qm m_images m_newMany m_at m_open m_steps m_use m_traced m_speaks m_isParted)), (qm 5, .inl (cI, 40, .inl m_newWord)), (qm 6, .inl (cI, 40, .inl m_newOrigin))] [(qm 0, .inr (7, oX7 qm m_images u.1 m_at m_open m_steps m_use m_traced m_speaks m_isParted)), (qm 5, .inl (cI, 40, .inl u.2.1)), (qm 6, .inl (cI, 40, .inl u.2.2))] := by
  refine q_startV (fun u : Int32 × (Nat → Int32) × (Nat → Int32) => [(qm 0, .inr (7, oX7 qm m_images u.1 m_at m_open m_steps m_use m_traced m_speaks m_isParted)), (qm 5, .inl (cI, 40, .inl u.2.1)), (qm 6, .inl (cI, 40, .inl u.2.2))]) (cc := cX7_putNew) (maxL := 2) (own := RX7) (by decide) rfl rfl (Nat.le_of_ble_eq_true rfl) rfl (fun p e s m args below meth c Q A hx hb hml hown hts hK hEv hA hret hP hD hS ls hl => ?_)
  have in7 : ∀ w ∈ wsX70, w ∈ wsX7_putNew := fun w h => List.mem_cons_of_mem _ (List.mem_append_right _ (h))
  have l19 := hts (.fieldLink RX7 19 "PageWarsModel" "newWord" "[I") (List.mem_of_getElem? (i := 1) rfl)
  have l22 := hts (.fieldLink RX7 22 "PageWarsModel" "newOrigin" "[I") (List.mem_of_getElem? (i := 3) rfl)
  have l92 := hts (.fieldLink RX7 92 "PageWarsModel" "newMany" "I") (List.mem_of_getElem? (i := 2) rfl)
  unfold f7_putNew at h
  refine lv_aload_n hx hb dX7_putNew_0 rfl (lv_at hl 0 rfl) ?_
  refine va_get (D := D) (ci := 7) (v := .ref (qm 5)) (C := RX7) (T := TX7) (N := 24) hx hb hts in7 hown hK hP 0 rfl rfl 4 (by decide) l19 (fun _ h9 => h9) rfl dX7_putNew_1 ?_
  refine lv_aload_n hx hb dX7_putNew_4 rfl (lv_at hl 0 rfl) ?_
  refine va_get (D := D) (ci := 7) (v := .int m_newMany) (C := RX7) (T := TX7) (N := 24) hx hb hts in7 hown hK hP 0 rfl rfl 6 (by decide) l92 (fun _ h9 => h9) rfl dX7_putNew_5 ?_
  refine lv_iload_n hx hb dX7_putNew_8 rfl (lv_at hl 1 rfl) ?_
  refine q_iast hx hb hK hP hD hS 1 0 rfl rfl h dX7_putNew_9 (fun m_newWord_9 H locs h hP hD hS => ?_)
  have hP : va_P D vwCl [(qm 0, .inr (7, oX7 qm m_images m_newMany m_at m_open m_steps m_use m_traced m_speaks m_isParted)), (qm 5, .inl (cI, 40, .inl m_newWord_9)), (qm 6, .inl (cI, 40, .inl m_newOrigin))] H := hP
  have hD : va_D A [(qm 0, .inr (7, oX7 qm m_images m_newMany m_at m_open m_steps m_use m_traced m_speaks m_isParted)), (qm 5, .inl (cI, 40, .inl m_newWord_9)), (qm 6, .inl (cI, 40, .inl m_newOrigin))] := hD
  refine lv_aload_n hx hb dX7_putNew_10 rfl (lv_at hl 0 rfl) ?_
  refine va_get (D := D) (ci := 7) (v := .ref (qm 6)) (C := RX7) (T := TX7) (N := 24) hx hb hts in7 hown hK hP 0 rfl rfl 5 (by decide) l22 (fun _ h9 => h9) rfl dX7_putNew_11 ?_
  refine lv_aload_n hx hb dX7_putNew_14 rfl (lv_at hl 0 rfl) ?_
  refine va_get (D := D) (ci := 7) (v := .int m_newMany) (C := RX7) (T := TX7) (N := 24) hx hb hts in7 hown hK hP 0 rfl rfl 6 (by decide) l92 (fun _ h9 => h9) rfl dX7_putNew_15 ?_
  refine lv_iconst (v := (-1 : Int32)) hx hb dX7_putNew_18 (by decide) ?_
  refine q_iast hx hb hK hP hD hS 2 0 rfl rfl h dX7_putNew_19 (fun m_newOrigin_19 H locs h hP hD hS => ?_)
  have hP : va_P D vwCl [(qm 0, .inr (7, oX7 qm m_images m_newMany m_at m_open m_steps m_use m_traced m_speaks m_isParted)), (qm 5, .inl (cI, 40, .inl m_newWord_9)), (qm 6, .inl (cI, 40, .inl m_newOrigin_19))] H := hP
  have hD : va_D A [(qm 0, .inr (7, oX7 qm m_images m_newMany m_at m_open m_steps m_use m_traced m_speaks m_isParted)), (qm 5, .inl (cI, 40, .inl m_newWord_9)), (qm 6, .inl (cI, 40, .inl m_newOrigin_19))] := hD
  refine lv_aload_n hx hb dX7_putNew_20 rfl (lv_at hl 0 rfl) ?_
  refine lv_dup hx hb dX7_putNew_21 rfl ?_
  refine va_get (D := D) (ci := 7) (v := .int m_newMany) (C := RX7) (T := TX7) (N := 24) hx hb hts in7 hown hK hP 0 rfl rfl 6 (by decide) l92 (fun _ h9 => h9) rfl dX7_putNew_22 ?_
  refine lv_iconst (v := (1 : Int32)) hx hb dX7_putNew_25 (by decide) ?_
  refine lv_iadd hx hb dX7_putNew_26 ?_
  refine q_let h (fun m_newMany_27 h => ?_)
  refine va_put (D := D) (ci := 7) (v := .int m_newMany_27) (ty := .int) (C := RX7) (T := TX7) (N := 24) hx hb hts in7 tyX7 tyX7_ok nmX7 hown hK hP hD hS 0 rfl rfl 6 (by decide) l92 (fun _ h9 => h9) rfl (by decide +kernel) rfl rfl (Nat.le_of_ble_eq_true rfl) dX7_putNew_27 (fun H locs hP hD hS => ?_)
  have hP : va_P D vwCl [(qm 0, .inr (7, oX7 qm m_images m_newMany_27 m_at m_open m_steps m_use m_traced m_speaks m_isParted)), (qm 5, .inl (cI, 40, .inl m_newWord_9)), (qm 6, .inl (cI, 40, .inl m_newOrigin_19))] H := hP
  have hD : va_D A [(qm 0, .inr (7, oX7 qm m_images m_newMany_27 m_at m_open m_steps m_use m_traced m_speaks m_isParted)), (qm 5, .inl (cI, 40, .inl m_newWord_9)), (qm 6, .inl (cI, 40, .inl m_newOrigin_19))] := hD
  exact hret (m_newMany_27, m_newWord_9, m_newOrigin_19) _ _ _ _ h hP hD hS dX7_putNew_30
set_option maxHeartbeats 4000000 in
set_option maxRecDepth 100000 in
theorem c7_done (l : Launch) (D : va_G) (cI : ClassId) (qm : Nat → Nat) (m_images m_newMany m_at m_open m_steps m_use m_traced m_speaks m_isParted : Int32) (m_s m_newWord m_newOrigin : Nat → Int32) (x1 : Int32) (x2 : Int32) (x3 : Int32) (n : Nat) (u : Int32 × (Nat → Int32)) (h : f7_done n x1 x2 x3 m_newMany m_s m_newWord m_newOrigin = some u) : q_RW q_E0 l yX7_done wsX7_done (rmq (0)) D cI [.ref (qm 0), .int x1, .int x2, .int x3] [(qm 0, .inr (7, oX7 qm m_images m_newMany m_at m_open m_steps m_use m_traced m_speaks m_isParted)), (qm 1, .inl (cI, 3974, .inl m_s)), (qm 5, .inl (cI, 40, .inl m_newWord)), (qm 6, .inl (cI, 40, .inl m_newOrigin))] [(qm 0, .inr (7, oX7 qm m_images m_newMany m_at m_open m_steps m_use m_traced m_speaks m_isParted)), (qm 1, .inl (cI, 3974, .inl u.2)), (qm 5, .inl (cI, 40, .inl m_newWord)), (qm 6, .inl (cI, 40, .inl m_newOrigin))] u.1 := by
  refine q_startW (fun u : Int32 × (Nat → Int32) => [(qm 0, .inr (7, oX7 qm m_images m_newMany m_at m_open m_steps m_use m_traced m_speaks m_isParted)), (qm 1, .inl (cI, 3974, .inl u.2)), (qm 5, .inl (cI, 40, .inl m_newWord)), (qm 6, .inl (cI, 40, .inl m_newOrigin))]) (fun u => u.1) (cc := cX7_done) (maxL := 7) (ty := .int) (own := RX7) (by decide) rfl rfl (Nat.le_of_ble_eq_true rfl) rfl (fun p e s m args below meth c Q A hx hb hml hown hts hK hEv hA hret hP hD hS ls hl => ?_)
  have in7 : ∀ w ∈ wsX70, w ∈ wsX7_done := fun w h => List.mem_cons_of_mem _ (List.mem_append_right _ (h))
  have l7 := hts (.fieldLink RX7 7 "PageWarsModel" "s" "[I") (List.mem_of_getElem? (i := 1) rfl)
  have l19 := hts (.fieldLink RX7 19 "PageWarsModel" "newWord" "[I") (List.mem_of_getElem? (i := 3) rfl)
  have l22 := hts (.fieldLink RX7 22 "PageWarsModel" "newOrigin" "[I") (List.mem_of_getElem? (i := 4) rfl)
  have l92 := hts (.fieldLink RX7 92 "PageWarsModel" "newMany" "I") (List.mem_of_getElem? (i := 2) rfl)
  have J92 : ∀ (kk92 : Nat) (x4 : Int32) (x6 : Int32) (m_s : (Nat → Int32)) (H : Heap) (locs : List Loc) (ls : Array Slot), lv_has ls 7 [(0, .ref (qm 0)), (4, .int x4), (6, .int x6)] → va_P D vwCl [(qm 0, .inr (7, oX7 qm m_images m_newMany m_at m_open m_steps m_use m_traced m_speaks m_isParted)), (qm 1, .inl (cI, 3974, .inl m_s)), (qm 5, .inl (cI, 40, .inl m_newWord)), (qm 6, .inl (cI, 40, .inl m_newOrigin))] H → va_D A [(qm 0, .inr (7, oX7 qm m_images m_newMany m_at m_open m_steps m_use m_traced m_speaks m_isParted)), (qm 1, .inl (cI, 3974, .inl m_s)), (qm 5, .inl (cI, 40, .inl m_newWord)), (qm 6, .inl (cI, 40, .inl m_newOrigin))] → va_S A s.heap H locs → f7_done_92 n m_newMany m_newWord m_newOrigin kk92 x4 x6 m_s = some u → W p l e (rmq (0)) s m args below meth c H locs 0 0 Q (F0 m 92 ls []) := by
    intro kk92
    induction kk92 with
    | zero => intro x4 x6 m_s H locs ls hl hP hD hS h; exact nomatch (show (none : Option (Int32 × (Nat → Int32))) = some u from h)
    | succ kk92 ih92 =>
      have J167 : ∀ (x4 : Int32) (x6 : Int32) (s1 : Int32) (s2 : Int32) (m_s : (Nat → Int32)) (H : Heap) (locs : List Loc) (ls : Array Slot), lv_has ls 7 [(0, .ref (qm 0)), (4, .int x4), (6, .int x6)] → va_P D vwCl [(qm 0, .inr (7, oX7 qm m_images m_newMany m_at m_open m_steps m_use m_traced m_speaks m_isParted)), (qm 1, .inl (cI, 3974, .inl m_s)), (qm 5, .inl (cI, 40, .inl m_newWord)), (qm 6, .inl (cI, 40, .inl m_newOrigin))] H → va_D A [(qm 0, .inr (7, oX7 qm m_images m_newMany m_at m_open m_steps m_use m_traced m_speaks m_isParted)), (qm 1, .inl (cI, 3974, .inl m_s)), (qm 5, .inl (cI, 40, .inl m_newWord)), (qm 6, .inl (cI, 40, .inl m_newOrigin))] → va_S A s.heap H locs → f7_done_167 n m_newMany m_newWord m_newOrigin (f7_done_92 n m_newMany m_newWord m_newOrigin kk92) x4 x6 s1 s2 m_s = some u → W p l e (rmq (0)) s m args below meth c H locs 0 0 Q (F0 m 167 ls [.int s2, .int s1, .ref (qm 1)]) := by
        intro x4 x6 s1 s2 m_s H locs ls hl hP hD hS h
        unfold f7_done_167 at h
        refine q_iast hx hb hK hP hD hS 1 0 rfl rfl h dX7_done_167 (fun m_s_167 H locs h hP hD hS => ?_)
        have hP : va_P D vwCl [(qm 0, .inr (7, oX7 qm m_images m_newMany m_at m_open m_steps m_use m_traced m_speaks m_isParted)), (qm 1, .inl (cI, 3974, .inl m_s_167)), (qm 5, .inl (cI, 40, .inl m_newWord)), (qm 6, .inl (cI, 40, .inl m_newOrigin))] H := hP
        have hD : va_D A [(qm 0, .inr (7, oX7 qm m_images m_newMany m_at m_open m_steps m_use m_traced m_speaks m_isParted)), (qm 1, .inl (cI, 3974, .inl m_s_167)), (qm 5, .inl (cI, 40, .inl m_newWord)), (qm 6, .inl (cI, 40, .inl m_newOrigin))] := hD
        refine q_iinc (fun v => [(6, .int v), (0, .ref (qm 0)), (4, .int x4)]) hx hb h dX7_done_168 (by decide) hl (k := 2) rfl (by decide) (fun _ => rfl) (fun x6_168 ls h hl => ?_)
        refine lv_goto (tgt := 92) hx hb dX7_done_171 (by decide) ?_
        exact ih92 x4 x6_168 m_s_167 _ _ _ (lv_sub hl [1, 2, 0] rfl) hP hD hS h
      intro x4 x6 m_s H locs ls hl hP hD hS h
      rw [f7_done_92.eq_2] at h
      refine lv_iload hx hb dX7_done_92 (lv_at hl 2 rfl) ?_
      refine lv_aload_n hx hb dX7_done_94 rfl (lv_at hl 0 rfl) ?_
      refine va_get (D := D) (ci := 7) (v := .int m_newMany) (C := RX7) (T := TX7) (N := 24) hx hb hts in7 hown hK hP 0 rfl rfl 6 (by decide) l92 (fun _ h9 => h9) rfl dX7_done_95 ?_
      refine q_cge hx hb 174 h dX7_done_98 (by decide) (fun h => ?_) (fun h => ?_)
      · refine lv_aload_n hx hb dX7_done_174 rfl (lv_at hl 0 rfl) ?_
        refine va_get (D := D) (ci := 7) (v := .ref (qm 1)) (C := RX7) (T := TX7) (N := 24) hx hb hts in7 hown hK hP 0 rfl rfl 0 (by decide) l7 (fun _ h9 => h9) rfl dX7_done_175 ?_
        refine lv_iconst (v := (1 : Int32)) hx hb dX7_done_178 (by decide) ?_
        refine lv_dup2_11 hx hb dX7_done_179 rfl rfl ?_
        refine q_iald hx hb hK hP 1 0 rfl rfl h dX7_done_180 (fun t180 h => ?_)
        refine lv_iconst (v := (1 : Int32)) hx hb dX7_done_181 (by decide) ?_
        refine lv_iadd hx hb dX7_done_182 ?_
        refine q_iast hx hb hK hP hD hS 1 0 rfl rfl h dX7_done_183 (fun m_s_183 H locs h hP hD hS => ?_)
        have hP : va_P D vwCl [(qm 0, .inr (7, oX7 qm m_images m_newMany m_at m_open m_steps m_use m_traced m_speaks m_isParted)), (qm 1, .inl (cI, 3974, .inl m_s_183)), (qm 5, .inl (cI, 40, .inl m_newWord)), (qm 6, .inl (cI, 40, .inl m_newOrigin))] H := hP
        have hD : va_D A [(qm 0, .inr (7, oX7 qm m_images m_newMany m_at m_open m_steps m_use m_traced m_speaks m_isParted)), (qm 1, .inl (cI, 3974, .inl m_s_183)), (qm 5, .inl (cI, 40, .inl m_newWord)), (qm 6, .inl (cI, 40, .inl m_newOrigin))] := hD
        refine lv_iload hx hb dX7_done_184 (lv_at hl 1 rfl) ?_
        exact hret (x4, m_s_183) _ _ _ _ (vp_nar_int _) h hP hD hS dX7_done_186
      · refine lv_aload_n hx hb dX7_done_101 rfl (lv_at hl 0 rfl) ?_
        refine va_get (D := D) (ci := 7) (v := .ref (qm 1)) (C := RX7) (T := TX7) (N := 24) hx hb hts in7 hown hK hP 0 rfl rfl 0 (by decide) l7 (fun _ h9 => h9) rfl dX7_done_102 ?_
        refine lv_sipush (v := (380 : Int32)) hx hb dX7_done_105 (by decide) ?_
        refine lv_bipush (v := (20 : Int32)) hx hb dX7_done_108 (by decide) ?_
        refine lv_iload hx hb dX7_done_110 (lv_at hl 1 rfl) ?_
        refine lv_iconst (v := (1 : Int32)) hx hb dX7_done_112 (by decide) ?_
        refine lv_iadd hx hb dX7_done_113 ?_
        refine lv_imul hx hb dX7_done_114 ?_
        refine lv_iadd hx hb dX7_done_115 ?_
        refine lv_iload hx hb dX7_done_116 (lv_at hl 2 rfl) ?_
        refine lv_iadd hx hb dX7_done_118 ?_
        refine lv_aload_n hx hb dX7_done_119 rfl (lv_at hl 0 rfl) ?_
        refine va_get (D := D) (ci := 7) (v := .ref (qm 5)) (C := RX7) (T := TX7) (N := 24) hx hb hts in7 hown hK hP 0 rfl rfl 4 (by decide) l19 (fun _ h9 => h9) rfl dX7_done_120 ?_
        refine lv_iload hx hb dX7_done_123 (lv_at hl 2 rfl) ?_
        refine q_iald hx hb hK hP 2 0 rfl rfl h dX7_done_125 (fun t125 h => ?_)
        refine q_iast hx hb hK hP hD hS 1 0 rfl rfl h dX7_done_126 (fun m_s_126 H locs h hP hD hS => ?_)
        have hP : va_P D vwCl [(qm 0, .inr (7, oX7 qm m_images m_newMany m_at m_open m_steps m_use m_traced m_speaks m_isParted)), (qm 1, .inl (cI, 3974, .inl m_s_126)), (qm 5, .inl (cI, 40, .inl m_newWord)), (qm 6, .inl (cI, 40, .inl m_newOrigin))] H := hP
        have hD : va_D A [(qm 0, .inr (7, oX7 qm m_images m_newMany m_at m_open m_steps m_use m_traced m_speaks m_isParted)), (qm 1, .inl (cI, 3974, .inl m_s_126)), (qm 5, .inl (cI, 40, .inl m_newWord)), (qm 6, .inl (cI, 40, .inl m_newOrigin))] := hD
        refine lv_aload_n hx hb dX7_done_127 rfl (lv_at hl 0 rfl) ?_
        refine va_get (D := D) (ci := 7) (v := .ref (qm 1)) (C := RX7) (T := TX7) (N := 24) hx hb hts in7 hown hK hP 0 rfl rfl 0 (by decide) l7 (fun _ h9 => h9) rfl dX7_done_128 ?_
        refine lv_sipush (v := (1600 : Int32)) hx hb dX7_done_131 (by decide) ?_
        refine lv_bipush (v := (20 : Int32)) hx hb dX7_done_134 (by decide) ?_
        refine lv_iload hx hb dX7_done_136 (lv_at hl 1 rfl) ?_
        refine lv_iconst (v := (1 : Int32)) hx hb dX7_done_138 (by decide) ?_
        refine lv_iadd hx hb dX7_done_139 ?_
        refine lv_imul hx hb dX7_done_140 ?_
        refine lv_iadd hx hb dX7_done_141 ?_
        refine lv_iload hx hb dX7_done_142 (lv_at hl 2 rfl) ?_
        refine lv_iadd hx hb dX7_done_144 ?_
        refine lv_aload_n hx hb dX7_done_145 rfl (lv_at hl 0 rfl) ?_
        refine va_get (D := D) (ci := 7) (v := .ref (qm 6)) (C := RX7) (T := TX7) (N := 24) hx hb hts in7 hown hK hP 0 rfl rfl 5 (by decide) l22 (fun _ h9 => h9) rfl dX7_done_146 ?_
        refine lv_iload hx hb dX7_done_149 (lv_at hl 2 rfl) ?_
        refine q_iald hx hb hK hP 3 0 rfl rfl h dX7_done_151 (fun t151 h => ?_)
        refine q_ifge hx hb 160 h dX7_done_152 (by decide) (fun h => ?_) (fun h => ?_)
        · refine lv_aload_n hx hb dX7_done_160 rfl (lv_at hl 0 rfl) ?_
          refine va_get (D := D) (ci := 7) (v := .ref (qm 6)) (C := RX7) (T := TX7) (N := 24) hx hb hts in7 hown hK hP 0 rfl rfl 5 (by decide) l22 (fun _ h9 => h9) rfl dX7_done_161 ?_
          refine lv_iload hx hb dX7_done_164 (lv_at hl 2 rfl) ?_
          refine q_iald hx hb hK hP 3 0 rfl rfl h dX7_done_166 (fun t166 h => ?_)
          exact J167 x4 x6 ((((1600 : Int32)) + (((20 : Int32)) * (x4 + ((1 : Int32))))) + x6) t166 m_s_126 _ _ _ (lv_sub hl [0, 1, 2] rfl) hP hD hS h
        · refine lv_iload hx hb dX7_done_155 (lv_at hl 1 rfl) ?_
          refine lv_goto (tgt := 167) hx hb dX7_done_157 (by decide) ?_
          exact J167 x4 x6 ((((1600 : Int32)) + (((20 : Int32)) * (x4 + ((1 : Int32))))) + x6) x4 m_s_126 _ _ _ (lv_sub hl [0, 1, 2] rfl) hP hD hS h
  unfold f7_done at h
  refine lv_aload_n hx hb dX7_done_0 rfl (lv_at hl 0 rfl) ?_
  refine va_get (D := D) (ci := 7) (v := .ref (qm 1)) (C := RX7) (T := TX7) (N := 24) hx hb hts in7 hown hK hP 0 rfl rfl 0 (by decide) l7 (fun _ h9 => h9) rfl dX7_done_1 ?_
  refine lv_iconst (v := (1 : Int32)) hx hb dX7_done_4 (by decide) ?_
  refine q_iald hx hb hK hP 1 0 rfl rfl h dX7_done_5 (fun t5 h => ?_)
  refine lv_istore (lv' := [(4, .int t5), (0, .ref (qm 0)), (1, .int x1), (2, .int x2), (3, .int x3)]) hx hb dX7_done_6 hl (by decide) rfl (fun ls hl => ?_)
  refine lv_bipush (v := (10 : Int32)) hx hb dX7_done_8 (by decide) ?_
  refine lv_iconst (v := (5 : Int32)) hx hb dX7_done_10 (by decide) ?_
  refine lv_iload hx hb dX7_done_11 (lv_at hl 0 rfl) ?_
  refine lv_imul hx hb dX7_done_13 ?_
  refine lv_iadd hx hb dX7_done_14 ?_
  refine q_let h (fun x5_15 h => ?_)
  refine lv_istore (lv' := [(5, .int x5_15), (4, .int t5), (0, .ref (qm 0)), (1, .int x1), (2, .int x2), (3, .int x3)]) hx hb dX7_done_15 hl (by decide) rfl (fun ls hl => ?_)
  refine lv_aload_n hx hb dX7_done_17 rfl (lv_at hl 2 rfl) ?_
  refine va_get (D := D) (ci := 7) (v := .ref (qm 1)) (C := RX7) (T := TX7) (N := 24) hx hb hts in7 hown hK hP 0 rfl rfl 0 (by decide) l7 (fun _ h9 => h9) rfl dX7_done_18 ?_
  refine lv_iload hx hb dX7_done_21 (lv_at hl 0 rfl) ?_
  refine lv_iconst (v := (0 : Int32)) hx hb dX7_done_23 (by decide) ?_
  refine lv_iadd hx hb dX7_done_24 ?_
  refine lv_iload_n hx hb dX7_done_25 rfl (lv_at hl 3 rfl) ?_
  refine q_iast hx hb hK hP hD hS 1 0 rfl rfl h dX7_done_26 (fun m_s_26 H locs h hP hD hS => ?_)
  have hP : va_P D vwCl [(qm 0, .inr (7, oX7 qm m_images m_newMany m_at m_open m_steps m_use m_traced m_speaks m_isParted)), (qm 1, .inl (cI, 3974, .inl m_s_26)), (qm 5, .inl (cI, 40, .inl m_newWord)), (qm 6, .inl (cI, 40, .inl m_newOrigin))] H := hP
  have hD : va_D A [(qm 0, .inr (7, oX7 qm m_images m_newMany m_at m_open m_steps m_use m_traced m_speaks m_isParted)), (qm 1, .inl (cI, 3974, .inl m_s_26)), (qm 5, .inl (cI, 40, .inl m_newWord)), (qm 6, .inl (cI, 40, .inl m_newOrigin))] := hD
  refine lv_aload_n hx hb dX7_done_27 rfl (lv_at hl 2 rfl) ?_
  refine va_get (D := D) (ci := 7) (v := .ref (qm 1)) (C := RX7) (T := TX7) (N := 24) hx hb hts in7 hown hK hP 0 rfl rfl 0 (by decide) l7 (fun _ h9 => h9) rfl dX7_done_28 ?_
  refine lv_iload hx hb dX7_done_31 (lv_at hl 0 rfl) ?_
  refine lv_iconst (v := (1 : Int32)) hx hb dX7_done_33 (by decide) ?_
  refine lv_iadd hx hb dX7_done_34 ?_
  refine lv_iload_n hx hb dX7_done_35 rfl (lv_at hl 4 rfl) ?_
  refine q_iast hx hb hK hP hD hS 1 0 rfl rfl h dX7_done_36 (fun m_s_36 H locs h hP hD hS => ?_)
  have hP : va_P D vwCl [(qm 0, .inr (7, oX7 qm m_images m_newMany m_at m_open m_steps m_use m_traced m_speaks m_isParted)), (qm 1, .inl (cI, 3974, .inl m_s_36)), (qm 5, .inl (cI, 40, .inl m_newWord)), (qm 6, .inl (cI, 40, .inl m_newOrigin))] H := hP
  have hD : va_D A [(qm 0, .inr (7, oX7 qm m_images m_newMany m_at m_open m_steps m_use m_traced m_speaks m_isParted)), (qm 1, .inl (cI, 3974, .inl m_s_36)), (qm 5, .inl (cI, 40, .inl m_newWord)), (qm 6, .inl (cI, 40, .inl m_newOrigin))] := hD
  refine lv_aload_n hx hb dX7_done_37 rfl (lv_at hl 2 rfl) ?_
  refine va_get (D := D) (ci := 7) (v := .ref (qm 1)) (C := RX7) (T := TX7) (N := 24) hx hb hts in7 hown hK hP 0 rfl rfl 0 (by decide) l7 (fun _ h9 => h9) rfl dX7_done_38 ?_
  refine lv_iload hx hb dX7_done_41 (lv_at hl 0 rfl) ?_
  refine lv_iconst (v := (2 : Int32)) hx hb dX7_done_43 (by decide) ?_
  refine lv_iadd hx hb dX7_done_44 ?_
  refine lv_aload_n hx hb dX7_done_45 rfl (lv_at hl 2 rfl) ?_
  refine va_get (D := D) (ci := 7) (v := .ref (qm 1)) (C := RX7) (T := TX7) (N := 24) hx hb hts in7 hown hK hP 0 rfl rfl 0 (by decide) l7 (fun _ h9 => h9) rfl dX7_done_46 ?_
  refine lv_iconst (v := (0 : Int32)) hx hb dX7_done_49 (by decide) ?_
  refine q_iald hx hb hK hP 1 0 rfl rfl h dX7_done_50 (fun t50 h => ?_)
  refine q_iast hx hb hK hP hD hS 1 0 rfl rfl h dX7_done_51 (fun m_s_51 H locs h hP hD hS => ?_)
  have hP : va_P D vwCl [(qm 0, .inr (7, oX7 qm m_images m_newMany m_at m_open m_steps m_use m_traced m_speaks m_isParted)), (qm 1, .inl (cI, 3974, .inl m_s_51)), (qm 5, .inl (cI, 40, .inl m_newWord)), (qm 6, .inl (cI, 40, .inl m_newOrigin))] H := hP
  have hD : va_D A [(qm 0, .inr (7, oX7 qm m_images m_newMany m_at m_open m_steps m_use m_traced m_speaks m_isParted)), (qm 1, .inl (cI, 3974, .inl m_s_51)), (qm 5, .inl (cI, 40, .inl m_newWord)), (qm 6, .inl (cI, 40, .inl m_newOrigin))] := hD
  refine lv_aload_n hx hb dX7_done_52 rfl (lv_at hl 2 rfl) ?_
  refine va_get (D := D) (ci := 7) (v := .ref (qm 1)) (C := RX7) (T := TX7) (N := 24) hx hb hts in7 hown hK hP 0 rfl rfl 0 (by decide) l7 (fun _ h9 => h9) rfl dX7_done_53 ?_
  refine lv_iload hx hb dX7_done_56 (lv_at hl 0 rfl) ?_
  refine lv_iconst (v := (3 : Int32)) hx hb dX7_done_58 (by decide) ?_
  refine lv_iadd hx hb dX7_done_59 ?_
  refine lv_iload_n hx hb dX7_done_60 rfl (lv_at hl 5 rfl) ?_
  refine q_iast hx hb hK hP hD hS 1 0 rfl rfl h dX7_done_61 (fun m_s_61 H locs h hP hD hS => ?_)
  have hP : va_P D vwCl [(qm 0, .inr (7, oX7 qm m_images m_newMany m_at m_open m_steps m_use m_traced m_speaks m_isParted)), (qm 1, .inl (cI, 3974, .inl m_s_61)), (qm 5, .inl (cI, 40, .inl m_newWord)), (qm 6, .inl (cI, 40, .inl m_newOrigin))] H := hP
  have hD : va_D A [(qm 0, .inr (7, oX7 qm m_images m_newMany m_at m_open m_steps m_use m_traced m_speaks m_isParted)), (qm 1, .inl (cI, 3974, .inl m_s_61)), (qm 5, .inl (cI, 40, .inl m_newWord)), (qm 6, .inl (cI, 40, .inl m_newOrigin))] := hD
  refine lv_aload_n hx hb dX7_done_62 rfl (lv_at hl 2 rfl) ?_
  refine va_get (D := D) (ci := 7) (v := .ref (qm 1)) (C := RX7) (T := TX7) (N := 24) hx hb hts in7 hown hK hP 0 rfl rfl 0 (by decide) l7 (fun _ h9 => h9) rfl dX7_done_63 ?_
  refine lv_iload hx hb dX7_done_66 (lv_at hl 0 rfl) ?_
  refine lv_iconst (v := (4 : Int32)) hx hb dX7_done_68 (by decide) ?_
  refine lv_iadd hx hb dX7_done_69 ?_
  refine lv_iconst (v := (-1 : Int32)) hx hb dX7_done_70 (by decide) ?_
  refine q_iast hx hb hK hP hD hS 1 0 rfl rfl h dX7_done_71 (fun m_s_71 H locs h hP hD hS => ?_)
  have hP : va_P D vwCl [(qm 0, .inr (7, oX7 qm m_images m_newMany m_at m_open m_steps m_use m_traced m_speaks m_isParted)), (qm 1, .inl (cI, 3974, .inl m_s_71)), (qm 5, .inl (cI, 40, .inl m_newWord)), (qm 6, .inl (cI, 40, .inl m_newOrigin))] H := hP
  have hD : va_D A [(qm 0, .inr (7, oX7 qm m_images m_newMany m_at m_open m_steps m_use m_traced m_speaks m_isParted)), (qm 1, .inl (cI, 3974, .inl m_s_71)), (qm 5, .inl (cI, 40, .inl m_newWord)), (qm 6, .inl (cI, 40, .inl m_newOrigin))] := hD
  refine lv_aload_n hx hb dX7_done_72 rfl (lv_at hl 2 rfl) ?_
  refine va_get (D := D) (ci := 7) (v := .ref (qm 1)) (C := RX7) (T := TX7) (N := 24) hx hb hts in7 hown hK hP 0 rfl rfl 0 (by decide) l7 (fun _ h9 => h9) rfl dX7_done_73 ?_
  refine lv_sipush (v := (310 : Int32)) hx hb dX7_done_76 (by decide) ?_
  refine lv_iload hx hb dX7_done_79 (lv_at hl 1 rfl) ?_
  refine lv_iadd hx hb dX7_done_81 ?_
  refine lv_iconst (v := (1 : Int32)) hx hb dX7_done_82 (by decide) ?_
  refine lv_iadd hx hb dX7_done_83 ?_
  refine lv_aload_n hx hb dX7_done_84 rfl (lv_at hl 2 rfl) ?_
  refine va_get (D := D) (ci := 7) (v := .int m_newMany) (C := RX7) (T := TX7) (N := 24) hx hb hts in7 hown hK hP 0 rfl rfl 6 (by decide) l92 (fun _ h9 => h9) rfl dX7_done_85 ?_
  refine q_iast hx hb hK hP hD hS 1 0 rfl rfl h dX7_done_88 (fun m_s_88 H locs h hP hD hS => ?_)
  have hP : va_P D vwCl [(qm 0, .inr (7, oX7 qm m_images m_newMany m_at m_open m_steps m_use m_traced m_speaks m_isParted)), (qm 1, .inl (cI, 3974, .inl m_s_88)), (qm 5, .inl (cI, 40, .inl m_newWord)), (qm 6, .inl (cI, 40, .inl m_newOrigin))] H := hP
  have hD : va_D A [(qm 0, .inr (7, oX7 qm m_images m_newMany m_at m_open m_steps m_use m_traced m_speaks m_isParted)), (qm 1, .inl (cI, 3974, .inl m_s_88)), (qm 5, .inl (cI, 40, .inl m_newWord)), (qm 6, .inl (cI, 40, .inl m_newOrigin))] := hD
  refine lv_iconst (v := (0 : Int32)) hx hb dX7_done_89 (by decide) ?_
  refine lv_istore (lv' := [(6, .int ((0 : Int32))), (5, .int x5_15), (4, .int t5), (0, .ref (qm 0)), (1, .int x1), (2, .int x2), (3, .int x3)]) hx hb dX7_done_90 hl (by decide) rfl (fun ls hl => ?_)
  exact J92 n t5 ((0 : Int32)) m_s_88 _ _ _ (lv_sub hl [3, 2, 0] rfl) hP hD hS h
set_option maxHeartbeats 4000000 in
set_option maxRecDepth 100000 in
theorem c7_areAlike (l : Launch) (D : va_G) (cI : ClassId) (qm : Nat → Nat) (m_images m_newMany m_at m_open m_steps m_use m_traced m_speaks m_isParted : Int32) (m_s : Nat → Int32) (x1 : Int32) (x2 : Int32) (n : Nat) (u : Int32) (h : f7_areAlike n x1 x2 m_s = some u) : q_RO q_E0 l yX7_areAlike wsX7_areAlike (rmq (1)) D cI [.ref (qm 0), .int x1, .int x2] [(qm 0, .inr (7, oX7 qm m_images m_newMany m_at m_open m_steps m_use m_traced m_speaks m_isParted)), (qm 1, .inl (cI, 3974, .inl m_s))] u := by
  refine q_startR (cc := cX7_areAlike) (maxL := 5) (ty := .boolean) (own := RX7) (by decide) rfl rfl (Nat.le_of_ble_eq_true rfl) rfl (fun p e s m args below meth c Q hx hb hml hown hts hP hK hEv hret ls hl => ?_)
  have in7 : ∀ w ∈ wsX70, w ∈ wsX7_areAlike := fun w h => List.mem_cons_of_mem _ (List.mem_append_right _ (h))
  have J65 : ∀ (x3 : Int32) (ls : Array Slot), lv_has ls 5 [(0, .ref (qm 0)), (3, .int x3)] → f7_areAlike_65 n m_s x3 = some u → W p l e (rmq (1)) s m args below meth c s.heap [] 0 0 Q (F0 m 65 ls []) := by
    intro x3  ls hl h
    unfold f7_areAlike_65 at h
    refine lv_iload_n hx hb dX7_areAlike_65 rfl (lv_at hl 1 rfl) ?_
    obtain ⟨hz, h⟩ := q_bz_of h
    exact hret _ _ _ (q_nz hz) h dX7_areAlike_66
  have J22 : ∀ (kk22 : Nat) (x1 : Int32) (x2 : Int32) (x3 : Int32) (x4 : Int32) (ls : Array Slot), lv_has ls 5 [(0, .ref (qm 0)), (1, .int x1), (2, .int x2), (3, .int x3), (4, .int x4)] → f7_areAlike_22 n m_s kk22 x1 x2 x3 x4 = some u → W p l e (rmq (1)) s m args below meth c s.heap [] 0 0 Q (F0 m 22 ls []) := by
    intro kk22
    induction kk22 with
    | zero => intro x1 x2 x3 x4  ls hl h; exact nomatch (show (none : Option (Int32)) = some u from h)
    | succ kk22 ih22 =>
      have J58 : ∀ (x1 : Int32) (x2 : Int32) (x4 : Int32) (s0 : Int32) (ls : Array Slot), lv_has ls 5 [(0, .ref (qm 0)), (1, .int x1), (2, .int x2), (4, .int x4)] → f7_areAlike_58 n m_s (f7_areAlike_22 n m_s kk22) x1 x2 x4 s0 = some u → W p l e (rmq (1)) s m args below meth c s.heap [] 0 0 Q (F0 m 58 ls [.int s0]) := by
        intro x1 x2 x4 s0  ls hl h
        unfold f7_areAlike_58 at h
        refine lv_istore_n (lv' := [(3, .int s0), (0, .ref (qm 0)), (1, .int x1), (2, .int x2), (4, .int x4)]) hx hb dX7_areAlike_58 rfl hl (by decide) rfl (fun ls hl => ?_)
        refine q_iinc (fun v => [(4, .int v), (3, .int s0), (0, .ref (qm 0)), (1, .int x1), (2, .int x2)]) hx hb h dX7_areAlike_59 (by decide) hl (k := 4) rfl (by decide) (fun _ => rfl) (fun x4_59 ls h hl => ?_)
        refine lv_goto (tgt := 22) hx hb dX7_areAlike_62 (by decide) ?_
        exact ih22 x1 x2 s0 x4_59 _ (lv_sub hl [2, 3, 4, 1, 0] rfl) h
      intro x1 x2 x3 x4  ls hl h
      rw [f7_areAlike_22.eq_2] at h
      refine lv_iload hx hb dX7_areAlike_22 (lv_at hl 4 rfl) ?_
      refine lv_aload_n hx hb dX7_areAlike_24 rfl (lv_at hl 0 rfl) ?_
      refine lv_iload_n hx hb dX7_areAlike_25 rfl (lv_at hl 1 rfl) ?_
      refine q_callR q_E0ok (rest := [.int x4]) ⟨hx, hb, hml, hown, hts⟩ (fun r hr => c7_sizeOf l D cI qm m_images m_newMany m_at m_open m_steps m_use m_traced m_speaks m_isParted m_s x1 r hr) (cwV 1 hts gX7_areAlike_X7_sizeOf rfl rfl rfl hdX7_sizeOf (rmq_ok (Nat.le_of_ble_eq_true rfl) (Nat.le_of_ble_eq_true rfl))) hK hP hEv va_S.rf [0, 1] rfl (va_recv hK hP (ci := 7) (q0 := 0) rfl rfl) rfl rfl hl.1 (Nat.le_of_ble_eq_true rfl) ⟨Nat.zero_le _, Nat.zero_le _⟩ h dX7_areAlike_26 (fun t26 h => ?_)
      refine q_cge hx hb 65 h dX7_areAlike_29 (by decide) (fun h => ?_) (fun h => ?_)
      · exact J65 x3 _ (lv_sub hl [0, 3] rfl) h
      · refine lv_iload_n hx hb dX7_areAlike_32 rfl (lv_at hl 3 rfl) ?_
        refine q_ifeq hx hb 65 h dX7_areAlike_33 (by decide) (fun h => ?_) (fun h => ?_)
        · exact J65 x3 _ (lv_sub hl [0, 3] rfl) h
        · refine lv_aload_n hx hb dX7_areAlike_36 rfl (lv_at hl 0 rfl) ?_
          refine lv_iload_n hx hb dX7_areAlike_37 rfl (lv_at hl 1 rfl) ?_
          refine lv_iload hx hb dX7_areAlike_38 (lv_at hl 4 rfl) ?_
          refine q_callR q_E0ok (rest := []) ⟨hx, hb, hml, hown, hts⟩ (fun r hr => c7_wordAt l D cI qm m_images m_newMany m_at m_open m_steps m_use m_traced m_speaks m_isParted m_s x1 x4 r hr) (cwV 2 hts gX7_areAlike_X7_wordAt rfl rfl rfl hdX7_wordAt (rmq_ok (Nat.le_of_ble_eq_true rfl) (Nat.le_of_ble_eq_true rfl))) hK hP hEv va_S.rf [0, 1] rfl (va_recv hK hP (ci := 7) (q0 := 0) rfl rfl) rfl rfl hl.1 (Nat.le_of_ble_eq_true rfl) ⟨Nat.zero_le _, Nat.zero_le _⟩ h dX7_areAlike_40 (fun t40 h => ?_)
          refine lv_aload_n hx hb dX7_areAlike_43 rfl (lv_at hl 0 rfl) ?_
          refine lv_iload_n hx hb dX7_areAlike_44 rfl (lv_at hl 2 rfl) ?_
          refine lv_iload hx hb dX7_areAlike_45 (lv_at hl 4 rfl) ?_
          refine q_callR q_E0ok (rest := [.int t40]) ⟨hx, hb, hml, hown, hts⟩ (fun r hr => c7_wordAt l D cI qm m_images m_newMany m_at m_open m_steps m_use m_traced m_speaks m_isParted m_s x2 x4 r hr) (cwV 2 hts gX7_areAlike_X7_wordAt rfl rfl rfl hdX7_wordAt (rmq_ok (Nat.le_of_ble_eq_true rfl) (Nat.le_of_ble_eq_true rfl))) hK hP hEv va_S.rf [0, 1] rfl (va_recv hK hP (ci := 7) (q0 := 0) rfl rfl) rfl rfl hl.1 (Nat.le_of_ble_eq_true rfl) ⟨Nat.zero_le _, Nat.zero_le _⟩ h dX7_areAlike_47 (fun t47 h => ?_)
          refine q_cne hx hb 57 h dX7_areAlike_50 (by decide) (fun h => ?_) (fun h => ?_)
          · refine lv_iconst (v := (0 : Int32)) hx hb dX7_areAlike_57 (by decide) ?_
            exact J58 x1 x2 x4 ((0 : Int32)) _ (lv_sub hl [0, 1, 2, 4] rfl) h
          · refine lv_iconst (v := (1 : Int32)) hx hb dX7_areAlike_53 (by decide) ?_
            refine lv_goto (tgt := 58) hx hb dX7_areAlike_54 (by decide) ?_
            exact J58 x1 x2 x4 ((1 : Int32)) _ (lv_sub hl [0, 1, 2, 4] rfl) h
  have J18 : ∀ (x1 : Int32) (x2 : Int32) (s0 : Int32) (ls : Array Slot), lv_has ls 5 [(0, .ref (qm 0)), (1, .int x1), (2, .int x2)] → f7_areAlike_18 n m_s x1 x2 s0 = some u → W p l e (rmq (1)) s m args below meth c s.heap [] 0 0 Q (F0 m 18 ls [.int s0]) := by
    intro x1 x2 s0  ls hl h
    unfold f7_areAlike_18 at h
    refine lv_istore_n (lv' := [(3, .int s0), (0, .ref (qm 0)), (1, .int x1), (2, .int x2)]) hx hb dX7_areAlike_18 rfl hl (by decide) rfl (fun ls hl => ?_)
    refine lv_iconst (v := (0 : Int32)) hx hb dX7_areAlike_19 (by decide) ?_
    refine lv_istore (lv' := [(4, .int ((0 : Int32))), (3, .int s0), (0, .ref (qm 0)), (1, .int x1), (2, .int x2)]) hx hb dX7_areAlike_20 hl (by decide) rfl (fun ls hl => ?_)
    exact J22 n x1 x2 s0 ((0 : Int32)) _ (lv_sub hl [2, 3, 4, 1, 0] rfl) h
  unfold f7_areAlike at h
  refine lv_aload_n hx hb dX7_areAlike_0 rfl (lv_at hl 0 rfl) ?_
  refine lv_iload_n hx hb dX7_areAlike_1 rfl (lv_at hl 1 rfl) ?_
  refine q_callR q_E0ok (rest := []) ⟨hx, hb, hml, hown, hts⟩ (fun r hr => c7_sizeOf l D cI qm m_images m_newMany m_at m_open m_steps m_use m_traced m_speaks m_isParted m_s x1 r hr) (cwV 1 hts gX7_areAlike_X7_sizeOf rfl rfl rfl hdX7_sizeOf (rmq_ok (Nat.le_of_ble_eq_true rfl) (Nat.le_of_ble_eq_true rfl))) hK hP hEv va_S.rf [0, 1] rfl (va_recv hK hP (ci := 7) (q0 := 0) rfl rfl) rfl rfl hl.1 (Nat.le_of_ble_eq_true rfl) ⟨Nat.zero_le _, Nat.zero_le _⟩ h dX7_areAlike_2 (fun t2 h => ?_)
  refine lv_aload_n hx hb dX7_areAlike_5 rfl (lv_at hl 0 rfl) ?_
  refine lv_iload_n hx hb dX7_areAlike_6 rfl (lv_at hl 2 rfl) ?_
  refine q_callR q_E0ok (rest := [.int t2]) ⟨hx, hb, hml, hown, hts⟩ (fun r hr => c7_sizeOf l D cI qm m_images m_newMany m_at m_open m_steps m_use m_traced m_speaks m_isParted m_s x2 r hr) (cwV 1 hts gX7_areAlike_X7_sizeOf rfl rfl rfl hdX7_sizeOf (rmq_ok (Nat.le_of_ble_eq_true rfl) (Nat.le_of_ble_eq_true rfl))) hK hP hEv va_S.rf [0, 1] rfl (va_recv hK hP (ci := 7) (q0 := 0) rfl rfl) rfl rfl hl.1 (Nat.le_of_ble_eq_true rfl) ⟨Nat.zero_le _, Nat.zero_le _⟩ h dX7_areAlike_7 (fun t7 h => ?_)
  refine q_cne hx hb 17 h dX7_areAlike_10 (by decide) (fun h => ?_) (fun h => ?_)
  · refine lv_iconst (v := (0 : Int32)) hx hb dX7_areAlike_17 (by decide) ?_
    exact J18 x1 x2 ((0 : Int32)) _ (lv_sub hl [0, 1, 2] rfl) h
  · refine lv_iconst (v := (1 : Int32)) hx hb dX7_areAlike_13 (by decide) ?_
    refine lv_goto (tgt := 18) hx hb dX7_areAlike_14 (by decide) ?_
    exact J18 x1 x2 ((1 : Int32)) _ (lv_sub hl [0, 1, 2] rfl) h
set_option maxHeartbeats 4000000 in
set_option maxRecDepth 100000 in
theorem c7_findUndone (l : Launch) (D : va_G) (cI : ClassId) (qm : Nat → Nat) (m_images m_newMany m_at m_open m_steps m_use m_traced m_speaks m_isParted : Int32) (m_s m_undoneBy : Nat → Int32) (n : Nat) (u : (Nat → Int32)) (h : f7_findUndone n m_s m_undoneBy = some u) : q_RV q_E0 l yX7_findUndone wsX7_findUndone (rmq (2)) D cI [.ref (qm 0)] [(qm 0, .inr (7, oX7 qm m_images m_newMany m_at m_open m_steps m_use m_traced m_speaks m_isParted)), (qm 1, .inl (cI, 3974, .inl m_s)), (qm 16, .inl (cI, 60, .inl m_undoneBy))] [(qm 0, .inr (7, oX7 qm m_images m_newMany m_at m_open m_steps m_use m_traced m_speaks m_isParted)), (qm 1, .inl (cI, 3974, .inl m_s)), (qm 16, .inl (cI, 60, .inl u))] := by
  refine q_startV (fun u : (Nat → Int32) => [(qm 0, .inr (7, oX7 qm m_images m_newMany m_at m_open m_steps m_use m_traced m_speaks m_isParted)), (qm 1, .inl (cI, 3974, .inl m_s)), (qm 16, .inl (cI, 60, .inl u))]) (cc := cX7_findUndone) (maxL := 4) (own := RX7) (by decide) rfl rfl (Nat.le_of_ble_eq_true rfl) rfl (fun p e s m args below meth c Q A hx hb hml hown hts hK hEv hA hret hP hD hS ls hl => ?_)
  have in7 : ∀ w ∈ wsX70, w ∈ wsX7_findUndone := fun w h => List.mem_cons_of_mem _ (List.mem_append_right _ (h))
  have l7 := hts (.fieldLink RX7 7 "PageWarsModel" "s" "[I") (List.mem_of_getElem? (i := 1) rfl)
  have l37 := hts (.fieldLink RX7 37 "PageWarsModel" "undoneBy" "[I") (List.mem_of_getElem? (i := 2) rfl)
  have J2 : ∀ (kk2 : Nat) (x1 : Int32) (m_undoneBy : (Nat → Int32)) (H : Heap) (locs : List Loc) (ls : Array Slot), lv_has ls 4 [(0, .ref (qm 0)), (1, .int x1)] → va_P D vwCl [(qm 0, .inr (7, oX7 qm m_images m_newMany m_at m_open m_steps m_use m_traced m_speaks m_isParted)), (qm 1, .inl (cI, 3974, .inl m_s)), (qm 16, .inl (cI, 60, .inl m_undoneBy))] H → va_D A [(qm 0, .inr (7, oX7 qm m_images m_newMany m_at m_open m_steps m_use m_traced m_speaks m_isParted)), (qm 1, .inl (cI, 3974, .inl m_s)), (qm 16, .inl (cI, 60, .inl m_undoneBy))] → va_S A s.heap H locs → f7_findUndone_2 n m_s kk2 x1 m_undoneBy = some u → W p l e (rmq (2)) s m args below meth c H locs 0 0 Q (F0 m 2 ls []) := by
    intro kk2
    induction kk2 with
    | zero => intro x1 m_undoneBy H locs ls hl hP hD hS h; exact nomatch (show (none : Option ((Nat → Int32))) = some u from h)
    | succ kk2 ih2 =>
      have J40 : ∀ (kk40 : Nat) (x1 : Int32) (x2 : Int32) (x3 : Int32) (m_undoneBy : (Nat → Int32)) (H : Heap) (locs : List Loc) (ls : Array Slot), lv_has ls 4 [(0, .ref (qm 0)), (1, .int x1), (2, .int x2), (3, .int x3)] → va_P D vwCl [(qm 0, .inr (7, oX7 qm m_images m_newMany m_at m_open m_steps m_use m_traced m_speaks m_isParted)), (qm 1, .inl (cI, 3974, .inl m_s)), (qm 16, .inl (cI, 60, .inl m_undoneBy))] H → va_D A [(qm 0, .inr (7, oX7 qm m_images m_newMany m_at m_open m_steps m_use m_traced m_speaks m_isParted)), (qm 1, .inl (cI, 3974, .inl m_s)), (qm 16, .inl (cI, 60, .inl m_undoneBy))] → va_S A s.heap H locs → f7_findUndone_40 n m_s (f7_findUndone_2 n m_s kk2) kk40 x1 x2 x3 m_undoneBy = some u → W p l e (rmq (2)) s m args below meth c H locs 0 0 Q (F0 m 40 ls []) := by
        intro kk40
        induction kk40 with
        | zero => intro x1 x2 x3 m_undoneBy H locs ls hl hP hD hS h; exact nomatch (show (none : Option ((Nat → Int32))) = some u from h)
        | succ kk40 ih40 =>
          have J91 : ∀ (x1 : Int32) (m_undoneBy : (Nat → Int32)) (H : Heap) (locs : List Loc) (ls : Array Slot), lv_has ls 4 [(0, .ref (qm 0)), (1, .int x1)] → va_P D vwCl [(qm 0, .inr (7, oX7 qm m_images m_newMany m_at m_open m_steps m_use m_traced m_speaks m_isParted)), (qm 1, .inl (cI, 3974, .inl m_s)), (qm 16, .inl (cI, 60, .inl m_undoneBy))] H → va_D A [(qm 0, .inr (7, oX7 qm m_images m_newMany m_at m_open m_steps m_use m_traced m_speaks m_isParted)), (qm 1, .inl (cI, 3974, .inl m_s)), (qm 16, .inl (cI, 60, .inl m_undoneBy))] → va_S A s.heap H locs → f7_findUndone_91 n m_s (f7_findUndone_2 n m_s kk2) (f7_findUndone_40 n m_s (f7_findUndone_2 n m_s kk2) kk40) x1 m_undoneBy = some u → W p l e (rmq (2)) s m args below meth c H locs 0 0 Q (F0 m 91 ls []) := by
            intro x1 m_undoneBy H locs ls hl hP hD hS h
            unfold f7_findUndone_91 at h
            refine q_iinc (fun v => [(1, .int v), (0, .ref (qm 0))]) hx hb h dX7_findUndone_91 (by decide) hl (k := 1) rfl (by decide) (fun _ => rfl) (fun x1_91 ls h hl => ?_)
            refine lv_goto (tgt := 2) hx hb dX7_findUndone_94 (by decide) ?_
            exact ih2 x1_91 m_undoneBy _ _ _ (lv_sub hl [1, 0] rfl) hP hD hS h
          have J84 : ∀ (x1 : Int32) (x2 : Int32) (x3 : Int32) (s1 : Int32) (s2 : Int32) (m_undoneBy : (Nat → Int32)) (H : Heap) (locs : List Loc) (ls : Array Slot), lv_has ls 4 [(0, .ref (qm 0)), (1, .int x1), (2, .int x2), (3, .int x3)] → va_P D vwCl [(qm 0, .inr (7, oX7 qm m_images m_newMany m_at m_open m_steps m_use m_traced m_speaks m_isParted)), (qm 1, .inl (cI, 3974, .inl m_s)), (qm 16, .inl (cI, 60, .inl m_undoneBy))] H → va_D A [(qm 0, .inr (7, oX7 qm m_images m_newMany m_at m_open m_steps m_use m_traced m_speaks m_isParted)), (qm 1, .inl (cI, 3974, .inl m_s)), (qm 16, .inl (cI, 60, .inl m_undoneBy))] → va_S A s.heap H locs → f7_findUndone_84 n m_s (f7_findUndone_2 n m_s kk2) (f7_findUndone_40 n m_s (f7_findUndone_2 n m_s kk2) kk40) x1 x2 x3 s1 s2 m_undoneBy = some u → W p l e (rmq (2)) s m args below meth c H locs 0 0 Q (F0 m 84 ls [.int s2, .int s1, .ref (qm 16)]) := by
            intro x1 x2 x3 s1 s2 m_undoneBy H locs ls hl hP hD hS h
            unfold f7_findUndone_84 at h
            refine q_iast hx hb hK hP hD hS 2 0 rfl rfl h dX7_findUndone_84 (fun m_undoneBy_84 H locs h hP hD hS => ?_)
            have hP : va_P D vwCl [(qm 0, .inr (7, oX7 qm m_images m_newMany m_at m_open m_steps m_use m_traced m_speaks m_isParted)), (qm 1, .inl (cI, 3974, .inl m_s)), (qm 16, .inl (cI, 60, .inl m_undoneBy_84))] H := hP
            have hD : va_D A [(qm 0, .inr (7, oX7 qm m_images m_newMany m_at m_open m_steps m_use m_traced m_speaks m_isParted)), (qm 1, .inl (cI, 3974, .inl m_s)), (qm 16, .inl (cI, 60, .inl m_undoneBy_84))] := hD
            refine q_iinc (fun v => [(3, .int v), (0, .ref (qm 0)), (1, .int x1), (2, .int x2)]) hx hb h dX7_findUndone_85 (by decide) hl (k := 3) rfl (by decide) (fun _ => rfl) (fun x3_85 ls h hl => ?_)
            refine lv_goto (tgt := 40) hx hb dX7_findUndone_88 (by decide) ?_
            exact ih40 x1 x2 x3_85 m_undoneBy_84 _ _ _ (lv_sub hl [1, 2, 3, 0] rfl) hP hD hS h
          intro x1 x2 x3 m_undoneBy H locs ls hl hP hD hS h
          rw [f7_findUndone_40.eq_2] at h
          refine lv_iload_n hx hb dX7_findUndone_40 rfl (lv_at hl 3 rfl) ?_
          refine lv_aload_n hx hb dX7_findUndone_41 rfl (lv_at hl 0 rfl) ?_
          refine va_get (D := D) (ci := 7) (v := .ref (qm 1)) (C := RX7) (T := TX7) (N := 24) hx hb hts in7 hown hK hP 0 rfl rfl 0 (by decide) l7 (fun _ h9 => h9) rfl dX7_findUndone_42 ?_
          refine lv_iconst (v := (1 : Int32)) hx hb dX7_findUndone_45 (by decide) ?_
          refine q_iald hx hb hK hP 1 0 rfl rfl h dX7_findUndone_46 (fun t46 h => ?_)
          refine q_cge hx hb 91 h dX7_findUndone_47 (by decide) (fun h => ?_) (fun h => ?_)
          · exact J91 x1 m_undoneBy _ _ _ (lv_sub hl [0, 1] rfl) hP hD hS h
          · refine lv_iload_n hx hb dX7_findUndone_50 rfl (lv_at hl 2 rfl) ?_
            refine q_ifeq hx hb 91 h dX7_findUndone_51 (by decide) (fun h => ?_) (fun h => ?_)
            · exact J91 x1 m_undoneBy _ _ _ (lv_sub hl [0, 1] rfl) hP hD hS h
            · refine lv_aload_n hx hb dX7_findUndone_54 rfl (lv_at hl 0 rfl) ?_
              refine va_get (D := D) (ci := 7) (v := .ref (qm 16)) (C := RX7) (T := TX7) (N := 24) hx hb hts in7 hown hK hP 0 rfl rfl 15 (by decide) l37 (fun _ h9 => h9) rfl dX7_findUndone_55 ?_
              refine lv_iload_n hx hb dX7_findUndone_58 rfl (lv_at hl 1 rfl) ?_
              refine q_iald hx hb hK hP 2 0 rfl rfl h dX7_findUndone_59 (fun t59 h => ?_)
              refine q_ifge hx hb 91 h dX7_findUndone_60 (by decide) (fun h => ?_) (fun h => ?_)
              · exact J91 x1 m_undoneBy _ _ _ (lv_sub hl [0, 1] rfl) hP hD hS h
              · refine lv_aload_n hx hb dX7_findUndone_63 rfl (lv_at hl 0 rfl) ?_
                refine va_get (D := D) (ci := 7) (v := .ref (qm 16)) (C := RX7) (T := TX7) (N := 24) hx hb hts in7 hown hK hP 0 rfl rfl 15 (by decide) l37 (fun _ h9 => h9) rfl dX7_findUndone_64 ?_
                refine lv_iload_n hx hb dX7_findUndone_67 rfl (lv_at hl 1 rfl) ?_
                refine lv_aload_n hx hb dX7_findUndone_68 rfl (lv_at hl 0 rfl) ?_
                refine lv_iload_n hx hb dX7_findUndone_69 rfl (lv_at hl 1 rfl) ?_
                refine lv_iload_n hx hb dX7_findUndone_70 rfl (lv_at hl 3 rfl) ?_
                refine lv_iconst (v := (1 : Int32)) hx hb dX7_findUndone_71 (by decide) ?_
                refine lv_iadd hx hb dX7_findUndone_72 ?_
                refine q_callR q_E0ok (rest := [.int x1, .ref (qm 16)]) ⟨hx, hb, hml, hown, hts⟩ (fun r hr => c7_areAlike l D cI qm m_images m_newMany m_at m_open m_steps m_use m_traced m_speaks m_isParted m_s x1 (x3 + ((1 : Int32))) n r hr) (cwV 2 hts gX7_findUndone_X7_areAlike rfl rfl rfl hdX7_areAlike (rmq_ok (Nat.le_of_ble_eq_true rfl) (Nat.le_of_ble_eq_true rfl))) hK hP hEv hS [0, 1] rfl (va_recv hK hP (ci := 7) (q0 := 0) rfl rfl) rfl rfl hl.1 (Nat.le_of_ble_eq_true rfl) ⟨Nat.zero_le _, Nat.zero_le _⟩ h dX7_findUndone_73 (fun t73 h => ?_)
                refine q_ifeq hx hb 83 h dX7_findUndone_76 (by decide) (fun h => ?_) (fun h => ?_)
                · refine lv_iconst (v := (-1 : Int32)) hx hb dX7_findUndone_83 (by decide) ?_
                  exact J84 x1 x2 x3 x1 ((-1 : Int32)) m_undoneBy _ _ _ (lv_sub hl [0, 1, 2, 3] rfl) hP hD hS h
                · refine lv_iload_n hx hb dX7_findUndone_79 rfl (lv_at hl 3 rfl) ?_
                  refine lv_goto (tgt := 84) hx hb dX7_findUndone_80 (by decide) ?_
                  exact J84 x1 x2 x3 x1 x3 m_undoneBy _ _ _ (lv_sub hl [0, 1, 2, 3] rfl) hP hD hS h
      have J35 : ∀ (x1 : Int32) (s0 : Int32) (m_undoneBy : (Nat → Int32)) (H : Heap) (locs : List Loc) (ls : Array Slot), lv_has ls 4 [(0, .ref (qm 0)), (1, .int x1)] → va_P D vwCl [(qm 0, .inr (7, oX7 qm m_images m_newMany m_at m_open m_steps m_use m_traced m_speaks m_isParted)), (qm 1, .inl (cI, 3974, .inl m_s)), (qm 16, .inl (cI, 60, .inl m_undoneBy))] H → va_D A [(qm 0, .inr (7, oX7 qm m_images m_newMany m_at m_open m_steps m_use m_traced m_speaks m_isParted)), (qm 1, .inl (cI, 3974, .inl m_s)), (qm 16, .inl (cI, 60, .inl m_undoneBy))] → va_S A s.heap H locs → f7_findUndone_35 n m_s (f7_findUndone_2 n m_s kk2) x1 s0 m_undoneBy = some u → W p l e (rmq (2)) s m args below meth c H locs 0 0 Q (F0 m 35 ls [.int s0]) := by
        intro x1 s0 m_undoneBy H locs ls hl hP hD hS h
        unfold f7_findUndone_35 at h
        refine lv_istore_n (lv' := [(2, .int s0), (0, .ref (qm 0)), (1, .int x1)]) hx hb dX7_findUndone_35 rfl hl (by decide) rfl (fun ls hl => ?_)
        refine lv_iload_n hx hb dX7_findUndone_36 rfl (lv_at hl 2 rfl) ?_
        refine lv_iconst (v := (1 : Int32)) hx hb dX7_findUndone_37 (by decide) ?_
        refine lv_iadd hx hb dX7_findUndone_38 ?_
        refine q_let h (fun x3_39 h => ?_)
        refine lv_istore_n (lv' := [(3, .int x3_39), (2, .int s0), (0, .ref (qm 0)), (1, .int x1)]) hx hb dX7_findUndone_39 rfl hl (by decide) rfl (fun ls hl => ?_)
        exact J40 n x1 s0 x3_39 m_undoneBy _ _ _ (lv_sub hl [2, 3, 1, 0] rfl) hP hD hS h
      intro x1 m_undoneBy H locs ls hl hP hD hS h
      rw [f7_findUndone_2.eq_2] at h
      refine lv_iload_n hx hb dX7_findUndone_2 rfl (lv_at hl 1 rfl) ?_
      refine lv_aload_n hx hb dX7_findUndone_3 rfl (lv_at hl 0 rfl) ?_
      refine va_get (D := D) (ci := 7) (v := .ref (qm 1)) (C := RX7) (T := TX7) (N := 24) hx hb hts in7 hown hK hP 0 rfl rfl 0 (by decide) l7 (fun _ h9 => h9) rfl dX7_findUndone_4 ?_
      refine lv_iconst (v := (1 : Int32)) hx hb dX7_findUndone_7 (by decide) ?_
      refine q_iald hx hb hK hP 1 0 rfl rfl h dX7_findUndone_8 (fun t8 h => ?_)
      refine q_cge hx hb 97 h dX7_findUndone_9 (by decide) (fun h => ?_) (fun h => ?_)
      · exact hret (m_undoneBy) _ _ _ _ h hP hD hS dX7_findUndone_97
      · refine lv_aload_n hx hb dX7_findUndone_12 rfl (lv_at hl 0 rfl) ?_
        refine va_get (D := D) (ci := 7) (v := .ref (qm 16)) (C := RX7) (T := TX7) (N := 24) hx hb hts in7 hown hK hP 0 rfl rfl 15 (by decide) l37 (fun _ h9 => h9) rfl dX7_findUndone_13 ?_
        refine lv_iload_n hx hb dX7_findUndone_16 rfl (lv_at hl 1 rfl) ?_
        refine lv_iconst (v := (-1 : Int32)) hx hb dX7_findUndone_17 (by decide) ?_
        refine q_iast hx hb hK hP hD hS 2 0 rfl rfl h dX7_findUndone_18 (fun m_undoneBy_18 H locs h hP hD hS => ?_)
        have hP : va_P D vwCl [(qm 0, .inr (7, oX7 qm m_images m_newMany m_at m_open m_steps m_use m_traced m_speaks m_isParted)), (qm 1, .inl (cI, 3974, .inl m_s)), (qm 16, .inl (cI, 60, .inl m_undoneBy_18))] H := hP
        have hD : va_D A [(qm 0, .inr (7, oX7 qm m_images m_newMany m_at m_open m_steps m_use m_traced m_speaks m_isParted)), (qm 1, .inl (cI, 3974, .inl m_s)), (qm 16, .inl (cI, 60, .inl m_undoneBy_18))] := hD
        refine lv_aload_n hx hb dX7_findUndone_19 rfl (lv_at hl 0 rfl) ?_
        refine lv_iload_n hx hb dX7_findUndone_20 rfl (lv_at hl 1 rfl) ?_
        refine lv_iload_n hx hb dX7_findUndone_21 rfl (lv_at hl 1 rfl) ?_
        refine lv_iconst (v := (1 : Int32)) hx hb dX7_findUndone_22 (by decide) ?_
        refine lv_iadd hx hb dX7_findUndone_23 ?_
        refine q_callR q_E0ok (rest := []) ⟨hx, hb, hml, hown, hts⟩ (fun r hr => c7_areAlike l D cI qm m_images m_newMany m_at m_open m_steps m_use m_traced m_speaks m_isParted m_s x1 (x1 + ((1 : Int32))) n r hr) (cwV 2 hts gX7_findUndone_X7_areAlike rfl rfl rfl hdX7_areAlike (rmq_ok (Nat.le_of_ble_eq_true rfl) (Nat.le_of_ble_eq_true rfl))) hK hP hEv hS [0, 1] rfl (va_recv hK hP (ci := 7) (q0 := 0) rfl rfl) rfl rfl hl.1 (Nat.le_of_ble_eq_true rfl) ⟨Nat.zero_le _, Nat.zero_le _⟩ h dX7_findUndone_24 (fun t24 h => ?_)
        refine q_ifne hx hb 34 h dX7_findUndone_27 (by decide) (fun h => ?_) (fun h => ?_)
        · refine lv_iconst (v := (0 : Int32)) hx hb dX7_findUndone_34 (by decide) ?_
          exact J35 x1 ((0 : Int32)) m_undoneBy_18 _ _ _ (lv_sub hl [0, 1] rfl) hP hD hS h
        · refine lv_iconst (v := (1 : Int32)) hx hb dX7_findUndone_30 (by decide) ?_
          refine lv_goto (tgt := 35) hx hb dX7_findUndone_31 (by decide) ?_
          exact J35 x1 ((1 : Int32)) m_undoneBy_18 _ _ _ (lv_sub hl [0, 1] rfl) hP hD hS h
  unfold f7_findUndone at h
  refine lv_iconst (v := (0 : Int32)) hx hb dX7_findUndone_0 (by decide) ?_
  refine lv_istore_n (lv' := [(1, .int ((0 : Int32))), (0, .ref (qm 0))]) hx hb dX7_findUndone_1 rfl hl (by decide) rfl (fun ls hl => ?_)
  exact J2 n ((0 : Int32)) m_undoneBy _ _ _ (lv_sub hl [1, 0] rfl) hP hD hS h
