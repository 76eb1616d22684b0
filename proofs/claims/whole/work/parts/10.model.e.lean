set_option maxHeartbeats 4000000 in
set_option maxRecDepth 100000 in
theorem c7_isName (l : Launch) (D : va_G) (cI : ClassId) (qm : Nat → Nat) (m_images m_newMany m_at m_open m_steps m_use m_traced m_speaks m_isParted : Int32) (x1 : Int32) (u : Int32) (h : f7_isName x1 m_use = some u) : q_RO q_E0 l yX7_isName wsX7_isName (rmq (0)) D cI [.ref (qm 0), .int x1] [(qm 0, .inr (7, oX7 qm m_images m_newMany m_at m_open m_steps m_use m_traced m_speaks m_isParted))] u := by
  refine q_startR (cc := cX7_isName) (maxL := 2) (ty := .boolean) (own := RX7) (by decide) rfl rfl (Nat.le_of_ble_eq_true rfl) rfl (fun p e s m args below meth c Q hx hb hml hown hts hP hK hEv hret ls hl => ?_)
  have in7 : ∀ w ∈ wsX70, w ∈ wsX7_isName := fun w h => List.mem_cons_of_mem _ (List.mem_append_right _ (h))
  have l154 := hts (.fieldLink RX7 154 "PageWarsModel" "use" "I") (List.mem_of_getElem? (i := 1) rfl)
  have J112 : ∀ (s0 : Int32) (ls : Array Slot), lv_has ls 2 [(0, .ref (qm 0))] → f7_isName_112 m_use s0 = some u → W p l e (rmq (0)) s m args below meth c s.heap [] 0 0 Q (F0 m 112 ls [.int s0]) := by
    intro s0  ls hl h
    unfold f7_isName_112 at h
    obtain ⟨hz, h⟩ := q_bz_of h
    exact hret _ _ _ (q_nz hz) h dX7_isName_112
  have J107 : ∀  (ls : Array Slot), lv_has ls 2 [(0, .ref (qm 0))] → f7_isName_107 m_use  = some u → W p l e (rmq (0)) s m args below meth c s.heap [] 0 0 Q (F0 m 107 ls []) := by
    intro   ls hl h
    unfold f7_isName_107 at h
    refine lv_iconst (v := (1 : Int32)) hx hb dX7_isName_107 (by decide) ?_
    refine lv_goto (tgt := 112) hx hb dX7_isName_108 (by decide) ?_
    exact J112 ((1 : Int32)) _ (lv_sub hl [0] rfl) h
  have J82 : ∀ (s0 : Int32) (ls : Array Slot), lv_has ls 2 [(0, .ref (qm 0))] → f7_isName_82 m_use s0 = some u → W p l e (rmq (0)) s m args below meth c s.heap [] 0 0 Q (F0 m 82 ls [.int s0]) := by
    intro s0  ls hl h
    unfold f7_isName_82 at h
    obtain ⟨hz, h⟩ := q_bz_of h
    exact hret _ _ _ (q_nz hz) h dX7_isName_82
  have J77 : ∀  (ls : Array Slot), lv_has ls 2 [(0, .ref (qm 0))] → f7_isName_77 m_use  = some u → W p l e (rmq (0)) s m args below meth c s.heap [] 0 0 Q (F0 m 77 ls []) := by
    intro   ls hl h
    unfold f7_isName_77 at h
    refine lv_iconst (v := (1 : Int32)) hx hb dX7_isName_77 (by decide) ?_
    refine lv_goto (tgt := 82) hx hb dX7_isName_78 (by decide) ?_
    exact J82 ((1 : Int32)) _ (lv_sub hl [0] rfl) h
  have J44 : ∀ (s0 : Int32) (ls : Array Slot), lv_has ls 2 [(0, .ref (qm 0))] → f7_isName_44 m_use s0 = some u → W p l e (rmq (0)) s m args below meth c s.heap [] 0 0 Q (F0 m 44 ls [.int s0]) := by
    intro s0  ls hl h
    unfold f7_isName_44 at h
    obtain ⟨hz, h⟩ := q_bz_of h
    exact hret _ _ _ (q_nz hz) h dX7_isName_44
  have J39 : ∀  (ls : Array Slot), lv_has ls 2 [(0, .ref (qm 0))] → f7_isName_39 m_use  = some u → W p l e (rmq (0)) s m args below meth c s.heap [] 0 0 Q (F0 m 39 ls []) := by
    intro   ls hl h
    unfold f7_isName_39 at h
    refine lv_iconst (v := (1 : Int32)) hx hb dX7_isName_39 (by decide) ?_
    refine lv_goto (tgt := 44) hx hb dX7_isName_40 (by decide) ?_
    exact J44 ((1 : Int32)) _ (lv_sub hl [0] rfl) h
  unfold f7_isName at h
  refine lv_iload_n hx hb dX7_isName_0 rfl (lv_at hl 1 rfl) ?_
  refine lv_bipush (v := (108 : Int32)) hx hb dX7_isName_1 (by decide) ?_
  refine q_cne hx hb 8 h dX7_isName_3 (by decide) (fun h => ?_) (fun h => ?_)
  · refine lv_aload_n hx hb dX7_isName_8 rfl (lv_at hl 0 rfl) ?_
    refine va_get (D := D) (ci := 7) (v := .int m_use) (C := RX7) (T := TX7) (N := 24) hx hb hts in7 hown hK hP 0 rfl rfl 10 (by decide) l154 (fun _ h9 => h9) rfl dX7_isName_9 ?_
    refine q_ifne hx hb 45 h dX7_isName_12 (by decide) (fun h => ?_) (fun h => ?_)
    · refine lv_aload_n hx hb dX7_isName_45 rfl (lv_at hl 0 rfl) ?_
      refine va_get (D := D) (ci := 7) (v := .int m_use) (C := RX7) (T := TX7) (N := 24) hx hb hts in7 hown hK hP 0 rfl rfl 10 (by decide) l154 (fun _ h9 => h9) rfl dX7_isName_46 ?_
      refine lv_iconst (v := (1 : Int32)) hx hb dX7_isName_49 (by decide) ?_
      refine q_cne hx hb 83 h dX7_isName_50 (by decide) (fun h => ?_) (fun h => ?_)
      · refine lv_iload_n hx hb dX7_isName_83 rfl (lv_at hl 1 rfl) ?_
        refine lv_bipush (v := (109 : Int32)) hx hb dX7_isName_84 (by decide) ?_
        refine q_ceq hx hb 107 h dX7_isName_86 (by decide) (fun h => ?_) (fun h => ?_)
        · exact J107  _ (lv_sub hl [0] rfl) h
        · refine lv_iload_n hx hb dX7_isName_89 rfl (lv_at hl 1 rfl) ?_
          refine lv_bipush (v := (98 : Int32)) hx hb dX7_isName_90 (by decide) ?_
          refine q_ceq hx hb 107 h dX7_isName_92 (by decide) (fun h => ?_) (fun h => ?_)
          · exact J107  _ (lv_sub hl [0] rfl) h
          · refine lv_iload_n hx hb dX7_isName_95 rfl (lv_at hl 1 rfl) ?_
            refine lv_bipush (v := (111 : Int32)) hx hb dX7_isName_96 (by decide) ?_
            refine q_ceq hx hb 107 h dX7_isName_98 (by decide) (fun h => ?_) (fun h => ?_)
            · exact J107  _ (lv_sub hl [0] rfl) h
            · refine lv_iload_n hx hb dX7_isName_101 rfl (lv_at hl 1 rfl) ?_
              refine lv_bipush (v := (114 : Int32)) hx hb dX7_isName_102 (by decide) ?_
              refine q_cne hx hb 111 h dX7_isName_104 (by decide) (fun h => ?_) (fun h => ?_)
              · refine lv_iconst (v := (0 : Int32)) hx hb dX7_isName_111 (by decide) ?_
                exact J112 ((0 : Int32)) _ (lv_sub hl [0] rfl) h
              · exact J107  _ (lv_sub hl [0] rfl) h
      · refine lv_iload_n hx hb dX7_isName_53 rfl (lv_at hl 1 rfl) ?_
        refine lv_bipush (v := (107 : Int32)) hx hb dX7_isName_54 (by decide) ?_
        refine q_ceq hx hb 77 h dX7_isName_56 (by decide) (fun h => ?_) (fun h => ?_)
        · exact J77  _ (lv_sub hl [0] rfl) h
        · refine lv_iload_n hx hb dX7_isName_59 rfl (lv_at hl 1 rfl) ?_
          refine lv_bipush (v := (119 : Int32)) hx hb dX7_isName_60 (by decide) ?_
          refine q_ceq hx hb 77 h dX7_isName_62 (by decide) (fun h => ?_) (fun h => ?_)
          · exact J77  _ (lv_sub hl [0] rfl) h
          · refine lv_iload_n hx hb dX7_isName_65 rfl (lv_at hl 1 rfl) ?_
            refine lv_bipush (v := (100 : Int32)) hx hb dX7_isName_66 (by decide) ?_
            refine q_ceq hx hb 77 h dX7_isName_68 (by decide) (fun h => ?_) (fun h => ?_)
            · exact J77  _ (lv_sub hl [0] rfl) h
            · refine lv_iload_n hx hb dX7_isName_71 rfl (lv_at hl 1 rfl) ?_
              refine lv_bipush (v := (117 : Int32)) hx hb dX7_isName_72 (by decide) ?_
              refine q_cne hx hb 81 h dX7_isName_74 (by decide) (fun h => ?_) (fun h => ?_)
              · refine lv_iconst (v := (0 : Int32)) hx hb dX7_isName_81 (by decide) ?_
                exact J82 ((0 : Int32)) _ (lv_sub hl [0] rfl) h
              · exact J77  _ (lv_sub hl [0] rfl) h
    · refine lv_iload_n hx hb dX7_isName_15 rfl (lv_at hl 1 rfl) ?_
      refine lv_bipush (v := (98 : Int32)) hx hb dX7_isName_16 (by decide) ?_
      refine q_ceq hx hb 39 h dX7_isName_18 (by decide) (fun h => ?_) (fun h => ?_)
      · exact J39  _ (lv_sub hl [0] rfl) h
      · refine lv_iload_n hx hb dX7_isName_21 rfl (lv_at hl 1 rfl) ?_
        refine lv_bipush (v := (119 : Int32)) hx hb dX7_isName_22 (by decide) ?_
        refine q_ceq hx hb 39 h dX7_isName_24 (by decide) (fun h => ?_) (fun h => ?_)
        · exact J39  _ (lv_sub hl [0] rfl) h
        · refine lv_iload_n hx hb dX7_isName_27 rfl (lv_at hl 1 rfl) ?_
          refine lv_bipush (v := (109 : Int32)) hx hb dX7_isName_28 (by decide) ?_
          refine q_ceq hx hb 39 h dX7_isName_30 (by decide) (fun h => ?_) (fun h => ?_)
          · exact J39  _ (lv_sub hl [0] rfl) h
          · refine lv_iload_n hx hb dX7_isName_33 rfl (lv_at hl 1 rfl) ?_
            refine lv_bipush (v := (97 : Int32)) hx hb dX7_isName_34 (by decide) ?_
            refine q_cne hx hb 43 h dX7_isName_36 (by decide) (fun h => ?_) (fun h => ?_)
            · refine lv_iconst (v := (0 : Int32)) hx hb dX7_isName_43 (by decide) ?_
              exact J44 ((0 : Int32)) _ (lv_sub hl [0] rfl) h
            · exact J39  _ (lv_sub hl [0] rfl) h
  · refine lv_iconst (v := (1 : Int32)) hx hb dX7_isName_6 (by decide) ?_
    obtain ⟨hz, h⟩ := q_bz_of h
    exact hret _ _ _ (q_nz hz) h dX7_isName_7
set_option maxHeartbeats 4000000 in
set_option maxRecDepth 100000 in
theorem c7_lay (l : Launch) (D : va_G) (cI : ClassId) (qm : Nat → Nat) (m_images m_newMany m_at m_open m_steps m_use m_traced m_speaks m_isParted : Int32) (m_step : Nat → Int32) (x1 : Int32) (x2 : Int32) (u : Int32 × (Nat → Int32)) (h : f7_lay x1 x2 m_steps m_step = some u) : q_RV q_E0 l yX7_lay wsX7_lay (rmq (0)) D cI [.ref (qm 0), .int x1, .int x2] [(qm 0, .inr (7, oX7 qm m_images m_newMany m_at m_open m_steps m_use m_traced m_speaks m_isParted)), (qm 12, .inl (cI, 124, .inl m_step))] [(qm 0, .inr (7, oX7 qm m_images m_newMany m_at m_open u.1 m_use m_traced m_speaks m_isParted)), (qm 12, .inl (cI, 124, .inl u.2))] := by
  refine q_startV (fun u : Int32 × (Nat → Int32) => [(qm 0, .inr (7, oX7 qm m_images m_newMany m_at m_open u.1 m_use m_traced m_speaks m_isParted)), (qm 12, .inl (cI, 124, .inl u.2))]) (cc := cX7_lay) (maxL := 3) (own := RX7) (by decide) rfl rfl (Nat.le_of_ble_eq_true rfl) rfl (fun p e s m args below meth c Q A hx hb hml hown hts hK hEv hA hret hP hD hS ls hl => ?_)
  have in7 : ∀ w ∈ wsX70, w ∈ wsX7_lay := fun w h => List.mem_cons_of_mem _ (List.mem_append_right _ (h))
  have l25 := hts (.fieldLink RX7 25 "PageWarsModel" "step" "[I") (List.mem_of_getElem? (i := 1) rfl)
  have l157 := hts (.fieldLink RX7 157 "PageWarsModel" "steps" "I") (List.mem_of_getElem? (i := 2) rfl)
  unfold f7_lay at h
  refine lv_aload_n hx hb dX7_lay_0 rfl (lv_at hl 0 rfl) ?_
  refine va_get (D := D) (ci := 7) (v := .ref (qm 12)) (C := RX7) (T := TX7) (N := 24) hx hb hts in7 hown hK hP 0 rfl rfl 11 (by decide) l25 (fun _ h9 => h9) rfl dX7_lay_1 ?_
  refine lv_iconst (v := (2 : Int32)) hx hb dX7_lay_4 (by decide) ?_
  refine lv_aload_n hx hb dX7_lay_5 rfl (lv_at hl 0 rfl) ?_
  refine va_get (D := D) (ci := 7) (v := .int m_steps) (C := RX7) (T := TX7) (N := 24) hx hb hts in7 hown hK hP 0 rfl rfl 9 (by decide) l157 (fun _ h9 => h9) rfl dX7_lay_6 ?_
  refine lv_imul hx hb dX7_lay_9 ?_
  refine lv_iload_n hx hb dX7_lay_10 rfl (lv_at hl 1 rfl) ?_
  refine q_iast hx hb hK hP hD hS 1 0 rfl rfl h dX7_lay_11 (fun m_step_11 H locs h hP hD hS => ?_)
  have hP : va_P D vwCl [(qm 0, .inr (7, oX7 qm m_images m_newMany m_at m_open m_steps m_use m_traced m_speaks m_isParted)), (qm 12, .inl (cI, 124, .inl m_step_11))] H := hP
  have hD : va_D A [(qm 0, .inr (7, oX7 qm m_images m_newMany m_at m_open m_steps m_use m_traced m_speaks m_isParted)), (qm 12, .inl (cI, 124, .inl m_step_11))] := hD
  refine lv_aload_n hx hb dX7_lay_12 rfl (lv_at hl 0 rfl) ?_
  refine va_get (D := D) (ci := 7) (v := .ref (qm 12)) (C := RX7) (T := TX7) (N := 24) hx hb hts in7 hown hK hP 0 rfl rfl 11 (by decide) l25 (fun _ h9 => h9) rfl dX7_lay_13 ?_
  refine lv_iconst (v := (2 : Int32)) hx hb dX7_lay_16 (by decide) ?_
  refine lv_aload_n hx hb dX7_lay_17 rfl (lv_at hl 0 rfl) ?_
  refine va_get (D := D) (ci := 7) (v := .int m_steps) (C := RX7) (T := TX7) (N := 24) hx hb hts in7 hown hK hP 0 rfl rfl 9 (by decide) l157 (fun _ h9 => h9) rfl dX7_lay_18 ?_
  refine lv_imul hx hb dX7_lay_21 ?_
  refine lv_iconst (v := (1 : Int32)) hx hb dX7_lay_22 (by decide) ?_
  refine lv_iadd hx hb dX7_lay_23 ?_
  refine lv_iload_n hx hb dX7_lay_24 rfl (lv_at hl 2 rfl) ?_
  refine q_iast hx hb hK hP hD hS 1 0 rfl rfl h dX7_lay_25 (fun m_step_25 H locs h hP hD hS => ?_)
  have hP : va_P D vwCl [(qm 0, .inr (7, oX7 qm m_images m_newMany m_at m_open m_steps m_use m_traced m_speaks m_isParted)), (qm 12, .inl (cI, 124, .inl m_step_25))] H := hP
  have hD : va_D A [(qm 0, .inr (7, oX7 qm m_images m_newMany m_at m_open m_steps m_use m_traced m_speaks m_isParted)), (qm 12, .inl (cI, 124, .inl m_step_25))] := hD
  refine lv_aload_n hx hb dX7_lay_26 rfl (lv_at hl 0 rfl) ?_
  refine lv_dup hx hb dX7_lay_27 rfl ?_
  refine va_get (D := D) (ci := 7) (v := .int m_steps) (C := RX7) (T := TX7) (N := 24) hx hb hts in7 hown hK hP 0 rfl rfl 9 (by decide) l157 (fun _ h9 => h9) rfl dX7_lay_28 ?_
  refine lv_iconst (v := (1 : Int32)) hx hb dX7_lay_31 (by decide) ?_
  refine lv_iadd hx hb dX7_lay_32 ?_
  refine q_let h (fun m_steps_33 h => ?_)
  refine va_put (D := D) (ci := 7) (v := .int m_steps_33) (ty := .int) (C := RX7) (T := TX7) (N := 24) hx hb hts in7 tyX7 tyX7_ok nmX7 hown hK hP hD hS 0 rfl rfl 9 (by decide) l157 (fun _ h9 => h9) rfl (by decide +kernel) rfl rfl (Nat.le_of_ble_eq_true rfl) dX7_lay_33 (fun H locs hP hD hS => ?_)
  have hP : va_P D vwCl [(qm 0, .inr (7, oX7 qm m_images m_newMany m_at m_open m_steps_33 m_use m_traced m_speaks m_isParted)), (qm 12, .inl (cI, 124, .inl m_step_25))] H := hP
  have hD : va_D A [(qm 0, .inr (7, oX7 qm m_images m_newMany m_at m_open m_steps_33 m_use m_traced m_speaks m_isParted)), (qm 12, .inl (cI, 124, .inl m_step_25))] := hD
  exact hret (m_steps_33, m_step_25) _ _ _ _ h hP hD hS dX7_lay_36
set_option maxHeartbeats 4000000 in
set_option maxRecDepth 100000 in
theorem c7_opens (l : Launch) (D : va_G) (cI : ClassId) (qm : Nat → Nat) (m_images m_newMany m_at m_open m_steps m_use m_traced m_speaks m_isParted : Int32) (u : Int32 × Int32 × Int32) (h : f7_opens m_at m_open = some u) : q_RW q_E0 l yX7_opens wsX7_opens (rmq (0)) D cI [.ref (qm 0)] [(qm 0, .inr (7, oX7 qm m_images m_newMany m_at m_open m_steps m_use m_traced m_speaks m_isParted))] [(qm 0, .inr (7, oX7 qm m_images m_newMany u.2.1 u.2.2 m_steps m_use m_traced m_speaks m_isParted))] u.1 := by
  refine q_startW (fun u : Int32 × Int32 × Int32 => [(qm 0, .inr (7, oX7 qm m_images m_newMany u.2.1 u.2.2 m_steps m_use m_traced m_speaks m_isParted))]) (fun u => u.1) (cc := cX7_opens) (maxL := 1) (ty := .boolean) (own := RX7) (by decide) rfl rfl (Nat.le_of_ble_eq_true rfl) rfl (fun p e s m args below meth c Q A hx hb hml hown hts hK hEv hA hret hP hD hS ls hl => ?_)
  have in7 : ∀ w ∈ wsX70, w ∈ wsX7_opens := fun w h => List.mem_cons_of_mem _ (List.mem_append_right _ (h))
  have l151 := hts (.fieldLink RX7 151 "PageWarsModel" "at" "I") (List.mem_of_getElem? (i := 2) rfl)
  have l182 := hts (.fieldLink RX7 182 "PageWarsModel" "open" "I") (List.mem_of_getElem? (i := 1) rfl)
  unfold f7_opens at h
  refine lv_aload_n hx hb dX7_opens_0 rfl (lv_at hl 0 rfl) ?_
  refine va_get (D := D) (ci := 7) (v := .int m_open) (C := RX7) (T := TX7) (N := 24) hx hb hts in7 hown hK hP 0 rfl rfl 8 (by decide) l182 (fun _ h9 => h9) rfl dX7_opens_1 ?_
  refine lv_iconst (v := (5 : Int32)) hx hb dX7_opens_4 (by decide) ?_
  refine q_cne hx hb 10 h dX7_opens_5 (by decide) (fun h => ?_) (fun h => ?_)
  · refine lv_aload_n hx hb dX7_opens_10 rfl (lv_at hl 0 rfl) ?_
    refine lv_dup hx hb dX7_opens_11 rfl ?_
    refine va_get (D := D) (ci := 7) (v := .int m_open) (C := RX7) (T := TX7) (N := 24) hx hb hts in7 hown hK hP 0 rfl rfl 8 (by decide) l182 (fun _ h9 => h9) rfl dX7_opens_12 ?_
    refine lv_iconst (v := (1 : Int32)) hx hb dX7_opens_15 (by decide) ?_
    refine lv_iadd hx hb dX7_opens_16 ?_
    refine q_let h (fun m_open_17 h => ?_)
    refine va_put (D := D) (ci := 7) (v := .int m_open_17) (ty := .int) (C := RX7) (T := TX7) (N := 24) hx hb hts in7 tyX7 tyX7_ok nmX7 hown hK hP hD hS 0 rfl rfl 8 (by decide) l182 (fun _ h9 => h9) rfl (by decide +kernel) rfl rfl (Nat.le_of_ble_eq_true rfl) dX7_opens_17 (fun H locs hP hD hS => ?_)
    have hP : va_P D vwCl [(qm 0, .inr (7, oX7 qm m_images m_newMany m_at m_open_17 m_steps m_use m_traced m_speaks m_isParted))] H := hP
    have hD : va_D A [(qm 0, .inr (7, oX7 qm m_images m_newMany m_at m_open_17 m_steps m_use m_traced m_speaks m_isParted))] := hD
    refine lv_aload_n hx hb dX7_opens_20 rfl (lv_at hl 0 rfl) ?_
    refine lv_dup hx hb dX7_opens_21 rfl ?_
    refine va_get (D := D) (ci := 7) (v := .int m_at) (C := RX7) (T := TX7) (N := 24) hx hb hts in7 hown hK hP 0 rfl rfl 7 (by decide) l151 (fun _ h9 => h9) rfl dX7_opens_22 ?_
    refine lv_iconst (v := (1 : Int32)) hx hb dX7_opens_25 (by decide) ?_
    refine lv_iadd hx hb dX7_opens_26 ?_
    refine q_let h (fun m_at_27 h => ?_)
    refine va_put (D := D) (ci := 7) (v := .int m_at_27) (ty := .int) (C := RX7) (T := TX7) (N := 24) hx hb hts in7 tyX7 tyX7_ok nmX7 hown hK hP hD hS 0 rfl rfl 7 (by decide) l151 (fun _ h9 => h9) rfl (by decide +kernel) rfl rfl (Nat.le_of_ble_eq_true rfl) dX7_opens_27 (fun H locs hP hD hS => ?_)
    have hP : va_P D vwCl [(qm 0, .inr (7, oX7 qm m_images m_newMany m_at_27 m_open_17 m_steps m_use m_traced m_speaks m_isParted))] H := hP
    have hD : va_D A [(qm 0, .inr (7, oX7 qm m_images m_newMany m_at_27 m_open_17 m_steps m_use m_traced m_speaks m_isParted))] := hD
    refine lv_iconst (v := (1 : Int32)) hx hb dX7_opens_30 (by decide) ?_
    obtain ⟨hz, h⟩ := q_bz_of h
    exact hret ((1 : Int32), m_at_27, m_open_17) _ _ _ _ (q_nz hz) h hP hD hS dX7_opens_31
  · refine lv_iconst (v := (0 : Int32)) hx hb dX7_opens_8 (by decide) ?_
    obtain ⟨hz, h⟩ := q_bz_of h
    exact hret ((0 : Int32), m_at, m_open) _ _ _ _ (q_nz hz) h hP hD hS dX7_opens_9
set_option maxHeartbeats 4000000 in
set_option maxRecDepth 100000 in
theorem c7_product (l : Launch) (D : va_G) (cI : ClassId) (qm : Nat → Nat) (n : Nat) (FS : Int32 → Int32 → Int32 → Int32 → (Nat → Int32) → (Nat → Int32) → Option (Int32 × Int32 × Int32 × Int32 × (Nat → Int32))) (lv : Nat) (hlv : 8 ≤ lv) (H1 : ∀ (m_images m_newMany m_at m_open m_steps m_use m_traced m_speaks m_isParted : Int32) (m_s m_step : Nat → Int32) (u : Int32 × Int32 × Int32 × Int32 × (Nat → Int32)), FS m_at m_open m_steps m_use m_s m_step = some u → q_RW q_E0 l yX7_one wsX7_one (rmq (lv)) D cI [.ref (qm 0)] [(qm 0, .inr (7, oX7 qm m_images m_newMany m_at m_open m_steps m_use m_traced m_speaks m_isParted)), (qm 1, .inl (cI, 3974, .inl m_s)), (qm 12, .inl (cI, 124, .inl m_step))] [(qm 0, .inr (7, oX7 qm m_images m_newMany u.2.1 u.2.2.1 u.2.2.2.1 m_use m_traced m_speaks m_isParted)), (qm 1, .inl (cI, 3974, .inl m_s)), (qm 12, .inl (cI, 124, .inl u.2.2.2.2))] u.1) (m_images m_newMany m_at m_open m_steps m_use m_traced m_speaks m_isParted : Int32) (m_s m_step : Nat → Int32) (u : Int32 × Int32 × Int32 × Int32 × (Nat → Int32)) (h : g7_product n FS m_at m_open m_steps m_use m_s m_step = some u) : q_RW q_E0 l yX7_product wsX7_product (rmq (lv + 1)) D cI [.ref (qm 0)] [(qm 0, .inr (7, oX7 qm m_images m_newMany m_at m_open m_steps m_use m_traced m_speaks m_isParted)), (qm 1, .inl (cI, 3974, .inl m_s)), (qm 12, .inl (cI, 124, .inl m_step))] [(qm 0, .inr (7, oX7 qm m_images m_newMany u.2.1 u.2.2.1 u.2.2.2.1 m_use m_traced m_speaks m_isParted)), (qm 1, .inl (cI, 3974, .inl m_s)), (qm 12, .inl (cI, 124, .inl u.2.2.2.2))] u.1 := by
  refine q_startW (fun u : Int32 × Int32 × Int32 × Int32 × (Nat → Int32) => [(qm 0, .inr (7, oX7 qm m_images m_newMany u.2.1 u.2.2.1 u.2.2.2.1 m_use m_traced m_speaks m_isParted)), (qm 1, .inl (cI, 3974, .inl m_s)), (qm 12, .inl (cI, 124, .inl u.2.2.2.2))]) (fun u => u.1) (cc := cX7_product) (maxL := 2) (ty := .boolean) (own := RX7) (by decide) rfl rfl (Nat.le_of_ble_eq_true rfl) rfl (fun p e s m args below meth c Q A hx hb hml hown hts hK hEv hA hret hP hD hS ls hl => ?_)
  have in7 : ∀ w ∈ wsX70, w ∈ wsX7_product := fun w h => List.mem_cons_of_mem _ (List.mem_append_right _ (h))
  have l151 := hts (.fieldLink RX7 151 "PageWarsModel" "at" "I") (List.mem_of_getElem? (i := 1) rfl)
  have J9 : ∀ (kk9 : Nat) (m_at : Int32) (m_open : Int32) (m_steps : Int32) (m_step : (Nat → Int32)) (H : Heap) (locs : List Loc) (ls : Array Slot), lv_has ls 2 [(0, .ref (qm 0))] → va_P D vwCl [(qm 0, .inr (7, oX7 qm m_images m_newMany m_at m_open m_steps m_use m_traced m_speaks m_isParted)), (qm 1, .inl (cI, 3974, .inl m_s)), (qm 12, .inl (cI, 124, .inl m_step))] H → va_D A [(qm 0, .inr (7, oX7 qm m_images m_newMany m_at m_open m_steps m_use m_traced m_speaks m_isParted)), (qm 1, .inl (cI, 3974, .inl m_s)), (qm 12, .inl (cI, 124, .inl m_step))] → va_S A s.heap H locs → g7_product_9 n FS m_use m_s kk9 m_at m_open m_steps m_step = some u → W p l e (rmq (lv + 1)) s m args below meth c H locs 0 0 Q (F0 m 9 ls []) := by
    intro kk9
    induction kk9 with
    | zero => intro m_at m_open m_steps m_step H locs ls hl hP hD hS h; exact nomatch (show (none : Option (Int32 × Int32 × Int32 × Int32 × (Nat → Int32))) = some u from h)
    | succ kk9 ih9 =>
      have J36 : ∀ (m_at : Int32) (m_open : Int32) (m_steps : Int32) (m_step : (Nat → Int32)) (H : Heap) (locs : List Loc) (ls : Array Slot), lv_has ls 2 [(0, .ref (qm 0))] → va_P D vwCl [(qm 0, .inr (7, oX7 qm m_images m_newMany m_at m_open m_steps m_use m_traced m_speaks m_isParted)), (qm 1, .inl (cI, 3974, .inl m_s)), (qm 12, .inl (cI, 124, .inl m_step))] H → va_D A [(qm 0, .inr (7, oX7 qm m_images m_newMany m_at m_open m_steps m_use m_traced m_speaks m_isParted)), (qm 1, .inl (cI, 3974, .inl m_s)), (qm 12, .inl (cI, 124, .inl m_step))] → va_S A s.heap H locs → g7_product_36 n FS m_use m_s (g7_product_9 n FS m_use m_s kk9) m_at m_open m_steps m_step = some u → W p l e (rmq (lv + 1)) s m args below meth c H locs 0 0 Q (F0 m 36 ls []) := by
        intro m_at m_open m_steps m_step H locs ls hl hP hD hS h
        unfold g7_product_36 at h
        refine lv_aload_n hx hb dX7_product_36 rfl (lv_at hl 0 rfl) ?_
        refine q_callR q_E0ok (rest := []) ⟨hx, hb, hml, hown, hts⟩ (fun r hr => c7_look l D cI qm m_images m_newMany m_at m_open m_steps m_use m_traced m_speaks m_isParted m_s r hr) (cwV 0 hts gX7_product_X7_look rfl rfl rfl hdX7_look (rmq_ok (by omega) (Nat.le_of_ble_eq_true rfl))) hK hP hEv hS [0, 1] rfl (va_recv hK hP (ci := 7) (q0 := 0) rfl rfl) rfl rfl hl.1 (Nat.le_of_ble_eq_true rfl) ⟨Nat.zero_le _, Nat.zero_le _⟩ h dX7_product_37 (fun t37 h => ?_)
        refine lv_istore_n (lv' := [(1, .int t37), (0, .ref (qm 0))]) hx hb dX7_product_40 rfl hl (by decide) rfl (fun ls hl => ?_)
        refine lv_aload_n hx hb dX7_product_41 rfl (lv_at hl 1 rfl) ?_
        refine lv_dup hx hb dX7_product_42 rfl ?_
        refine va_get (D := D) (ci := 7) (v := .int m_at) (C := RX7) (T := TX7) (N := 24) hx hb hts in7 hown hK hP 0 rfl rfl 7 (by decide) l151 (fun _ h9 => h9) rfl dX7_product_43 ?_
        refine lv_iconst (v := (1 : Int32)) hx hb dX7_product_46 (by decide) ?_
        refine lv_iadd hx hb dX7_product_47 ?_
        refine q_let h (fun m_at_48 h => ?_)
        refine va_put (D := D) (ci := 7) (v := .int m_at_48) (ty := .int) (C := RX7) (T := TX7) (N := 24) hx hb hts in7 tyX7 tyX7_ok nmX7 hown hK hP hD hS 0 rfl rfl 7 (by decide) l151 (fun _ h9 => h9) rfl (by decide +kernel) rfl rfl (Nat.le_of_ble_eq_true rfl) dX7_product_48 (fun H locs hP hD hS => ?_)
        have hP : va_P D vwCl [(qm 0, .inr (7, oX7 qm m_images m_newMany m_at_48 m_open m_steps m_use m_traced m_speaks m_isParted)), (qm 1, .inl (cI, 3974, .inl m_s)), (qm 12, .inl (cI, 124, .inl m_step))] H := hP
        have hD : va_D A [(qm 0, .inr (7, oX7 qm m_images m_newMany m_at_48 m_open m_steps m_use m_traced m_speaks m_isParted)), (qm 1, .inl (cI, 3974, .inl m_s)), (qm 12, .inl (cI, 124, .inl m_step))] := hD
        refine lv_aload_n hx hb dX7_product_51 rfl (lv_at hl 1 rfl) ?_
        refine q_callW5 q_E0ok (rest := []) (fun u => [(qm 0, .inr (7, oX7 qm m_images m_newMany u.2.1 u.2.2.1 u.2.2.2.1 m_use m_traced m_speaks m_isParted)), (qm 1, .inl (cI, 3974, .inl m_s)), (qm 12, .inl (cI, 124, .inl u.2.2.2.2))]) (fun u => u.1) ⟨hx, hb, hml, hown, hts⟩ (fun u hu => H1 m_images m_newMany m_at_48 m_open m_steps m_use m_traced m_speaks m_isParted m_s m_step u hu) (cwV 0 hts gX7_product_X7_one rfl rfl rfl hdX7_one (rmq_ok (by omega) (Nat.le_of_ble_eq_true rfl))) hK hEv hA hP hD hS [0, 1, 2] (by decide) rfl (fun _ => rfl) (va_recv hK hP (ci := 7) (q0 := 0) rfl rfl) rfl rfl hl.1 (Nat.le_of_ble_eq_true rfl) ⟨Nat.zero_le _, Nat.zero_le _⟩ h dX7_product_52 (fun t52 m_at_52 m_open_52 m_steps_52 m_step_52 H locs h hP hD hS => ?_)
        have hP : va_P D vwCl [(qm 0, .inr (7, oX7 qm m_images m_newMany m_at_52 m_open_52 m_steps_52 m_use m_traced m_speaks m_isParted)), (qm 1, .inl (cI, 3974, .inl m_s)), (qm 12, .inl (cI, 124, .inl m_step_52))] H := hP
        have hD : va_D A [(qm 0, .inr (7, oX7 qm m_images m_newMany m_at_52 m_open_52 m_steps_52 m_use m_traced m_speaks m_isParted)), (qm 1, .inl (cI, 3974, .inl m_s)), (qm 12, .inl (cI, 124, .inl m_step_52))] := hD
        refine q_ifne hx hb 60 h dX7_product_55 (by decide) (fun h => ?_) (fun h => ?_)
        · refine lv_aload_n hx hb dX7_product_60 rfl (lv_at hl 1 rfl) ?_
          refine lv_iconst (v := (3 : Int32)) hx hb dX7_product_61 (by decide) ?_
          refine lv_iload_n hx hb dX7_product_62 rfl (lv_at hl 0 rfl) ?_
          refine q_callV2 q_E0ok (rest := []) (fun u => [(qm 0, .inr (7, oX7 qm m_images m_newMany m_at_52 m_open_52 u.1 m_use m_traced m_speaks m_isParted)), (qm 12, .inl (cI, 124, .inl u.2))]) ⟨hx, hb, hml, hown, hts⟩ (fun u hu => c7_lay l D cI qm m_images m_newMany m_at_52 m_open_52 m_steps_52 m_use m_traced m_speaks m_isParted m_step_52 ((3 : Int32)) t37 u hu) (cwV 2 hts gX7_product_X7_lay rfl rfl rfl hdX7_lay (rmq_ok (by omega) (Nat.le_of_ble_eq_true rfl))) hK hEv hA hP hD hS [0, 2] (by decide) rfl (fun _ => rfl) (va_recv hK hP (ci := 7) (q0 := 0) rfl rfl) rfl rfl hl.1 (Nat.le_of_ble_eq_true rfl) ⟨Nat.zero_le _, Nat.zero_le _⟩ h dX7_product_63 (fun m_steps_63 m_step_63 H locs h hP hD hS => ?_)
          have hP : va_P D vwCl [(qm 0, .inr (7, oX7 qm m_images m_newMany m_at_52 m_open_52 m_steps_63 m_use m_traced m_speaks m_isParted)), (qm 1, .inl (cI, 3974, .inl m_s)), (qm 12, .inl (cI, 124, .inl m_step_63))] H := hP
          have hD : va_D A [(qm 0, .inr (7, oX7 qm m_images m_newMany m_at_52 m_open_52 m_steps_63 m_use m_traced m_speaks m_isParted)), (qm 1, .inl (cI, 3974, .inl m_s)), (qm 12, .inl (cI, 124, .inl m_step_63))] := hD
          refine lv_goto (tgt := 9) hx hb dX7_product_66 (by decide) ?_
          exact ih9 m_at_52 m_open_52 m_steps_63 m_step_63 _ _ _ (lv_sub hl [1] rfl) hP hD hS h
        · refine lv_iconst (v := (0 : Int32)) hx hb dX7_product_58 (by decide) ?_
          obtain ⟨hz, h⟩ := q_bz_of h
          exact hret ((0 : Int32), m_at_52, m_open_52, m_steps_52, m_step_52) _ _ _ _ (q_nz hz) h hP hD hS dX7_product_59
      intro m_at m_open m_steps m_step H locs ls hl hP hD hS h
      rw [g7_product_9.eq_2] at h
      refine lv_aload_n hx hb dX7_product_9 rfl (lv_at hl 0 rfl) ?_
      refine q_callR q_E0ok (rest := []) ⟨hx, hb, hml, hown, hts⟩ (fun r hr => c7_look l D cI qm m_images m_newMany m_at m_open m_steps m_use m_traced m_speaks m_isParted m_s r hr) (cwV 0 hts gX7_product_X7_look rfl rfl rfl hdX7_look (rmq_ok (by omega) (Nat.le_of_ble_eq_true rfl))) hK hP hEv hS [0, 1] rfl (va_recv hK hP (ci := 7) (q0 := 0) rfl rfl) rfl rfl hl.1 (Nat.le_of_ble_eq_true rfl) ⟨Nat.zero_le _, Nat.zero_le _⟩ h dX7_product_10 (fun t10 h => ?_)
      refine lv_bipush (v := (42 : Int32)) hx hb dX7_product_13 (by decide) ?_
      refine q_ceq hx hb 36 h dX7_product_15 (by decide) (fun h => ?_) (fun h => ?_)
      · exact J36 m_at m_open m_steps m_step _ _ _ (lv_sub hl [0] rfl) hP hD hS h
      · refine lv_aload_n hx hb dX7_product_18 rfl (lv_at hl 0 rfl) ?_
        refine q_callR q_E0ok (rest := []) ⟨hx, hb, hml, hown, hts⟩ (fun r hr => c7_look l D cI qm m_images m_newMany m_at m_open m_steps m_use m_traced m_speaks m_isParted m_s r hr) (cwV 0 hts gX7_product_X7_look rfl rfl rfl hdX7_look (rmq_ok (by omega) (Nat.le_of_ble_eq_true rfl))) hK hP hEv hS [0, 1] rfl (va_recv hK hP (ci := 7) (q0 := 0) rfl rfl) rfl rfl hl.1 (Nat.le_of_ble_eq_true rfl) ⟨Nat.zero_le _, Nat.zero_le _⟩ h dX7_product_19 (fun t19 h => ?_)
        refine lv_bipush (v := (47 : Int32)) hx hb dX7_product_22 (by decide) ?_
        refine q_ceq hx hb 36 h dX7_product_24 (by decide) (fun h => ?_) (fun h => ?_)
        · exact J36 m_at m_open m_steps m_step _ _ _ (lv_sub hl [0] rfl) hP hD hS h
        · refine lv_aload_n hx hb dX7_product_27 rfl (lv_at hl 0 rfl) ?_
          refine q_callR q_E0ok (rest := []) ⟨hx, hb, hml, hown, hts⟩ (fun r hr => c7_look l D cI qm m_images m_newMany m_at m_open m_steps m_use m_traced m_speaks m_isParted m_s r hr) (cwV 0 hts gX7_product_X7_look rfl rfl rfl hdX7_look (rmq_ok (by omega) (Nat.le_of_ble_eq_true rfl))) hK hP hEv hS [0, 1] rfl (va_recv hK hP (ci := 7) (q0 := 0) rfl rfl) rfl rfl hl.1 (Nat.le_of_ble_eq_true rfl) ⟨Nat.zero_le _, Nat.zero_le _⟩ h dX7_product_28 (fun t28 h => ?_)
          refine lv_bipush (v := (37 : Int32)) hx hb dX7_product_31 (by decide) ?_
          refine q_cne hx hb 69 h dX7_product_33 (by decide) (fun h => ?_) (fun h => ?_)
          · refine lv_iconst (v := (1 : Int32)) hx hb dX7_product_69 (by decide) ?_
            obtain ⟨hz, h⟩ := q_bz_of h
            exact hret ((1 : Int32), m_at, m_open, m_steps, m_step) _ _ _ _ (q_nz hz) h hP hD hS dX7_product_70
          · exact J36 m_at m_open m_steps m_step _ _ _ (lv_sub hl [0] rfl) hP hD hS h
  unfold g7_product at h
  refine lv_aload_n hx hb dX7_product_0 rfl (lv_at hl 0 rfl) ?_
  refine q_callW5 q_E0ok (rest := []) (fun u => [(qm 0, .inr (7, oX7 qm m_images m_newMany u.2.1 u.2.2.1 u.2.2.2.1 m_use m_traced m_speaks m_isParted)), (qm 1, .inl (cI, 3974, .inl m_s)), (qm 12, .inl (cI, 124, .inl u.2.2.2.2))]) (fun u => u.1) ⟨hx, hb, hml, hown, hts⟩ (fun u hu => H1 m_images m_newMany m_at m_open m_steps m_use m_traced m_speaks m_isParted m_s m_step u hu) (cwV 0 hts gX7_product_X7_one rfl rfl rfl hdX7_one (rmq_ok (by omega) (Nat.le_of_ble_eq_true rfl))) hK hEv hA hP hD hS [0, 1, 2] (by decide) rfl (fun _ => rfl) (va_recv hK hP (ci := 7) (q0 := 0) rfl rfl) rfl rfl hl.1 (Nat.le_of_ble_eq_true rfl) ⟨Nat.zero_le _, Nat.zero_le _⟩ h dX7_product_1 (fun t1 m_at_1 m_open_1 m_steps_1 m_step_1 H locs h hP hD hS => ?_)
  have hP : va_P D vwCl [(qm 0, .inr (7, oX7 qm m_images m_newMany m_at_1 m_open_1 m_steps_1 m_use m_traced m_speaks m_isParted)), (qm 1, .inl (cI, 3974, .inl m_s)), (qm 12, .inl (cI, 124, .inl m_step_1))] H := hP
  have hD : va_D A [(qm 0, .inr (7, oX7 qm m_images m_newMany m_at_1 m_open_1 m_steps_1 m_use m_traced m_speaks m_isParted)), (qm 1, .inl (cI, 3974, .inl m_s)), (qm 12, .inl (cI, 124, .inl m_step_1))] := hD
  refine q_ifne hx hb 9 h dX7_product_4 (by decide) (fun h => ?_) (fun h => ?_)
  · exact J9 n m_at_1 m_open_1 m_steps_1 m_step_1 _ _ _ (lv_sub hl [0] rfl) hP hD hS h
  · refine lv_iconst (v := (0 : Int32)) hx hb dX7_product_7 (by decide) ?_
    obtain ⟨hz, h⟩ := q_bz_of h
    exact hret ((0 : Int32), m_at_1, m_open_1, m_steps_1, m_step_1) _ _ _ _ (q_nz hz) h hP hD hS dX7_product_8
set_option maxHeartbeats 4000000 in
set_option maxRecDepth 100000 in
theorem c7_sum (l : Launch) (D : va_G) (cI : ClassId) (qm : Nat → Nat) (n : Nat) (FS : Int32 → Int32 → Int32 → Int32 → (Nat → Int32) → (Nat → Int32) → Option (Int32 × Int32 × Int32 × Int32 × (Nat → Int32))) (lv : Nat) (hlv : 8 ≤ lv) (H1 : ∀ (m_images m_newMany m_at m_open m_steps m_use m_traced m_speaks m_isParted : Int32) (m_s m_step : Nat → Int32) (u : Int32 × Int32 × Int32 × Int32 × (Nat → Int32)), FS m_at m_open m_steps m_use m_s m_step = some u → q_RW q_E0 l yX7_one wsX7_one (rmq (lv)) D cI [.ref (qm 0)] [(qm 0, .inr (7, oX7 qm m_images m_newMany m_at m_open m_steps m_use m_traced m_speaks m_isParted)), (qm 1, .inl (cI, 3974, .inl m_s)), (qm 12, .inl (cI, 124, .inl m_step))] [(qm 0, .inr (7, oX7 qm m_images m_newMany u.2.1 u.2.2.1 u.2.2.2.1 m_use m_traced m_speaks m_isParted)), (qm 1, .inl (cI, 3974, .inl m_s)), (qm 12, .inl (cI, 124, .inl u.2.2.2.2))] u.1) (m_images m_newMany m_at m_open m_steps m_use m_traced m_speaks m_isParted : Int32) (m_s m_step : Nat → Int32) (u : Int32 × Int32 × Int32 × Int32 × (Nat → Int32)) (h : g7_sum n FS m_at m_open m_steps m_use m_s m_step = some u) : q_RW q_E0 l yX7_sum wsX7_sum (rmq (lv + 2)) D cI [.ref (qm 0)] [(qm 0, .inr (7, oX7 qm m_images m_newMany m_at m_open m_steps m_use m_traced m_speaks m_isParted)), (qm 1, .inl (cI, 3974, .inl m_s)), (qm 12, .inl (cI, 124, .inl m_step))] [(qm 0, .inr (7, oX7 qm m_images m_newMany u.2.1 u.2.2.1 u.2.2.2.1 m_use m_traced m_speaks m_isParted)), (qm 1, .inl (cI, 3974, .inl m_s)), (qm 12, .inl (cI, 124, .inl u.2.2.2.2))] u.1 := by
  refine q_startW (fun u : Int32 × Int32 × Int32 × Int32 × (Nat → Int32) => [(qm 0, .inr (7, oX7 qm m_images m_newMany u.2.1 u.2.2.1 u.2.2.2.1 m_use m_traced m_speaks m_isParted)), (qm 1, .inl (cI, 3974, .inl m_s)), (qm 12, .inl (cI, 124, .inl u.2.2.2.2))]) (fun u => u.1) (cc := cX7_sum) (maxL := 2) (ty := .boolean) (own := RX7) (by decide) rfl rfl (Nat.le_of_ble_eq_true rfl) rfl (fun p e s m args below meth c Q A hx hb hml hown hts hK hEv hA hret hP hD hS ls hl => ?_)
  have in7 : ∀ w ∈ wsX70, w ∈ wsX7_sum := fun w h => List.mem_cons_of_mem _ (List.mem_append_right _ (h))
  have l151 := hts (.fieldLink RX7 151 "PageWarsModel" "at" "I") (List.mem_of_getElem? (i := 1) rfl)
  have J9 : ∀ (kk9 : Nat) (m_at : Int32) (m_open : Int32) (m_steps : Int32) (m_step : (Nat → Int32)) (H : Heap) (locs : List Loc) (ls : Array Slot), lv_has ls 2 [(0, .ref (qm 0))] → va_P D vwCl [(qm 0, .inr (7, oX7 qm m_images m_newMany m_at m_open m_steps m_use m_traced m_speaks m_isParted)), (qm 1, .inl (cI, 3974, .inl m_s)), (qm 12, .inl (cI, 124, .inl m_step))] H → va_D A [(qm 0, .inr (7, oX7 qm m_images m_newMany m_at m_open m_steps m_use m_traced m_speaks m_isParted)), (qm 1, .inl (cI, 3974, .inl m_s)), (qm 12, .inl (cI, 124, .inl m_step))] → va_S A s.heap H locs → g7_sum_9 n FS m_use m_s kk9 m_at m_open m_steps m_step = some u → W p l e (rmq (lv + 2)) s m args below meth c H locs 0 0 Q (F0 m 9 ls []) := by
    intro kk9
    induction kk9 with
    | zero => intro m_at m_open m_steps m_step H locs ls hl hP hD hS h; exact nomatch (show (none : Option (Int32 × Int32 × Int32 × Int32 × (Nat → Int32))) = some u from h)
    | succ kk9 ih9 =>
      have J27 : ∀ (m_at : Int32) (m_open : Int32) (m_steps : Int32) (m_step : (Nat → Int32)) (H : Heap) (locs : List Loc) (ls : Array Slot), lv_has ls 2 [(0, .ref (qm 0))] → va_P D vwCl [(qm 0, .inr (7, oX7 qm m_images m_newMany m_at m_open m_steps m_use m_traced m_speaks m_isParted)), (qm 1, .inl (cI, 3974, .inl m_s)), (qm 12, .inl (cI, 124, .inl m_step))] H → va_D A [(qm 0, .inr (7, oX7 qm m_images m_newMany m_at m_open m_steps m_use m_traced m_speaks m_isParted)), (qm 1, .inl (cI, 3974, .inl m_s)), (qm 12, .inl (cI, 124, .inl m_step))] → va_S A s.heap H locs → g7_sum_27 n FS m_use m_s (g7_sum_9 n FS m_use m_s kk9) m_at m_open m_steps m_step = some u → W p l e (rmq (lv + 2)) s m args below meth c H locs 0 0 Q (F0 m 27 ls []) := by
        intro m_at m_open m_steps m_step H locs ls hl hP hD hS h
        unfold g7_sum_27 at h
        refine lv_aload_n hx hb dX7_sum_27 rfl (lv_at hl 0 rfl) ?_
        refine q_callR q_E0ok (rest := []) ⟨hx, hb, hml, hown, hts⟩ (fun r hr => c7_look l D cI qm m_images m_newMany m_at m_open m_steps m_use m_traced m_speaks m_isParted m_s r hr) (cwV 0 hts gX7_sum_X7_look rfl rfl rfl hdX7_look (rmq_ok (by omega) (Nat.le_of_ble_eq_true rfl))) hK hP hEv hS [0, 1] rfl (va_recv hK hP (ci := 7) (q0 := 0) rfl rfl) rfl rfl hl.1 (Nat.le_of_ble_eq_true rfl) ⟨Nat.zero_le _, Nat.zero_le _⟩ h dX7_sum_28 (fun t28 h => ?_)
        refine lv_istore_n (lv' := [(1, .int t28), (0, .ref (qm 0))]) hx hb dX7_sum_31 rfl hl (by decide) rfl (fun ls hl => ?_)
        refine lv_aload_n hx hb dX7_sum_32 rfl (lv_at hl 1 rfl) ?_
        refine lv_dup hx hb dX7_sum_33 rfl ?_
        refine va_get (D := D) (ci := 7) (v := .int m_at) (C := RX7) (T := TX7) (N := 24) hx hb hts in7 hown hK hP 0 rfl rfl 7 (by decide) l151 (fun _ h9 => h9) rfl dX7_sum_34 ?_
        refine lv_iconst (v := (1 : Int32)) hx hb dX7_sum_37 (by decide) ?_
        refine lv_iadd hx hb dX7_sum_38 ?_
        refine q_let h (fun m_at_39 h => ?_)
        refine va_put (D := D) (ci := 7) (v := .int m_at_39) (ty := .int) (C := RX7) (T := TX7) (N := 24) hx hb hts in7 tyX7 tyX7_ok nmX7 hown hK hP hD hS 0 rfl rfl 7 (by decide) l151 (fun _ h9 => h9) rfl (by decide +kernel) rfl rfl (Nat.le_of_ble_eq_true rfl) dX7_sum_39 (fun H locs hP hD hS => ?_)
        have hP : va_P D vwCl [(qm 0, .inr (7, oX7 qm m_images m_newMany m_at_39 m_open m_steps m_use m_traced m_speaks m_isParted)), (qm 1, .inl (cI, 3974, .inl m_s)), (qm 12, .inl (cI, 124, .inl m_step))] H := hP
        have hD : va_D A [(qm 0, .inr (7, oX7 qm m_images m_newMany m_at_39 m_open m_steps m_use m_traced m_speaks m_isParted)), (qm 1, .inl (cI, 3974, .inl m_s)), (qm 12, .inl (cI, 124, .inl m_step))] := hD
        refine lv_aload_n hx hb dX7_sum_42 rfl (lv_at hl 1 rfl) ?_
        refine q_callW5 q_E0ok (rest := []) (fun u => [(qm 0, .inr (7, oX7 qm m_images m_newMany u.2.1 u.2.2.1 u.2.2.2.1 m_use m_traced m_speaks m_isParted)), (qm 1, .inl (cI, 3974, .inl m_s)), (qm 12, .inl (cI, 124, .inl u.2.2.2.2))]) (fun u => u.1) ⟨hx, hb, hml, hown, hts⟩ (fun u hu => c7_product l D cI qm n FS lv hlv H1 m_images m_newMany m_at_39 m_open m_steps m_use m_traced m_speaks m_isParted m_s m_step u hu) (cwV 0 hts gX7_sum_X7_product rfl rfl rfl hdX7_product (rmq_ok (by omega) (Nat.le_of_ble_eq_true rfl))) hK hEv hA hP hD hS [0, 1, 2] (by decide) rfl (fun _ => rfl) (va_recv hK hP (ci := 7) (q0 := 0) rfl rfl) rfl rfl hl.1 (Nat.le_of_ble_eq_true rfl) ⟨Nat.zero_le _, Nat.zero_le _⟩ h dX7_sum_43 (fun t43 m_at_43 m_open_43 m_steps_43 m_step_43 H locs h hP hD hS => ?_)
        have hP : va_P D vwCl [(qm 0, .inr (7, oX7 qm m_images m_newMany m_at_43 m_open_43 m_steps_43 m_use m_traced m_speaks m_isParted)), (qm 1, .inl (cI, 3974, .inl m_s)), (qm 12, .inl (cI, 124, .inl m_step_43))] H := hP
        have hD : va_D A [(qm 0, .inr (7, oX7 qm m_images m_newMany m_at_43 m_open_43 m_steps_43 m_use m_traced m_speaks m_isParted)), (qm 1, .inl (cI, 3974, .inl m_s)), (qm 12, .inl (cI, 124, .inl m_step_43))] := hD
        refine q_ifne hx hb 51 h dX7_sum_46 (by decide) (fun h => ?_) (fun h => ?_)
        · refine lv_aload_n hx hb dX7_sum_51 rfl (lv_at hl 1 rfl) ?_
          refine lv_iconst (v := (3 : Int32)) hx hb dX7_sum_52 (by decide) ?_
          refine lv_iload_n hx hb dX7_sum_53 rfl (lv_at hl 0 rfl) ?_
          refine q_callV2 q_E0ok (rest := []) (fun u => [(qm 0, .inr (7, oX7 qm m_images m_newMany m_at_43 m_open_43 u.1 m_use m_traced m_speaks m_isParted)), (qm 12, .inl (cI, 124, .inl u.2))]) ⟨hx, hb, hml, hown, hts⟩ (fun u hu => c7_lay l D cI qm m_images m_newMany m_at_43 m_open_43 m_steps_43 m_use m_traced m_speaks m_isParted m_step_43 ((3 : Int32)) t28 u hu) (cwV 2 hts gX7_sum_X7_lay rfl rfl rfl hdX7_lay (rmq_ok (by omega) (Nat.le_of_ble_eq_true rfl))) hK hEv hA hP hD hS [0, 2] (by decide) rfl (fun _ => rfl) (va_recv hK hP (ci := 7) (q0 := 0) rfl rfl) rfl rfl hl.1 (Nat.le_of_ble_eq_true rfl) ⟨Nat.zero_le _, Nat.zero_le _⟩ h dX7_sum_54 (fun m_steps_54 m_step_54 H locs h hP hD hS => ?_)
          have hP : va_P D vwCl [(qm 0, .inr (7, oX7 qm m_images m_newMany m_at_43 m_open_43 m_steps_54 m_use m_traced m_speaks m_isParted)), (qm 1, .inl (cI, 3974, .inl m_s)), (qm 12, .inl (cI, 124, .inl m_step_54))] H := hP
          have hD : va_D A [(qm 0, .inr (7, oX7 qm m_images m_newMany m_at_43 m_open_43 m_steps_54 m_use m_traced m_speaks m_isParted)), (qm 1, .inl (cI, 3974, .inl m_s)), (qm 12, .inl (cI, 124, .inl m_step_54))] := hD
          refine lv_goto (tgt := 9) hx hb dX7_sum_57 (by decide) ?_
          exact ih9 m_at_43 m_open_43 m_steps_54 m_step_54 _ _ _ (lv_sub hl [1] rfl) hP hD hS h
        · refine lv_iconst (v := (0 : Int32)) hx hb dX7_sum_49 (by decide) ?_
          obtain ⟨hz, h⟩ := q_bz_of h
          exact hret ((0 : Int32), m_at_43, m_open_43, m_steps_43, m_step_43) _ _ _ _ (q_nz hz) h hP hD hS dX7_sum_50
      intro m_at m_open m_steps m_step H locs ls hl hP hD hS h
      rw [g7_sum_9.eq_2] at h
      refine lv_aload_n hx hb dX7_sum_9 rfl (lv_at hl 0 rfl) ?_
      refine q_callR q_E0ok (rest := []) ⟨hx, hb, hml, hown, hts⟩ (fun r hr => c7_look l D cI qm m_images m_newMany m_at m_open m_steps m_use m_traced m_speaks m_isParted m_s r hr) (cwV 0 hts gX7_sum_X7_look rfl rfl rfl hdX7_look (rmq_ok (by omega) (Nat.le_of_ble_eq_true rfl))) hK hP hEv hS [0, 1] rfl (va_recv hK hP (ci := 7) (q0 := 0) rfl rfl) rfl rfl hl.1 (Nat.le_of_ble_eq_true rfl) ⟨Nat.zero_le _, Nat.zero_le _⟩ h dX7_sum_10 (fun t10 h => ?_)
      refine lv_bipush (v := (43 : Int32)) hx hb dX7_sum_13 (by decide) ?_
      refine q_ceq hx hb 27 h dX7_sum_15 (by decide) (fun h => ?_) (fun h => ?_)
      · exact J27 m_at m_open m_steps m_step _ _ _ (lv_sub hl [0] rfl) hP hD hS h
      · refine lv_aload_n hx hb dX7_sum_18 rfl (lv_at hl 0 rfl) ?_
        refine q_callR q_E0ok (rest := []) ⟨hx, hb, hml, hown, hts⟩ (fun r hr => c7_look l D cI qm m_images m_newMany m_at m_open m_steps m_use m_traced m_speaks m_isParted m_s r hr) (cwV 0 hts gX7_sum_X7_look rfl rfl rfl hdX7_look (rmq_ok (by omega) (Nat.le_of_ble_eq_true rfl))) hK hP hEv hS [0, 1] rfl (va_recv hK hP (ci := 7) (q0 := 0) rfl rfl) rfl rfl hl.1 (Nat.le_of_ble_eq_true rfl) ⟨Nat.zero_le _, Nat.zero_le _⟩ h dX7_sum_19 (fun t19 h => ?_)
        refine lv_bipush (v := (45 : Int32)) hx hb dX7_sum_22 (by decide) ?_
        refine q_cne hx hb 60 h dX7_sum_24 (by decide) (fun h => ?_) (fun h => ?_)
        · refine lv_iconst (v := (1 : Int32)) hx hb dX7_sum_60 (by decide) ?_
          obtain ⟨hz, h⟩ := q_bz_of h
          exact hret ((1 : Int32), m_at, m_open, m_steps, m_step) _ _ _ _ (q_nz hz) h hP hD hS dX7_sum_61
        · exact J27 m_at m_open m_steps m_step _ _ _ (lv_sub hl [0] rfl) hP hD hS h
  unfold g7_sum at h
  refine lv_aload_n hx hb dX7_sum_0 rfl (lv_at hl 0 rfl) ?_
  refine q_callW5 q_E0ok (rest := []) (fun u => [(qm 0, .inr (7, oX7 qm m_images m_newMany u.2.1 u.2.2.1 u.2.2.2.1 m_use m_traced m_speaks m_isParted)), (qm 1, .inl (cI, 3974, .inl m_s)), (qm 12, .inl (cI, 124, .inl u.2.2.2.2))]) (fun u => u.1) ⟨hx, hb, hml, hown, hts⟩ (fun u hu => c7_product l D cI qm n FS lv hlv H1 m_images m_newMany m_at m_open m_steps m_use m_traced m_speaks m_isParted m_s m_step u hu) (cwV 0 hts gX7_sum_X7_product rfl rfl rfl hdX7_product (rmq_ok (by omega) (Nat.le_of_ble_eq_true rfl))) hK hEv hA hP hD hS [0, 1, 2] (by decide) rfl (fun _ => rfl) (va_recv hK hP (ci := 7) (q0 := 0) rfl rfl) rfl rfl hl.1 (Nat.le_of_ble_eq_true rfl) ⟨Nat.zero_le _, Nat.zero_le _⟩ h dX7_sum_1 (fun t1 m_at_1 m_open_1 m_steps_1 m_step_1 H locs h hP hD hS => ?_)
  have hP : va_P D vwCl [(qm 0, .inr (7, oX7 qm m_images m_newMany m_at_1 m_open_1 m_steps_1 m_use m_traced m_speaks m_isParted)), (qm 1, .inl (cI, 3974, .inl m_s)), (qm 12, .inl (cI, 124, .inl m_step_1))] H := hP
  have hD : va_D A [(qm 0, .inr (7, oX7 qm m_images m_newMany m_at_1 m_open_1 m_steps_1 m_use m_traced m_speaks m_isParted)), (qm 1, .inl (cI, 3974, .inl m_s)), (qm 12, .inl (cI, 124, .inl m_step_1))] := hD
  refine q_ifne hx hb 9 h dX7_sum_4 (by decide) (fun h => ?_) (fun h => ?_)
  · exact J9 n m_at_1 m_open_1 m_steps_1 m_step_1 _ _ _ (lv_sub hl [0] rfl) hP hD hS h
  · refine lv_iconst (v := (0 : Int32)) hx hb dX7_sum_7 (by decide) ?_
    obtain ⟨hz, h⟩ := q_bz_of h
    exact hret ((0 : Int32), m_at_1, m_open_1, m_steps_1, m_step_1) _ _ _ _ (q_nz hz) h hP hD hS dX7_sum_8
set_option maxHeartbeats 4000000 in
set_option maxRecDepth 100000 in
theorem c7_compared (l : Launch) (D : va_G) (cI : ClassId) (qm : Nat → Nat) (n : Nat) (FS : Int32 → Int32 → Int32 → Int32 → (Nat → Int32) → (Nat → Int32) → Option (Int32 × Int32 × Int32 × Int32 × (Nat → Int32))) (lv : Nat) (hlv : 8 ≤ lv) (H1 : ∀ (m_images m_newMany m_at m_open m_steps m_use m_traced m_speaks m_isParted : Int32) (m_s m_step : Nat → Int32) (u : Int32 × Int32 × Int32 × Int32 × (Nat → Int32)), FS m_at m_open m_steps m_use m_s m_step = some u → q_RW q_E0 l yX7_one wsX7_one (rmq (lv)) D cI [.ref (qm 0)] [(qm 0, .inr (7, oX7 qm m_images m_newMany m_at m_open m_steps m_use m_traced m_speaks m_isParted)), (qm 1, .inl (cI, 3974, .inl m_s)), (qm 12, .inl (cI, 124, .inl m_step))] [(qm 0, .inr (7, oX7 qm m_images m_newMany u.2.1 u.2.2.1 u.2.2.2.1 m_use m_traced m_speaks m_isParted)), (qm 1, .inl (cI, 3974, .inl m_s)), (qm 12, .inl (cI, 124, .inl u.2.2.2.2))] u.1) (m_images m_newMany m_at m_open m_steps m_use m_traced m_speaks m_isParted : Int32) (m_s m_step : Nat → Int32) (u : Int32 × Int32 × Int32 × Int32 × (Nat → Int32)) (h : g7_compared n FS m_at m_open m_steps m_use m_s m_step = some u) : q_RW q_E0 l yX7_compared wsX7_compared (rmq (lv + 3)) D cI [.ref (qm 0)] [(qm 0, .inr (7, oX7 qm m_images m_newMany m_at m_open m_steps m_use m_traced m_speaks m_isParted)), (qm 1, .inl (cI, 3974, .inl m_s)), (qm 12, .inl (cI, 124, .inl m_step))] [(qm 0, .inr (7, oX7 qm m_images m_newMany u.2.1 u.2.2.1 u.2.2.2.1 m_use m_traced m_speaks m_isParted)), (qm 1, .inl (cI, 3974, .inl m_s)), (qm 12, .inl (cI, 124, .inl u.2.2.2.2))] u.1 := by
  refine q_startW (fun u : Int32 × Int32 × Int32 × Int32 × (Nat → Int32) => [(qm 0, .inr (7, oX7 qm m_images m_newMany u.2.1 u.2.2.1 u.2.2.2.1 m_use m_traced m_speaks m_isParted)), (qm 1, .inl (cI, 3974, .inl m_s)), (qm 12, .inl (cI, 124, .inl u.2.2.2.2))]) (fun u => u.1) (cc := cX7_compared) (maxL := 2) (ty := .boolean) (own := RX7) (by decide) rfl rfl (Nat.le_of_ble_eq_true rfl) rfl (fun p e s m args below meth c Q A hx hb hml hown hts hK hEv hA hret hP hD hS ls hl => ?_)
  have in7 : ∀ w ∈ wsX70, w ∈ wsX7_compared := fun w h => List.mem_cons_of_mem _ (List.mem_append_right _ (h))
  have l151 := hts (.fieldLink RX7 151 "PageWarsModel" "at" "I") (List.mem_of_getElem? (i := 1) rfl)
  have J34 : ∀ (x1 : Int32) (m_at : Int32) (m_open : Int32) (m_steps : Int32) (m_step : (Nat → Int32)) (H : Heap) (locs : List Loc) (ls : Array Slot), lv_has ls 2 [(0, .ref (qm 0)), (1, .int x1)] → va_P D vwCl [(qm 0, .inr (7, oX7 qm m_images m_newMany m_at m_open m_steps m_use m_traced m_speaks m_isParted)), (qm 1, .inl (cI, 3974, .inl m_s)), (qm 12, .inl (cI, 124, .inl m_step))] H → va_D A [(qm 0, .inr (7, oX7 qm m_images m_newMany m_at m_open m_steps m_use m_traced m_speaks m_isParted)), (qm 1, .inl (cI, 3974, .inl m_s)), (qm 12, .inl (cI, 124, .inl m_step))] → va_S A s.heap H locs → g7_compared_34 n FS m_use m_s x1 m_at m_open m_steps m_step = some u → W p l e (rmq (lv + 3)) s m args below meth c H locs 0 0 Q (F0 m 34 ls []) := by
    intro x1 m_at m_open m_steps m_step H locs ls hl hP hD hS h
    unfold g7_compared_34 at h
    refine lv_aload_n hx hb dX7_compared_34 rfl (lv_at hl 0 rfl) ?_
    refine lv_dup hx hb dX7_compared_35 rfl ?_
    refine va_get (D := D) (ci := 7) (v := .int m_at) (C := RX7) (T := TX7) (N := 24) hx hb hts in7 hown hK hP 0 rfl rfl 7 (by decide) l151 (fun _ h9 => h9) rfl dX7_compared_36 ?_
    refine lv_iconst (v := (1 : Int32)) hx hb dX7_compared_39 (by decide) ?_
    refine lv_iadd hx hb dX7_compared_40 ?_
    refine q_let h (fun m_at_41 h => ?_)
    refine va_put (D := D) (ci := 7) (v := .int m_at_41) (ty := .int) (C := RX7) (T := TX7) (N := 24) hx hb hts in7 tyX7 tyX7_ok nmX7 hown hK hP hD hS 0 rfl rfl 7 (by decide) l151 (fun _ h9 => h9) rfl (by decide +kernel) rfl rfl (Nat.le_of_ble_eq_true rfl) dX7_compared_41 (fun H locs hP hD hS => ?_)
    have hP : va_P D vwCl [(qm 0, .inr (7, oX7 qm m_images m_newMany m_at_41 m_open m_steps m_use m_traced m_speaks m_isParted)), (qm 1, .inl (cI, 3974, .inl m_s)), (qm 12, .inl (cI, 124, .inl m_step))] H := hP
    have hD : va_D A [(qm 0, .inr (7, oX7 qm m_images m_newMany m_at_41 m_open m_steps m_use m_traced m_speaks m_isParted)), (qm 1, .inl (cI, 3974, .inl m_s)), (qm 12, .inl (cI, 124, .inl m_step))] := hD
    refine lv_aload_n hx hb dX7_compared_44 rfl (lv_at hl 0 rfl) ?_
    refine q_callW5 q_E0ok (rest := []) (fun u => [(qm 0, .inr (7, oX7 qm m_images m_newMany u.2.1 u.2.2.1 u.2.2.2.1 m_use m_traced m_speaks m_isParted)), (qm 1, .inl (cI, 3974, .inl m_s)), (qm 12, .inl (cI, 124, .inl u.2.2.2.2))]) (fun u => u.1) ⟨hx, hb, hml, hown, hts⟩ (fun u hu => c7_sum l D cI qm n FS lv hlv H1 m_images m_newMany m_at_41 m_open m_steps m_use m_traced m_speaks m_isParted m_s m_step u hu) (cwV 0 hts gX7_compared_X7_sum rfl rfl rfl hdX7_sum (rmq_ok (by omega) (Nat.le_of_ble_eq_true rfl))) hK hEv hA hP hD hS [0, 1, 2] (by decide) rfl (fun _ => rfl) (va_recv hK hP (ci := 7) (q0 := 0) rfl rfl) rfl rfl hl.1 (Nat.le_of_ble_eq_true rfl) ⟨Nat.zero_le _, Nat.zero_le _⟩ h dX7_compared_45 (fun t45 m_at_45 m_open_45 m_steps_45 m_step_45 H locs h hP hD hS => ?_)
    have hP : va_P D vwCl [(qm 0, .inr (7, oX7 qm m_images m_newMany m_at_45 m_open_45 m_steps_45 m_use m_traced m_speaks m_isParted)), (qm 1, .inl (cI, 3974, .inl m_s)), (qm 12, .inl (cI, 124, .inl m_step_45))] H := hP
    have hD : va_D A [(qm 0, .inr (7, oX7 qm m_images m_newMany m_at_45 m_open_45 m_steps_45 m_use m_traced m_speaks m_isParted)), (qm 1, .inl (cI, 3974, .inl m_s)), (qm 12, .inl (cI, 124, .inl m_step_45))] := hD
    refine q_ifne hx hb 53 h dX7_compared_48 (by decide) (fun h => ?_) (fun h => ?_)
    · refine lv_aload_n hx hb dX7_compared_53 rfl (lv_at hl 0 rfl) ?_
      refine lv_iconst (v := (3 : Int32)) hx hb dX7_compared_54 (by decide) ?_
      refine lv_iload_n hx hb dX7_compared_55 rfl (lv_at hl 1 rfl) ?_
      refine q_callV2 q_E0ok (rest := []) (fun u => [(qm 0, .inr (7, oX7 qm m_images m_newMany m_at_45 m_open_45 u.1 m_use m_traced m_speaks m_isParted)), (qm 12, .inl (cI, 124, .inl u.2))]) ⟨hx, hb, hml, hown, hts⟩ (fun u hu => c7_lay l D cI qm m_images m_newMany m_at_45 m_open_45 m_steps_45 m_use m_traced m_speaks m_isParted m_step_45 ((3 : Int32)) x1 u hu) (cwV 2 hts gX7_compared_X7_lay rfl rfl rfl hdX7_lay (rmq_ok (by omega) (Nat.le_of_ble_eq_true rfl))) hK hEv hA hP hD hS [0, 2] (by decide) rfl (fun _ => rfl) (va_recv hK hP (ci := 7) (q0 := 0) rfl rfl) rfl rfl hl.1 (Nat.le_of_ble_eq_true rfl) ⟨Nat.zero_le _, Nat.zero_le _⟩ h dX7_compared_56 (fun m_steps_56 m_step_56 H locs h hP hD hS => ?_)
      have hP : va_P D vwCl [(qm 0, .inr (7, oX7 qm m_images m_newMany m_at_45 m_open_45 m_steps_56 m_use m_traced m_speaks m_isParted)), (qm 1, .inl (cI, 3974, .inl m_s)), (qm 12, .inl (cI, 124, .inl m_step_56))] H := hP
      have hD : va_D A [(qm 0, .inr (7, oX7 qm m_images m_newMany m_at_45 m_open_45 m_steps_56 m_use m_traced m_speaks m_isParted)), (qm 1, .inl (cI, 3974, .inl m_s)), (qm 12, .inl (cI, 124, .inl m_step_56))] := hD
      refine lv_iconst (v := (1 : Int32)) hx hb dX7_compared_59 (by decide) ?_
      obtain ⟨hz, h⟩ := q_bz_of h
      exact hret ((1 : Int32), m_at_45, m_open_45, m_steps_56, m_step_56) _ _ _ _ (q_nz hz) h hP hD hS dX7_compared_60
    · refine lv_iconst (v := (0 : Int32)) hx hb dX7_compared_51 (by decide) ?_
      obtain ⟨hz, h⟩ := q_bz_of h
      exact hret ((0 : Int32), m_at_45, m_open_45, m_steps_45, m_step_45) _ _ _ _ (q_nz hz) h hP hD hS dX7_compared_52
  unfold g7_compared at h
  refine lv_aload_n hx hb dX7_compared_0 rfl (lv_at hl 0 rfl) ?_
  refine q_callW5 q_E0ok (rest := []) (fun u => [(qm 0, .inr (7, oX7 qm m_images m_newMany u.2.1 u.2.2.1 u.2.2.2.1 m_use m_traced m_speaks m_isParted)), (qm 1, .inl (cI, 3974, .inl m_s)), (qm 12, .inl (cI, 124, .inl u.2.2.2.2))]) (fun u => u.1) ⟨hx, hb, hml, hown, hts⟩ (fun u hu => c7_sum l D cI qm n FS lv hlv H1 m_images m_newMany m_at m_open m_steps m_use m_traced m_speaks m_isParted m_s m_step u hu) (cwV 0 hts gX7_compared_X7_sum rfl rfl rfl hdX7_sum (rmq_ok (by omega) (Nat.le_of_ble_eq_true rfl))) hK hEv hA hP hD hS [0, 1, 2] (by decide) rfl (fun _ => rfl) (va_recv hK hP (ci := 7) (q0 := 0) rfl rfl) rfl rfl hl.1 (Nat.le_of_ble_eq_true rfl) ⟨Nat.zero_le _, Nat.zero_le _⟩ h dX7_compared_1 (fun t1 m_at_1 m_open_1 m_steps_1 m_step_1 H locs h hP hD hS => ?_)
  have hP : va_P D vwCl [(qm 0, .inr (7, oX7 qm m_images m_newMany m_at_1 m_open_1 m_steps_1 m_use m_traced m_speaks m_isParted)), (qm 1, .inl (cI, 3974, .inl m_s)), (qm 12, .inl (cI, 124, .inl m_step_1))] H := hP
  have hD : va_D A [(qm 0, .inr (7, oX7 qm m_images m_newMany m_at_1 m_open_1 m_steps_1 m_use m_traced m_speaks m_isParted)), (qm 1, .inl (cI, 3974, .inl m_s)), (qm 12, .inl (cI, 124, .inl m_step_1))] := hD
  refine q_ifne hx hb 9 h dX7_compared_4 (by decide) (fun h => ?_) (fun h => ?_)
  · refine lv_aload_n hx hb dX7_compared_9 rfl (lv_at hl 0 rfl) ?_
    refine q_callR q_E0ok (rest := []) ⟨hx, hb, hml, hown, hts⟩ (fun r hr => c7_look l D cI qm m_images m_newMany m_at_1 m_open_1 m_steps_1 m_use m_traced m_speaks m_isParted m_s r hr) (cwV 0 hts gX7_compared_X7_look rfl rfl rfl hdX7_look (rmq_ok (by omega) (Nat.le_of_ble_eq_true rfl))) hK hP hEv hS [0, 1] rfl (va_recv hK hP (ci := 7) (q0 := 0) rfl rfl) rfl rfl hl.1 (Nat.le_of_ble_eq_true rfl) ⟨Nat.zero_le _, Nat.zero_le _⟩ h dX7_compared_10 (fun t10 h => ?_)
    refine lv_istore_n (lv' := [(1, .int t10), (0, .ref (qm 0))]) hx hb dX7_compared_13 rfl hl (by decide) rfl (fun ls hl => ?_)
    refine lv_iload_n hx hb dX7_compared_14 rfl (lv_at hl 0 rfl) ?_
    refine lv_bipush (v := (60 : Int32)) hx hb dX7_compared_15 (by decide) ?_
    refine q_ceq hx hb 34 h dX7_compared_17 (by decide) (fun h => ?_) (fun h => ?_)
    · exact J34 t10 m_at_1 m_open_1 m_steps_1 m_step_1 _ _ _ (lv_sub hl [1, 0] rfl) hP hD hS h
    · refine lv_iload_n hx hb dX7_compared_20 rfl (lv_at hl 0 rfl) ?_
      refine lv_bipush (v := (61 : Int32)) hx hb dX7_compared_21 (by decide) ?_
      refine q_ceq hx hb 34 h dX7_compared_23 (by decide) (fun h => ?_) (fun h => ?_)
      · exact J34 t10 m_at_1 m_open_1 m_steps_1 m_step_1 _ _ _ (lv_sub hl [1, 0] rfl) hP hD hS h
      · refine lv_iload_n hx hb dX7_compared_26 rfl (lv_at hl 0 rfl) ?_
        refine lv_bipush (v := (62 : Int32)) hx hb dX7_compared_27 (by decide) ?_
        refine q_ceq hx hb 34 h dX7_compared_29 (by decide) (fun h => ?_) (fun h => ?_)
        · exact J34 t10 m_at_1 m_open_1 m_steps_1 m_step_1 _ _ _ (lv_sub hl [1, 0] rfl) hP hD hS h
        · refine lv_iconst (v := (1 : Int32)) hx hb dX7_compared_32 (by decide) ?_
          obtain ⟨hz, h⟩ := q_bz_of h
          exact hret ((1 : Int32), m_at_1, m_open_1, m_steps_1, m_step_1) _ _ _ _ (q_nz hz) h hP hD hS dX7_compared_33
  · refine lv_iconst (v := (0 : Int32)) hx hb dX7_compared_7 (by decide) ?_
    obtain ⟨hz, h⟩ := q_bz_of h
    exact hret ((0 : Int32), m_at_1, m_open_1, m_steps_1, m_step_1) _ _ _ _ (q_nz hz) h hP hD hS dX7_compared_8
set_option maxHeartbeats 4000000 in
set_option maxRecDepth 100000 in
theorem c7_both (l : Launch) (D : va_G) (cI : ClassId) (qm : Nat → Nat) (n : Nat) (FS : Int32 → Int32 → Int32 → Int32 → (Nat → Int32) → (Nat → Int32) → Option (Int32 × Int32 × Int32 × Int32 × (Nat → Int32))) (lv : Nat) (hlv : 8 ≤ lv) (H1 : ∀ (m_images m_newMany m_at m_open m_steps m_use m_traced m_speaks m_isParted : Int32) (m_s m_step : Nat → Int32) (u : Int32 × Int32 × Int32 × Int32 × (Nat → Int32)), FS m_at m_open m_steps m_use m_s m_step = some u → q_RW q_E0 l yX7_one wsX7_one (rmq (lv)) D cI [.ref (qm 0)] [(qm 0, .inr (7, oX7 qm m_images m_newMany m_at m_open m_steps m_use m_traced m_speaks m_isParted)), (qm 1, .inl (cI, 3974, .inl m_s)), (qm 12, .inl (cI, 124, .inl m_step))] [(qm 0, .inr (7, oX7 qm m_images m_newMany u.2.1 u.2.2.1 u.2.2.2.1 m_use m_traced m_speaks m_isParted)), (qm 1, .inl (cI, 3974, .inl m_s)), (qm 12, .inl (cI, 124, .inl u.2.2.2.2))] u.1) (m_images m_newMany m_at m_open m_steps m_use m_traced m_speaks m_isParted : Int32) (m_s m_step : Nat → Int32) (u : Int32 × Int32 × Int32 × Int32 × (Nat → Int32)) (h : g7_both n FS m_at m_open m_steps m_use m_s m_step = some u) : q_RW q_E0 l yX7_both wsX7_both (rmq (lv + 4)) D cI [.ref (qm 0)] [(qm 0, .inr (7, oX7 qm m_images m_newMany m_at m_open m_steps m_use m_traced m_speaks m_isParted)), (qm 1, .inl (cI, 3974, .inl m_s)), (qm 12, .inl (cI, 124, .inl m_step))] [(qm 0, .inr (7, oX7 qm m_images m_newMany u.2.1 u.2.2.1 u.2.2.2.1 m_use m_traced m_speaks m_isParted)), (qm 1, .inl (cI, 3974, .inl m_s)), (qm 12, .inl (cI, 124, .inl u.2.2.2.2))] u.1 := by
  refine q_startW (fun u : Int32 × Int32 × Int32 × Int32 × (Nat → Int32) => [(qm 0, .inr (7, oX7 qm m_images m_newMany u.2.1 u.2.2.1 u.2.2.2.1 m_use m_traced m_speaks m_isParted)), (qm 1, .inl (cI, 3974, .inl m_s)), (qm 12, .inl (cI, 124, .inl u.2.2.2.2))]) (fun u => u.1) (cc := cX7_both) (maxL := 1) (ty := .boolean) (own := RX7) (by decide) rfl rfl (Nat.le_of_ble_eq_true rfl) rfl (fun p e s m args below meth c Q A hx hb hml hown hts hK hEv hA hret hP hD hS ls hl => ?_)
  have in7 : ∀ w ∈ wsX70, w ∈ wsX7_both := fun w h => List.mem_cons_of_mem _ (List.mem_append_right _ (h))
  have l151 := hts (.fieldLink RX7 151 "PageWarsModel" "at" "I") (List.mem_of_getElem? (i := 1) rfl)
  have J9 : ∀ (kk9 : Nat) (m_at : Int32) (m_open : Int32) (m_steps : Int32) (m_step : (Nat → Int32)) (H : Heap) (locs : List Loc) (ls : Array Slot), lv_has ls 1 [(0, .ref (qm 0))] → va_P D vwCl [(qm 0, .inr (7, oX7 qm m_images m_newMany m_at m_open m_steps m_use m_traced m_speaks m_isParted)), (qm 1, .inl (cI, 3974, .inl m_s)), (qm 12, .inl (cI, 124, .inl m_step))] H → va_D A [(qm 0, .inr (7, oX7 qm m_images m_newMany m_at m_open m_steps m_use m_traced m_speaks m_isParted)), (qm 1, .inl (cI, 3974, .inl m_s)), (qm 12, .inl (cI, 124, .inl m_step))] → va_S A s.heap H locs → g7_both_9 n FS m_use m_s kk9 m_at m_open m_steps m_step = some u → W p l e (rmq (lv + 4)) s m args below meth c H locs 0 0 Q (F0 m 9 ls []) := by
    intro kk9
    induction kk9 with
    | zero => intro m_at m_open m_steps m_step H locs ls hl hP hD hS h; exact nomatch (show (none : Option (Int32 × Int32 × Int32 × Int32 × (Nat → Int32))) = some u from h)
    | succ kk9 ih9 =>
      intro m_at m_open m_steps m_step H locs ls hl hP hD hS h
      rw [g7_both_9.eq_2] at h
      refine lv_aload_n hx hb dX7_both_9 rfl (lv_at hl 0 rfl) ?_
      refine q_callR q_E0ok (rest := []) ⟨hx, hb, hml, hown, hts⟩ (fun r hr => c7_look l D cI qm m_images m_newMany m_at m_open m_steps m_use m_traced m_speaks m_isParted m_s r hr) (cwV 0 hts gX7_both_X7_look rfl rfl rfl hdX7_look (rmq_ok (by omega) (Nat.le_of_ble_eq_true rfl))) hK hP hEv hS [0, 1] rfl (va_recv hK hP (ci := 7) (q0 := 0) rfl rfl) rfl rfl hl.1 (Nat.le_of_ble_eq_true rfl) ⟨Nat.zero_le _, Nat.zero_le _⟩ h dX7_both_10 (fun t10 h => ?_)
      refine lv_bipush (v := (38 : Int32)) hx hb dX7_both_13 (by decide) ?_
      refine q_cne hx hb 47 h dX7_both_15 (by decide) (fun h => ?_) (fun h => ?_)
      · refine lv_iconst (v := (1 : Int32)) hx hb dX7_both_47 (by decide) ?_
        obtain ⟨hz, h⟩ := q_bz_of h
        exact hret ((1 : Int32), m_at, m_open, m_steps, m_step) _ _ _ _ (q_nz hz) h hP hD hS dX7_both_48
      · refine lv_aload_n hx hb dX7_both_18 rfl (lv_at hl 0 rfl) ?_
        refine lv_dup hx hb dX7_both_19 rfl ?_
        refine va_get (D := D) (ci := 7) (v := .int m_at) (C := RX7) (T := TX7) (N := 24) hx hb hts in7 hown hK hP 0 rfl rfl 7 (by decide) l151 (fun _ h9 => h9) rfl dX7_both_20 ?_
        refine lv_iconst (v := (1 : Int32)) hx hb dX7_both_23 (by decide) ?_
        refine lv_iadd hx hb dX7_both_24 ?_
        refine q_let h (fun m_at_25 h => ?_)
        refine va_put (D := D) (ci := 7) (v := .int m_at_25) (ty := .int) (C := RX7) (T := TX7) (N := 24) hx hb hts in7 tyX7 tyX7_ok nmX7 hown hK hP hD hS 0 rfl rfl 7 (by decide) l151 (fun _ h9 => h9) rfl (by decide +kernel) rfl rfl (Nat.le_of_ble_eq_true rfl) dX7_both_25 (fun H locs hP hD hS => ?_)
        have hP : va_P D vwCl [(qm 0, .inr (7, oX7 qm m_images m_newMany m_at_25 m_open m_steps m_use m_traced m_speaks m_isParted)), (qm 1, .inl (cI, 3974, .inl m_s)), (qm 12, .inl (cI, 124, .inl m_step))] H := hP
        have hD : va_D A [(qm 0, .inr (7, oX7 qm m_images m_newMany m_at_25 m_open m_steps m_use m_traced m_speaks m_isParted)), (qm 1, .inl (cI, 3974, .inl m_s)), (qm 12, .inl (cI, 124, .inl m_step))] := hD
        refine lv_aload_n hx hb dX7_both_28 rfl (lv_at hl 0 rfl) ?_
        refine q_callW5 q_E0ok (rest := []) (fun u => [(qm 0, .inr (7, oX7 qm m_images m_newMany u.2.1 u.2.2.1 u.2.2.2.1 m_use m_traced m_speaks m_isParted)), (qm 1, .inl (cI, 3974, .inl m_s)), (qm 12, .inl (cI, 124, .inl u.2.2.2.2))]) (fun u => u.1) ⟨hx, hb, hml, hown, hts⟩ (fun u hu => c7_compared l D cI qm n FS lv hlv H1 m_images m_newMany m_at_25 m_open m_steps m_use m_traced m_speaks m_isParted m_s m_step u hu) (cwV 0 hts gX7_both_X7_compared rfl rfl rfl hdX7_compared (rmq_ok (by omega) (Nat.le_of_ble_eq_true rfl))) hK hEv hA hP hD hS [0, 1, 2] (by decide) rfl (fun _ => rfl) (va_recv hK hP (ci := 7) (q0 := 0) rfl rfl) rfl rfl hl.1 (Nat.le_of_ble_eq_true rfl) ⟨Nat.zero_le _, Nat.zero_le _⟩ h dX7_both_29 (fun t29 m_at_29 m_open_29 m_steps_29 m_step_29 H locs h hP hD hS => ?_)
        have hP : va_P D vwCl [(qm 0, .inr (7, oX7 qm m_images m_newMany m_at_29 m_open_29 m_steps_29 m_use m_traced m_speaks m_isParted)), (qm 1, .inl (cI, 3974, .inl m_s)), (qm 12, .inl (cI, 124, .inl m_step_29))] H := hP
        have hD : va_D A [(qm 0, .inr (7, oX7 qm m_images m_newMany m_at_29 m_open_29 m_steps_29 m_use m_traced m_speaks m_isParted)), (qm 1, .inl (cI, 3974, .inl m_s)), (qm 12, .inl (cI, 124, .inl m_step_29))] := hD
        refine q_ifne hx hb 37 h dX7_both_32 (by decide) (fun h => ?_) (fun h => ?_)
        · refine lv_aload_n hx hb dX7_both_37 rfl (lv_at hl 0 rfl) ?_
          refine lv_iconst (v := (3 : Int32)) hx hb dX7_both_38 (by decide) ?_
          refine lv_bipush (v := (38 : Int32)) hx hb dX7_both_39 (by decide) ?_
          refine q_callV2 q_E0ok (rest := []) (fun u => [(qm 0, .inr (7, oX7 qm m_images m_newMany m_at_29 m_open_29 u.1 m_use m_traced m_speaks m_isParted)), (qm 12, .inl (cI, 124, .inl u.2))]) ⟨hx, hb, hml, hown, hts⟩ (fun u hu => c7_lay l D cI qm m_images m_newMany m_at_29 m_open_29 m_steps_29 m_use m_traced m_speaks m_isParted m_step_29 ((3 : Int32)) ((38 : Int32)) u hu) (cwV 2 hts gX7_both_X7_lay rfl rfl rfl hdX7_lay (rmq_ok (by omega) (Nat.le_of_ble_eq_true rfl))) hK hEv hA hP hD hS [0, 2] (by decide) rfl (fun _ => rfl) (va_recv hK hP (ci := 7) (q0 := 0) rfl rfl) rfl rfl hl.1 (Nat.le_of_ble_eq_true rfl) ⟨Nat.zero_le _, Nat.zero_le _⟩ h dX7_both_41 (fun m_steps_41 m_step_41 H locs h hP hD hS => ?_)
          have hP : va_P D vwCl [(qm 0, .inr (7, oX7 qm m_images m_newMany m_at_29 m_open_29 m_steps_41 m_use m_traced m_speaks m_isParted)), (qm 1, .inl (cI, 3974, .inl m_s)), (qm 12, .inl (cI, 124, .inl m_step_41))] H := hP
          have hD : va_D A [(qm 0, .inr (7, oX7 qm m_images m_newMany m_at_29 m_open_29 m_steps_41 m_use m_traced m_speaks m_isParted)), (qm 1, .inl (cI, 3974, .inl m_s)), (qm 12, .inl (cI, 124, .inl m_step_41))] := hD
          refine lv_goto (tgt := 9) hx hb dX7_both_44 (by decide) ?_
          exact ih9 m_at_29 m_open_29 m_steps_41 m_step_41 _ _ _ (lv_sub hl [0] rfl) hP hD hS h
        · refine lv_iconst (v := (0 : Int32)) hx hb dX7_both_35 (by decide) ?_
          obtain ⟨hz, h⟩ := q_bz_of h
          exact hret ((0 : Int32), m_at_29, m_open_29, m_steps_29, m_step_29) _ _ _ _ (q_nz hz) h hP hD hS dX7_both_36
  unfold g7_both at h
  refine lv_aload_n hx hb dX7_both_0 rfl (lv_at hl 0 rfl) ?_
  refine q_callW5 q_E0ok (rest := []) (fun u => [(qm 0, .inr (7, oX7 qm m_images m_newMany u.2.1 u.2.2.1 u.2.2.2.1 m_use m_traced m_speaks m_isParted)), (qm 1, .inl (cI, 3974, .inl m_s)), (qm 12, .inl (cI, 124, .inl u.2.2.2.2))]) (fun u => u.1) ⟨hx, hb, hml, hown, hts⟩ (fun u hu => c7_compared l D cI qm n FS lv hlv H1 m_images m_newMany m_at m_open m_steps m_use m_traced m_speaks m_isParted m_s m_step u hu) (cwV 0 hts gX7_both_X7_compared rfl rfl rfl hdX7_compared (rmq_ok (by omega) (Nat.le_of_ble_eq_true rfl))) hK hEv hA hP hD hS [0, 1, 2] (by decide) rfl (fun _ => rfl) (va_recv hK hP (ci := 7) (q0 := 0) rfl rfl) rfl rfl hl.1 (Nat.le_of_ble_eq_true rfl) ⟨Nat.zero_le _, Nat.zero_le _⟩ h dX7_both_1 (fun t1 m_at_1 m_open_1 m_steps_1 m_step_1 H locs h hP hD hS => ?_)
  have hP : va_P D vwCl [(qm 0, .inr (7, oX7 qm m_images m_newMany m_at_1 m_open_1 m_steps_1 m_use m_traced m_speaks m_isParted)), (qm 1, .inl (cI, 3974, .inl m_s)), (qm 12, .inl (cI, 124, .inl m_step_1))] H := hP
  have hD : va_D A [(qm 0, .inr (7, oX7 qm m_images m_newMany m_at_1 m_open_1 m_steps_1 m_use m_traced m_speaks m_isParted)), (qm 1, .inl (cI, 3974, .inl m_s)), (qm 12, .inl (cI, 124, .inl m_step_1))] := hD
  refine q_ifne hx hb 9 h dX7_both_4 (by decide) (fun h => ?_) (fun h => ?_)
  · exact J9 n m_at_1 m_open_1 m_steps_1 m_step_1 _ _ _ (lv_sub hl [0] rfl) hP hD hS h
  · refine lv_iconst (v := (0 : Int32)) hx hb dX7_both_7 (by decide) ?_
    obtain ⟨hz, h⟩ := q_bz_of h
    exact hret ((0 : Int32), m_at_1, m_open_1, m_steps_1, m_step_1) _ _ _ _ (q_nz hz) h hP hD hS dX7_both_8
set_option maxHeartbeats 4000000 in
set_option maxRecDepth 100000 in
theorem c7_whole (l : Launch) (D : va_G) (cI : ClassId) (qm : Nat → Nat) (n : Nat) (FS : Int32 → Int32 → Int32 → Int32 → (Nat → Int32) → (Nat → Int32) → Option (Int32 × Int32 × Int32 × Int32 × (Nat → Int32))) (lv : Nat) (hlv : 8 ≤ lv) (H1 : ∀ (m_images m_newMany m_at m_open m_steps m_use m_traced m_speaks m_isParted : Int32) (m_s m_step : Nat → Int32) (u : Int32 × Int32 × Int32 × Int32 × (Nat → Int32)), FS m_at m_open m_steps m_use m_s m_step = some u → q_RW q_E0 l yX7_one wsX7_one (rmq (lv)) D cI [.ref (qm 0)] [(qm 0, .inr (7, oX7 qm m_images m_newMany m_at m_open m_steps m_use m_traced m_speaks m_isParted)), (qm 1, .inl (cI, 3974, .inl m_s)), (qm 12, .inl (cI, 124, .inl m_step))] [(qm 0, .inr (7, oX7 qm m_images m_newMany u.2.1 u.2.2.1 u.2.2.2.1 m_use m_traced m_speaks m_isParted)), (qm 1, .inl (cI, 3974, .inl m_s)), (qm 12, .inl (cI, 124, .inl u.2.2.2.2))] u.1) (m_images m_newMany m_at m_open m_steps m_use m_traced m_speaks m_isParted : Int32) (m_s m_step : Nat → Int32) (u : Int32 × Int32 × Int32 × Int32 × (Nat → Int32)) (h : g7_whole n FS m_at m_open m_steps m_use m_s m_step = some u) : q_RW q_E0 l yX7_whole wsX7_whole (rmq (lv + 5)) D cI [.ref (qm 0)] [(qm 0, .inr (7, oX7 qm m_images m_newMany m_at m_open m_steps m_use m_traced m_speaks m_isParted)), (qm 1, .inl (cI, 3974, .inl m_s)), (qm 12, .inl (cI, 124, .inl m_step))] [(qm 0, .inr (7, oX7 qm m_images m_newMany u.2.1 u.2.2.1 u.2.2.2.1 m_use m_traced m_speaks m_isParted)), (qm 1, .inl (cI, 3974, .inl m_s)), (qm 12, .inl (cI, 124, .inl u.2.2.2.2))] u.1 := by
  refine q_startW (fun u : Int32 × Int32 × Int32 × Int32 × (Nat → Int32) => [(qm 0, .inr (7, oX7 qm m_images m_newMany u.2.1 u.2.2.1 u.2.2.2.1 m_use m_traced m_speaks m_isParted)), (qm 1, .inl (cI, 3974, .inl m_s)), (qm 12, .inl (cI, 124, .inl u.2.2.2.2))]) (fun u => u.1) (cc := cX7_whole) (maxL := 1) (ty := .boolean) (own := RX7) (by decide) rfl rfl (Nat.le_of_ble_eq_true rfl) rfl (fun p e s m args below meth c Q A hx hb hml hown hts hK hEv hA hret hP hD hS ls hl => ?_)
  have in7 : ∀ w ∈ wsX70, w ∈ wsX7_whole := fun w h => List.mem_cons_of_mem _ (List.mem_append_right _ (h))
  have l151 := hts (.fieldLink RX7 151 "PageWarsModel" "at" "I") (List.mem_of_getElem? (i := 1) rfl)
  have J9 : ∀ (kk9 : Nat) (m_at : Int32) (m_open : Int32) (m_steps : Int32) (m_step : (Nat → Int32)) (H : Heap) (locs : List Loc) (ls : Array Slot), lv_has ls 1 [(0, .ref (qm 0))] → va_P D vwCl [(qm 0, .inr (7, oX7 qm m_images m_newMany m_at m_open m_steps m_use m_traced m_speaks m_isParted)), (qm 1, .inl (cI, 3974, .inl m_s)), (qm 12, .inl (cI, 124, .inl m_step))] H → va_D A [(qm 0, .inr (7, oX7 qm m_images m_newMany m_at m_open m_steps m_use m_traced m_speaks m_isParted)), (qm 1, .inl (cI, 3974, .inl m_s)), (qm 12, .inl (cI, 124, .inl m_step))] → va_S A s.heap H locs → g7_whole_9 n FS m_use m_s kk9 m_at m_open m_steps m_step = some u → W p l e (rmq (lv + 5)) s m args below meth c H locs 0 0 Q (F0 m 9 ls []) := by
    intro kk9
    induction kk9 with
    | zero => intro m_at m_open m_steps m_step H locs ls hl hP hD hS h; exact nomatch (show (none : Option (Int32 × Int32 × Int32 × Int32 × (Nat → Int32))) = some u from h)
    | succ kk9 ih9 =>
      intro m_at m_open m_steps m_step H locs ls hl hP hD hS h
      rw [g7_whole_9.eq_2] at h
      refine lv_aload_n hx hb dX7_whole_9 rfl (lv_at hl 0 rfl) ?_
      refine q_callR q_E0ok (rest := []) ⟨hx, hb, hml, hown, hts⟩ (fun r hr => c7_look l D cI qm m_images m_newMany m_at m_open m_steps m_use m_traced m_speaks m_isParted m_s r hr) (cwV 0 hts gX7_whole_X7_look rfl rfl rfl hdX7_look (rmq_ok (by omega) (Nat.le_of_ble_eq_true rfl))) hK hP hEv hS [0, 1] rfl (va_recv hK hP (ci := 7) (q0 := 0) rfl rfl) rfl rfl hl.1 (Nat.le_of_ble_eq_true rfl) ⟨Nat.zero_le _, Nat.zero_le _⟩ h dX7_whole_10 (fun t10 h => ?_)
      refine lv_bipush (v := (124 : Int32)) hx hb dX7_whole_13 (by decide) ?_
      refine q_cne hx hb 47 h dX7_whole_15 (by decide) (fun h => ?_) (fun h => ?_)
      · refine lv_iconst (v := (1 : Int32)) hx hb dX7_whole_47 (by decide) ?_
        obtain ⟨hz, h⟩ := q_bz_of h
        exact hret ((1 : Int32), m_at, m_open, m_steps, m_step) _ _ _ _ (q_nz hz) h hP hD hS dX7_whole_48
      · refine lv_aload_n hx hb dX7_whole_18 rfl (lv_at hl 0 rfl) ?_
        refine lv_dup hx hb dX7_whole_19 rfl ?_
        refine va_get (D := D) (ci := 7) (v := .int m_at) (C := RX7) (T := TX7) (N := 24) hx hb hts in7 hown hK hP 0 rfl rfl 7 (by decide) l151 (fun _ h9 => h9) rfl dX7_whole_20 ?_
        refine lv_iconst (v := (1 : Int32)) hx hb dX7_whole_23 (by decide) ?_
        refine lv_iadd hx hb dX7_whole_24 ?_
        refine q_let h (fun m_at_25 h => ?_)
        refine va_put (D := D) (ci := 7) (v := .int m_at_25) (ty := .int) (C := RX7) (T := TX7) (N := 24) hx hb hts in7 tyX7 tyX7_ok nmX7 hown hK hP hD hS 0 rfl rfl 7 (by decide) l151 (fun _ h9 => h9) rfl (by decide +kernel) rfl rfl (Nat.le_of_ble_eq_true rfl) dX7_whole_25 (fun H locs hP hD hS => ?_)
        have hP : va_P D vwCl [(qm 0, .inr (7, oX7 qm m_images m_newMany m_at_25 m_open m_steps m_use m_traced m_speaks m_isParted)), (qm 1, .inl (cI, 3974, .inl m_s)), (qm 12, .inl (cI, 124, .inl m_step))] H := hP
        have hD : va_D A [(qm 0, .inr (7, oX7 qm m_images m_newMany m_at_25 m_open m_steps m_use m_traced m_speaks m_isParted)), (qm 1, .inl (cI, 3974, .inl m_s)), (qm 12, .inl (cI, 124, .inl m_step))] := hD
        refine lv_aload_n hx hb dX7_whole_28 rfl (lv_at hl 0 rfl) ?_
        refine q_callW5 q_E0ok (rest := []) (fun u => [(qm 0, .inr (7, oX7 qm m_images m_newMany u.2.1 u.2.2.1 u.2.2.2.1 m_use m_traced m_speaks m_isParted)), (qm 1, .inl (cI, 3974, .inl m_s)), (qm 12, .inl (cI, 124, .inl u.2.2.2.2))]) (fun u => u.1) ⟨hx, hb, hml, hown, hts⟩ (fun u hu => c7_both l D cI qm n FS lv hlv H1 m_images m_newMany m_at_25 m_open m_steps m_use m_traced m_speaks m_isParted m_s m_step u hu) (cwV 0 hts gX7_whole_X7_both rfl rfl rfl hdX7_both (rmq_ok (by omega) (Nat.le_of_ble_eq_true rfl))) hK hEv hA hP hD hS [0, 1, 2] (by decide) rfl (fun _ => rfl) (va_recv hK hP (ci := 7) (q0 := 0) rfl rfl) rfl rfl hl.1 (Nat.le_of_ble_eq_true rfl) ⟨Nat.zero_le _, Nat.zero_le _⟩ h dX7_whole_29 (fun t29 m_at_29 m_open_29 m_steps_29 m_step_29 H locs h hP hD hS => ?_)
        have hP : va_P D vwCl [(qm 0, .inr (7, oX7 qm m_images m_newMany m_at_29 m_open_29 m_steps_29 m_use m_traced m_speaks m_isParted)), (qm 1, .inl (cI, 3974, .inl m_s)), (qm 12, .inl (cI, 124, .inl m_step_29))] H := hP
        have hD : va_D A [(qm 0, .inr (7, oX7 qm m_images m_newMany m_at_29 m_open_29 m_steps_29 m_use m_traced m_speaks m_isParted)), (qm 1, .inl (cI, 3974, .inl m_s)), (qm 12, .inl (cI, 124, .inl m_step_29))] := hD
        refine q_ifne hx hb 37 h dX7_whole_32 (by decide) (fun h => ?_) (fun h => ?_)
        · refine lv_aload_n hx hb dX7_whole_37 rfl (lv_at hl 0 rfl) ?_
          refine lv_iconst (v := (3 : Int32)) hx hb dX7_whole_38 (by decide) ?_
          refine lv_bipush (v := (124 : Int32)) hx hb dX7_whole_39 (by decide) ?_
          refine q_callV2 q_E0ok (rest := []) (fun u => [(qm 0, .inr (7, oX7 qm m_images m_newMany m_at_29 m_open_29 u.1 m_use m_traced m_speaks m_isParted)), (qm 12, .inl (cI, 124, .inl u.2))]) ⟨hx, hb, hml, hown, hts⟩ (fun u hu => c7_lay l D cI qm m_images m_newMany m_at_29 m_open_29 m_steps_29 m_use m_traced m_speaks m_isParted m_step_29 ((3 : Int32)) ((124 : Int32)) u hu) (cwV 2 hts gX7_whole_X7_lay rfl rfl rfl hdX7_lay (rmq_ok (by omega) (Nat.le_of_ble_eq_true rfl))) hK hEv hA hP hD hS [0, 2] (by decide) rfl (fun _ => rfl) (va_recv hK hP (ci := 7) (q0 := 0) rfl rfl) rfl rfl hl.1 (Nat.le_of_ble_eq_true rfl) ⟨Nat.zero_le _, Nat.zero_le _⟩ h dX7_whole_41 (fun m_steps_41 m_step_41 H locs h hP hD hS => ?_)
          have hP : va_P D vwCl [(qm 0, .inr (7, oX7 qm m_images m_newMany m_at_29 m_open_29 m_steps_41 m_use m_traced m_speaks m_isParted)), (qm 1, .inl (cI, 3974, .inl m_s)), (qm 12, .inl (cI, 124, .inl m_step_41))] H := hP
          have hD : va_D A [(qm 0, .inr (7, oX7 qm m_images m_newMany m_at_29 m_open_29 m_steps_41 m_use m_traced m_speaks m_isParted)), (qm 1, .inl (cI, 3974, .inl m_s)), (qm 12, .inl (cI, 124, .inl m_step_41))] := hD
          refine lv_goto (tgt := 9) hx hb dX7_whole_44 (by decide) ?_
          exact ih9 m_at_29 m_open_29 m_steps_41 m_step_41 _ _ _ (lv_sub hl [0] rfl) hP hD hS h
        · refine lv_iconst (v := (0 : Int32)) hx hb dX7_whole_35 (by decide) ?_
          obtain ⟨hz, h⟩ := q_bz_of h
          exact hret ((0 : Int32), m_at_29, m_open_29, m_steps_29, m_step_29) _ _ _ _ (q_nz hz) h hP hD hS dX7_whole_36
  unfold g7_whole at h
  refine lv_aload_n hx hb dX7_whole_0 rfl (lv_at hl 0 rfl) ?_
  refine q_callW5 q_E0ok (rest := []) (fun u => [(qm 0, .inr (7, oX7 qm m_images m_newMany u.2.1 u.2.2.1 u.2.2.2.1 m_use m_traced m_speaks m_isParted)), (qm 1, .inl (cI, 3974, .inl m_s)), (qm 12, .inl (cI, 124, .inl u.2.2.2.2))]) (fun u => u.1) ⟨hx, hb, hml, hown, hts⟩ (fun u hu => c7_both l D cI qm n FS lv hlv H1 m_images m_newMany m_at m_open m_steps m_use m_traced m_speaks m_isParted m_s m_step u hu) (cwV 0 hts gX7_whole_X7_both rfl rfl rfl hdX7_both (rmq_ok (by omega) (Nat.le_of_ble_eq_true rfl))) hK hEv hA hP hD hS [0, 1, 2] (by decide) rfl (fun _ => rfl) (va_recv hK hP (ci := 7) (q0 := 0) rfl rfl) rfl rfl hl.1 (Nat.le_of_ble_eq_true rfl) ⟨Nat.zero_le _, Nat.zero_le _⟩ h dX7_whole_1 (fun t1 m_at_1 m_open_1 m_steps_1 m_step_1 H locs h hP hD hS => ?_)
  have hP : va_P D vwCl [(qm 0, .inr (7, oX7 qm m_images m_newMany m_at_1 m_open_1 m_steps_1 m_use m_traced m_speaks m_isParted)), (qm 1, .inl (cI, 3974, .inl m_s)), (qm 12, .inl (cI, 124, .inl m_step_1))] H := hP
  have hD : va_D A [(qm 0, .inr (7, oX7 qm m_images m_newMany m_at_1 m_open_1 m_steps_1 m_use m_traced m_speaks m_isParted)), (qm 1, .inl (cI, 3974, .inl m_s)), (qm 12, .inl (cI, 124, .inl m_step_1))] := hD
  refine q_ifne hx hb 9 h dX7_whole_4 (by decide) (fun h => ?_) (fun h => ?_)
  · exact J9 n m_at_1 m_open_1 m_steps_1 m_step_1 _ _ _ (lv_sub hl [0] rfl) hP hD hS h
  · refine lv_iconst (v := (0 : Int32)) hx hb dX7_whole_7 (by decide) ?_
    obtain ⟨hz, h⟩ := q_bz_of h
    exact hret ((0 : Int32), m_at_1, m_open_1, m_steps_1, m_step_1) _ _ _ _ (q_nz hz) h hP hD hS dX7_whole_8
set_option maxHeartbeats 4000000 in
set_option maxRecDepth 100000 in
theorem c7_one (l : Launch) (D : va_G) (cI : ClassId) (qm : Nat → Nat) (n : Nat) : ∀ (d : Nat) (m_images m_newMany m_at m_open m_steps m_use m_traced m_speaks m_isParted : Int32) (m_s m_step : Nat → Int32) (u : Int32 × Int32 × Int32 × Int32 × (Nat → Int32)), f7_one n d m_at m_open m_steps m_use m_s m_step = some u → q_RW q_E0 l yX7_one wsX7_one (rmq (6 * (d) + 8)) D cI [.ref (qm 0)] [(qm 0, .inr (7, oX7 qm m_images m_newMany m_at m_open m_steps m_use m_traced m_speaks m_isParted)), (qm 1, .inl (cI, 3974, .inl m_s)), (qm 12, .inl (cI, 124, .inl m_step))] [(qm 0, .inr (7, oX7 qm m_images m_newMany u.2.1 u.2.2.1 u.2.2.2.1 m_use m_traced m_speaks m_isParted)), (qm 1, .inl (cI, 3974, .inl m_s)), (qm 12, .inl (cI, 124, .inl u.2.2.2.2))] u.1 := by
  intro d
  induction d with
  | zero => intro m_images m_newMany m_at m_open m_steps m_use m_traced m_speaks m_isParted m_s m_step u h; exact nomatch (show (none : Option (Int32 × Int32 × Int32 × Int32 × (Nat → Int32))) = some u from h)
  | succ d ih =>
    intro m_images m_newMany m_at m_open m_steps m_use m_traced m_speaks m_isParted m_s m_step u h
    refine q_startW (fun u : Int32 × Int32 × Int32 × Int32 × (Nat → Int32) => [(qm 0, .inr (7, oX7 qm m_images m_newMany u.2.1 u.2.2.1 u.2.2.2.1 m_use m_traced m_speaks m_isParted)), (qm 1, .inl (cI, 3974, .inl m_s)), (qm 12, .inl (cI, 124, .inl u.2.2.2.2))]) (fun u => u.1) (cc := cX7_one) (maxL := 4) (ty := .boolean) (own := RX7) (by decide) rfl rfl (Nat.le_of_ble_eq_true rfl) rfl (fun p e s m args below meth c Q A hx hb hml hown hts hK hEv hA hret hP hD hS ls hl => ?_)
    have in7 : ∀ w ∈ wsX70, w ∈ wsX7_one := fun w h => List.mem_cons_of_mem _ (List.mem_append_right _ (h))
    have l151 := hts (.fieldLink RX7 151 "PageWarsModel" "at" "I") (List.mem_of_getElem? (i := 1) rfl)
    have l182 := hts (.fieldLink RX7 182 "PageWarsModel" "open" "I") (List.mem_of_getElem? (i := 2) rfl)
    have J171 : ∀ (m_at : Int32) (m_open : Int32) (m_steps : Int32) (m_step : (Nat → Int32)) (H : Heap) (locs : List Loc) (ls : Array Slot), lv_has ls 4 [(0, .ref (qm 0))] → va_P D vwCl [(qm 0, .inr (7, oX7 qm m_images m_newMany m_at m_open m_steps m_use m_traced m_speaks m_isParted)), (qm 1, .inl (cI, 3974, .inl m_s)), (qm 12, .inl (cI, 124, .inl m_step))] H → va_D A [(qm 0, .inr (7, oX7 qm m_images m_newMany m_at m_open m_steps m_use m_traced m_speaks m_isParted)), (qm 1, .inl (cI, 3974, .inl m_s)), (qm 12, .inl (cI, 124, .inl m_step))] → va_S A s.heap H locs → f7_one_171 n (f7_one n d) m_use m_s m_at m_open m_steps m_step = some u → W p l e (rmq (6 * (d + 1) + 8)) s m args below meth c H locs 0 0 Q (F0 m 171 ls []) := by
      intro m_at m_open m_steps m_step H locs ls hl hP hD hS h
      unfold f7_one_171 at h
      refine lv_iconst (v := (0 : Int32)) hx hb dX7_one_171 (by decide) ?_
      obtain ⟨hz, h⟩ := q_bz_of h
      exact hret ((0 : Int32), m_at, m_open, m_steps, m_step) _ _ _ _ (q_nz hz) h hP hD hS dX7_one_172
    have J122 : ∀ (m_at : Int32) (m_open : Int32) (m_steps : Int32) (m_step : (Nat → Int32)) (H : Heap) (locs : List Loc) (ls : Array Slot), lv_has ls 4 [(0, .ref (qm 0))] → va_P D vwCl [(qm 0, .inr (7, oX7 qm m_images m_newMany m_at m_open m_steps m_use m_traced m_speaks m_isParted)), (qm 1, .inl (cI, 3974, .inl m_s)), (qm 12, .inl (cI, 124, .inl m_step))] H → va_D A [(qm 0, .inr (7, oX7 qm m_images m_newMany m_at m_open m_steps m_use m_traced m_speaks m_isParted)), (qm 1, .inl (cI, 3974, .inl m_s)), (qm 12, .inl (cI, 124, .inl m_step))] → va_S A s.heap H locs → f7_one_122 n (f7_one n d) m_use m_s m_at m_open m_steps m_step = some u → W p l e (rmq (6 * (d + 1) + 8)) s m args below meth c H locs 0 0 Q (F0 m 122 ls []) := by
      intro m_at m_open m_steps m_step H locs ls hl hP hD hS h
      unfold f7_one_122 at h
      refine lv_iconst (v := (0 : Int32)) hx hb dX7_one_122 (by decide) ?_
      obtain ⟨hz, h⟩ := q_bz_of h
      exact hret ((0 : Int32), m_at, m_open, m_steps, m_step) _ _ _ _ (q_nz hz) h hP hD hS dX7_one_123
    have J94 : ∀ (x2 : Int32) (m_at : Int32) (m_open : Int32) (m_steps : Int32) (m_step : (Nat → Int32)) (H : Heap) (locs : List Loc) (ls : Array Slot), lv_has ls 4 [(0, .ref (qm 0)), (2, .int x2)] → va_P D vwCl [(qm 0, .inr (7, oX7 qm m_images m_newMany m_at m_open m_steps m_use m_traced m_speaks m_isParted)), (qm 1, .inl (cI, 3974, .inl m_s)), (qm 12, .inl (cI, 124, .inl m_step))] H → va_D A [(qm 0, .inr (7, oX7 qm m_images m_newMany m_at m_open m_steps m_use m_traced m_speaks m_isParted)), (qm 1, .inl (cI, 3974, .inl m_s)), (qm 12, .inl (cI, 124, .inl m_step))] → va_S A s.heap H locs → f7_one_94 n (f7_one n d) m_use m_s x2 m_at m_open m_steps m_step = some u → W p l e (rmq (6 * (d + 1) + 8)) s m args below meth c H locs 0 0 Q (F0 m 94 ls []) := by
      intro x2 m_at m_open m_steps m_step H locs ls hl hP hD hS h
      unfold f7_one_94 at h
      refine lv_aload_n hx hb dX7_one_94 rfl (lv_at hl 0 rfl) ?_
      refine lv_iconst (v := (0 : Int32)) hx hb dX7_one_95 (by decide) ?_
      refine lv_iload_n hx hb dX7_one_96 rfl (lv_at hl 1 rfl) ?_
      refine q_callV2 q_E0ok (rest := []) (fun u => [(qm 0, .inr (7, oX7 qm m_images m_newMany m_at m_open u.1 m_use m_traced m_speaks m_isParted)), (qm 12, .inl (cI, 124, .inl u.2))]) ⟨hx, hb, hml, hown, hts⟩ (fun u hu => c7_lay l D cI qm m_images m_newMany m_at m_open m_steps m_use m_traced m_speaks m_isParted m_step ((0 : Int32)) x2 u hu) (cwV 2 hts gX7_one_X7_lay rfl rfl rfl hdX7_lay (rmq_ok (by omega) (Nat.le_of_ble_eq_true rfl))) hK hEv hA hP hD hS [0, 2] (by decide) rfl (fun _ => rfl) (va_recv hK hP (ci := 7) (q0 := 0) rfl rfl) rfl rfl hl.1 (Nat.le_of_ble_eq_true rfl) ⟨Nat.zero_le _, Nat.zero_le _⟩ h dX7_one_97 (fun m_steps_97 m_step_97 H locs h hP hD hS => ?_)
      have hP : va_P D vwCl [(qm 0, .inr (7, oX7 qm m_images m_newMany m_at m_open m_steps_97 m_use m_traced m_speaks m_isParted)), (qm 1, .inl (cI, 3974, .inl m_s)), (qm 12, .inl (cI, 124, .inl m_step_97))] H := hP
      have hD : va_D A [(qm 0, .inr (7, oX7 qm m_images m_newMany m_at m_open m_steps_97 m_use m_traced m_speaks m_isParted)), (qm 1, .inl (cI, 3974, .inl m_s)), (qm 12, .inl (cI, 124, .inl m_step_97))] := hD
      refine lv_iconst (v := (1 : Int32)) hx hb dX7_one_100 (by decide) ?_
      obtain ⟨hz, h⟩ := q_bz_of h
      exact hret ((1 : Int32), m_at, m_open, m_steps_97, m_step_97) _ _ _ _ (q_nz hz) h hP hD hS dX7_one_101
    have J46 : ∀ (kk46 : Nat) (x2 : Int32) (x3 : Int32) (m_at : Int32) (m_open : Int32) (m_steps : Int32) (m_step : (Nat → Int32)) (H : Heap) (locs : List Loc) (ls : Array Slot), lv_has ls 4 [(0, .ref (qm 0)), (2, .int x2), (3, .int x3)] → va_P D vwCl [(qm 0, .inr (7, oX7 qm m_images m_newMany m_at m_open m_steps m_use m_traced m_speaks m_isParted)), (qm 1, .inl (cI, 3974, .inl m_s)), (qm 12, .inl (cI, 124, .inl m_step))] H → va_D A [(qm 0, .inr (7, oX7 qm m_images m_newMany m_at m_open m_steps m_use m_traced m_speaks m_isParted)), (qm 1, .inl (cI, 3974, .inl m_s)), (qm 12, .inl (cI, 124, .inl m_step))] → va_S A s.heap H locs → f7_one_46 n (f7_one n d) m_use m_s kk46 x2 x3 m_at m_open m_steps m_step = some u → W p l e (rmq (6 * (d + 1) + 8)) s m args below meth c H locs 0 0 Q (F0 m 46 ls []) := by
      intro kk46
      induction kk46 with
      | zero => intro x2 x3 m_at m_open m_steps m_step H locs ls hl hP hD hS h; exact nomatch (show (none : Option (Int32 × Int32 × Int32 × Int32 × (Nat → Int32))) = some u from h)
      | succ kk46 ih46 =>
        intro x2 x3 m_at m_open m_steps m_step H locs ls hl hP hD hS h
        rw [f7_one_46.eq_2] at h
        refine lv_iload_n hx hb dX7_one_46 rfl (lv_at hl 2 rfl) ?_
        refine lv_iconst (v := (4 : Int32)) hx hb dX7_one_47 (by decide) ?_
        refine q_cge hx hb 94 h dX7_one_48 (by decide) (fun h => ?_) (fun h => ?_)
        · exact J94 x2 m_at m_open m_steps m_step _ _ _ (lv_sub hl [0, 1] rfl) hP hD hS h
        · refine lv_aload_n hx hb dX7_one_51 rfl (lv_at hl 0 rfl) ?_
          refine q_callR q_E0ok (rest := []) ⟨hx, hb, hml, hown, hts⟩ (fun r hr => c7_look l D cI qm m_images m_newMany m_at m_open m_steps m_use m_traced m_speaks m_isParted m_s r hr) (cwV 0 hts gX7_one_X7_look rfl rfl rfl hdX7_look (rmq_ok (by omega) (Nat.le_of_ble_eq_true rfl))) hK hP hEv hS [0, 1] rfl (va_recv hK hP (ci := 7) (q0 := 0) rfl rfl) rfl rfl hl.1 (Nat.le_of_ble_eq_true rfl) ⟨Nat.zero_le _, Nat.zero_le _⟩ h dX7_one_52 (fun t52 h => ?_)
          refine lv_bipush (v := (48 : Int32)) hx hb dX7_one_55 (by decide) ?_
          refine lv_bipush (v := (57 : Int32)) hx hb dX7_one_57 (by decide) ?_
          refine q_callRS q_E0ok (rest := []) ⟨hx, hb, hml, hown, hts⟩ (fun r hr => c7_in l D cI t52 ((48 : Int32)) ((57 : Int32)) r hr) (va_cwS 3 hts gX7_one_X7_in rfl rfl rfl hdX7_in (rmq_ok (by omega) (Nat.le_of_ble_eq_true rfl))) hK hP hEv hS [] rfl rfl rfl hl.1 (Nat.le_of_ble_eq_true rfl) ⟨Nat.zero_le _, Nat.zero_le _⟩ h dX7_one_59 (fun t59 h => ?_)
          refine q_ifeq hx hb 94 h dX7_one_62 (by decide) (fun h => ?_) (fun h => ?_)
          · exact J94 x2 m_at m_open m_steps m_step _ _ _ (lv_sub hl [0, 1] rfl) hP hD hS h
          · refine lv_bipush (v := (10 : Int32)) hx hb dX7_one_65 (by decide) ?_
            refine lv_iload_n hx hb dX7_one_67 rfl (lv_at hl 1 rfl) ?_
            refine lv_imul hx hb dX7_one_68 ?_
            refine lv_aload_n hx hb dX7_one_69 rfl (lv_at hl 0 rfl) ?_
            refine q_callR q_E0ok (rest := [.int (((10 : Int32)) * x2)]) ⟨hx, hb, hml, hown, hts⟩ (fun r hr => c7_look l D cI qm m_images m_newMany m_at m_open m_steps m_use m_traced m_speaks m_isParted m_s r hr) (cwV 0 hts gX7_one_X7_look rfl rfl rfl hdX7_look (rmq_ok (by omega) (Nat.le_of_ble_eq_true rfl))) hK hP hEv hS [0, 1] rfl (va_recv hK hP (ci := 7) (q0 := 0) rfl rfl) rfl rfl hl.1 (Nat.le_of_ble_eq_true rfl) ⟨Nat.zero_le _, Nat.zero_le _⟩ h dX7_one_70 (fun t70 h => ?_)
            refine lv_iadd hx hb dX7_one_73 ?_
            refine lv_bipush (v := (48 : Int32)) hx hb dX7_one_74 (by decide) ?_
            refine lv_isub hx hb dX7_one_76 ?_
            refine q_let h (fun x2_77 h => ?_)
            refine lv_istore_n (lv' := [(2, .int x2_77), (0, .ref (qm 0)), (3, .int x3)]) hx hb dX7_one_77 rfl hl (by decide) rfl (fun ls hl => ?_)
            refine lv_aload_n hx hb dX7_one_78 rfl (lv_at hl 1 rfl) ?_
            refine lv_dup hx hb dX7_one_79 rfl ?_
            refine va_get (D := D) (ci := 7) (v := .int m_at) (C := RX7) (T := TX7) (N := 24) hx hb hts in7 hown hK hP 0 rfl rfl 7 (by decide) l151 (fun _ h9 => h9) rfl dX7_one_80 ?_
            refine lv_iconst (v := (1 : Int32)) hx hb dX7_one_83 (by decide) ?_
            refine lv_iadd hx hb dX7_one_84 ?_
            refine q_let h (fun m_at_85 h => ?_)
            refine va_put (D := D) (ci := 7) (v := .int m_at_85) (ty := .int) (C := RX7) (T := TX7) (N := 24) hx hb hts in7 tyX7 tyX7_ok nmX7 hown hK hP hD hS 0 rfl rfl 7 (by decide) l151 (fun _ h9 => h9) rfl (by decide +kernel) rfl rfl (Nat.le_of_ble_eq_true rfl) dX7_one_85 (fun H locs hP hD hS => ?_)
            have hP : va_P D vwCl [(qm 0, .inr (7, oX7 qm m_images m_newMany m_at_85 m_open m_steps m_use m_traced m_speaks m_isParted)), (qm 1, .inl (cI, 3974, .inl m_s)), (qm 12, .inl (cI, 124, .inl m_step))] H := hP
            have hD : va_D A [(qm 0, .inr (7, oX7 qm m_images m_newMany m_at_85 m_open m_steps m_use m_traced m_speaks m_isParted)), (qm 1, .inl (cI, 3974, .inl m_s)), (qm 12, .inl (cI, 124, .inl m_step))] := hD
            refine q_iinc (fun v => [(3, .int v), (2, .int x2_77), (0, .ref (qm 0))]) hx hb h dX7_one_88 (by decide) hl (k := 2) rfl (by decide) (fun _ => rfl) (fun x3_88 ls h hl => ?_)
            refine lv_goto (tgt := 46) hx hb dX7_one_91 (by decide) ?_
            exact ih46 x2_77 x3_88 m_at_85 m_open m_steps m_step _ _ _ (lv_sub hl [2, 1, 0] rfl) hP hD hS h
    rw [f7_one.eq_2] at h
    refine lv_aload_n hx hb dX7_one_0 rfl (lv_at hl 0 rfl) ?_
    refine q_callR q_E0ok (rest := []) ⟨hx, hb, hml, hown, hts⟩ (fun r hr => c7_look l D cI qm m_images m_newMany m_at m_open m_steps m_use m_traced m_speaks m_isParted m_s r hr) (cwV 0 hts gX7_one_X7_look rfl rfl rfl hdX7_look (rmq_ok (by omega) (Nat.le_of_ble_eq_true rfl))) hK hP hEv hS [0, 1] rfl (va_recv hK hP (ci := 7) (q0 := 0) rfl rfl) rfl rfl hl.1 (Nat.le_of_ble_eq_true rfl) ⟨Nat.zero_le _, Nat.zero_le _⟩ h dX7_one_1 (fun t1 h => ?_)
    refine lv_istore_n (lv' := [(1, .int t1), (0, .ref (qm 0))]) hx hb dX7_one_4 rfl hl (by decide) rfl (fun ls hl => ?_)
    refine lv_aload_n hx hb dX7_one_5 rfl (lv_at hl 1 rfl) ?_
    refine lv_iload_n hx hb dX7_one_6 rfl (lv_at hl 0 rfl) ?_
    refine q_callR q_E0ok (rest := []) ⟨hx, hb, hml, hown, hts⟩ (fun r hr => c7_isName l D cI qm m_images m_newMany m_at m_open m_steps m_use m_traced m_speaks m_isParted t1 r hr) (cwV 1 hts gX7_one_X7_isName rfl rfl rfl hdX7_isName (rmq_ok (by omega) (Nat.le_of_ble_eq_true rfl))) hK hP hEv hS [0] rfl (va_recv hK hP (ci := 7) (q0 := 0) rfl rfl) rfl rfl hl.1 (Nat.le_of_ble_eq_true rfl) ⟨Nat.zero_le _, Nat.zero_le _⟩ h dX7_one_7 (fun t7 h => ?_)
    refine q_ifeq hx hb 31 h dX7_one_10 (by decide) (fun h => ?_) (fun h => ?_)
    · refine lv_iload_n hx hb dX7_one_31 rfl (lv_at hl 0 rfl) ?_
      refine lv_bipush (v := (48 : Int32)) hx hb dX7_one_32 (by decide) ?_
      refine lv_bipush (v := (57 : Int32)) hx hb dX7_one_34 (by decide) ?_
      refine q_callRS q_E0ok (rest := []) ⟨hx, hb, hml, hown, hts⟩ (fun r hr => c7_in l D cI t1 ((48 : Int32)) ((57 : Int32)) r hr) (va_cwS 3 hts gX7_one_X7_in rfl rfl rfl hdX7_in (rmq_ok (by omega) (Nat.le_of_ble_eq_true rfl))) hK hP hEv hS [] rfl rfl rfl hl.1 (Nat.le_of_ble_eq_true rfl) ⟨Nat.zero_le _, Nat.zero_le _⟩ h dX7_one_36 (fun t36 h => ?_)
      refine q_ifeq hx hb 102 h dX7_one_39 (by decide) (fun h => ?_) (fun h => ?_)
      · refine lv_iload_n hx hb dX7_one_102 rfl (lv_at hl 0 rfl) ?_
        refine lv_bipush (v := (33 : Int32)) hx hb dX7_one_103 (by decide) ?_
        refine q_cne hx hb 142 h dX7_one_105 (by decide) (fun h => ?_) (fun h => ?_)
        · refine lv_iload_n hx hb dX7_one_142 rfl (lv_at hl 0 rfl) ?_
          refine lv_bipush (v := (40 : Int32)) hx hb dX7_one_143 (by decide) ?_
          refine q_cne hx hb 171 h dX7_one_145 (by decide) (fun h => ?_) (fun h => ?_)
          · exact J171 m_at m_open m_steps m_step _ _ _ (lv_sub hl [1] rfl) hP hD hS h
          · refine lv_aload_n hx hb dX7_one_148 rfl (lv_at hl 1 rfl) ?_
            refine q_callW3 q_E0ok (rest := []) (fun u => [(qm 0, .inr (7, oX7 qm m_images m_newMany u.2.1 u.2.2 m_steps m_use m_traced m_speaks m_isParted))]) (fun u => u.1) ⟨hx, hb, hml, hown, hts⟩ (fun u hu => c7_opens l D cI qm m_images m_newMany m_at m_open m_steps m_use m_traced m_speaks m_isParted u hu) (cwV 0 hts gX7_one_X7_opens rfl rfl rfl hdX7_opens (rmq_ok (by omega) (Nat.le_of_ble_eq_true rfl))) hK hEv hA hP hD hS [0] (by decide) rfl (fun _ => rfl) (va_recv hK hP (ci := 7) (q0 := 0) rfl rfl) rfl rfl hl.1 (Nat.le_of_ble_eq_true rfl) ⟨Nat.zero_le _, Nat.zero_le _⟩ h dX7_one_149 (fun t149 m_at_149 m_open_149 H locs h hP hD hS => ?_)
            have hP : va_P D vwCl [(qm 0, .inr (7, oX7 qm m_images m_newMany m_at_149 m_open_149 m_steps m_use m_traced m_speaks m_isParted)), (qm 1, .inl (cI, 3974, .inl m_s)), (qm 12, .inl (cI, 124, .inl m_step))] H := hP
            have hD : va_D A [(qm 0, .inr (7, oX7 qm m_images m_newMany m_at_149 m_open_149 m_steps m_use m_traced m_speaks m_isParted)), (qm 1, .inl (cI, 3974, .inl m_s)), (qm 12, .inl (cI, 124, .inl m_step))] := hD
            refine q_ifeq hx hb 171 h dX7_one_152 (by decide) (fun h => ?_) (fun h => ?_)
            · exact J171 m_at_149 m_open_149 m_steps m_step _ _ _ (lv_sub hl [1] rfl) hP hD hS h
            · refine lv_aload_n hx hb dX7_one_155 rfl (lv_at hl 1 rfl) ?_
              refine q_callW5 q_E0ok (rest := []) (fun u => [(qm 0, .inr (7, oX7 qm m_images m_newMany u.2.1 u.2.2.1 u.2.2.2.1 m_use m_traced m_speaks m_isParted)), (qm 1, .inl (cI, 3974, .inl m_s)), (qm 12, .inl (cI, 124, .inl u.2.2.2.2))]) (fun u => u.1) ⟨hx, hb, hml, hown, hts⟩ (fun u hu => c7_whole l D cI qm n (f7_one n d) (6 * d + 8) (by omega) ih m_images m_newMany m_at_149 m_open_149 m_steps m_use m_traced m_speaks m_isParted m_s m_step u hu) (cwV 0 hts gX7_one_X7_whole rfl rfl rfl hdX7_whole (rmq_ok (by omega) (Nat.le_of_ble_eq_true rfl))) hK hEv hA hP hD hS [0, 1, 2] (by decide) rfl (fun _ => rfl) (va_recv hK hP (ci := 7) (q0 := 0) rfl rfl) rfl rfl hl.1 (Nat.le_of_ble_eq_true rfl) ⟨Nat.zero_le _, Nat.zero_le _⟩ h dX7_one_156 (fun t156 m_at_156 m_open_156 m_steps_156 m_step_156 H locs h hP hD hS => ?_)
              have hP : va_P D vwCl [(qm 0, .inr (7, oX7 qm m_images m_newMany m_at_156 m_open_156 m_steps_156 m_use m_traced m_speaks m_isParted)), (qm 1, .inl (cI, 3974, .inl m_s)), (qm 12, .inl (cI, 124, .inl m_step_156))] H := hP
              have hD : va_D A [(qm 0, .inr (7, oX7 qm m_images m_newMany m_at_156 m_open_156 m_steps_156 m_use m_traced m_speaks m_isParted)), (qm 1, .inl (cI, 3974, .inl m_s)), (qm 12, .inl (cI, 124, .inl m_step_156))] := hD
              refine q_ifeq hx hb 171 h dX7_one_159 (by decide) (fun h => ?_) (fun h => ?_)
              · exact J171 m_at_156 m_open_156 m_steps_156 m_step_156 _ _ _ (lv_sub hl [1] rfl) hP hD hS h
              · refine lv_aload_n hx hb dX7_one_162 rfl (lv_at hl 1 rfl) ?_
                refine q_callR q_E0ok (rest := []) ⟨hx, hb, hml, hown, hts⟩ (fun r hr => c7_look l D cI qm m_images m_newMany m_at_156 m_open_156 m_steps_156 m_use m_traced m_speaks m_isParted m_s r hr) (cwV 0 hts gX7_one_X7_look rfl rfl rfl hdX7_look (rmq_ok (by omega) (Nat.le_of_ble_eq_true rfl))) hK hP hEv hS [0, 1] rfl (va_recv hK hP (ci := 7) (q0 := 0) rfl rfl) rfl rfl hl.1 (Nat.le_of_ble_eq_true rfl) ⟨Nat.zero_le _, Nat.zero_le _⟩ h dX7_one_163 (fun t163 h => ?_)
                refine lv_bipush (v := (41 : Int32)) hx hb dX7_one_166 (by decide) ?_
                refine q_ceq hx hb 173 h dX7_one_168 (by decide) (fun h => ?_) (fun h => ?_)
                · refine lv_aload_n hx hb dX7_one_173 rfl (lv_at hl 1 rfl) ?_
                  refine lv_dup hx hb dX7_one_174 rfl ?_
                  refine va_get (D := D) (ci := 7) (v := .int m_at_156) (C := RX7) (T := TX7) (N := 24) hx hb hts in7 hown hK hP 0 rfl rfl 7 (by decide) l151 (fun _ h9 => h9) rfl dX7_one_175 ?_
                  refine lv_iconst (v := (1 : Int32)) hx hb dX7_one_178 (by decide) ?_
                  refine lv_iadd hx hb dX7_one_179 ?_
                  refine q_let h (fun m_at_180 h => ?_)
                  refine va_put (D := D) (ci := 7) (v := .int m_at_180) (ty := .int) (C := RX7) (T := TX7) (N := 24) hx hb hts in7 tyX7 tyX7_ok nmX7 hown hK hP hD hS 0 rfl rfl 7 (by decide) l151 (fun _ h9 => h9) rfl (by decide +kernel) rfl rfl (Nat.le_of_ble_eq_true rfl) dX7_one_180 (fun H locs hP hD hS => ?_)
                  have hP : va_P D vwCl [(qm 0, .inr (7, oX7 qm m_images m_newMany m_at_180 m_open_156 m_steps_156 m_use m_traced m_speaks m_isParted)), (qm 1, .inl (cI, 3974, .inl m_s)), (qm 12, .inl (cI, 124, .inl m_step_156))] H := hP
                  have hD : va_D A [(qm 0, .inr (7, oX7 qm m_images m_newMany m_at_180 m_open_156 m_steps_156 m_use m_traced m_speaks m_isParted)), (qm 1, .inl (cI, 3974, .inl m_s)), (qm 12, .inl (cI, 124, .inl m_step_156))] := hD
                  refine lv_aload_n hx hb dX7_one_183 rfl (lv_at hl 1 rfl) ?_
                  refine lv_dup hx hb dX7_one_184 rfl ?_
                  refine va_get (D := D) (ci := 7) (v := .int m_open_156) (C := RX7) (T := TX7) (N := 24) hx hb hts in7 hown hK hP 0 rfl rfl 8 (by decide) l182 (fun _ h9 => h9) rfl dX7_one_185 ?_
                  refine lv_iconst (v := (1 : Int32)) hx hb dX7_one_188 (by decide) ?_
                  refine lv_isub hx hb dX7_one_189 ?_
                  refine q_let h (fun m_open_190 h => ?_)
                  refine va_put (D := D) (ci := 7) (v := .int m_open_190) (ty := .int) (C := RX7) (T := TX7) (N := 24) hx hb hts in7 tyX7 tyX7_ok nmX7 hown hK hP hD hS 0 rfl rfl 8 (by decide) l182 (fun _ h9 => h9) rfl (by decide +kernel) rfl rfl (Nat.le_of_ble_eq_true rfl) dX7_one_190 (fun H locs hP hD hS => ?_)
                  have hP : va_P D vwCl [(qm 0, .inr (7, oX7 qm m_images m_newMany m_at_180 m_open_190 m_steps_156 m_use m_traced m_speaks m_isParted)), (qm 1, .inl (cI, 3974, .inl m_s)), (qm 12, .inl (cI, 124, .inl m_step_156))] H := hP
                  have hD : va_D A [(qm 0, .inr (7, oX7 qm m_images m_newMany m_at_180 m_open_190 m_steps_156 m_use m_traced m_speaks m_isParted)), (qm 1, .inl (cI, 3974, .inl m_s)), (qm 12, .inl (cI, 124, .inl m_step_156))] := hD
                  refine lv_iconst (v := (1 : Int32)) hx hb dX7_one_193 (by decide) ?_
                  obtain ⟨hz, h⟩ := q_bz_of h
                  exact hret ((1 : Int32), m_at_180, m_open_190, m_steps_156, m_step_156) _ _ _ _ (q_nz hz) h hP hD hS dX7_one_194
                · exact J171 m_at_156 m_open_156 m_steps_156 m_step_156 _ _ _ (lv_sub hl [1] rfl) hP hD hS h
        · refine lv_aload_n hx hb dX7_one_108 rfl (lv_at hl 1 rfl) ?_
          refine q_callW3 q_E0ok (rest := []) (fun u => [(qm 0, .inr (7, oX7 qm m_images m_newMany u.2.1 u.2.2 m_steps m_use m_traced m_speaks m_isParted))]) (fun u => u.1) ⟨hx, hb, hml, hown, hts⟩ (fun u hu => c7_opens l D cI qm m_images m_newMany m_at m_open m_steps m_use m_traced m_speaks m_isParted u hu) (cwV 0 hts gX7_one_X7_opens rfl rfl rfl hdX7_opens (rmq_ok (by omega) (Nat.le_of_ble_eq_true rfl))) hK hEv hA hP hD hS [0] (by decide) rfl (fun _ => rfl) (va_recv hK hP (ci := 7) (q0 := 0) rfl rfl) rfl rfl hl.1 (Nat.le_of_ble_eq_true rfl) ⟨Nat.zero_le _, Nat.zero_le _⟩ h dX7_one_109 (fun t109 m_at_109 m_open_109 H locs h hP hD hS => ?_)
          have hP : va_P D vwCl [(qm 0, .inr (7, oX7 qm m_images m_newMany m_at_109 m_open_109 m_steps m_use m_traced m_speaks m_isParted)), (qm 1, .inl (cI, 3974, .inl m_s)), (qm 12, .inl (cI, 124, .inl m_step))] H := hP
          have hD : va_D A [(qm 0, .inr (7, oX7 qm m_images m_newMany m_at_109 m_open_109 m_steps m_use m_traced m_speaks m_isParted)), (qm 1, .inl (cI, 3974, .inl m_s)), (qm 12, .inl (cI, 124, .inl m_step))] := hD
          refine q_ifeq hx hb 122 h dX7_one_112 (by decide) (fun h => ?_) (fun h => ?_)
          · exact J122 m_at_109 m_open_109 m_steps m_step _ _ _ (lv_sub hl [1] rfl) hP hD hS h
          · refine lv_aload_n hx hb dX7_one_115 rfl (lv_at hl 1 rfl) ?_
            refine q_callW5 q_E0ok (rest := []) (fun u => [(qm 0, .inr (7, oX7 qm m_images m_newMany u.2.1 u.2.2.1 u.2.2.2.1 m_use m_traced m_speaks m_isParted)), (qm 1, .inl (cI, 3974, .inl m_s)), (qm 12, .inl (cI, 124, .inl u.2.2.2.2))]) (fun u => u.1) ⟨hx, hb, hml, hown, hts⟩ (fun u hu => ih m_images m_newMany m_at_109 m_open_109 m_steps m_use m_traced m_speaks m_isParted m_s m_step u hu) (cwV 0 hts gX7_one_X7_one rfl rfl rfl hdX7_one (rmq_ok (by omega) (Nat.le_of_ble_eq_true rfl))) hK hEv hA hP hD hS [0, 1, 2] (by decide) rfl (fun _ => rfl) (va_recv hK hP (ci := 7) (q0 := 0) rfl rfl) rfl rfl hl.1 (Nat.le_of_ble_eq_true rfl) ⟨Nat.zero_le _, Nat.zero_le _⟩ h dX7_one_116 (fun t116 m_at_116 m_open_116 m_steps_116 m_step_116 H locs h hP hD hS => ?_)
            have hP : va_P D vwCl [(qm 0, .inr (7, oX7 qm m_images m_newMany m_at_116 m_open_116 m_steps_116 m_use m_traced m_speaks m_isParted)), (qm 1, .inl (cI, 3974, .inl m_s)), (qm 12, .inl (cI, 124, .inl m_step_116))] H := hP
            have hD : va_D A [(qm 0, .inr (7, oX7 qm m_images m_newMany m_at_116 m_open_116 m_steps_116 m_use m_traced m_speaks m_isParted)), (qm 1, .inl (cI, 3974, .inl m_s)), (qm 12, .inl (cI, 124, .inl m_step_116))] := hD
            refine q_ifne hx hb 124 h dX7_one_119 (by decide) (fun h => ?_) (fun h => ?_)
            · refine lv_aload_n hx hb dX7_one_124 rfl (lv_at hl 1 rfl) ?_
              refine lv_dup hx hb dX7_one_125 rfl ?_
              refine va_get (D := D) (ci := 7) (v := .int m_open_116) (C := RX7) (T := TX7) (N := 24) hx hb hts in7 hown hK hP 0 rfl rfl 8 (by decide) l182 (fun _ h9 => h9) rfl dX7_one_126 ?_
              refine lv_iconst (v := (1 : Int32)) hx hb dX7_one_129 (by decide) ?_
              refine lv_isub hx hb dX7_one_130 ?_
              refine q_let h (fun m_open_131 h => ?_)
              refine va_put (D := D) (ci := 7) (v := .int m_open_131) (ty := .int) (C := RX7) (T := TX7) (N := 24) hx hb hts in7 tyX7 tyX7_ok nmX7 hown hK hP hD hS 0 rfl rfl 8 (by decide) l182 (fun _ h9 => h9) rfl (by decide +kernel) rfl rfl (Nat.le_of_ble_eq_true rfl) dX7_one_131 (fun H locs hP hD hS => ?_)
              have hP : va_P D vwCl [(qm 0, .inr (7, oX7 qm m_images m_newMany m_at_116 m_open_131 m_steps_116 m_use m_traced m_speaks m_isParted)), (qm 1, .inl (cI, 3974, .inl m_s)), (qm 12, .inl (cI, 124, .inl m_step_116))] H := hP
              have hD : va_D A [(qm 0, .inr (7, oX7 qm m_images m_newMany m_at_116 m_open_131 m_steps_116 m_use m_traced m_speaks m_isParted)), (qm 1, .inl (cI, 3974, .inl m_s)), (qm 12, .inl (cI, 124, .inl m_step_116))] := hD
              refine lv_aload_n hx hb dX7_one_134 rfl (lv_at hl 1 rfl) ?_
              refine lv_iconst (v := (2 : Int32)) hx hb dX7_one_135 (by decide) ?_
              refine lv_iconst (v := (0 : Int32)) hx hb dX7_one_136 (by decide) ?_
              refine q_callV2 q_E0ok (rest := []) (fun u => [(qm 0, .inr (7, oX7 qm m_images m_newMany m_at_116 m_open_131 u.1 m_use m_traced m_speaks m_isParted)), (qm 12, .inl (cI, 124, .inl u.2))]) ⟨hx, hb, hml, hown, hts⟩ (fun u hu => c7_lay l D cI qm m_images m_newMany m_at_116 m_open_131 m_steps_116 m_use m_traced m_speaks m_isParted m_step_116 ((2 : Int32)) ((0 : Int32)) u hu) (cwV 2 hts gX7_one_X7_lay rfl rfl rfl hdX7_lay (rmq_ok (by omega) (Nat.le_of_ble_eq_true rfl))) hK hEv hA hP hD hS [0, 2] (by decide) rfl (fun _ => rfl) (va_recv hK hP (ci := 7) (q0 := 0) rfl rfl) rfl rfl hl.1 (Nat.le_of_ble_eq_true rfl) ⟨Nat.zero_le _, Nat.zero_le _⟩ h dX7_one_137 (fun m_steps_137 m_step_137 H locs h hP hD hS => ?_)
              have hP : va_P D vwCl [(qm 0, .inr (7, oX7 qm m_images m_newMany m_at_116 m_open_131 m_steps_137 m_use m_traced m_speaks m_isParted)), (qm 1, .inl (cI, 3974, .inl m_s)), (qm 12, .inl (cI, 124, .inl m_step_137))] H := hP
              have hD : va_D A [(qm 0, .inr (7, oX7 qm m_images m_newMany m_at_116 m_open_131 m_steps_137 m_use m_traced m_speaks m_isParted)), (qm 1, .inl (cI, 3974, .inl m_s)), (qm 12, .inl (cI, 124, .inl m_step_137))] := hD
              refine lv_iconst (v := (1 : Int32)) hx hb dX7_one_140 (by decide) ?_
              obtain ⟨hz, h⟩ := q_bz_of h
              exact hret ((1 : Int32), m_at_116, m_open_131, m_steps_137, m_step_137) _ _ _ _ (q_nz hz) h hP hD hS dX7_one_141
            · exact J122 m_at_116 m_open_116 m_steps_116 m_step_116 _ _ _ (lv_sub hl [1] rfl) hP hD hS h
      · refine lv_iconst (v := (0 : Int32)) hx hb dX7_one_42 (by decide) ?_
        refine lv_istore_n (lv' := [(2, .int ((0 : Int32))), (1, .int t1), (0, .ref (qm 0))]) hx hb dX7_one_43 rfl hl (by decide) rfl (fun ls hl => ?_)
        refine lv_iconst (v := (0 : Int32)) hx hb dX7_one_44 (by decide) ?_
        refine lv_istore_n (lv' := [(3, .int ((0 : Int32))), (2, .int ((0 : Int32))), (1, .int t1), (0, .ref (qm 0))]) hx hb dX7_one_45 rfl hl (by decide) rfl (fun ls hl => ?_)
        exact J46 n ((0 : Int32)) ((0 : Int32)) m_at m_open m_steps m_step _ _ _ (lv_sub hl [3, 1, 0] rfl) hP hD hS h
    · refine lv_aload_n hx hb dX7_one_13 rfl (lv_at hl 1 rfl) ?_
      refine lv_dup hx hb dX7_one_14 rfl ?_
      refine va_get (D := D) (ci := 7) (v := .int m_at) (C := RX7) (T := TX7) (N := 24) hx hb hts in7 hown hK hP 0 rfl rfl 7 (by decide) l151 (fun _ h9 => h9) rfl dX7_one_15 ?_
      refine lv_iconst (v := (1 : Int32)) hx hb dX7_one_18 (by decide) ?_
      refine lv_iadd hx hb dX7_one_19 ?_
      refine q_let h (fun m_at_20 h => ?_)
      refine va_put (D := D) (ci := 7) (v := .int m_at_20) (ty := .int) (C := RX7) (T := TX7) (N := 24) hx hb hts in7 tyX7 tyX7_ok nmX7 hown hK hP hD hS 0 rfl rfl 7 (by decide) l151 (fun _ h9 => h9) rfl (by decide +kernel) rfl rfl (Nat.le_of_ble_eq_true rfl) dX7_one_20 (fun H locs hP hD hS => ?_)
      have hP : va_P D vwCl [(qm 0, .inr (7, oX7 qm m_images m_newMany m_at_20 m_open m_steps m_use m_traced m_speaks m_isParted)), (qm 1, .inl (cI, 3974, .inl m_s)), (qm 12, .inl (cI, 124, .inl m_step))] H := hP
      have hD : va_D A [(qm 0, .inr (7, oX7 qm m_images m_newMany m_at_20 m_open m_steps m_use m_traced m_speaks m_isParted)), (qm 1, .inl (cI, 3974, .inl m_s)), (qm 12, .inl (cI, 124, .inl m_step))] := hD
      refine lv_aload_n hx hb dX7_one_23 rfl (lv_at hl 1 rfl) ?_
      refine lv_iconst (v := (1 : Int32)) hx hb dX7_one_24 (by decide) ?_
      refine lv_iload_n hx hb dX7_one_25 rfl (lv_at hl 0 rfl) ?_
      refine q_callV2 q_E0ok (rest := []) (fun u => [(qm 0, .inr (7, oX7 qm m_images m_newMany m_at_20 m_open u.1 m_use m_traced m_speaks m_isParted)), (qm 12, .inl (cI, 124, .inl u.2))]) ⟨hx, hb, hml, hown, hts⟩ (fun u hu => c7_lay l D cI qm m_images m_newMany m_at_20 m_open m_steps m_use m_traced m_speaks m_isParted m_step ((1 : Int32)) t1 u hu) (cwV 2 hts gX7_one_X7_lay rfl rfl rfl hdX7_lay (rmq_ok (by omega) (Nat.le_of_ble_eq_true rfl))) hK hEv hA hP hD hS [0, 2] (by decide) rfl (fun _ => rfl) (va_recv hK hP (ci := 7) (q0 := 0) rfl rfl) rfl rfl hl.1 (Nat.le_of_ble_eq_true rfl) ⟨Nat.zero_le _, Nat.zero_le _⟩ h dX7_one_26 (fun m_steps_26 m_step_26 H locs h hP hD hS => ?_)
      have hP : va_P D vwCl [(qm 0, .inr (7, oX7 qm m_images m_newMany m_at_20 m_open m_steps_26 m_use m_traced m_speaks m_isParted)), (qm 1, .inl (cI, 3974, .inl m_s)), (qm 12, .inl (cI, 124, .inl m_step_26))] H := hP
      have hD : va_D A [(qm 0, .inr (7, oX7 qm m_images m_newMany m_at_20 m_open m_steps_26 m_use m_traced m_speaks m_isParted)), (qm 1, .inl (cI, 3974, .inl m_s)), (qm 12, .inl (cI, 124, .inl m_step_26))] := hD
      refine lv_iconst (v := (1 : Int32)) hx hb dX7_one_29 (by decide) ?_
      obtain ⟨hz, h⟩ := q_bz_of h
      exact hret ((1 : Int32), m_at_20, m_open, m_steps_26, m_step_26) _ _ _ _ (q_nz hz) h hP hD hS dX7_one_30
