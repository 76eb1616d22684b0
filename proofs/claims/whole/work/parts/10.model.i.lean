set_option maxHeartbeats 4000000 in
set_option maxRecDepth 100000 in
theorem c7_line (l : Launch) (D : va_G) (cI : ClassId) (qm : Nat → Nat) (m_images m_newMany m_at m_open m_steps m_use m_traced m_speaks m_isParted : Int32) (m_s m_errors : Nat → Int32) (x1 : Int32) (x2 : Int32) (x3 : Int32) (n : Nat) (u : Int32 × (Nat → Int32)) (h : f7_line n x1 x2 x3 m_s m_errors = some u) : q_RW q_E0 l yX7_line wsX7_line (rmq (2)) D cI [.ref (qm 0), .int x1, .int x2, .int x3] [(qm 0, .inr (7, oX7 qm m_images m_newMany m_at m_open m_steps m_use m_traced m_speaks m_isParted)), (qm 1, .inl (cI, 3974, .inl m_s)), (qm 4, .inl (cI, 7, .inl m_errors))] [(qm 0, .inr (7, oX7 qm m_images m_newMany m_at m_open m_steps m_use m_traced m_speaks m_isParted)), (qm 1, .inl (cI, 3974, .inl m_s)), (qm 4, .inl (cI, 7, .inl u.2))] u.1 := by
  refine q_startW (fun u : Int32 × (Nat → Int32) => [(qm 0, .inr (7, oX7 qm m_images m_newMany m_at m_open m_steps m_use m_traced m_speaks m_isParted)), (qm 1, .inl (cI, 3974, .inl m_s)), (qm 4, .inl (cI, 7, .inl u.2))]) (fun u => u.1) (cc := cX7_line) (maxL := 6) (ty := .int) (own := RX7) (by decide) rfl rfl (Nat.le_of_ble_eq_true rfl) rfl (fun p e s m args below meth c Q A hx hb hml hown hts hK hEv hA hret hP hD hS ls hl => ?_)
  have in7 : ∀ w ∈ wsX70, w ∈ wsX7_line := fun w h => List.mem_cons_of_mem _ (List.mem_append_right _ (h))
  have J99 : ∀ (s0 : Int32) (m_errors : (Nat → Int32)) (H : Heap) (locs : List Loc) (ls : Array Slot), lv_has ls 6 [(0, .ref (qm 0))] → va_P D vwCl [(qm 0, .inr (7, oX7 qm m_images m_newMany m_at m_open m_steps m_use m_traced m_speaks m_isParted)), (qm 1, .inl (cI, 3974, .inl m_s)), (qm 4, .inl (cI, 7, .inl m_errors))] H → va_D A [(qm 0, .inr (7, oX7 qm m_images m_newMany m_at m_open m_steps m_use m_traced m_speaks m_isParted)), (qm 1, .inl (cI, 3974, .inl m_s)), (qm 4, .inl (cI, 7, .inl m_errors))] → va_S A s.heap H locs → f7_line_99 n m_s s0 m_errors = some u → W p l e (rmq (2)) s m args below meth c H locs 0 0 Q (F0 m 99 ls [.int s0]) := by
    intro s0 m_errors H locs ls hl hP hD hS h
    unfold f7_line_99 at h
    exact hret (s0, m_errors) _ _ _ _ (vp_nar_int _) h hP hD hS dX7_line_99
  have J41 : ∀ (kk41 : Nat) (x1 : Int32) (x2 : Int32) (x3 : Int32) (x4 : Int32) (x5 : Int32) (m_errors : (Nat → Int32)) (H : Heap) (locs : List Loc) (ls : Array Slot), lv_has ls 6 [(0, .ref (qm 0)), (1, .int x1), (2, .int x2), (3, .int x3), (4, .int x4), (5, .int x5)] → va_P D vwCl [(qm 0, .inr (7, oX7 qm m_images m_newMany m_at m_open m_steps m_use m_traced m_speaks m_isParted)), (qm 1, .inl (cI, 3974, .inl m_s)), (qm 4, .inl (cI, 7, .inl m_errors))] H → va_D A [(qm 0, .inr (7, oX7 qm m_images m_newMany m_at m_open m_steps m_use m_traced m_speaks m_isParted)), (qm 1, .inl (cI, 3974, .inl m_s)), (qm 4, .inl (cI, 7, .inl m_errors))] → va_S A s.heap H locs → f7_line_41 n m_s kk41 x1 x2 x3 x4 x5 m_errors = some u → W p l e (rmq (2)) s m args below meth c H locs 0 0 Q (F0 m 41 ls []) := by
    intro kk41
    induction kk41 with
    | zero => intro x1 x2 x3 x4 x5 m_errors H locs ls hl hP hD hS h; exact nomatch (show (none : Option (Int32 × (Nat → Int32))) = some u from h)
    | succ kk41 ih41 =>
      have J74 : ∀ (x1 : Int32) (x2 : Int32) (x3 : Int32) (x5 : Int32) (s0 : Int32) (m_errors : (Nat → Int32)) (H : Heap) (locs : List Loc) (ls : Array Slot), lv_has ls 6 [(0, .ref (qm 0)), (1, .int x1), (2, .int x2), (3, .int x3), (5, .int x5)] → va_P D vwCl [(qm 0, .inr (7, oX7 qm m_images m_newMany m_at m_open m_steps m_use m_traced m_speaks m_isParted)), (qm 1, .inl (cI, 3974, .inl m_s)), (qm 4, .inl (cI, 7, .inl m_errors))] H → va_D A [(qm 0, .inr (7, oX7 qm m_images m_newMany m_at m_open m_steps m_use m_traced m_speaks m_isParted)), (qm 1, .inl (cI, 3974, .inl m_s)), (qm 4, .inl (cI, 7, .inl m_errors))] → va_S A s.heap H locs → f7_line_74 n m_s (f7_line_41 n m_s kk41) x1 x2 x3 x5 s0 m_errors = some u → W p l e (rmq (2)) s m args below meth c H locs 0 0 Q (F0 m 74 ls [.int s0]) := by
        intro x1 x2 x3 x5 s0 m_errors H locs ls hl hP hD hS h
        unfold f7_line_74 at h
        refine lv_istore (lv' := [(4, .int s0), (0, .ref (qm 0)), (1, .int x1), (2, .int x2), (3, .int x3), (5, .int x5)]) hx hb dX7_line_74 hl (by decide) rfl (fun ls hl => ?_)
        refine q_iinc (fun v => [(5, .int v), (4, .int s0), (0, .ref (qm 0)), (1, .int x1), (2, .int x2), (3, .int x3)]) hx hb h dX7_line_76 (by decide) hl (k := 5) rfl (by decide) (fun _ => rfl) (fun x5_76 ls h hl => ?_)
        refine lv_goto (tgt := 41) hx hb dX7_line_79 (by decide) ?_
        exact ih41 x1 x2 x3 s0 x5_76 m_errors _ _ _ (lv_sub hl [2, 3, 4, 5, 1, 0] rfl) hP hD hS h
      intro x1 x2 x3 x4 x5 m_errors H locs ls hl hP hD hS h
      rw [f7_line_41.eq_2] at h
      refine lv_iload hx hb dX7_line_41 (lv_at hl 5 rfl) ?_
      refine lv_bipush (v := (101 : Int32)) hx hb dX7_line_43 (by decide) ?_
      refine q_cgt hx hb 82 h dX7_line_45 (by decide) (fun h => ?_) (fun h => ?_)
      · refine lv_iload_n hx hb dX7_line_82 rfl (lv_at hl 3 rfl) ?_
        refine q_ifne hx hb 91 h dX7_line_83 (by decide) (fun h => ?_) (fun h => ?_)
        · refine lv_aload_n hx hb dX7_line_91 rfl (lv_at hl 0 rfl) ?_
          refine lv_iload hx hb dX7_line_92 (lv_at hl 4 rfl) ?_
          refine lv_iload_n hx hb dX7_line_94 rfl (lv_at hl 1 rfl) ?_
          refine lv_iload_n hx hb dX7_line_95 rfl (lv_at hl 2 rfl) ?_
          refine q_callR q_E0ok (rest := []) ⟨hx, hb, hml, hown, hts⟩ (fun r hr => c7_costs l D cI qm m_images m_newMany m_at m_open m_steps m_use m_traced m_speaks m_isParted m_s x4 x1 x2 n r hr) (cwV 3 hts gX7_line_X7_costs rfl rfl rfl hdX7_costs (rmq_ok (Nat.le_of_ble_eq_true rfl) (Nat.le_of_ble_eq_true rfl))) hK hP hEv hS [0, 1] rfl (va_recv hK hP (ci := 7) (q0 := 0) rfl rfl) rfl rfl hl.1 (Nat.le_of_ble_eq_true rfl) ⟨Nat.zero_le _, Nat.zero_le _⟩ h dX7_line_96 (fun t96 h => ?_)
          exact J99 t96 m_errors _ _ _ (lv_sub hl [0] rfl) hP hD hS h
        · refine lv_iload hx hb dX7_line_86 (lv_at hl 4 rfl) ?_
          refine lv_goto (tgt := 99) hx hb dX7_line_88 (by decide) ?_
          exact J99 x4 m_errors _ _ _ (lv_sub hl [0] rfl) hP hD hS h
      · refine lv_aload_n hx hb dX7_line_48 rfl (lv_at hl 0 rfl) ?_
        refine lv_iload hx hb dX7_line_49 (lv_at hl 5 rfl) ?_
        refine lv_iload_n hx hb dX7_line_51 rfl (lv_at hl 1 rfl) ?_
        refine lv_iload_n hx hb dX7_line_52 rfl (lv_at hl 2 rfl) ?_
        refine q_callR q_E0ok (rest := []) ⟨hx, hb, hml, hown, hts⟩ (fun r hr => c7_costs l D cI qm m_images m_newMany m_at m_open m_steps m_use m_traced m_speaks m_isParted m_s x5 x1 x2 n r hr) (cwV 3 hts gX7_line_X7_costs rfl rfl rfl hdX7_costs (rmq_ok (Nat.le_of_ble_eq_true rfl) (Nat.le_of_ble_eq_true rfl))) hK hP hEv hS [0, 1] rfl (va_recv hK hP (ci := 7) (q0 := 0) rfl rfl) rfl rfl hl.1 (Nat.le_of_ble_eq_true rfl) ⟨Nat.zero_le _, Nat.zero_le _⟩ h dX7_line_53 (fun t53 h => ?_)
        refine lv_aload_n hx hb dX7_line_56 rfl (lv_at hl 0 rfl) ?_
        refine lv_iload hx hb dX7_line_57 (lv_at hl 4 rfl) ?_
        refine lv_iload_n hx hb dX7_line_59 rfl (lv_at hl 1 rfl) ?_
        refine lv_iload_n hx hb dX7_line_60 rfl (lv_at hl 2 rfl) ?_
        refine q_callR q_E0ok (rest := [.int t53]) ⟨hx, hb, hml, hown, hts⟩ (fun r hr => c7_costs l D cI qm m_images m_newMany m_at m_open m_steps m_use m_traced m_speaks m_isParted m_s x4 x1 x2 n r hr) (cwV 3 hts gX7_line_X7_costs rfl rfl rfl hdX7_costs (rmq_ok (Nat.le_of_ble_eq_true rfl) (Nat.le_of_ble_eq_true rfl))) hK hP hEv hS [0, 1] rfl (va_recv hK hP (ci := 7) (q0 := 0) rfl rfl) rfl rfl hl.1 (Nat.le_of_ble_eq_true rfl) ⟨Nat.zero_le _, Nat.zero_le _⟩ h dX7_line_61 (fun t61 h => ?_)
        refine q_cgt hx hb 72 h dX7_line_64 (by decide) (fun h => ?_) (fun h => ?_)
        · refine lv_iload hx hb dX7_line_72 (lv_at hl 4 rfl) ?_
          exact J74 x1 x2 x3 x5 x4 m_errors _ _ _ (lv_sub hl [0, 1, 2, 3, 5] rfl) hP hD hS h
        · refine lv_iload hx hb dX7_line_67 (lv_at hl 5 rfl) ?_
          refine lv_goto (tgt := 74) hx hb dX7_line_69 (by decide) ?_
          exact J74 x1 x2 x3 x5 x5 m_errors _ _ _ (lv_sub hl [0, 1, 2, 3, 5] rfl) hP hD hS h
  have J29 : ∀ (m_errors : (Nat → Int32)) (H : Heap) (locs : List Loc) (ls : Array Slot), lv_has ls 6 [(0, .ref (qm 0))] → va_P D vwCl [(qm 0, .inr (7, oX7 qm m_images m_newMany m_at m_open m_steps m_use m_traced m_speaks m_isParted)), (qm 1, .inl (cI, 3974, .inl m_s)), (qm 4, .inl (cI, 7, .inl m_errors))] H → va_D A [(qm 0, .inr (7, oX7 qm m_images m_newMany m_at m_open m_steps m_use m_traced m_speaks m_isParted)), (qm 1, .inl (cI, 3974, .inl m_s)), (qm 4, .inl (cI, 7, .inl m_errors))] → va_S A s.heap H locs → f7_line_29 n m_s m_errors = some u → W p l e (rmq (2)) s m args below meth c H locs 0 0 Q (F0 m 29 ls []) := by
    intro m_errors H locs ls hl hP hD hS h
    unfold f7_line_29 at h
    refine lv_aload_n hx hb dX7_line_29 rfl (lv_at hl 0 rfl) ?_
    refine lv_iconst (v := (1 : Int32)) hx hb dX7_line_30 (by decide) ?_
    refine q_callW2 q_E0ok (rest := []) (fun u => [(qm 0, .inr (7, oX7 qm m_images m_newMany m_at m_open m_steps m_use m_traced m_speaks m_isParted)), (qm 4, .inl (cI, 7, .inl u.2))]) (fun u => u.1) ⟨hx, hb, hml, hown, hts⟩ (fun u hu => c7_error l D cI qm m_images m_newMany m_at m_open m_steps m_use m_traced m_speaks m_isParted m_errors ((1 : Int32)) u hu) (cwV 1 hts gX7_line_X7_error rfl rfl rfl hdX7_error (rmq_ok (Nat.le_of_ble_eq_true rfl) (Nat.le_of_ble_eq_true rfl))) hK hEv hA hP hD hS [0, 2] (by decide) rfl (fun _ => rfl) (va_recv hK hP (ci := 7) (q0 := 0) rfl rfl) rfl rfl hl.1 (Nat.le_of_ble_eq_true rfl) ⟨Nat.zero_le _, Nat.zero_le _⟩ h dX7_line_31 (fun t31 m_errors_31 H locs h hP hD hS => ?_)
    have hP : va_P D vwCl [(qm 0, .inr (7, oX7 qm m_images m_newMany m_at m_open m_steps m_use m_traced m_speaks m_isParted)), (qm 1, .inl (cI, 3974, .inl m_s)), (qm 4, .inl (cI, 7, .inl m_errors_31))] H := hP
    have hD : va_D A [(qm 0, .inr (7, oX7 qm m_images m_newMany m_at m_open m_steps m_use m_traced m_speaks m_isParted)), (qm 1, .inl (cI, 3974, .inl m_s)), (qm 4, .inl (cI, 7, .inl m_errors_31))] := hD
    exact hret (t31, m_errors_31) _ _ _ _ (vp_nar_int _) h hP hD hS dX7_line_34
  unfold f7_line at h
  refine lv_iload_n hx hb dX7_line_0 rfl (lv_at hl 1 rfl) ?_
  refine lv_iconst (v := (0 : Int32)) hx hb dX7_line_1 (by decide) ?_
  refine lv_bipush (v := (99 : Int32)) hx hb dX7_line_2 (by decide) ?_
  refine q_callRS q_E0ok (rest := []) ⟨hx, hb, hml, hown, hts⟩ (fun r hr => c7_in l D cI x1 ((0 : Int32)) ((99 : Int32)) r hr) (va_cwS 3 hts gX7_line_X7_in rfl rfl rfl hdX7_in (rmq_ok (Nat.le_of_ble_eq_true rfl) (Nat.le_of_ble_eq_true rfl))) hK hP hEv hS [] rfl rfl rfl hl.1 (Nat.le_of_ble_eq_true rfl) ⟨Nat.zero_le _, Nat.zero_le _⟩ h dX7_line_4 (fun t4 h => ?_)
  refine q_ifeq hx hb 29 h dX7_line_7 (by decide) (fun h => ?_) (fun h => ?_)
  · exact J29 m_errors _ _ _ (lv_sub hl [0] rfl) hP hD hS h
  · refine lv_iload_n hx hb dX7_line_10 rfl (lv_at hl 2 rfl) ?_
    refine lv_iconst (v := (0 : Int32)) hx hb dX7_line_11 (by decide) ?_
    refine lv_bipush (v := (99 : Int32)) hx hb dX7_line_12 (by decide) ?_
    refine q_callRS q_E0ok (rest := []) ⟨hx, hb, hml, hown, hts⟩ (fun r hr => c7_in l D cI x2 ((0 : Int32)) ((99 : Int32)) r hr) (va_cwS 3 hts gX7_line_X7_in rfl rfl rfl hdX7_in (rmq_ok (Nat.le_of_ble_eq_true rfl) (Nat.le_of_ble_eq_true rfl))) hK hP hEv hS [] rfl rfl rfl hl.1 (Nat.le_of_ble_eq_true rfl) ⟨Nat.zero_le _, Nat.zero_le _⟩ h dX7_line_14 (fun t14 h => ?_)
    refine q_ifeq hx hb 29 h dX7_line_17 (by decide) (fun h => ?_) (fun h => ?_)
    · exact J29 m_errors _ _ _ (lv_sub hl [0] rfl) hP hD hS h
    · refine lv_iload_n hx hb dX7_line_20 rfl (lv_at hl 3 rfl) ?_
      refine lv_iconst (v := (0 : Int32)) hx hb dX7_line_21 (by decide) ?_
      refine lv_iconst (v := (1 : Int32)) hx hb dX7_line_22 (by decide) ?_
      refine q_callRS q_E0ok (rest := []) ⟨hx, hb, hml, hown, hts⟩ (fun r hr => c7_in l D cI x3 ((0 : Int32)) ((1 : Int32)) r hr) (va_cwS 3 hts gX7_line_X7_in rfl rfl rfl hdX7_in (rmq_ok (Nat.le_of_ble_eq_true rfl) (Nat.le_of_ble_eq_true rfl))) hK hP hEv hS [] rfl rfl rfl hl.1 (Nat.le_of_ble_eq_true rfl) ⟨Nat.zero_le _, Nat.zero_le _⟩ h dX7_line_23 (fun t23 h => ?_)
      refine q_ifne hx hb 35 h dX7_line_26 (by decide) (fun h => ?_) (fun h => ?_)
      · refine lv_iconst (v := (0 : Int32)) hx hb dX7_line_35 (by decide) ?_
        refine lv_istore (lv' := [(4, .int ((0 : Int32))), (0, .ref (qm 0)), (1, .int x1), (2, .int x2), (3, .int x3)]) hx hb dX7_line_36 hl (by decide) rfl (fun ls hl => ?_)
        refine lv_iconst (v := (1 : Int32)) hx hb dX7_line_38 (by decide) ?_
        refine lv_istore (lv' := [(5, .int ((1 : Int32))), (4, .int ((0 : Int32))), (0, .ref (qm 0)), (1, .int x1), (2, .int x2), (3, .int x3)]) hx hb dX7_line_39 hl (by decide) rfl (fun ls hl => ?_)
        exact J41 n x1 x2 x3 ((0 : Int32)) ((1 : Int32)) m_errors _ _ _ (lv_sub hl [2, 3, 4, 5, 1, 0] rfl) hP hD hS h
      · exact J29 m_errors _ _ _ (lv_sub hl [0] rfl) hP hD hS h
set_option maxHeartbeats 4000000 in
set_option maxRecDepth 100000 in
theorem c7_worth (l : Launch) (D : va_G) (cI : ClassId) (qm : Nat → Nat) (m_images m_newMany m_at m_open m_steps m_use m_traced m_speaks m_isParted : Int32) (m_s m_errors : Nat → Int32) (x1 : Int32) (x2 : Int32) (u : Int32 × (Nat → Int32) × (Nat → Int32)) (h : f7_worth x1 x2 m_s m_errors = some u) : q_RW q_E0 l yX7_worth wsX7_worth (rmq (1)) D cI [.ref (qm 0), .int x1, .int x2] [(qm 0, .inr (7, oX7 qm m_images m_newMany m_at m_open m_steps m_use m_traced m_speaks m_isParted)), (qm 1, .inl (cI, 3974, .inl m_s)), (qm 4, .inl (cI, 7, .inl m_errors))] [(qm 0, .inr (7, oX7 qm m_images m_newMany m_at m_open m_steps m_use m_traced m_speaks m_isParted)), (qm 1, .inl (cI, 3974, .inl u.2.1)), (qm 4, .inl (cI, 7, .inl u.2.2))] u.1 := by
  refine q_startW (fun u : Int32 × (Nat → Int32) × (Nat → Int32) => [(qm 0, .inr (7, oX7 qm m_images m_newMany m_at m_open m_steps m_use m_traced m_speaks m_isParted)), (qm 1, .inl (cI, 3974, .inl u.2.1)), (qm 4, .inl (cI, 7, .inl u.2.2))]) (fun u => u.1) (cc := cX7_worth) (maxL := 4) (ty := .int) (own := RX7) (by decide) rfl rfl (Nat.le_of_ble_eq_true rfl) rfl (fun p e s m args below meth c Q A hx hb hml hown hts hK hEv hA hret hP hD hS ls hl => ?_)
  have in7 : ∀ w ∈ wsX70, w ∈ wsX7_worth := fun w h => List.mem_cons_of_mem _ (List.mem_append_right _ (h))
  have l7 := hts (.fieldLink RX7 7 "PageWarsModel" "s" "[I") (List.mem_of_getElem? (i := 1) rfl)
  have J21 : ∀ (m_s : (Nat → Int32)) (m_errors : (Nat → Int32)) (H : Heap) (locs : List Loc) (ls : Array Slot), lv_has ls 4 [(0, .ref (qm 0))] → va_P D vwCl [(qm 0, .inr (7, oX7 qm m_images m_newMany m_at m_open m_steps m_use m_traced m_speaks m_isParted)), (qm 1, .inl (cI, 3974, .inl m_s)), (qm 4, .inl (cI, 7, .inl m_errors))] H → va_D A [(qm 0, .inr (7, oX7 qm m_images m_newMany m_at m_open m_steps m_use m_traced m_speaks m_isParted)), (qm 1, .inl (cI, 3974, .inl m_s)), (qm 4, .inl (cI, 7, .inl m_errors))] → va_S A s.heap H locs → f7_worth_21  m_s m_errors = some u → W p l e (rmq (1)) s m args below meth c H locs 0 0 Q (F0 m 21 ls []) := by
    intro m_s m_errors H locs ls hl hP hD hS h
    unfold f7_worth_21 at h
    refine lv_aload_n hx hb dX7_worth_21 rfl (lv_at hl 0 rfl) ?_
    refine lv_iconst (v := (1 : Int32)) hx hb dX7_worth_22 (by decide) ?_
    refine q_callW2 q_E0ok (rest := []) (fun u => [(qm 0, .inr (7, oX7 qm m_images m_newMany m_at m_open m_steps m_use m_traced m_speaks m_isParted)), (qm 4, .inl (cI, 7, .inl u.2))]) (fun u => u.1) ⟨hx, hb, hml, hown, hts⟩ (fun u hu => c7_error l D cI qm m_images m_newMany m_at m_open m_steps m_use m_traced m_speaks m_isParted m_errors ((1 : Int32)) u hu) (cwV 1 hts gX7_worth_X7_error rfl rfl rfl hdX7_error (rmq_ok (Nat.le_of_ble_eq_true rfl) (Nat.le_of_ble_eq_true rfl))) hK hEv hA hP hD hS [0, 2] (by decide) rfl (fun _ => rfl) (va_recv hK hP (ci := 7) (q0 := 0) rfl rfl) rfl rfl hl.1 (Nat.le_of_ble_eq_true rfl) ⟨Nat.zero_le _, Nat.zero_le _⟩ h dX7_worth_23 (fun t23 m_errors_23 H locs h hP hD hS => ?_)
    have hP : va_P D vwCl [(qm 0, .inr (7, oX7 qm m_images m_newMany m_at m_open m_steps m_use m_traced m_speaks m_isParted)), (qm 1, .inl (cI, 3974, .inl m_s)), (qm 4, .inl (cI, 7, .inl m_errors_23))] H := hP
    have hD : va_D A [(qm 0, .inr (7, oX7 qm m_images m_newMany m_at m_open m_steps m_use m_traced m_speaks m_isParted)), (qm 1, .inl (cI, 3974, .inl m_s)), (qm 4, .inl (cI, 7, .inl m_errors_23))] := hD
    exact hret (t23, m_s, m_errors_23) _ _ _ _ (vp_nar_int _) h hP hD hS dX7_worth_26
  unfold f7_worth at h
  refine lv_iload_n hx hb dX7_worth_0 rfl (lv_at hl 1 rfl) ?_
  refine lv_iconst (v := (1 : Int32)) hx hb dX7_worth_1 (by decide) ?_
  refine lv_bipush (v := (60 : Int32)) hx hb dX7_worth_2 (by decide) ?_
  refine q_callRS q_E0ok (rest := []) ⟨hx, hb, hml, hown, hts⟩ (fun r hr => c7_in l D cI x1 ((1 : Int32)) ((60 : Int32)) r hr) (va_cwS 3 hts gX7_worth_X7_in rfl rfl rfl hdX7_in (rmq_ok (Nat.le_of_ble_eq_true rfl) (Nat.le_of_ble_eq_true rfl))) hK hP hEv hS [] rfl rfl rfl hl.1 (Nat.le_of_ble_eq_true rfl) ⟨Nat.zero_le _, Nat.zero_le _⟩ h dX7_worth_4 (fun t4 h => ?_)
  refine q_ifeq hx hb 21 h dX7_worth_7 (by decide) (fun h => ?_) (fun h => ?_)
  · exact J21 m_s m_errors _ _ _ (lv_sub hl [0] rfl) hP hD hS h
  · refine lv_iload_n hx hb dX7_worth_10 rfl (lv_at hl 2 rfl) ?_
    refine lv_bipush (v := (-9 : Int32)) hx hb dX7_worth_11 (by decide) ?_
    refine lv_bipush (v := (9 : Int32)) hx hb dX7_worth_13 (by decide) ?_
    refine q_callRS q_E0ok (rest := []) ⟨hx, hb, hml, hown, hts⟩ (fun r hr => c7_in l D cI x2 ((-9 : Int32)) ((9 : Int32)) r hr) (va_cwS 3 hts gX7_worth_X7_in rfl rfl rfl hdX7_in (rmq_ok (Nat.le_of_ble_eq_true rfl) (Nat.le_of_ble_eq_true rfl))) hK hP hEv hS [] rfl rfl rfl hl.1 (Nat.le_of_ble_eq_true rfl) ⟨Nat.zero_le _, Nat.zero_le _⟩ h dX7_worth_15 (fun t15 h => ?_)
    refine q_ifne hx hb 27 h dX7_worth_18 (by decide) (fun h => ?_) (fun h => ?_)
    · refine lv_aload_n hx hb dX7_worth_27 rfl (lv_at hl 0 rfl) ?_
      refine va_get (D := D) (ci := 7) (v := .ref (qm 1)) (C := RX7) (T := TX7) (N := 24) hx hb hts in7 hown hK hP 0 rfl rfl 0 (by decide) l7 (fun _ h9 => h9) rfl dX7_worth_28 ?_
      refine lv_sipush (v := (2820 : Int32)) hx hb dX7_worth_31 (by decide) ?_
      refine lv_iload_n hx hb dX7_worth_34 rfl (lv_at hl 1 rfl) ?_
      refine lv_iadd hx hb dX7_worth_35 ?_
      refine q_iald hx hb hK hP 1 0 rfl rfl h dX7_worth_36 (fun t36 h => ?_)
      refine lv_istore_n (lv' := [(3, .int t36), (0, .ref (qm 0)), (1, .int x1), (2, .int x2)]) hx hb dX7_worth_37 rfl hl (by decide) rfl (fun ls hl => ?_)
      refine lv_aload_n hx hb dX7_worth_38 rfl (lv_at hl 1 rfl) ?_
      refine va_get (D := D) (ci := 7) (v := .ref (qm 1)) (C := RX7) (T := TX7) (N := 24) hx hb hts in7 hown hK hP 0 rfl rfl 0 (by decide) l7 (fun _ h9 => h9) rfl dX7_worth_39 ?_
      refine lv_sipush (v := (2820 : Int32)) hx hb dX7_worth_42 (by decide) ?_
      refine lv_iload_n hx hb dX7_worth_45 rfl (lv_at hl 2 rfl) ?_
      refine lv_iadd hx hb dX7_worth_46 ?_
      refine lv_iload_n hx hb dX7_worth_47 rfl (lv_at hl 3 rfl) ?_
      refine q_iast hx hb hK hP hD hS 1 0 rfl rfl h dX7_worth_48 (fun m_s_48 H locs h hP hD hS => ?_)
      have hP : va_P D vwCl [(qm 0, .inr (7, oX7 qm m_images m_newMany m_at m_open m_steps m_use m_traced m_speaks m_isParted)), (qm 1, .inl (cI, 3974, .inl m_s_48)), (qm 4, .inl (cI, 7, .inl m_errors))] H := hP
      have hD : va_D A [(qm 0, .inr (7, oX7 qm m_images m_newMany m_at m_open m_steps m_use m_traced m_speaks m_isParted)), (qm 1, .inl (cI, 3974, .inl m_s_48)), (qm 4, .inl (cI, 7, .inl m_errors))] := hD
      refine lv_iload_n hx hb dX7_worth_49 rfl (lv_at hl 0 rfl) ?_
      exact hret (t36, m_s_48, m_errors) _ _ _ _ (vp_nar_int _) h hP hD hS dX7_worth_50
    · exact J21 m_s m_errors _ _ _ (lv_sub hl [0] rfl) hP hD hS h
set_option maxHeartbeats 4000000 in
set_option maxRecDepth 100000 in
theorem c7_valueOf (l : Launch) (D : va_G) (cI : ClassId) (qm : Nat → Nat) (m_images m_newMany m_at m_open m_steps m_use m_traced m_speaks m_isParted : Int32) (m_s : Nat → Int32) (x1 : Int32) (n : Nat) (u : Int32) (h : f7_valueOf n x1 m_s = some u) : q_RO q_E0 l yX7_valueOf wsX7_valueOf (rmq (1)) D cI [.ref (qm 0), .int x1] [(qm 0, .inr (7, oX7 qm m_images m_newMany m_at m_open m_steps m_use m_traced m_speaks m_isParted)), (qm 1, .inl (cI, 3974, .inl m_s))] u := by
  refine q_startR (cc := cX7_valueOf) (maxL := 4) (ty := .int) (own := RX7) (by decide) rfl rfl (Nat.le_of_ble_eq_true rfl) rfl (fun p e s m args below meth c Q hx hb hml hown hts hP hK hEv hret ls hl => ?_)
  have in7 : ∀ w ∈ wsX70, w ∈ wsX7_valueOf := fun w h => List.mem_cons_of_mem _ (List.mem_append_right _ (h))
  have l7 := hts (.fieldLink RX7 7 "PageWarsModel" "s" "[I") (List.mem_of_getElem? (i := 1) rfl)
  have J4 : ∀ (kk4 : Nat) (x1 : Int32) (x2 : Int32) (x3 : Int32) (ls : Array Slot), lv_has ls 4 [(0, .ref (qm 0)), (1, .int x1), (2, .int x2), (3, .int x3)] → f7_valueOf_4 n m_s kk4 x1 x2 x3 = some u → W p l e (rmq (1)) s m args below meth c s.heap [] 0 0 Q (F0 m 4 ls []) := by
    intro kk4
    induction kk4 with
    | zero => intro x1 x2 x3  ls hl h; exact nomatch (show (none : Option (Int32)) = some u from h)
    | succ kk4 ih4 =>
      intro x1 x2 x3  ls hl h
      rw [f7_valueOf_4.eq_2] at h
      refine lv_iload_n hx hb dX7_valueOf_4 rfl (lv_at hl 3 rfl) ?_
      refine lv_aload_n hx hb dX7_valueOf_5 rfl (lv_at hl 0 rfl) ?_
      refine lv_iload_n hx hb dX7_valueOf_6 rfl (lv_at hl 1 rfl) ?_
      refine q_callR q_E0ok (rest := [.int x3]) ⟨hx, hb, hml, hown, hts⟩ (fun r hr => c7_sizeOf l D cI qm m_images m_newMany m_at m_open m_steps m_use m_traced m_speaks m_isParted m_s x1 r hr) (cwV 1 hts gX7_valueOf_X7_sizeOf rfl rfl rfl hdX7_sizeOf (rmq_ok (Nat.le_of_ble_eq_true rfl) (Nat.le_of_ble_eq_true rfl))) hK hP hEv va_S.rf [0, 1] rfl (va_recv hK hP (ci := 7) (q0 := 0) rfl rfl) rfl rfl hl.1 (Nat.le_of_ble_eq_true rfl) ⟨Nat.zero_le _, Nat.zero_le _⟩ h dX7_valueOf_7 (fun t7 h => ?_)
      refine q_cge hx hb 37 h dX7_valueOf_10 (by decide) (fun h => ?_) (fun h => ?_)
      · refine lv_iload_n hx hb dX7_valueOf_37 rfl (lv_at hl 2 rfl) ?_
        exact hret _ _ _ (vp_nar_int _) h dX7_valueOf_38
      · refine lv_iload_n hx hb dX7_valueOf_13 rfl (lv_at hl 2 rfl) ?_
        refine lv_aload_n hx hb dX7_valueOf_14 rfl (lv_at hl 0 rfl) ?_
        refine va_get (D := D) (ci := 7) (v := .ref (qm 1)) (C := RX7) (T := TX7) (N := 24) hx hb hts in7 hown hK hP 0 rfl rfl 0 (by decide) l7 (fun _ h9 => h9) rfl dX7_valueOf_15 ?_
        refine lv_sipush (v := (2820 : Int32)) hx hb dX7_valueOf_18 (by decide) ?_
        refine lv_aload_n hx hb dX7_valueOf_21 rfl (lv_at hl 0 rfl) ?_
        refine lv_iload_n hx hb dX7_valueOf_22 rfl (lv_at hl 1 rfl) ?_
        refine lv_iload_n hx hb dX7_valueOf_23 rfl (lv_at hl 3 rfl) ?_
        refine q_callR q_E0ok (rest := [.int ((2820 : Int32)), .ref (qm 1), .int x2]) ⟨hx, hb, hml, hown, hts⟩ (fun r hr => c7_wordAt l D cI qm m_images m_newMany m_at m_open m_steps m_use m_traced m_speaks m_isParted m_s x1 x3 r hr) (cwV 2 hts gX7_valueOf_X7_wordAt rfl rfl rfl hdX7_wordAt (rmq_ok (Nat.le_of_ble_eq_true rfl) (Nat.le_of_ble_eq_true rfl))) hK hP hEv va_S.rf [0, 1] rfl (va_recv hK hP (ci := 7) (q0 := 0) rfl rfl) rfl rfl hl.1 (Nat.le_of_ble_eq_true rfl) ⟨Nat.zero_le _, Nat.zero_le _⟩ h dX7_valueOf_24 (fun t24 h => ?_)
        refine lv_iadd hx hb dX7_valueOf_27 ?_
        refine q_iald hx hb hK hP 1 0 rfl rfl h dX7_valueOf_28 (fun t28 h => ?_)
        refine lv_iadd hx hb dX7_valueOf_29 ?_
        refine q_let h (fun x2_30 h => ?_)
        refine lv_istore_n (lv' := [(2, .int x2_30), (0, .ref (qm 0)), (1, .int x1), (3, .int x3)]) hx hb dX7_valueOf_30 rfl hl (by decide) rfl (fun ls hl => ?_)
        refine q_iinc (fun v => [(3, .int v), (2, .int x2_30), (0, .ref (qm 0)), (1, .int x1)]) hx hb h dX7_valueOf_31 (by decide) hl (k := 3) rfl (by decide) (fun _ => rfl) (fun x3_31 ls h hl => ?_)
        refine lv_goto (tgt := 4) hx hb dX7_valueOf_34 (by decide) ?_
        exact ih4 x1 x2_30 x3_31 _ (lv_sub hl [2, 3, 1, 0] rfl) h
  unfold f7_valueOf at h
  refine lv_iconst (v := (0 : Int32)) hx hb dX7_valueOf_0 (by decide) ?_
  refine lv_istore_n (lv' := [(2, .int ((0 : Int32))), (0, .ref (qm 0)), (1, .int x1)]) hx hb dX7_valueOf_1 rfl hl (by decide) rfl (fun ls hl => ?_)
  refine lv_iconst (v := (0 : Int32)) hx hb dX7_valueOf_2 (by decide) ?_
  refine lv_istore_n (lv' := [(3, .int ((0 : Int32))), (2, .int ((0 : Int32))), (0, .ref (qm 0)), (1, .int x1)]) hx hb dX7_valueOf_3 rfl hl (by decide) rfl (fun ls hl => ?_)
  exact J4 n x1 ((0 : Int32)) ((0 : Int32)) _ (lv_sub hl [2, 3, 1, 0] rfl) h
set_option maxHeartbeats 4000000 in
set_option maxRecDepth 100000 in
theorem c7_value (l : Launch) (D : va_G) (cI : ClassId) (qm : Nat → Nat) (m_images m_newMany m_at m_open m_steps m_use m_traced m_speaks m_isParted : Int32) (m_s m_errors : Nat → Int32) (x1 : Int32) (n : Nat) (u : Int32 × (Nat → Int32)) (h : f7_value n x1 m_s m_errors = some u) : q_RW q_E0 l yX7_value wsX7_value (rmq (2)) D cI [.ref (qm 0), .int x1] [(qm 0, .inr (7, oX7 qm m_images m_newMany m_at m_open m_steps m_use m_traced m_speaks m_isParted)), (qm 1, .inl (cI, 3974, .inl m_s)), (qm 4, .inl (cI, 7, .inl m_errors))] [(qm 0, .inr (7, oX7 qm m_images m_newMany m_at m_open m_steps m_use m_traced m_speaks m_isParted)), (qm 1, .inl (cI, 3974, .inl m_s)), (qm 4, .inl (cI, 7, .inl u.2))] u.1 := by
  refine q_startW (fun u : Int32 × (Nat → Int32) => [(qm 0, .inr (7, oX7 qm m_images m_newMany m_at m_open m_steps m_use m_traced m_speaks m_isParted)), (qm 1, .inl (cI, 3974, .inl m_s)), (qm 4, .inl (cI, 7, .inl u.2))]) (fun u => u.1) (cc := cX7_value) (maxL := 2) (ty := .int) (own := RX7) (by decide) rfl rfl (Nat.le_of_ble_eq_true rfl) rfl (fun p e s m args below meth c Q A hx hb hml hown hts hK hEv hA hret hP hD hS ls hl => ?_)
  have in7 : ∀ w ∈ wsX70, w ∈ wsX7_value := fun w h => List.mem_cons_of_mem _ (List.mem_append_right _ (h))
  have J21 : ∀ (s0 : Int32) (m_errors : (Nat → Int32)) (H : Heap) (locs : List Loc) (ls : Array Slot), lv_has ls 2 [(0, .ref (qm 0))] → va_P D vwCl [(qm 0, .inr (7, oX7 qm m_images m_newMany m_at m_open m_steps m_use m_traced m_speaks m_isParted)), (qm 1, .inl (cI, 3974, .inl m_s)), (qm 4, .inl (cI, 7, .inl m_errors))] H → va_D A [(qm 0, .inr (7, oX7 qm m_images m_newMany m_at m_open m_steps m_use m_traced m_speaks m_isParted)), (qm 1, .inl (cI, 3974, .inl m_s)), (qm 4, .inl (cI, 7, .inl m_errors))] → va_S A s.heap H locs → f7_value_21 n m_s s0 m_errors = some u → W p l e (rmq (2)) s m args below meth c H locs 0 0 Q (F0 m 21 ls [.int s0]) := by
    intro s0 m_errors H locs ls hl hP hD hS h
    unfold f7_value_21 at h
    exact hret (s0, m_errors) _ _ _ _ (vp_nar_int _) h hP hD hS dX7_value_21
  unfold f7_value at h
  refine lv_aload_n hx hb dX7_value_0 rfl (lv_at hl 0 rfl) ?_
  refine lv_iload_n hx hb dX7_value_1 rfl (lv_at hl 1 rfl) ?_
  refine q_callR q_E0ok (rest := []) ⟨hx, hb, hml, hown, hts⟩ (fun r hr => c7_isVersion l D cI qm m_images m_newMany m_at m_open m_steps m_use m_traced m_speaks m_isParted m_s x1 r hr) (cwV 1 hts gX7_value_X7_isVersion rfl rfl rfl hdX7_isVersion (rmq_ok (Nat.le_of_ble_eq_true rfl) (Nat.le_of_ble_eq_true rfl))) hK hP hEv hS [0, 1] rfl (va_recv hK hP (ci := 7) (q0 := 0) rfl rfl) rfl rfl hl.1 (Nat.le_of_ble_eq_true rfl) ⟨Nat.zero_le _, Nat.zero_le _⟩ h dX7_value_2 (fun t2 h => ?_)
  refine q_ifeq hx hb 16 h dX7_value_5 (by decide) (fun h => ?_) (fun h => ?_)
  · refine lv_aload_n hx hb dX7_value_16 rfl (lv_at hl 0 rfl) ?_
    refine lv_iconst (v := (1 : Int32)) hx hb dX7_value_17 (by decide) ?_
    refine q_callW2 q_E0ok (rest := []) (fun u => [(qm 0, .inr (7, oX7 qm m_images m_newMany m_at m_open m_steps m_use m_traced m_speaks m_isParted)), (qm 4, .inl (cI, 7, .inl u.2))]) (fun u => u.1) ⟨hx, hb, hml, hown, hts⟩ (fun u hu => c7_error l D cI qm m_images m_newMany m_at m_open m_steps m_use m_traced m_speaks m_isParted m_errors ((1 : Int32)) u hu) (cwV 1 hts gX7_value_X7_error rfl rfl rfl hdX7_error (rmq_ok (Nat.le_of_ble_eq_true rfl) (Nat.le_of_ble_eq_true rfl))) hK hEv hA hP hD hS [0, 2] (by decide) rfl (fun _ => rfl) (va_recv hK hP (ci := 7) (q0 := 0) rfl rfl) rfl rfl hl.1 (Nat.le_of_ble_eq_true rfl) ⟨Nat.zero_le _, Nat.zero_le _⟩ h dX7_value_18 (fun t18 m_errors_18 H locs h hP hD hS => ?_)
    have hP : va_P D vwCl [(qm 0, .inr (7, oX7 qm m_images m_newMany m_at m_open m_steps m_use m_traced m_speaks m_isParted)), (qm 1, .inl (cI, 3974, .inl m_s)), (qm 4, .inl (cI, 7, .inl m_errors_18))] H := hP
    have hD : va_D A [(qm 0, .inr (7, oX7 qm m_images m_newMany m_at m_open m_steps m_use m_traced m_speaks m_isParted)), (qm 1, .inl (cI, 3974, .inl m_s)), (qm 4, .inl (cI, 7, .inl m_errors_18))] := hD
    exact J21 t18 m_errors_18 _ _ _ (lv_sub hl [0] rfl) hP hD hS h
  · refine lv_aload_n hx hb dX7_value_8 rfl (lv_at hl 0 rfl) ?_
    refine lv_iload_n hx hb dX7_value_9 rfl (lv_at hl 1 rfl) ?_
    refine q_callR q_E0ok (rest := []) ⟨hx, hb, hml, hown, hts⟩ (fun r hr => c7_valueOf l D cI qm m_images m_newMany m_at m_open m_steps m_use m_traced m_speaks m_isParted m_s x1 n r hr) (cwV 1 hts gX7_value_X7_valueOf rfl rfl rfl hdX7_valueOf (rmq_ok (Nat.le_of_ble_eq_true rfl) (Nat.le_of_ble_eq_true rfl))) hK hP hEv hS [0, 1] rfl (va_recv hK hP (ci := 7) (q0 := 0) rfl rfl) rfl rfl hl.1 (Nat.le_of_ble_eq_true rfl) ⟨Nat.zero_le _, Nat.zero_le _⟩ h dX7_value_10 (fun t10 h => ?_)
    refine lv_goto (tgt := 21) hx hb dX7_value_13 (by decide) ?_
    exact J21 t10 m_errors _ _ _ (lv_sub hl [0] rfl) hP hD hS h
set_option maxHeartbeats 4000000 in
set_option maxRecDepth 100000 in
theorem c7_best (l : Launch) (D : va_G) (cI : ClassId) (qm : Nat → Nat) (m_images m_newMany m_at m_open m_steps m_use m_traced m_speaks m_isParted : Int32) (m_s : Nat → Int32) (n : Nat) (u : Int32) (h : f7_best n m_s = some u) : q_RO q_E0 l yX7_best wsX7_best (rmq (2)) D cI [.ref (qm 0)] [(qm 0, .inr (7, oX7 qm m_images m_newMany m_at m_open m_steps m_use m_traced m_speaks m_isParted)), (qm 1, .inl (cI, 3974, .inl m_s))] u := by
  refine q_startR (cc := cX7_best) (maxL := 3) (ty := .int) (own := RX7) (by decide) rfl rfl (Nat.le_of_ble_eq_true rfl) rfl (fun p e s m args below meth c Q hx hb hml hown hts hP hK hEv hret ls hl => ?_)
  have in7 : ∀ w ∈ wsX70, w ∈ wsX7_best := fun w h => List.mem_cons_of_mem _ (List.mem_append_right _ (h))
  have l7 := hts (.fieldLink RX7 7 "PageWarsModel" "s" "[I") (List.mem_of_getElem? (i := 1) rfl)
  have J4 : ∀ (kk4 : Nat) (x1 : Int32) (x2 : Int32) (ls : Array Slot), lv_has ls 3 [(0, .ref (qm 0)), (1, .int x1), (2, .int x2)] → f7_best_4 n m_s kk4 x1 x2 = some u → W p l e (rmq (2)) s m args below meth c s.heap [] 0 0 Q (F0 m 4 ls []) := by
    intro kk4
    induction kk4 with
    | zero => intro x1 x2  ls hl h; exact nomatch (show (none : Option (Int32)) = some u from h)
    | succ kk4 ih4 =>
      have J32 : ∀ (x2 : Int32) (s0 : Int32) (ls : Array Slot), lv_has ls 3 [(0, .ref (qm 0)), (2, .int x2)] → f7_best_32 n m_s (f7_best_4 n m_s kk4) x2 s0 = some u → W p l e (rmq (2)) s m args below meth c s.heap [] 0 0 Q (F0 m 32 ls [.int s0]) := by
        intro x2 s0  ls hl h
        unfold f7_best_32 at h
        refine lv_istore_n (lv' := [(1, .int s0), (0, .ref (qm 0)), (2, .int x2)]) hx hb dX7_best_32 rfl hl (by decide) rfl (fun ls hl => ?_)
        refine q_iinc (fun v => [(2, .int v), (1, .int s0), (0, .ref (qm 0))]) hx hb h dX7_best_33 (by decide) hl (k := 2) rfl (by decide) (fun _ => rfl) (fun x2_33 ls h hl => ?_)
        refine lv_goto (tgt := 4) hx hb dX7_best_36 (by decide) ?_
        exact ih4 s0 x2_33 _ (lv_sub hl [2, 1, 0] rfl) h
      intro x1 x2  ls hl h
      rw [f7_best_4.eq_2] at h
      refine lv_iload_n hx hb dX7_best_4 rfl (lv_at hl 2 rfl) ?_
      refine lv_aload_n hx hb dX7_best_5 rfl (lv_at hl 0 rfl) ?_
      refine va_get (D := D) (ci := 7) (v := .ref (qm 1)) (C := RX7) (T := TX7) (N := 24) hx hb hts in7 hown hK hP 0 rfl rfl 0 (by decide) l7 (fun _ h9 => h9) rfl dX7_best_6 ?_
      refine lv_iconst (v := (1 : Int32)) hx hb dX7_best_9 (by decide) ?_
      refine q_iald hx hb hK hP 1 0 rfl rfl h dX7_best_10 (fun t10 h => ?_)
      refine q_cgt hx hb 39 h dX7_best_11 (by decide) (fun h => ?_) (fun h => ?_)
      · refine lv_iload_n hx hb dX7_best_39 rfl (lv_at hl 1 rfl) ?_
        exact hret _ _ _ (vp_nar_int _) h dX7_best_40
      · refine lv_aload_n hx hb dX7_best_14 rfl (lv_at hl 0 rfl) ?_
        refine lv_iload_n hx hb dX7_best_15 rfl (lv_at hl 2 rfl) ?_
        refine q_callR q_E0ok (rest := []) ⟨hx, hb, hml, hown, hts⟩ (fun r hr => c7_valueOf l D cI qm m_images m_newMany m_at m_open m_steps m_use m_traced m_speaks m_isParted m_s x2 n r hr) (cwV 1 hts gX7_best_X7_valueOf rfl rfl rfl hdX7_valueOf (rmq_ok (Nat.le_of_ble_eq_true rfl) (Nat.le_of_ble_eq_true rfl))) hK hP hEv va_S.rf [0, 1] rfl (va_recv hK hP (ci := 7) (q0 := 0) rfl rfl) rfl rfl hl.1 (Nat.le_of_ble_eq_true rfl) ⟨Nat.zero_le _, Nat.zero_le _⟩ h dX7_best_16 (fun t16 h => ?_)
        refine lv_aload_n hx hb dX7_best_19 rfl (lv_at hl 0 rfl) ?_
        refine lv_iload_n hx hb dX7_best_20 rfl (lv_at hl 1 rfl) ?_
        refine q_callR q_E0ok (rest := [.int t16]) ⟨hx, hb, hml, hown, hts⟩ (fun r hr => c7_valueOf l D cI qm m_images m_newMany m_at m_open m_steps m_use m_traced m_speaks m_isParted m_s x1 n r hr) (cwV 1 hts gX7_best_X7_valueOf rfl rfl rfl hdX7_valueOf (rmq_ok (Nat.le_of_ble_eq_true rfl) (Nat.le_of_ble_eq_true rfl))) hK hP hEv va_S.rf [0, 1] rfl (va_recv hK hP (ci := 7) (q0 := 0) rfl rfl) rfl rfl hl.1 (Nat.le_of_ble_eq_true rfl) ⟨Nat.zero_le _, Nat.zero_le _⟩ h dX7_best_21 (fun t21 h => ?_)
        refine q_cle hx hb 31 h dX7_best_24 (by decide) (fun h => ?_) (fun h => ?_)
        · refine lv_iload_n hx hb dX7_best_31 rfl (lv_at hl 1 rfl) ?_
          exact J32 x2 x1 _ (lv_sub hl [0, 2] rfl) h
        · refine lv_iload_n hx hb dX7_best_27 rfl (lv_at hl 2 rfl) ?_
          refine lv_goto (tgt := 32) hx hb dX7_best_28 (by decide) ?_
          exact J32 x2 x2 _ (lv_sub hl [0, 2] rfl) h
  unfold f7_best at h
  refine lv_iconst (v := (0 : Int32)) hx hb dX7_best_0 (by decide) ?_
  refine lv_istore_n (lv' := [(1, .int ((0 : Int32))), (0, .ref (qm 0))]) hx hb dX7_best_1 rfl hl (by decide) rfl (fun ls hl => ?_)
  refine lv_iconst (v := (1 : Int32)) hx hb dX7_best_2 (by decide) ?_
  refine lv_istore_n (lv' := [(2, .int ((1 : Int32))), (1, .int ((0 : Int32))), (0, .ref (qm 0))]) hx hb dX7_best_3 rfl hl (by decide) rfl (fun ls hl => ?_)
  exact J4 n ((0 : Int32)) ((1 : Int32)) _ (lv_sub hl [2, 1, 0] rfl) h
set_option maxHeartbeats 4000000 in
set_option maxRecDepth 100000 in
theorem c7_got (l : Launch) (D : va_G) (cI : ClassId) (qm : Nat → Nat) (m_images m_newMany m_at m_open m_steps m_use m_traced m_speaks m_isParted : Int32) (m_s m_errors : Nat → Int32) (x1 : Int32) (x2 : Int32) (n : Nat) (u : Int32 × (Nat → Int32)) (h : f7_got n x1 x2 m_s m_errors = some u) : q_RW q_E0 l yX7_got wsX7_got (rmq (2)) D cI [.ref (qm 0), .int x1, .int x2] [(qm 0, .inr (7, oX7 qm m_images m_newMany m_at m_open m_steps m_use m_traced m_speaks m_isParted)), (qm 1, .inl (cI, 3974, .inl m_s)), (qm 4, .inl (cI, 7, .inl m_errors))] [(qm 0, .inr (7, oX7 qm m_images m_newMany m_at m_open m_steps m_use m_traced m_speaks m_isParted)), (qm 1, .inl (cI, 3974, .inl m_s)), (qm 4, .inl (cI, 7, .inl u.2))] u.1 := by
  refine q_startW (fun u : Int32 × (Nat → Int32) => [(qm 0, .inr (7, oX7 qm m_images m_newMany m_at m_open m_steps m_use m_traced m_speaks m_isParted)), (qm 1, .inl (cI, 3974, .inl m_s)), (qm 4, .inl (cI, 7, .inl u.2))]) (fun u => u.1) (cc := cX7_got) (maxL := 5) (ty := .int) (own := RX7) (by decide) rfl rfl (Nat.le_of_ble_eq_true rfl) rfl (fun p e s m args below meth c Q A hx hb hml hown hts hK hEv hA hret hP hD hS ls hl => ?_)
  have in7 : ∀ w ∈ wsX70, w ∈ wsX7_got := fun w h => List.mem_cons_of_mem _ (List.mem_append_right _ (h))
  have l7 := hts (.fieldLink RX7 7 "PageWarsModel" "s" "[I") (List.mem_of_getElem? (i := 1) rfl)
  have J20 : ∀ (kk20 : Nat) (x1 : Int32) (x2 : Int32) (x3 : Int32) (x4 : Int32) (m_errors : (Nat → Int32)) (H : Heap) (locs : List Loc) (ls : Array Slot), lv_has ls 5 [(0, .ref (qm 0)), (1, .int x1), (2, .int x2), (3, .int x3), (4, .int x4)] → va_P D vwCl [(qm 0, .inr (7, oX7 qm m_images m_newMany m_at m_open m_steps m_use m_traced m_speaks m_isParted)), (qm 1, .inl (cI, 3974, .inl m_s)), (qm 4, .inl (cI, 7, .inl m_errors))] H → va_D A [(qm 0, .inr (7, oX7 qm m_images m_newMany m_at m_open m_steps m_use m_traced m_speaks m_isParted)), (qm 1, .inl (cI, 3974, .inl m_s)), (qm 4, .inl (cI, 7, .inl m_errors))] → va_S A s.heap H locs → f7_got_20 n m_s kk20 x1 x2 x3 x4 m_errors = some u → W p l e (rmq (2)) s m args below meth c H locs 0 0 Q (F0 m 20 ls []) := by
    intro kk20
    induction kk20 with
    | zero => intro x1 x2 x3 x4 m_errors H locs ls hl hP hD hS h; exact nomatch (show (none : Option (Int32 × (Nat → Int32))) = some u from h)
    | succ kk20 ih20 =>
      intro x1 x2 x3 x4 m_errors H locs ls hl hP hD hS h
      rw [f7_got_20.eq_2] at h
      refine lv_iload hx hb dX7_got_20 (lv_at hl 4 rfl) ?_
      refine lv_aload_n hx hb dX7_got_22 rfl (lv_at hl 0 rfl) ?_
      refine va_get (D := D) (ci := 7) (v := .ref (qm 1)) (C := RX7) (T := TX7) (N := 24) hx hb hts in7 hown hK hP 0 rfl rfl 0 (by decide) l7 (fun _ h9 => h9) rfl dX7_got_23 ?_
      refine lv_iconst (v := (1 : Int32)) hx hb dX7_got_26 (by decide) ?_
      refine q_iald hx hb hK hP 1 0 rfl rfl h dX7_got_27 (fun t27 h => ?_)
      refine q_cgt hx hb 55 h dX7_got_28 (by decide) (fun h => ?_) (fun h => ?_)
      · refine lv_iload_n hx hb dX7_got_55 rfl (lv_at hl 3 rfl) ?_
        exact hret (x3, m_errors) _ _ _ _ (vp_nar_int _) h hP hD hS dX7_got_56
      · refine lv_iload_n hx hb dX7_got_31 rfl (lv_at hl 3 rfl) ?_
        refine lv_aload_n hx hb dX7_got_32 rfl (lv_at hl 0 rfl) ?_
        refine lv_iload hx hb dX7_got_33 (lv_at hl 4 rfl) ?_
        refine q_callR q_E0ok (rest := [.int x3]) ⟨hx, hb, hml, hown, hts⟩ (fun r hr => c7_valueOf l D cI qm m_images m_newMany m_at m_open m_steps m_use m_traced m_speaks m_isParted m_s x4 n r hr) (cwV 1 hts gX7_got_X7_valueOf rfl rfl rfl hdX7_valueOf (rmq_ok (Nat.le_of_ble_eq_true rfl) (Nat.le_of_ble_eq_true rfl))) hK hP hEv hS [0, 1] rfl (va_recv hK hP (ci := 7) (q0 := 0) rfl rfl) rfl rfl hl.1 (Nat.le_of_ble_eq_true rfl) ⟨Nat.zero_le _, Nat.zero_le _⟩ h dX7_got_35 (fun t35 h => ?_)
        refine lv_aload_n hx hb dX7_got_38 rfl (lv_at hl 0 rfl) ?_
        refine lv_iload hx hb dX7_got_39 (lv_at hl 4 rfl) ?_
        refine lv_iload_n hx hb dX7_got_41 rfl (lv_at hl 1 rfl) ?_
        refine lv_iload_n hx hb dX7_got_42 rfl (lv_at hl 2 rfl) ?_
        refine q_callR q_E0ok (rest := [.int t35, .int x3]) ⟨hx, hb, hml, hown, hts⟩ (fun r hr => c7_within l D cI qm m_images m_newMany m_at m_open m_steps m_use m_traced m_speaks m_isParted m_s x4 x1 x2 r hr) (cwV 3 hts gX7_got_X7_within rfl rfl rfl hdX7_within (rmq_ok (Nat.le_of_ble_eq_true rfl) (Nat.le_of_ble_eq_true rfl))) hK hP hEv hS [0, 1] rfl (va_recv hK hP (ci := 7) (q0 := 0) rfl rfl) rfl rfl hl.1 (Nat.le_of_ble_eq_true rfl) ⟨Nat.zero_le _, Nat.zero_le _⟩ h dX7_got_43 (fun t43 h => ?_)
        refine lv_imul hx hb dX7_got_46 ?_
        refine lv_iadd hx hb dX7_got_47 ?_
        refine q_let h (fun x3_48 h => ?_)
        refine lv_istore_n (lv' := [(3, .int x3_48), (0, .ref (qm 0)), (1, .int x1), (2, .int x2), (4, .int x4)]) hx hb dX7_got_48 rfl hl (by decide) rfl (fun ls hl => ?_)
        refine q_iinc (fun v => [(4, .int v), (3, .int x3_48), (0, .ref (qm 0)), (1, .int x1), (2, .int x2)]) hx hb h dX7_got_49 (by decide) hl (k := 4) rfl (by decide) (fun _ => rfl) (fun x4_49 ls h hl => ?_)
        refine lv_goto (tgt := 20) hx hb dX7_got_52 (by decide) ?_
        exact ih20 x1 x2 x3_48 x4_49 m_errors _ _ _ (lv_sub hl [2, 3, 4, 1, 0] rfl) hP hD hS h
  unfold f7_got at h
  refine lv_aload_n hx hb dX7_got_0 rfl (lv_at hl 0 rfl) ?_
  refine lv_iload_n hx hb dX7_got_1 rfl (lv_at hl 1 rfl) ?_
  refine lv_iload_n hx hb dX7_got_2 rfl (lv_at hl 2 rfl) ?_
  refine q_callR q_E0ok (rest := []) ⟨hx, hb, hml, hown, hts⟩ (fun r hr => c7_areMinutes l D cI qm m_images m_newMany m_at m_open m_steps m_use m_traced m_speaks m_isParted m_s x1 x2 r hr) (cwV 2 hts gX7_got_X7_areMinutes rfl rfl rfl hdX7_areMinutes (rmq_ok (Nat.le_of_ble_eq_true rfl) (Nat.le_of_ble_eq_true rfl))) hK hP hEv hS [0, 1] rfl (va_recv hK hP (ci := 7) (q0 := 0) rfl rfl) rfl rfl hl.1 (Nat.le_of_ble_eq_true rfl) ⟨Nat.zero_le _, Nat.zero_le _⟩ h dX7_got_3 (fun t3 h => ?_)
  refine q_ifne hx hb 15 h dX7_got_6 (by decide) (fun h => ?_) (fun h => ?_)
  · refine lv_iconst (v := (0 : Int32)) hx hb dX7_got_15 (by decide) ?_
    refine lv_istore_n (lv' := [(3, .int ((0 : Int32))), (0, .ref (qm 0)), (1, .int x1), (2, .int x2)]) hx hb dX7_got_16 rfl hl (by decide) rfl (fun ls hl => ?_)
    refine lv_iconst (v := (0 : Int32)) hx hb dX7_got_17 (by decide) ?_
    refine lv_istore (lv' := [(4, .int ((0 : Int32))), (3, .int ((0 : Int32))), (0, .ref (qm 0)), (1, .int x1), (2, .int x2)]) hx hb dX7_got_18 hl (by decide) rfl (fun ls hl => ?_)
    exact J20 n x1 x2 ((0 : Int32)) ((0 : Int32)) m_errors _ _ _ (lv_sub hl [2, 3, 4, 1, 0] rfl) hP hD hS h
  · refine lv_aload_n hx hb dX7_got_9 rfl (lv_at hl 0 rfl) ?_
    refine lv_iconst (v := (1 : Int32)) hx hb dX7_got_10 (by decide) ?_
    refine q_callW2 q_E0ok (rest := []) (fun u => [(qm 0, .inr (7, oX7 qm m_images m_newMany m_at m_open m_steps m_use m_traced m_speaks m_isParted)), (qm 4, .inl (cI, 7, .inl u.2))]) (fun u => u.1) ⟨hx, hb, hml, hown, hts⟩ (fun u hu => c7_error l D cI qm m_images m_newMany m_at m_open m_steps m_use m_traced m_speaks m_isParted m_errors ((1 : Int32)) u hu) (cwV 1 hts gX7_got_X7_error rfl rfl rfl hdX7_error (rmq_ok (Nat.le_of_ble_eq_true rfl) (Nat.le_of_ble_eq_true rfl))) hK hEv hA hP hD hS [0, 2] (by decide) rfl (fun _ => rfl) (va_recv hK hP (ci := 7) (q0 := 0) rfl rfl) rfl rfl hl.1 (Nat.le_of_ble_eq_true rfl) ⟨Nat.zero_le _, Nat.zero_le _⟩ h dX7_got_11 (fun t11 m_errors_11 H locs h hP hD hS => ?_)
    have hP : va_P D vwCl [(qm 0, .inr (7, oX7 qm m_images m_newMany m_at m_open m_steps m_use m_traced m_speaks m_isParted)), (qm 1, .inl (cI, 3974, .inl m_s)), (qm 4, .inl (cI, 7, .inl m_errors_11))] H := hP
    have hD : va_D A [(qm 0, .inr (7, oX7 qm m_images m_newMany m_at m_open m_steps m_use m_traced m_speaks m_isParted)), (qm 1, .inl (cI, 3974, .inl m_s)), (qm 4, .inl (cI, 7, .inl m_errors_11))] := hD
    exact hret (t11, m_errors_11) _ _ _ _ (vp_nar_int _) h hP hD hS dX7_got_14
set_option maxHeartbeats 4000000 in
set_option maxRecDepth 100000 in
theorem c7_begins (l : Launch) (D : va_G) (cI : ClassId) (qm : Nat → Nat) (m_images m_newMany m_at m_open m_steps m_use m_traced m_speaks m_isParted : Int32) (m_trace : Nat → Int32) (x1 : Int32) (u : Int32 × (Nat → Int32)) (h : f7_begins x1 m_traced m_trace = some u) : q_RV q_E0 l yX7_begins wsX7_begins (rmq (0)) D cI [.ref (qm 0), .int x1] [(qm 0, .inr (7, oX7 qm m_images m_newMany m_at m_open m_steps m_use m_traced m_speaks m_isParted)), (qm 17, .inl (cI, 30, .inl m_trace))] [(qm 0, .inr (7, oX7 qm m_images m_newMany m_at m_open m_steps m_use u.1 m_speaks m_isParted)), (qm 17, .inl (cI, 30, .inl u.2))] := by
  refine q_startV (fun u : Int32 × (Nat → Int32) => [(qm 0, .inr (7, oX7 qm m_images m_newMany m_at m_open m_steps m_use u.1 m_speaks m_isParted)), (qm 17, .inl (cI, 30, .inl u.2))]) (cc := cX7_begins) (maxL := 2) (own := RX7) (by decide) rfl rfl (Nat.le_of_ble_eq_true rfl) rfl (fun p e s m args below meth c Q A hx hb hml hown hts hK hEv hA hret hP hD hS ls hl => ?_)
  have in7 : ∀ w ∈ wsX70, w ∈ wsX7_begins := fun w h => List.mem_cons_of_mem _ (List.mem_append_right _ (h))
  have l40 := hts (.fieldLink RX7 40 "PageWarsModel" "trace" "[I") (List.mem_of_getElem? (i := 2) rfl)
  have l246 := hts (.fieldLink RX7 246 "PageWarsModel" "traced" "I") (List.mem_of_getElem? (i := 1) rfl)
  have J29 : ∀ (m_traced : Int32) (m_trace : (Nat → Int32)) (H : Heap) (locs : List Loc) (ls : Array Slot), lv_has ls 2 [(0, .ref (qm 0))] → va_P D vwCl [(qm 0, .inr (7, oX7 qm m_images m_newMany m_at m_open m_steps m_use m_traced m_speaks m_isParted)), (qm 17, .inl (cI, 30, .inl m_trace))] H → va_D A [(qm 0, .inr (7, oX7 qm m_images m_newMany m_at m_open m_steps m_use m_traced m_speaks m_isParted)), (qm 17, .inl (cI, 30, .inl m_trace))] → va_S A s.heap H locs → f7_begins_29  m_traced m_trace = some u → W p l e (rmq (0)) s m args below meth c H locs 0 0 Q (F0 m 29 ls []) := by
    intro m_traced m_trace H locs ls hl hP hD hS h
    unfold f7_begins_29 at h
    exact hret (m_traced, m_trace) _ _ _ _ h hP hD hS dX7_begins_29
  unfold f7_begins at h
  refine lv_aload_n hx hb dX7_begins_0 rfl (lv_at hl 0 rfl) ?_
  refine va_get (D := D) (ci := 7) (v := .int m_traced) (C := RX7) (T := TX7) (N := 24) hx hb hts in7 hown hK hP 0 rfl rfl 17 (by decide) l246 (fun _ h9 => h9) rfl dX7_begins_1 ?_
  refine lv_bipush (v := (30 : Int32)) hx hb dX7_begins_4 (by decide) ?_
  refine q_cge hx hb 29 h dX7_begins_6 (by decide) (fun h => ?_) (fun h => ?_)
  · exact J29 m_traced m_trace _ _ _ (lv_sub hl [0] rfl) hP hD hS h
  · refine lv_aload_n hx hb dX7_begins_9 rfl (lv_at hl 0 rfl) ?_
    refine va_get (D := D) (ci := 7) (v := .ref (qm 17)) (C := RX7) (T := TX7) (N := 24) hx hb hts in7 hown hK hP 0 rfl rfl 16 (by decide) l40 (fun _ h9 => h9) rfl dX7_begins_10 ?_
    refine lv_aload_n hx hb dX7_begins_13 rfl (lv_at hl 0 rfl) ?_
    refine va_get (D := D) (ci := 7) (v := .int m_traced) (C := RX7) (T := TX7) (N := 24) hx hb hts in7 hown hK hP 0 rfl rfl 17 (by decide) l246 (fun _ h9 => h9) rfl dX7_begins_14 ?_
    refine lv_iload_n hx hb dX7_begins_17 rfl (lv_at hl 1 rfl) ?_
    refine q_iast hx hb hK hP hD hS 1 0 rfl rfl h dX7_begins_18 (fun m_trace_18 H locs h hP hD hS => ?_)
    have hP : va_P D vwCl [(qm 0, .inr (7, oX7 qm m_images m_newMany m_at m_open m_steps m_use m_traced m_speaks m_isParted)), (qm 17, .inl (cI, 30, .inl m_trace_18))] H := hP
    have hD : va_D A [(qm 0, .inr (7, oX7 qm m_images m_newMany m_at m_open m_steps m_use m_traced m_speaks m_isParted)), (qm 17, .inl (cI, 30, .inl m_trace_18))] := hD
    refine lv_aload_n hx hb dX7_begins_19 rfl (lv_at hl 0 rfl) ?_
    refine lv_dup hx hb dX7_begins_20 rfl ?_
    refine va_get (D := D) (ci := 7) (v := .int m_traced) (C := RX7) (T := TX7) (N := 24) hx hb hts in7 hown hK hP 0 rfl rfl 17 (by decide) l246 (fun _ h9 => h9) rfl dX7_begins_21 ?_
    refine lv_iconst (v := (1 : Int32)) hx hb dX7_begins_24 (by decide) ?_
    refine lv_iadd hx hb dX7_begins_25 ?_
    refine q_let h (fun m_traced_26 h => ?_)
    refine va_put (D := D) (ci := 7) (v := .int m_traced_26) (ty := .int) (C := RX7) (T := TX7) (N := 24) hx hb hts in7 tyX7 tyX7_ok nmX7 hown hK hP hD hS 0 rfl rfl 17 (by decide) l246 (fun _ h9 => h9) rfl (by decide +kernel) rfl rfl (Nat.le_of_ble_eq_true rfl) dX7_begins_26 (fun H locs hP hD hS => ?_)
    have hP : va_P D vwCl [(qm 0, .inr (7, oX7 qm m_images m_newMany m_at m_open m_steps m_use m_traced_26 m_speaks m_isParted)), (qm 17, .inl (cI, 30, .inl m_trace_18))] H := hP
    have hD : va_D A [(qm 0, .inr (7, oX7 qm m_images m_newMany m_at m_open m_steps m_use m_traced_26 m_speaks m_isParted)), (qm 17, .inl (cI, 30, .inl m_trace_18))] := hD
    exact J29 m_traced_26 m_trace_18 _ _ _ (lv_sub hl [0] rfl) hP hD hS h
set_option maxHeartbeats 4000000 in
set_option maxRecDepth 100000 in
theorem c7_above (l : Launch) (D : va_G) (cI : ClassId) (x0 : Int32) (u : Int32) (h : f7_above x0 = some u) : q_RO q_E0 l yX7_above wsX7_above (rmq (0)) D cI [.int x0] [] u := by
  refine q_startR (cc := cX7_above) (maxL := 1) (ty := .int) (own := RX7) (by decide) rfl rfl (Nat.le_of_ble_eq_true rfl) rfl (fun p e s m args below meth c Q hx hb hml hown hts hP hK hEv hret ls hl => ?_)
  have J24 : ∀ (s0 : Int32) (ls : Array Slot), lv_has ls 1 [] → f7_above_24  s0 = some u → W p l e (rmq (0)) s m args below meth c s.heap [] 0 0 Q (F0 m 24 ls [.int s0]) := by
    intro s0  ls hl h
    unfold f7_above_24 at h
    exact hret _ _ _ (vp_nar_int _) h dX7_above_24
  have J10 : ∀  (ls : Array Slot), lv_has ls 1 [] → f7_above_10   = some u → W p l e (rmq (0)) s m args below meth c s.heap [] 0 0 Q (F0 m 10 ls []) := by
    intro   ls hl h
    unfold f7_above_10 at h
    refine lv_iconst (v := (1 : Int32)) hx hb dX7_above_10 (by decide) ?_
    refine lv_goto (tgt := 24) hx hb dX7_above_11 (by decide) ?_
    exact J24 ((1 : Int32)) _ (lv_sub hl [] rfl) h
  unfold f7_above at h
  refine lv_iload_n hx hb dX7_above_0 rfl (lv_at hl 0 rfl) ?_
  refine lv_iconst (v := (4 : Int32)) hx hb dX7_above_1 (by decide) ?_
  refine q_ceq hx hb 10 h dX7_above_2 (by decide) (fun h => ?_) (fun h => ?_)
  · exact J10  _ (lv_sub hl [] rfl) h
  · refine lv_iload_n hx hb dX7_above_5 rfl (lv_at hl 0 rfl) ?_
    refine lv_iconst (v := (5 : Int32)) hx hb dX7_above_6 (by decide) ?_
    refine q_cne hx hb 14 h dX7_above_7 (by decide) (fun h => ?_) (fun h => ?_)
    · refine lv_iload_n hx hb dX7_above_14 rfl (lv_at hl 0 rfl) ?_
      refine lv_iconst (v := (3 : Int32)) hx hb dX7_above_15 (by decide) ?_
      refine q_cne hx hb 23 h dX7_above_16 (by decide) (fun h => ?_) (fun h => ?_)
      · refine lv_iconst (v := (0 : Int32)) hx hb dX7_above_23 (by decide) ?_
        exact J24 ((0 : Int32)) _ (lv_sub hl [] rfl) h
      · refine lv_iconst (v := (2 : Int32)) hx hb dX7_above_19 (by decide) ?_
        refine lv_goto (tgt := 24) hx hb dX7_above_20 (by decide) ?_
        exact J24 ((2 : Int32)) _ (lv_sub hl [] rfl) h
    · exact J10  _ (lv_sub hl [] rfl) h
set_option maxHeartbeats 4000000 in
set_option maxRecDepth 100000 in
theorem c7_kindNow (l : Launch) (D : va_G) (cI : ClassId) (qm : Nat → Nat) (m_images m_newMany m_at m_open m_steps m_use m_traced m_speaks m_isParted : Int32) (m_s : Nat → Int32) (u : Int32) (h : f7_kindNow m_speaks m_s = some u) : q_RO q_E0 l yX7_kindNow wsX7_kindNow (rmq (1)) D cI [.ref (qm 0)] [(qm 0, .inr (7, oX7 qm m_images m_newMany m_at m_open m_steps m_use m_traced m_speaks m_isParted)), (qm 1, .inl (cI, 3974, .inl m_s))] u := by
  refine q_startR (cc := cX7_kindNow) (maxL := 1) (ty := .int) (own := RX7) (by decide) rfl rfl (Nat.le_of_ble_eq_true rfl) rfl (fun p e s m args below meth c Q hx hb hml hown hts hP hK hEv hret ls hl => ?_)
  have in7 : ∀ w ∈ wsX70, w ∈ wsX7_kindNow := fun w h => List.mem_cons_of_mem _ (List.mem_append_right _ (h))
  have l249 := hts (.fieldLink RX7 249 "PageWarsModel" "speaks" "I") (List.mem_of_getElem? (i := 1) rfl)
  unfold f7_kindNow at h
  refine lv_aload_n hx hb dX7_kindNow_0 rfl (lv_at hl 0 rfl) ?_
  refine lv_aload_n hx hb dX7_kindNow_1 rfl (lv_at hl 0 rfl) ?_
  refine va_get (D := D) (ci := 7) (v := .int m_speaks) (C := RX7) (T := TX7) (N := 24) hx hb hts in7 hown hK hP 0 rfl rfl 18 (by decide) l249 (fun _ h9 => h9) rfl dX7_kindNow_2 ?_
  refine lv_iconst (v := (0 : Int32)) hx hb dX7_kindNow_5 (by decide) ?_
  refine q_callR q_E0ok (rest := []) ⟨hx, hb, hml, hown, hts⟩ (fun r hr => c7_actIs1 l D cI qm m_images m_newMany m_at m_open m_steps m_use m_traced m_speaks m_isParted m_s m_speaks ((0 : Int32)) r hr) (cwV 2 hts gX7_kindNow_X7_actIs1 rfl rfl rfl hdX7_actIs1 (rmq_ok (Nat.le_of_ble_eq_true rfl) (Nat.le_of_ble_eq_true rfl))) hK hP hEv va_S.rf [0, 1] rfl (va_recv hK hP (ci := 7) (q0 := 0) rfl rfl) rfl rfl hl.1 (Nat.le_of_ble_eq_true rfl) ⟨Nat.zero_le _, Nat.zero_le _⟩ h dX7_kindNow_6 (fun t6 h => ?_)
  exact hret _ _ _ (vp_nar_int _) h dX7_kindNow_9
set_option maxHeartbeats 4000000 in
set_option maxRecDepth 100000 in
theorem c7_writerNow (l : Launch) (D : va_G) (cI : ClassId) (qm : Nat → Nat) (m_images m_newMany m_at m_open m_steps m_use m_traced m_speaks m_isParted : Int32) (m_s : Nat → Int32) (u : Int32) (h : f7_writerNow m_speaks m_s = some u) : q_RO q_E0 l yX7_writerNow wsX7_writerNow (rmq (1)) D cI [.ref (qm 0)] [(qm 0, .inr (7, oX7 qm m_images m_newMany m_at m_open m_steps m_use m_traced m_speaks m_isParted)), (qm 1, .inl (cI, 3974, .inl m_s))] u := by
  refine q_startR (cc := cX7_writerNow) (maxL := 1) (ty := .int) (own := RX7) (by decide) rfl rfl (Nat.le_of_ble_eq_true rfl) rfl (fun p e s m args below meth c Q hx hb hml hown hts hP hK hEv hret ls hl => ?_)
  have in7 : ∀ w ∈ wsX70, w ∈ wsX7_writerNow := fun w h => List.mem_cons_of_mem _ (List.mem_append_right _ (h))
  have l249 := hts (.fieldLink RX7 249 "PageWarsModel" "speaks" "I") (List.mem_of_getElem? (i := 1) rfl)
  unfold f7_writerNow at h
  refine lv_aload_n hx hb dX7_writerNow_0 rfl (lv_at hl 0 rfl) ?_
  refine lv_aload_n hx hb dX7_writerNow_1 rfl (lv_at hl 0 rfl) ?_
  refine va_get (D := D) (ci := 7) (v := .int m_speaks) (C := RX7) (T := TX7) (N := 24) hx hb hts in7 hown hK hP 0 rfl rfl 18 (by decide) l249 (fun _ h9 => h9) rfl dX7_writerNow_2 ?_
  refine lv_iconst (v := (1 : Int32)) hx hb dX7_writerNow_5 (by decide) ?_
  refine q_callR q_E0ok (rest := []) ⟨hx, hb, hml, hown, hts⟩ (fun r hr => c7_actIs1 l D cI qm m_images m_newMany m_at m_open m_steps m_use m_traced m_speaks m_isParted m_s m_speaks ((1 : Int32)) r hr) (cwV 2 hts gX7_writerNow_X7_actIs1 rfl rfl rfl hdX7_actIs1 (rmq_ok (Nat.le_of_ble_eq_true rfl) (Nat.le_of_ble_eq_true rfl))) hK hP hEv va_S.rf [0, 1] rfl (va_recv hK hP (ci := 7) (q0 := 0) rfl rfl) rfl rfl hl.1 (Nat.le_of_ble_eq_true rfl) ⟨Nat.zero_le _, Nat.zero_le _⟩ h dX7_writerNow_6 (fun t6 h => ?_)
  exact hret _ _ _ (vp_nar_int _) h dX7_writerNow_9
set_option maxHeartbeats 4000000 in
set_option maxRecDepth 100000 in
theorem c7_does (l : Launch) (D : va_G) (cI : ClassId) (qm : Nat → Nat) : ∀ (d : Nat) (m_images m_newMany m_at m_open m_steps m_use m_traced m_speaks m_isParted : Int32) (m_s m_trace : Nat → Int32) (x1 : Int32) (x2 : Int32) (u : Int32 × Int32 × (Nat → Int32)), f7_does d x1 x2 m_traced m_speaks m_s m_trace = some u → q_RW q_E0 l yX7_does wsX7_does (rmq (d + 2)) D cI [.ref (qm 0), .int x1, .int x2] [(qm 0, .inr (7, oX7 qm m_images m_newMany m_at m_open m_steps m_use m_traced m_speaks m_isParted)), (qm 1, .inl (cI, 3974, .inl m_s)), (qm 17, .inl (cI, 30, .inl m_trace))] [(qm 0, .inr (7, oX7 qm m_images m_newMany m_at m_open m_steps m_use u.2.1 m_speaks m_isParted)), (qm 1, .inl (cI, 3974, .inl m_s)), (qm 17, .inl (cI, 30, .inl u.2.2))] u.1 := by
  intro d
  induction d with
  | zero => intro m_images m_newMany m_at m_open m_steps m_use m_traced m_speaks m_isParted m_s m_trace x1 x2 u h; exact nomatch (show (none : Option (Int32 × Int32 × (Nat → Int32))) = some u from h)
  | succ d ih =>
    intro m_images m_newMany m_at m_open m_steps m_use m_traced m_speaks m_isParted m_s m_trace x1 x2 u h
    refine q_startW (fun u : Int32 × Int32 × (Nat → Int32) => [(qm 0, .inr (7, oX7 qm m_images m_newMany m_at m_open m_steps m_use u.2.1 m_speaks m_isParted)), (qm 1, .inl (cI, 3974, .inl m_s)), (qm 17, .inl (cI, 30, .inl u.2.2))]) (fun u => u.1) (cc := cX7_does) (maxL := 3) (ty := .int) (own := RX7) (by decide) rfl rfl (Nat.le_of_ble_eq_true rfl) rfl (fun p e s m args below meth c Q A hx hb hml hown hts hK hEv hA hret hP hD hS ls hl => ?_)
    have in7 : ∀ w ∈ wsX70, w ∈ wsX7_does := fun w h => List.mem_cons_of_mem _ (List.mem_append_right _ (h))
    have J101 : ∀ (x1 : Int32) (x2 : Int32) (m_traced : Int32) (m_trace : (Nat → Int32)) (H : Heap) (locs : List Loc) (ls : Array Slot), lv_has ls 3 [(0, .ref (qm 0)), (1, .int x1), (2, .int x2)] → va_P D vwCl [(qm 0, .inr (7, oX7 qm m_images m_newMany m_at m_open m_steps m_use m_traced m_speaks m_isParted)), (qm 1, .inl (cI, 3974, .inl m_s)), (qm 17, .inl (cI, 30, .inl m_trace))] H → va_D A [(qm 0, .inr (7, oX7 qm m_images m_newMany m_at m_open m_steps m_use m_traced m_speaks m_isParted)), (qm 1, .inl (cI, 3974, .inl m_s)), (qm 17, .inl (cI, 30, .inl m_trace))] → va_S A s.heap H locs → f7_does_101 (f7_does d) m_speaks m_s x1 x2 m_traced m_trace = some u → W p l e (rmq (d + 1 + 2)) s m args below meth c H locs 0 0 Q (F0 m 101 ls []) := by
      intro x1 x2 m_traced m_trace H locs ls hl hP hD hS h
      unfold f7_does_101 at h
      refine lv_aload_n hx hb dX7_does_101 rfl (lv_at hl 0 rfl) ?_
      refine lv_iload_n hx hb dX7_does_102 rfl (lv_at hl 1 rfl) ?_
      refine q_callRS q_E0ok (rest := [.ref (qm 0)]) ⟨hx, hb, hml, hown, hts⟩ (fun r hr => c7_above l D cI x1 r hr) (va_cwS 1 hts gX7_does_X7_above rfl rfl rfl hdX7_above (rmq_ok (by omega) (Nat.le_of_ble_eq_true rfl))) hK hP hEv hS [] rfl rfl rfl hl.1 (Nat.le_of_ble_eq_true rfl) ⟨Nat.zero_le _, Nat.zero_le _⟩ h dX7_does_103 (fun t103 h => ?_)
      refine lv_iload_n hx hb dX7_does_106 rfl (lv_at hl 2 rfl) ?_
      refine q_callW3 q_E0ok (rest := []) (fun u => [(qm 0, .inr (7, oX7 qm m_images m_newMany m_at m_open m_steps m_use u.2.1 m_speaks m_isParted)), (qm 1, .inl (cI, 3974, .inl m_s)), (qm 17, .inl (cI, 30, .inl u.2.2))]) (fun u => u.1) ⟨hx, hb, hml, hown, hts⟩ (fun u hu => ih m_images m_newMany m_at m_open m_steps m_use m_traced m_speaks m_isParted m_s m_trace t103 x2 u hu) (cwV 2 hts gX7_does_X7_does rfl rfl rfl hdX7_does (rmq_ok (by omega) (Nat.le_of_ble_eq_true rfl))) hK hEv hA hP hD hS [0, 1, 2] (by decide) rfl (fun _ => rfl) (va_recv hK hP (ci := 7) (q0 := 0) rfl rfl) rfl rfl hl.1 (Nat.le_of_ble_eq_true rfl) ⟨Nat.zero_le _, Nat.zero_le _⟩ h dX7_does_107 (fun t107 m_traced_107 m_trace_107 H locs h hP hD hS => ?_)
      have hP : va_P D vwCl [(qm 0, .inr (7, oX7 qm m_images m_newMany m_at m_open m_steps m_use m_traced_107 m_speaks m_isParted)), (qm 1, .inl (cI, 3974, .inl m_s)), (qm 17, .inl (cI, 30, .inl m_trace_107))] H := hP
      have hD : va_D A [(qm 0, .inr (7, oX7 qm m_images m_newMany m_at m_open m_steps m_use m_traced_107 m_speaks m_isParted)), (qm 1, .inl (cI, 3974, .inl m_s)), (qm 17, .inl (cI, 30, .inl m_trace_107))] := hD
      exact hret (t107, m_traced_107, m_trace_107) _ _ _ _ (vp_nar_int _) h hP hD hS dX7_does_110
    rw [f7_does.eq_2] at h
    refine lv_iload_n hx hb dX7_does_0 rfl (lv_at hl 1 rfl) ?_
    rcases Decidable.em (x1 = (0 : Int32)) with w0 | w0
    · have h := q_t h w0
      refine lv_tableIn hx hb dX7_does_1 (off := 43) (tgt := 44) (by rw [w0]; decide) (by rw [w0]; decide) (by rw [w0]; rfl) (by decide) ?_
      refine lv_aload_n hx hb dX7_does_44 rfl (lv_at hl 0 rfl) ?_
      refine lv_bipush (v := (10 : Int32)) hx hb dX7_does_45 (by decide) ?_
      refine q_callV2 q_E0ok (rest := []) (fun u => [(qm 0, .inr (7, oX7 qm m_images m_newMany m_at m_open m_steps m_use u.1 m_speaks m_isParted)), (qm 17, .inl (cI, 30, .inl u.2))]) ⟨hx, hb, hml, hown, hts⟩ (fun u hu => c7_begins l D cI qm m_images m_newMany m_at m_open m_steps m_use m_traced m_speaks m_isParted m_trace ((10 : Int32)) u hu) (cwV 1 hts gX7_does_X7_begins rfl rfl rfl hdX7_begins (rmq_ok (by omega) (Nat.le_of_ble_eq_true rfl))) hK hEv hA hP hD hS [0, 2] (by decide) rfl (fun _ => rfl) (va_recv hK hP (ci := 7) (q0 := 0) rfl rfl) rfl rfl hl.1 (Nat.le_of_ble_eq_true rfl) ⟨Nat.zero_le _, Nat.zero_le _⟩ h dX7_does_47 (fun m_traced_47 m_trace_47 H locs h hP hD hS => ?_)
      have hP : va_P D vwCl [(qm 0, .inr (7, oX7 qm m_images m_newMany m_at m_open m_steps m_use m_traced_47 m_speaks m_isParted)), (qm 1, .inl (cI, 3974, .inl m_s)), (qm 17, .inl (cI, 30, .inl m_trace_47))] H := hP
      have hD : va_D A [(qm 0, .inr (7, oX7 qm m_images m_newMany m_at m_open m_steps m_use m_traced_47 m_speaks m_isParted)), (qm 1, .inl (cI, 3974, .inl m_s)), (qm 17, .inl (cI, 30, .inl m_trace_47))] := hD
      refine lv_iload_n hx hb dX7_does_50 rfl (lv_at hl 2 rfl) ?_
      refine lv_aload_n hx hb dX7_does_51 rfl (lv_at hl 0 rfl) ?_
      refine q_callR q_E0ok (rest := [.int x2]) ⟨hx, hb, hml, hown, hts⟩ (fun r hr => c7_writerNow l D cI qm m_images m_newMany m_at m_open m_steps m_use m_traced_47 m_speaks m_isParted m_s r hr) (cwV 0 hts gX7_does_X7_writerNow rfl rfl rfl hdX7_writerNow (rmq_ok (by omega) (Nat.le_of_ble_eq_true rfl))) hK hP hEv hS [0, 1] rfl (va_recv hK hP (ci := 7) (q0 := 0) rfl rfl) rfl rfl hl.1 (Nat.le_of_ble_eq_true rfl) ⟨Nat.zero_le _, Nat.zero_le _⟩ h dX7_does_52 (fun t52 h => ?_)
      refine lv_iadd hx hb dX7_does_55 ?_
      exact hret (x2 + t52, m_traced_47, m_trace_47) _ _ _ _ (vp_nar_int _) h hP hD hS dX7_does_56
    have h := q_f h w0
    rcases Decidable.em (x1 = (1 : Int32)) with w1 | w1
    · have h := q_t h w1
      refine lv_tableIn hx hb dX7_does_1 (off := 56) (tgt := 57) (by rw [w1]; decide) (by rw [w1]; decide) (by rw [w1]; rfl) (by decide) ?_
      refine lv_aload_n hx hb dX7_does_57 rfl (lv_at hl 0 rfl) ?_
      refine lv_bipush (v := (20 : Int32)) hx hb dX7_does_58 (by decide) ?_
      refine q_callV2 q_E0ok (rest := []) (fun u => [(qm 0, .inr (7, oX7 qm m_images m_newMany m_at m_open m_steps m_use u.1 m_speaks m_isParted)), (qm 17, .inl (cI, 30, .inl u.2))]) ⟨hx, hb, hml, hown, hts⟩ (fun u hu => c7_begins l D cI qm m_images m_newMany m_at m_open m_steps m_use m_traced m_speaks m_isParted m_trace ((20 : Int32)) u hu) (cwV 1 hts gX7_does_X7_begins rfl rfl rfl hdX7_begins (rmq_ok (by omega) (Nat.le_of_ble_eq_true rfl))) hK hEv hA hP hD hS [0, 2] (by decide) rfl (fun _ => rfl) (va_recv hK hP (ci := 7) (q0 := 0) rfl rfl) rfl rfl hl.1 (Nat.le_of_ble_eq_true rfl) ⟨Nat.zero_le _, Nat.zero_le _⟩ h dX7_does_60 (fun m_traced_60 m_trace_60 H locs h hP hD hS => ?_)
      have hP : va_P D vwCl [(qm 0, .inr (7, oX7 qm m_images m_newMany m_at m_open m_steps m_use m_traced_60 m_speaks m_isParted)), (qm 1, .inl (cI, 3974, .inl m_s)), (qm 17, .inl (cI, 30, .inl m_trace_60))] H := hP
      have hD : va_D A [(qm 0, .inr (7, oX7 qm m_images m_newMany m_at m_open m_steps m_use m_traced_60 m_speaks m_isParted)), (qm 1, .inl (cI, 3974, .inl m_s)), (qm 17, .inl (cI, 30, .inl m_trace_60))] := hD
      refine lv_aload_n hx hb dX7_does_63 rfl (lv_at hl 0 rfl) ?_
      refine lv_iconst (v := (1 : Int32)) hx hb dX7_does_64 (by decide) ?_
      refine q_callRS q_E0ok (rest := [.ref (qm 0)]) ⟨hx, hb, hml, hown, hts⟩ (fun r hr => c7_above l D cI ((1 : Int32)) r hr) (va_cwS 1 hts gX7_does_X7_above rfl rfl rfl hdX7_above (rmq_ok (by omega) (Nat.le_of_ble_eq_true rfl))) hK hP hEv hS [] rfl rfl rfl hl.1 (Nat.le_of_ble_eq_true rfl) ⟨Nat.zero_le _, Nat.zero_le _⟩ h dX7_does_65 (fun t65 h => ?_)
      refine lv_iload_n hx hb dX7_does_68 rfl (lv_at hl 2 rfl) ?_
      refine q_callW3 q_E0ok (rest := []) (fun u => [(qm 0, .inr (7, oX7 qm m_images m_newMany m_at m_open m_steps m_use u.2.1 m_speaks m_isParted)), (qm 1, .inl (cI, 3974, .inl m_s)), (qm 17, .inl (cI, 30, .inl u.2.2))]) (fun u => u.1) ⟨hx, hb, hml, hown, hts⟩ (fun u hu => ih m_images m_newMany m_at m_open m_steps m_use m_traced_60 m_speaks m_isParted m_s m_trace_60 t65 x2 u hu) (cwV 2 hts gX7_does_X7_does rfl rfl rfl hdX7_does (rmq_ok (by omega) (Nat.le_of_ble_eq_true rfl))) hK hEv hA hP hD hS [0, 1, 2] (by decide) rfl (fun _ => rfl) (va_recv hK hP (ci := 7) (q0 := 0) rfl rfl) rfl rfl hl.1 (Nat.le_of_ble_eq_true rfl) ⟨Nat.zero_le _, Nat.zero_le _⟩ h dX7_does_69 (fun t69 m_traced_69 m_trace_69 H locs h hP hD hS => ?_)
      have hP : va_P D vwCl [(qm 0, .inr (7, oX7 qm m_images m_newMany m_at m_open m_steps m_use m_traced_69 m_speaks m_isParted)), (qm 1, .inl (cI, 3974, .inl m_s)), (qm 17, .inl (cI, 30, .inl m_trace_69))] H := hP
      have hD : va_D A [(qm 0, .inr (7, oX7 qm m_images m_newMany m_at m_open m_steps m_use m_traced_69 m_speaks m_isParted)), (qm 1, .inl (cI, 3974, .inl m_s)), (qm 17, .inl (cI, 30, .inl m_trace_69))] := hD
      refine lv_iconst (v := (3 : Int32)) hx hb dX7_does_72 (by decide) ?_
      refine lv_iadd hx hb dX7_does_73 ?_
      exact hret (t69 + ((3 : Int32)), m_traced_69, m_trace_69) _ _ _ _ (vp_nar_int _) h hP hD hS dX7_does_74
    have h := q_f h w1
    rcases Decidable.em (x1 = (2 : Int32)) with w2 | w2
    · have h := q_t h w2
      refine lv_tableIn hx hb dX7_does_1 (off := 100) (tgt := 101) (by rw [w2]; decide) (by rw [w2]; decide) (by rw [w2]; rfl) (by decide) ?_
      exact J101 x1 x2 m_traced m_trace _ _ _ (lv_sub hl [0, 1, 2] rfl) hP hD hS h
    have h := q_f h w2
    rcases Decidable.em (x1 = (3 : Int32)) with w3 | w3
    · have h := q_t h w3
      refine lv_tableIn hx hb dX7_does_1 (off := 100) (tgt := 101) (by rw [w3]; decide) (by rw [w3]; decide) (by rw [w3]; rfl) (by decide) ?_
      exact J101 x1 x2 m_traced m_trace _ _ _ (lv_sub hl [0, 1, 2] rfl) hP hD hS h
    have h := q_f h w3
    rcases Decidable.em (x1 = (4 : Int32)) with w4 | w4
    · have h := q_t h w4
      refine lv_tableIn hx hb dX7_does_1 (off := 74) (tgt := 75) (by rw [w4]; decide) (by rw [w4]; decide) (by rw [w4]; rfl) (by decide) ?_
      refine lv_aload_n hx hb dX7_does_75 rfl (lv_at hl 0 rfl) ?_
      refine lv_bipush (v := (50 : Int32)) hx hb dX7_does_76 (by decide) ?_
      refine q_callV2 q_E0ok (rest := []) (fun u => [(qm 0, .inr (7, oX7 qm m_images m_newMany m_at m_open m_steps m_use u.1 m_speaks m_isParted)), (qm 17, .inl (cI, 30, .inl u.2))]) ⟨hx, hb, hml, hown, hts⟩ (fun u hu => c7_begins l D cI qm m_images m_newMany m_at m_open m_steps m_use m_traced m_speaks m_isParted m_trace ((50 : Int32)) u hu) (cwV 1 hts gX7_does_X7_begins rfl rfl rfl hdX7_begins (rmq_ok (by omega) (Nat.le_of_ble_eq_true rfl))) hK hEv hA hP hD hS [0, 2] (by decide) rfl (fun _ => rfl) (va_recv hK hP (ci := 7) (q0 := 0) rfl rfl) rfl rfl hl.1 (Nat.le_of_ble_eq_true rfl) ⟨Nat.zero_le _, Nat.zero_le _⟩ h dX7_does_78 (fun m_traced_78 m_trace_78 H locs h hP hD hS => ?_)
      have hP : va_P D vwCl [(qm 0, .inr (7, oX7 qm m_images m_newMany m_at m_open m_steps m_use m_traced_78 m_speaks m_isParted)), (qm 1, .inl (cI, 3974, .inl m_s)), (qm 17, .inl (cI, 30, .inl m_trace_78))] H := hP
      have hD : va_D A [(qm 0, .inr (7, oX7 qm m_images m_newMany m_at m_open m_steps m_use m_traced_78 m_speaks m_isParted)), (qm 1, .inl (cI, 3974, .inl m_s)), (qm 17, .inl (cI, 30, .inl m_trace_78))] := hD
      refine lv_aload_n hx hb dX7_does_81 rfl (lv_at hl 0 rfl) ?_
      refine lv_iconst (v := (4 : Int32)) hx hb dX7_does_82 (by decide) ?_
      refine q_callRS q_E0ok (rest := [.ref (qm 0)]) ⟨hx, hb, hml, hown, hts⟩ (fun r hr => c7_above l D cI ((4 : Int32)) r hr) (va_cwS 1 hts gX7_does_X7_above rfl rfl rfl hdX7_above (rmq_ok (by omega) (Nat.le_of_ble_eq_true rfl))) hK hP hEv hS [] rfl rfl rfl hl.1 (Nat.le_of_ble_eq_true rfl) ⟨Nat.zero_le _, Nat.zero_le _⟩ h dX7_does_83 (fun t83 h => ?_)
      refine lv_iload_n hx hb dX7_does_86 rfl (lv_at hl 2 rfl) ?_
      refine q_callW3 q_E0ok (rest := []) (fun u => [(qm 0, .inr (7, oX7 qm m_images m_newMany m_at m_open m_steps m_use u.2.1 m_speaks m_isParted)), (qm 1, .inl (cI, 3974, .inl m_s)), (qm 17, .inl (cI, 30, .inl u.2.2))]) (fun u => u.1) ⟨hx, hb, hml, hown, hts⟩ (fun u hu => ih m_images m_newMany m_at m_open m_steps m_use m_traced_78 m_speaks m_isParted m_s m_trace_78 t83 x2 u hu) (cwV 2 hts gX7_does_X7_does rfl rfl rfl hdX7_does (rmq_ok (by omega) (Nat.le_of_ble_eq_true rfl))) hK hEv hA hP hD hS [0, 1, 2] (by decide) rfl (fun _ => rfl) (va_recv hK hP (ci := 7) (q0 := 0) rfl rfl) rfl rfl hl.1 (Nat.le_of_ble_eq_true rfl) ⟨Nat.zero_le _, Nat.zero_le _⟩ h dX7_does_87 (fun t87 m_traced_87 m_trace_87 H locs h hP hD hS => ?_)
      have hP : va_P D vwCl [(qm 0, .inr (7, oX7 qm m_images m_newMany m_at m_open m_steps m_use m_traced_87 m_speaks m_isParted)), (qm 1, .inl (cI, 3974, .inl m_s)), (qm 17, .inl (cI, 30, .inl m_trace_87))] H := hP
      have hD : va_D A [(qm 0, .inr (7, oX7 qm m_images m_newMany m_at m_open m_steps m_use m_traced_87 m_speaks m_isParted)), (qm 1, .inl (cI, 3974, .inl m_s)), (qm 17, .inl (cI, 30, .inl m_trace_87))] := hD
      refine lv_iconst (v := (3 : Int32)) hx hb dX7_does_90 (by decide) ?_
      refine lv_imul hx hb dX7_does_91 ?_
      exact hret (t87 * ((3 : Int32)), m_traced_87, m_trace_87) _ _ _ _ (vp_nar_int _) h hP hD hS dX7_does_92
    have h := q_f h w4
    rcases Decidable.em (x1 = (5 : Int32)) with w5 | w5
    · have h := q_t h w5
      refine lv_tableIn hx hb dX7_does_1 (off := 100) (tgt := 101) (by rw [w5]; decide) (by rw [w5]; decide) (by rw [w5]; rfl) (by decide) ?_
      exact J101 x1 x2 m_traced m_trace _ _ _ (lv_sub hl [0, 1, 2] rfl) hP hD hS h
    have h := q_f h w5
    rcases Decidable.em (x1 = (6 : Int32)) with w6 | w6
    · have h := q_t h w6
      refine lv_tableIn hx hb dX7_does_1 (off := 92) (tgt := 93) (by rw [w6]; decide) (by rw [w6]; decide) (by rw [w6]; rfl) (by decide) ?_
      refine lv_aload_n hx hb dX7_does_93 rfl (lv_at hl 0 rfl) ?_
      refine lv_bipush (v := (70 : Int32)) hx hb dX7_does_94 (by decide) ?_
      refine q_callV2 q_E0ok (rest := []) (fun u => [(qm 0, .inr (7, oX7 qm m_images m_newMany m_at m_open m_steps m_use u.1 m_speaks m_isParted)), (qm 17, .inl (cI, 30, .inl u.2))]) ⟨hx, hb, hml, hown, hts⟩ (fun u hu => c7_begins l D cI qm m_images m_newMany m_at m_open m_steps m_use m_traced m_speaks m_isParted m_trace ((70 : Int32)) u hu) (cwV 1 hts gX7_does_X7_begins rfl rfl rfl hdX7_begins (rmq_ok (by omega) (Nat.le_of_ble_eq_true rfl))) hK hEv hA hP hD hS [0, 2] (by decide) rfl (fun _ => rfl) (va_recv hK hP (ci := 7) (q0 := 0) rfl rfl) rfl rfl hl.1 (Nat.le_of_ble_eq_true rfl) ⟨Nat.zero_le _, Nat.zero_le _⟩ h dX7_does_96 (fun m_traced_96 m_trace_96 H locs h hP hD hS => ?_)
      have hP : va_P D vwCl [(qm 0, .inr (7, oX7 qm m_images m_newMany m_at m_open m_steps m_use m_traced_96 m_speaks m_isParted)), (qm 1, .inl (cI, 3974, .inl m_s)), (qm 17, .inl (cI, 30, .inl m_trace_96))] H := hP
      have hD : va_D A [(qm 0, .inr (7, oX7 qm m_images m_newMany m_at m_open m_steps m_use m_traced_96 m_speaks m_isParted)), (qm 1, .inl (cI, 3974, .inl m_s)), (qm 17, .inl (cI, 30, .inl m_trace_96))] := hD
      refine lv_iconst (v := (0 : Int32)) hx hb dX7_does_99 (by decide) ?_
      exact hret ((0 : Int32), m_traced_96, m_trace_96) _ _ _ _ (vp_nar_int _) h hP hD hS dX7_does_100
    have h := q_f h w6
    refine lv_tableOut hx hb dX7_does_1 (tgt := 101) (q_out (fun k hk e => ?_)) (by decide) ?_
    · rcases (show k = 0 ∨ k = 1 ∨ k = 2 ∨ k = 3 ∨ k = 4 ∨ k = 5 ∨ k = 6 by omega) with rfl | rfl | rfl | rfl | rfl | rfl | rfl
      · exact w0 (Int32.toInt_inj.mp (e.trans (by decide)))
      · exact w1 (Int32.toInt_inj.mp (e.trans (by decide)))
      · exact w2 (Int32.toInt_inj.mp (e.trans (by decide)))
      · exact w3 (Int32.toInt_inj.mp (e.trans (by decide)))
      · exact w4 (Int32.toInt_inj.mp (e.trans (by decide)))
      · exact w5 (Int32.toInt_inj.mp (e.trans (by decide)))
      · exact w6 (Int32.toInt_inj.mp (e.trans (by decide)))
    · exact J101 x1 x2 m_traced m_trace _ _ _ (lv_sub hl [0, 1, 2] rfl) hP hD hS h
set_option maxHeartbeats 4000000 in
set_option maxRecDepth 100000 in
theorem c7_undoes (l : Launch) (D : va_G) (cI : ClassId) (qm : Nat → Nat) : ∀ (d : Nat) (m_images m_newMany m_at m_open m_steps m_use m_traced m_speaks m_isParted : Int32) (m_s m_trace : Nat → Int32) (x1 : Int32) (x2 : Int32) (u : Int32 × Int32 × (Nat → Int32)), f7_undoes d x1 x2 m_traced m_speaks m_s m_trace = some u → q_RW q_E0 l yX7_undoes wsX7_undoes (rmq (d + 11)) D cI [.ref (qm 0), .int x1, .int x2] [(qm 0, .inr (7, oX7 qm m_images m_newMany m_at m_open m_steps m_use m_traced m_speaks m_isParted)), (qm 1, .inl (cI, 3974, .inl m_s)), (qm 17, .inl (cI, 30, .inl m_trace))] [(qm 0, .inr (7, oX7 qm m_images m_newMany m_at m_open m_steps m_use u.2.1 m_speaks m_isParted)), (qm 1, .inl (cI, 3974, .inl m_s)), (qm 17, .inl (cI, 30, .inl u.2.2))] u.1 := by
  intro d
  induction d with
  | zero => intro m_images m_newMany m_at m_open m_steps m_use m_traced m_speaks m_isParted m_s m_trace x1 x2 u h; exact nomatch (show (none : Option (Int32 × Int32 × (Nat → Int32))) = some u from h)
  | succ d ih =>
    intro m_images m_newMany m_at m_open m_steps m_use m_traced m_speaks m_isParted m_s m_trace x1 x2 u h
    refine q_startW (fun u : Int32 × Int32 × (Nat → Int32) => [(qm 0, .inr (7, oX7 qm m_images m_newMany m_at m_open m_steps m_use u.2.1 m_speaks m_isParted)), (qm 1, .inl (cI, 3974, .inl m_s)), (qm 17, .inl (cI, 30, .inl u.2.2))]) (fun u => u.1) (cc := cX7_undoes) (maxL := 3) (ty := .int) (own := RX7) (by decide) rfl rfl (Nat.le_of_ble_eq_true rfl) rfl (fun p e s m args below meth c Q A hx hb hml hown hts hK hEv hA hret hP hD hS ls hl => ?_)
    have in7 : ∀ w ∈ wsX70, w ∈ wsX7_undoes := fun w h => List.mem_cons_of_mem _ (List.mem_append_right _ (h))
    have l249 := hts (.fieldLink RX7 249 "PageWarsModel" "speaks" "I") (List.mem_of_getElem? (i := 1) rfl)
    have J124 : ∀ (x1 : Int32) (x2 : Int32) (m_traced : Int32) (m_trace : (Nat → Int32)) (H : Heap) (locs : List Loc) (ls : Array Slot), lv_has ls 3 [(0, .ref (qm 0)), (1, .int x1), (2, .int x2)] → va_P D vwCl [(qm 0, .inr (7, oX7 qm m_images m_newMany m_at m_open m_steps m_use m_traced m_speaks m_isParted)), (qm 1, .inl (cI, 3974, .inl m_s)), (qm 17, .inl (cI, 30, .inl m_trace))] H → va_D A [(qm 0, .inr (7, oX7 qm m_images m_newMany m_at m_open m_steps m_use m_traced m_speaks m_isParted)), (qm 1, .inl (cI, 3974, .inl m_s)), (qm 17, .inl (cI, 30, .inl m_trace))] → va_S A s.heap H locs → f7_undoes_124 (f7_undoes d) m_speaks m_s x1 x2 m_traced m_trace = some u → W p l e (rmq (d + 1 + 11)) s m args below meth c H locs 0 0 Q (F0 m 124 ls []) := by
      intro x1 x2 m_traced m_trace H locs ls hl hP hD hS h
      unfold f7_undoes_124 at h
      refine lv_aload_n hx hb dX7_undoes_124 rfl (lv_at hl 0 rfl) ?_
      refine lv_iload_n hx hb dX7_undoes_125 rfl (lv_at hl 1 rfl) ?_
      refine q_callRS q_E0ok (rest := [.ref (qm 0)]) ⟨hx, hb, hml, hown, hts⟩ (fun r hr => c7_above l D cI x1 r hr) (va_cwS 1 hts gX7_undoes_X7_above rfl rfl rfl hdX7_above (rmq_ok (by omega) (Nat.le_of_ble_eq_true rfl))) hK hP hEv hS [] rfl rfl rfl hl.1 (Nat.le_of_ble_eq_true rfl) ⟨Nat.zero_le _, Nat.zero_le _⟩ h dX7_undoes_126 (fun t126 h => ?_)
      refine lv_iload_n hx hb dX7_undoes_129 rfl (lv_at hl 2 rfl) ?_
      refine q_callW3 q_E0ok (rest := []) (fun u => [(qm 0, .inr (7, oX7 qm m_images m_newMany m_at m_open m_steps m_use u.2.1 m_speaks m_isParted)), (qm 1, .inl (cI, 3974, .inl m_s)), (qm 17, .inl (cI, 30, .inl u.2.2))]) (fun u => u.1) ⟨hx, hb, hml, hown, hts⟩ (fun u hu => ih m_images m_newMany m_at m_open m_steps m_use m_traced m_speaks m_isParted m_s m_trace t126 x2 u hu) (cwV 2 hts gX7_undoes_X7_undoes rfl rfl rfl hdX7_undoes (rmq_ok (by omega) (Nat.le_of_ble_eq_true rfl))) hK hEv hA hP hD hS [0, 1, 2] (by decide) rfl (fun _ => rfl) (va_recv hK hP (ci := 7) (q0 := 0) rfl rfl) rfl rfl hl.1 (Nat.le_of_ble_eq_true rfl) ⟨Nat.zero_le _, Nat.zero_le _⟩ h dX7_undoes_130 (fun t130 m_traced_130 m_trace_130 H locs h hP hD hS => ?_)
      have hP : va_P D vwCl [(qm 0, .inr (7, oX7 qm m_images m_newMany m_at m_open m_steps m_use m_traced_130 m_speaks m_isParted)), (qm 1, .inl (cI, 3974, .inl m_s)), (qm 17, .inl (cI, 30, .inl m_trace_130))] H := hP
      have hD : va_D A [(qm 0, .inr (7, oX7 qm m_images m_newMany m_at m_open m_steps m_use m_traced_130 m_speaks m_isParted)), (qm 1, .inl (cI, 3974, .inl m_s)), (qm 17, .inl (cI, 30, .inl m_trace_130))] := hD
      exact hret (t130, m_traced_130, m_trace_130) _ _ _ _ (vp_nar_int _) h hP hD hS dX7_undoes_133
    rw [f7_undoes.eq_2] at h
    refine lv_iload_n hx hb dX7_undoes_0 rfl (lv_at hl 1 rfl) ?_
    rcases Decidable.em (x1 = (0 : Int32)) with w0 | w0
    · have h := q_t h w0
      refine lv_tableIn hx hb dX7_undoes_1 (off := 47) (tgt := 48) (by rw [w0]; decide) (by rw [w0]; decide) (by rw [w0]; rfl) (by decide) ?_
      refine lv_aload_n hx hb dX7_undoes_48 rfl (lv_at hl 0 rfl) ?_
      refine lv_bipush (v := (11 : Int32)) hx hb dX7_undoes_49 (by decide) ?_
      refine q_callV2 q_E0ok (rest := []) (fun u => [(qm 0, .inr (7, oX7 qm m_images m_newMany m_at m_open m_steps m_use u.1 m_speaks m_isParted)), (qm 17, .inl (cI, 30, .inl u.2))]) ⟨hx, hb, hml, hown, hts⟩ (fun u hu => c7_begins l D cI qm m_images m_newMany m_at m_open m_steps m_use m_traced m_speaks m_isParted m_trace ((11 : Int32)) u hu) (cwV 1 hts gX7_undoes_X7_begins rfl rfl rfl hdX7_begins (rmq_ok (by omega) (Nat.le_of_ble_eq_true rfl))) hK hEv hA hP hD hS [0, 2] (by decide) rfl (fun _ => rfl) (va_recv hK hP (ci := 7) (q0 := 0) rfl rfl) rfl rfl hl.1 (Nat.le_of_ble_eq_true rfl) ⟨Nat.zero_le _, Nat.zero_le _⟩ h dX7_undoes_51 (fun m_traced_51 m_trace_51 H locs h hP hD hS => ?_)
      have hP : va_P D vwCl [(qm 0, .inr (7, oX7 qm m_images m_newMany m_at m_open m_steps m_use m_traced_51 m_speaks m_isParted)), (qm 1, .inl (cI, 3974, .inl m_s)), (qm 17, .inl (cI, 30, .inl m_trace_51))] H := hP
      have hD : va_D A [(qm 0, .inr (7, oX7 qm m_images m_newMany m_at m_open m_steps m_use m_traced_51 m_speaks m_isParted)), (qm 1, .inl (cI, 3974, .inl m_s)), (qm 17, .inl (cI, 30, .inl m_trace_51))] := hD
      refine lv_aload_n hx hb dX7_undoes_54 rfl (lv_at hl 0 rfl) ?_
      refine lv_aload_n hx hb dX7_undoes_55 rfl (lv_at hl 0 rfl) ?_
      refine q_callR q_E0ok (rest := [.ref (qm 0)]) ⟨hx, hb, hml, hown, hts⟩ (fun r hr => c7_kindNow l D cI qm m_images m_newMany m_at m_open m_steps m_use m_traced_51 m_speaks m_isParted m_s r hr) (cwV 0 hts gX7_undoes_X7_kindNow rfl rfl rfl hdX7_kindNow (rmq_ok (by omega) (Nat.le_of_ble_eq_true rfl))) hK hP hEv hS [0, 1] rfl (va_recv hK hP (ci := 7) (q0 := 0) rfl rfl) rfl rfl hl.1 (Nat.le_of_ble_eq_true rfl) ⟨Nat.zero_le _, Nat.zero_le _⟩ h dX7_undoes_56 (fun t56 h => ?_)
      refine lv_iload_n hx hb dX7_undoes_59 rfl (lv_at hl 2 rfl) ?_
      refine q_callW3 q_E0ok (rest := []) (fun u => [(qm 0, .inr (7, oX7 qm m_images m_newMany m_at m_open m_steps m_use u.2.1 m_speaks m_isParted)), (qm 1, .inl (cI, 3974, .inl m_s)), (qm 17, .inl (cI, 30, .inl u.2.2))]) (fun u => u.1) ⟨hx, hb, hml, hown, hts⟩ (fun u hu => c7_does l D cI qm 8 m_images m_newMany m_at m_open m_steps m_use m_traced_51 m_speaks m_isParted m_s m_trace_51 t56 x2 u hu) (cwV 2 hts gX7_undoes_X7_does rfl rfl rfl hdX7_does (rmq_ok (by omega) (Nat.le_of_ble_eq_true rfl))) hK hEv hA hP hD hS [0, 1, 2] (by decide) rfl (fun _ => rfl) (va_recv hK hP (ci := 7) (q0 := 0) rfl rfl) rfl rfl hl.1 (Nat.le_of_ble_eq_true rfl) ⟨Nat.zero_le _, Nat.zero_le _⟩ h dX7_undoes_60 (fun t60 m_traced_60 m_trace_60 H locs h hP hD hS => ?_)
      have hP : va_P D vwCl [(qm 0, .inr (7, oX7 qm m_images m_newMany m_at m_open m_steps m_use m_traced_60 m_speaks m_isParted)), (qm 1, .inl (cI, 3974, .inl m_s)), (qm 17, .inl (cI, 30, .inl m_trace_60))] H := hP
      have hD : va_D A [(qm 0, .inr (7, oX7 qm m_images m_newMany m_at m_open m_steps m_use m_traced_60 m_speaks m_isParted)), (qm 1, .inl (cI, 3974, .inl m_s)), (qm 17, .inl (cI, 30, .inl m_trace_60))] := hD
      refine lv_iconst (v := (2 : Int32)) hx hb dX7_undoes_63 (by decide) ?_
      refine lv_imul hx hb dX7_undoes_64 ?_
      exact hret (t60 * ((2 : Int32)), m_traced_60, m_trace_60) _ _ _ _ (vp_nar_int _) h hP hD hS dX7_undoes_65
    have h := q_f h w0
    rcases Decidable.em (x1 = (1 : Int32)) with w1 | w1
    · have h := q_t h w1
      refine lv_tableIn hx hb dX7_undoes_1 (off := 123) (tgt := 124) (by rw [w1]; decide) (by rw [w1]; decide) (by rw [w1]; rfl) (by decide) ?_
      exact J124 x1 x2 m_traced m_trace _ _ _ (lv_sub hl [0, 1, 2] rfl) hP hD hS h
    have h := q_f h w1
    rcases Decidable.em (x1 = (2 : Int32)) with w2 | w2
    · have h := q_t h w2
      refine lv_tableIn hx hb dX7_undoes_1 (off := 65) (tgt := 66) (by rw [w2]; decide) (by rw [w2]; decide) (by rw [w2]; rfl) (by decide) ?_
      refine lv_aload_n hx hb dX7_undoes_66 rfl (lv_at hl 0 rfl) ?_
      refine lv_bipush (v := (30 : Int32)) hx hb dX7_undoes_67 (by decide) ?_
      refine q_callV2 q_E0ok (rest := []) (fun u => [(qm 0, .inr (7, oX7 qm m_images m_newMany m_at m_open m_steps m_use u.1 m_speaks m_isParted)), (qm 17, .inl (cI, 30, .inl u.2))]) ⟨hx, hb, hml, hown, hts⟩ (fun u hu => c7_begins l D cI qm m_images m_newMany m_at m_open m_steps m_use m_traced m_speaks m_isParted m_trace ((30 : Int32)) u hu) (cwV 1 hts gX7_undoes_X7_begins rfl rfl rfl hdX7_begins (rmq_ok (by omega) (Nat.le_of_ble_eq_true rfl))) hK hEv hA hP hD hS [0, 2] (by decide) rfl (fun _ => rfl) (va_recv hK hP (ci := 7) (q0 := 0) rfl rfl) rfl rfl hl.1 (Nat.le_of_ble_eq_true rfl) ⟨Nat.zero_le _, Nat.zero_le _⟩ h dX7_undoes_69 (fun m_traced_69 m_trace_69 H locs h hP hD hS => ?_)
      have hP : va_P D vwCl [(qm 0, .inr (7, oX7 qm m_images m_newMany m_at m_open m_steps m_use m_traced_69 m_speaks m_isParted)), (qm 1, .inl (cI, 3974, .inl m_s)), (qm 17, .inl (cI, 30, .inl m_trace_69))] H := hP
      have hD : va_D A [(qm 0, .inr (7, oX7 qm m_images m_newMany m_at m_open m_steps m_use m_traced_69 m_speaks m_isParted)), (qm 1, .inl (cI, 3974, .inl m_s)), (qm 17, .inl (cI, 30, .inl m_trace_69))] := hD
      refine lv_iconst (v := (0 : Int32)) hx hb dX7_undoes_72 (by decide) ?_
      refine lv_aload_n hx hb dX7_undoes_73 rfl (lv_at hl 0 rfl) ?_
      refine lv_iconst (v := (2 : Int32)) hx hb dX7_undoes_74 (by decide) ?_
      refine q_callRS q_E0ok (rest := [.ref (qm 0), .int ((0 : Int32))]) ⟨hx, hb, hml, hown, hts⟩ (fun r hr => c7_above l D cI ((2 : Int32)) r hr) (va_cwS 1 hts gX7_undoes_X7_above rfl rfl rfl hdX7_above (rmq_ok (by omega) (Nat.le_of_ble_eq_true rfl))) hK hP hEv hS [] rfl rfl rfl hl.1 (Nat.le_of_ble_eq_true rfl) ⟨Nat.zero_le _, Nat.zero_le _⟩ h dX7_undoes_75 (fun t75 h => ?_)
      refine lv_iload_n hx hb dX7_undoes_78 rfl (lv_at hl 2 rfl) ?_
      refine q_callW3 q_E0ok (rest := [.int ((0 : Int32))]) (fun u => [(qm 0, .inr (7, oX7 qm m_images m_newMany m_at m_open m_steps m_use u.2.1 m_speaks m_isParted)), (qm 1, .inl (cI, 3974, .inl m_s)), (qm 17, .inl (cI, 30, .inl u.2.2))]) (fun u => u.1) ⟨hx, hb, hml, hown, hts⟩ (fun u hu => ih m_images m_newMany m_at m_open m_steps m_use m_traced_69 m_speaks m_isParted m_s m_trace_69 t75 x2 u hu) (cwV 2 hts gX7_undoes_X7_undoes rfl rfl rfl hdX7_undoes (rmq_ok (by omega) (Nat.le_of_ble_eq_true rfl))) hK hEv hA hP hD hS [0, 1, 2] (by decide) rfl (fun _ => rfl) (va_recv hK hP (ci := 7) (q0 := 0) rfl rfl) rfl rfl hl.1 (Nat.le_of_ble_eq_true rfl) ⟨Nat.zero_le _, Nat.zero_le _⟩ h dX7_undoes_79 (fun t79 m_traced_79 m_trace_79 H locs h hP hD hS => ?_)
      have hP : va_P D vwCl [(qm 0, .inr (7, oX7 qm m_images m_newMany m_at m_open m_steps m_use m_traced_79 m_speaks m_isParted)), (qm 1, .inl (cI, 3974, .inl m_s)), (qm 17, .inl (cI, 30, .inl m_trace_79))] H := hP
      have hD : va_D A [(qm 0, .inr (7, oX7 qm m_images m_newMany m_at m_open m_steps m_use m_traced_79 m_speaks m_isParted)), (qm 1, .inl (cI, 3974, .inl m_s)), (qm 17, .inl (cI, 30, .inl m_trace_79))] := hD
      refine lv_isub hx hb dX7_undoes_82 ?_
      exact hret (((0 : Int32)) - t79, m_traced_79, m_trace_79) _ _ _ _ (vp_nar_int _) h hP hD hS dX7_undoes_83
    have h := q_f h w2
    rcases Decidable.em (x1 = (3 : Int32)) with w3 | w3
    · have h := q_t h w3
      refine lv_tableIn hx hb dX7_undoes_1 (off := 83) (tgt := 84) (by rw [w3]; decide) (by rw [w3]; decide) (by rw [w3]; rfl) (by decide) ?_
      refine lv_aload_n hx hb dX7_undoes_84 rfl (lv_at hl 0 rfl) ?_
      refine lv_bipush (v := (40 : Int32)) hx hb dX7_undoes_85 (by decide) ?_
      refine q_callV2 q_E0ok (rest := []) (fun u => [(qm 0, .inr (7, oX7 qm m_images m_newMany m_at m_open m_steps m_use u.1 m_speaks m_isParted)), (qm 17, .inl (cI, 30, .inl u.2))]) ⟨hx, hb, hml, hown, hts⟩ (fun u hu => c7_begins l D cI qm m_images m_newMany m_at m_open m_steps m_use m_traced m_speaks m_isParted m_trace ((40 : Int32)) u hu) (cwV 1 hts gX7_undoes_X7_begins rfl rfl rfl hdX7_begins (rmq_ok (by omega) (Nat.le_of_ble_eq_true rfl))) hK hEv hA hP hD hS [0, 2] (by decide) rfl (fun _ => rfl) (va_recv hK hP (ci := 7) (q0 := 0) rfl rfl) rfl rfl hl.1 (Nat.le_of_ble_eq_true rfl) ⟨Nat.zero_le _, Nat.zero_le _⟩ h dX7_undoes_87 (fun m_traced_87 m_trace_87 H locs h hP hD hS => ?_)
      have hP : va_P D vwCl [(qm 0, .inr (7, oX7 qm m_images m_newMany m_at m_open m_steps m_use m_traced_87 m_speaks m_isParted)), (qm 1, .inl (cI, 3974, .inl m_s)), (qm 17, .inl (cI, 30, .inl m_trace_87))] H := hP
      have hD : va_D A [(qm 0, .inr (7, oX7 qm m_images m_newMany m_at m_open m_steps m_use m_traced_87 m_speaks m_isParted)), (qm 1, .inl (cI, 3974, .inl m_s)), (qm 17, .inl (cI, 30, .inl m_trace_87))] := hD
      refine lv_aload_n hx hb dX7_undoes_90 rfl (lv_at hl 0 rfl) ?_
      refine lv_iconst (v := (3 : Int32)) hx hb dX7_undoes_91 (by decide) ?_
      refine q_callRS q_E0ok (rest := [.ref (qm 0)]) ⟨hx, hb, hml, hown, hts⟩ (fun r hr => c7_above l D cI ((3 : Int32)) r hr) (va_cwS 1 hts gX7_undoes_X7_above rfl rfl rfl hdX7_above (rmq_ok (by omega) (Nat.le_of_ble_eq_true rfl))) hK hP hEv hS [] rfl rfl rfl hl.1 (Nat.le_of_ble_eq_true rfl) ⟨Nat.zero_le _, Nat.zero_le _⟩ h dX7_undoes_92 (fun t92 h => ?_)
      refine lv_iload_n hx hb dX7_undoes_95 rfl (lv_at hl 2 rfl) ?_
      refine lv_iconst (v := (2 : Int32)) hx hb dX7_undoes_96 (by decide) ?_
      refine q_idiv hx hb h dX7_undoes_97 (fun h => ?_)
      refine q_callW3 q_E0ok (rest := []) (fun u => [(qm 0, .inr (7, oX7 qm m_images m_newMany m_at m_open m_steps m_use u.2.1 m_speaks m_isParted)), (qm 1, .inl (cI, 3974, .inl m_s)), (qm 17, .inl (cI, 30, .inl u.2.2))]) (fun u => u.1) ⟨hx, hb, hml, hown, hts⟩ (fun u hu => ih m_images m_newMany m_at m_open m_steps m_use m_traced_87 m_speaks m_isParted m_s m_trace_87 t92 (x2 / ((2 : Int32))) u hu) (cwV 2 hts gX7_undoes_X7_undoes rfl rfl rfl hdX7_undoes (rmq_ok (by omega) (Nat.le_of_ble_eq_true rfl))) hK hEv hA hP hD hS [0, 1, 2] (by decide) rfl (fun _ => rfl) (va_recv hK hP (ci := 7) (q0 := 0) rfl rfl) rfl rfl hl.1 (Nat.le_of_ble_eq_true rfl) ⟨Nat.zero_le _, Nat.zero_le _⟩ h dX7_undoes_98 (fun t98 m_traced_98 m_trace_98 H locs h hP hD hS => ?_)
      have hP : va_P D vwCl [(qm 0, .inr (7, oX7 qm m_images m_newMany m_at m_open m_steps m_use m_traced_98 m_speaks m_isParted)), (qm 1, .inl (cI, 3974, .inl m_s)), (qm 17, .inl (cI, 30, .inl m_trace_98))] H := hP
      have hD : va_D A [(qm 0, .inr (7, oX7 qm m_images m_newMany m_at m_open m_steps m_use m_traced_98 m_speaks m_isParted)), (qm 1, .inl (cI, 3974, .inl m_s)), (qm 17, .inl (cI, 30, .inl m_trace_98))] := hD
      exact hret (t98, m_traced_98, m_trace_98) _ _ _ _ (vp_nar_int _) h hP hD hS dX7_undoes_101
    have h := q_f h w3
    rcases Decidable.em (x1 = (4 : Int32)) with w4 | w4
    · have h := q_t h w4
      refine lv_tableIn hx hb dX7_undoes_1 (off := 123) (tgt := 124) (by rw [w4]; decide) (by rw [w4]; decide) (by rw [w4]; rfl) (by decide) ?_
      exact J124 x1 x2 m_traced m_trace _ _ _ (lv_sub hl [0, 1, 2] rfl) hP hD hS h
    have h := q_f h w4
    rcases Decidable.em (x1 = (5 : Int32)) with w5 | w5
    · have h := q_t h w5
      refine lv_tableIn hx hb dX7_undoes_1 (off := 123) (tgt := 124) (by rw [w5]; decide) (by rw [w5]; decide) (by rw [w5]; rfl) (by decide) ?_
      exact J124 x1 x2 m_traced m_trace _ _ _ (lv_sub hl [0, 1, 2] rfl) hP hD hS h
    have h := q_f h w5
    rcases Decidable.em (x1 = (6 : Int32)) with w6 | w6
    · have h := q_t h w6
      refine lv_tableIn hx hb dX7_undoes_1 (off := 123) (tgt := 124) (by rw [w6]; decide) (by rw [w6]; decide) (by rw [w6]; rfl) (by decide) ?_
      exact J124 x1 x2 m_traced m_trace _ _ _ (lv_sub hl [0, 1, 2] rfl) hP hD hS h
    have h := q_f h w6
    rcases Decidable.em (x1 = (7 : Int32)) with w7 | w7
    · have h := q_t h w7
      refine lv_tableIn hx hb dX7_undoes_1 (off := 101) (tgt := 102) (by rw [w7]; decide) (by rw [w7]; decide) (by rw [w7]; rfl) (by decide) ?_
      refine lv_aload_n hx hb dX7_undoes_102 rfl (lv_at hl 0 rfl) ?_
      refine lv_bipush (v := (80 : Int32)) hx hb dX7_undoes_103 (by decide) ?_
      refine q_callV2 q_E0ok (rest := []) (fun u => [(qm 0, .inr (7, oX7 qm m_images m_newMany m_at m_open m_steps m_use u.1 m_speaks m_isParted)), (qm 17, .inl (cI, 30, .inl u.2))]) ⟨hx, hb, hml, hown, hts⟩ (fun u hu => c7_begins l D cI qm m_images m_newMany m_at m_open m_steps m_use m_traced m_speaks m_isParted m_trace ((80 : Int32)) u hu) (cwV 1 hts gX7_undoes_X7_begins rfl rfl rfl hdX7_begins (rmq_ok (by omega) (Nat.le_of_ble_eq_true rfl))) hK hEv hA hP hD hS [0, 2] (by decide) rfl (fun _ => rfl) (va_recv hK hP (ci := 7) (q0 := 0) rfl rfl) rfl rfl hl.1 (Nat.le_of_ble_eq_true rfl) ⟨Nat.zero_le _, Nat.zero_le _⟩ h dX7_undoes_105 (fun m_traced_105 m_trace_105 H locs h hP hD hS => ?_)
      have hP : va_P D vwCl [(qm 0, .inr (7, oX7 qm m_images m_newMany m_at m_open m_steps m_use m_traced_105 m_speaks m_isParted)), (qm 1, .inl (cI, 3974, .inl m_s)), (qm 17, .inl (cI, 30, .inl m_trace_105))] H := hP
      have hD : va_D A [(qm 0, .inr (7, oX7 qm m_images m_newMany m_at m_open m_steps m_use m_traced_105 m_speaks m_isParted)), (qm 1, .inl (cI, 3974, .inl m_s)), (qm 17, .inl (cI, 30, .inl m_trace_105))] := hD
      refine lv_aload_n hx hb dX7_undoes_108 rfl (lv_at hl 0 rfl) ?_
      refine lv_bipush (v := (7 : Int32)) hx hb dX7_undoes_109 (by decide) ?_
      refine q_callRS q_E0ok (rest := [.ref (qm 0)]) ⟨hx, hb, hml, hown, hts⟩ (fun r hr => c7_above l D cI ((7 : Int32)) r hr) (va_cwS 1 hts gX7_undoes_X7_above rfl rfl rfl hdX7_above (rmq_ok (by omega) (Nat.le_of_ble_eq_true rfl))) hK hP hEv hS [] rfl rfl rfl hl.1 (Nat.le_of_ble_eq_true rfl) ⟨Nat.zero_le _, Nat.zero_le _⟩ h dX7_undoes_111 (fun t111 h => ?_)
      refine lv_iload_n hx hb dX7_undoes_114 rfl (lv_at hl 2 rfl) ?_
      refine q_callW3 q_E0ok (rest := []) (fun u => [(qm 0, .inr (7, oX7 qm m_images m_newMany m_at m_open m_steps m_use u.2.1 m_speaks m_isParted)), (qm 1, .inl (cI, 3974, .inl m_s)), (qm 17, .inl (cI, 30, .inl u.2.2))]) (fun u => u.1) ⟨hx, hb, hml, hown, hts⟩ (fun u hu => ih m_images m_newMany m_at m_open m_steps m_use m_traced_105 m_speaks m_isParted m_s m_trace_105 t111 x2 u hu) (cwV 2 hts gX7_undoes_X7_undoes rfl rfl rfl hdX7_undoes (rmq_ok (by omega) (Nat.le_of_ble_eq_true rfl))) hK hEv hA hP hD hS [0, 1, 2] (by decide) rfl (fun _ => rfl) (va_recv hK hP (ci := 7) (q0 := 0) rfl rfl) rfl rfl hl.1 (Nat.le_of_ble_eq_true rfl) ⟨Nat.zero_le _, Nat.zero_le _⟩ h dX7_undoes_115 (fun t115 m_traced_115 m_trace_115 H locs h hP hD hS => ?_)
      have hP : va_P D vwCl [(qm 0, .inr (7, oX7 qm m_images m_newMany m_at m_open m_steps m_use m_traced_115 m_speaks m_isParted)), (qm 1, .inl (cI, 3974, .inl m_s)), (qm 17, .inl (cI, 30, .inl m_trace_115))] H := hP
      have hD : va_D A [(qm 0, .inr (7, oX7 qm m_images m_newMany m_at m_open m_steps m_use m_traced_115 m_speaks m_isParted)), (qm 1, .inl (cI, 3974, .inl m_s)), (qm 17, .inl (cI, 30, .inl m_trace_115))] := hD
      refine lv_aload_n hx hb dX7_undoes_118 rfl (lv_at hl 0 rfl) ?_
      refine va_get (D := D) (ci := 7) (v := .int m_speaks) (C := RX7) (T := TX7) (N := 24) hx hb hts in7 hown hK hP 0 rfl rfl 18 (by decide) l249 (fun _ h9 => h9) rfl dX7_undoes_119 ?_
      refine lv_iadd hx hb dX7_undoes_122 ?_
      exact hret (t115 + m_speaks, m_traced_115, m_trace_115) _ _ _ _ (vp_nar_int _) h hP hD hS dX7_undoes_123
    have h := q_f h w7
    refine lv_tableOut hx hb dX7_undoes_1 (tgt := 124) (q_out (fun k hk e => ?_)) (by decide) ?_
    · rcases (show k = 0 ∨ k = 1 ∨ k = 2 ∨ k = 3 ∨ k = 4 ∨ k = 5 ∨ k = 6 ∨ k = 7 by omega) with rfl | rfl | rfl | rfl | rfl | rfl | rfl | rfl
      · exact w0 (Int32.toInt_inj.mp (e.trans (by decide)))
      · exact w1 (Int32.toInt_inj.mp (e.trans (by decide)))
      · exact w2 (Int32.toInt_inj.mp (e.trans (by decide)))
      · exact w3 (Int32.toInt_inj.mp (e.trans (by decide)))
      · exact w4 (Int32.toInt_inj.mp (e.trans (by decide)))
      · exact w5 (Int32.toInt_inj.mp (e.trans (by decide)))
      · exact w6 (Int32.toInt_inj.mp (e.trans (by decide)))
      · exact w7 (Int32.toInt_inj.mp (e.trans (by decide)))
    · exact J124 x1 x2 m_traced m_trace _ _ _ (lv_sub hl [0, 1, 2] rfl) hP hD hS h
set_option maxHeartbeats 4000000 in
set_option maxRecDepth 100000 in
theorem c7_lasts (l : Launch) (D : va_G) (cI : ClassId) (qm : Nat → Nat) : ∀ (d : Nat) (m_images m_newMany m_at m_open m_steps m_use m_traced m_speaks m_isParted : Int32) (m_s m_trace : Nat → Int32) (x1 : Int32) (x2 : Int32) (u : Int32 × Int32 × (Nat → Int32)), f7_lasts d x1 x2 m_traced m_speaks m_s m_trace = some u → q_RW q_E0 l yX7_lasts wsX7_lasts (rmq (d + 20)) D cI [.ref (qm 0), .int x1, .int x2] [(qm 0, .inr (7, oX7 qm m_images m_newMany m_at m_open m_steps m_use m_traced m_speaks m_isParted)), (qm 1, .inl (cI, 3974, .inl m_s)), (qm 17, .inl (cI, 30, .inl m_trace))] [(qm 0, .inr (7, oX7 qm m_images m_newMany m_at m_open m_steps m_use u.2.1 m_speaks m_isParted)), (qm 1, .inl (cI, 3974, .inl m_s)), (qm 17, .inl (cI, 30, .inl u.2.2))] u.1 := by
  intro d
  induction d with
  | zero => intro m_images m_newMany m_at m_open m_steps m_use m_traced m_speaks m_isParted m_s m_trace x1 x2 u h; exact nomatch (show (none : Option (Int32 × Int32 × (Nat → Int32))) = some u from h)
  | succ d ih =>
    intro m_images m_newMany m_at m_open m_steps m_use m_traced m_speaks m_isParted m_s m_trace x1 x2 u h
    refine q_startW (fun u : Int32 × Int32 × (Nat → Int32) => [(qm 0, .inr (7, oX7 qm m_images m_newMany m_at m_open m_steps m_use u.2.1 m_speaks m_isParted)), (qm 1, .inl (cI, 3974, .inl m_s)), (qm 17, .inl (cI, 30, .inl u.2.2))]) (fun u => u.1) (cc := cX7_lasts) (maxL := 4) (ty := .int) (own := RX7) (by decide) rfl rfl (Nat.le_of_ble_eq_true rfl) rfl (fun p e s m args below meth c Q A hx hb hml hown hts hK hEv hA hret hP hD hS ls hl => ?_)
    have in7 : ∀ w ∈ wsX70, w ∈ wsX7_lasts := fun w h => List.mem_cons_of_mem _ (List.mem_append_right _ (h))
    have l249 := hts (.fieldLink RX7 249 "PageWarsModel" "speaks" "I") (List.mem_of_getElem? (i := 1) rfl)
    have J128 : ∀ (x1 : Int32) (x2 : Int32) (m_traced : Int32) (m_trace : (Nat → Int32)) (H : Heap) (locs : List Loc) (ls : Array Slot), lv_has ls 4 [(0, .ref (qm 0)), (1, .int x1), (2, .int x2)] → va_P D vwCl [(qm 0, .inr (7, oX7 qm m_images m_newMany m_at m_open m_steps m_use m_traced m_speaks m_isParted)), (qm 1, .inl (cI, 3974, .inl m_s)), (qm 17, .inl (cI, 30, .inl m_trace))] H → va_D A [(qm 0, .inr (7, oX7 qm m_images m_newMany m_at m_open m_steps m_use m_traced m_speaks m_isParted)), (qm 1, .inl (cI, 3974, .inl m_s)), (qm 17, .inl (cI, 30, .inl m_trace))] → va_S A s.heap H locs → f7_lasts_128 (f7_lasts d) m_speaks m_s x1 x2 m_traced m_trace = some u → W p l e (rmq (d + 1 + 20)) s m args below meth c H locs 0 0 Q (F0 m 128 ls []) := by
      intro x1 x2 m_traced m_trace H locs ls hl hP hD hS h
      unfold f7_lasts_128 at h
      refine lv_aload_n hx hb dX7_lasts_128 rfl (lv_at hl 0 rfl) ?_
      refine lv_iload_n hx hb dX7_lasts_129 rfl (lv_at hl 1 rfl) ?_
      refine q_callRS q_E0ok (rest := [.ref (qm 0)]) ⟨hx, hb, hml, hown, hts⟩ (fun r hr => c7_above l D cI x1 r hr) (va_cwS 1 hts gX7_lasts_X7_above rfl rfl rfl hdX7_above (rmq_ok (by omega) (Nat.le_of_ble_eq_true rfl))) hK hP hEv hS [] rfl rfl rfl hl.1 (Nat.le_of_ble_eq_true rfl) ⟨Nat.zero_le _, Nat.zero_le _⟩ h dX7_lasts_130 (fun t130 h => ?_)
      refine lv_iload_n hx hb dX7_lasts_133 rfl (lv_at hl 2 rfl) ?_
      refine q_callW3 q_E0ok (rest := []) (fun u => [(qm 0, .inr (7, oX7 qm m_images m_newMany m_at m_open m_steps m_use u.2.1 m_speaks m_isParted)), (qm 1, .inl (cI, 3974, .inl m_s)), (qm 17, .inl (cI, 30, .inl u.2.2))]) (fun u => u.1) ⟨hx, hb, hml, hown, hts⟩ (fun u hu => ih m_images m_newMany m_at m_open m_steps m_use m_traced m_speaks m_isParted m_s m_trace t130 x2 u hu) (cwV 2 hts gX7_lasts_X7_lasts rfl rfl rfl hdX7_lasts (rmq_ok (by omega) (Nat.le_of_ble_eq_true rfl))) hK hEv hA hP hD hS [0, 1, 2] (by decide) rfl (fun _ => rfl) (va_recv hK hP (ci := 7) (q0 := 0) rfl rfl) rfl rfl hl.1 (Nat.le_of_ble_eq_true rfl) ⟨Nat.zero_le _, Nat.zero_le _⟩ h dX7_lasts_134 (fun t134 m_traced_134 m_trace_134 H locs h hP hD hS => ?_)
      have hP : va_P D vwCl [(qm 0, .inr (7, oX7 qm m_images m_newMany m_at m_open m_steps m_use m_traced_134 m_speaks m_isParted)), (qm 1, .inl (cI, 3974, .inl m_s)), (qm 17, .inl (cI, 30, .inl m_trace_134))] H := hP
      have hD : va_D A [(qm 0, .inr (7, oX7 qm m_images m_newMany m_at m_open m_steps m_use m_traced_134 m_speaks m_isParted)), (qm 1, .inl (cI, 3974, .inl m_s)), (qm 17, .inl (cI, 30, .inl m_trace_134))] := hD
      exact hret (t134, m_traced_134, m_trace_134) _ _ _ _ (vp_nar_int _) h hP hD hS dX7_lasts_137
    rw [f7_lasts.eq_2] at h
    refine lv_iconst (v := (0 : Int32)) hx hb dX7_lasts_0 (by decide) ?_
    refine lv_istore_n (lv' := [(3, .int ((0 : Int32))), (0, .ref (qm 0)), (1, .int x1), (2, .int x2)]) hx hb dX7_lasts_1 rfl hl (by decide) rfl (fun ls hl => ?_)
    refine lv_iload_n hx hb dX7_lasts_2 rfl (lv_at hl 2 rfl) ?_
    rcases Decidable.em (x1 = (0 : Int32)) with w0 | w0
    · have h := q_t h w0
      refine lv_tableIn hx hb dX7_lasts_3 (off := 37) (tgt := 40) (by rw [w0]; decide) (by rw [w0]; decide) (by rw [w0]; rfl) (by decide) ?_
      refine lv_aload_n hx hb dX7_lasts_40 rfl (lv_at hl 1 rfl) ?_
      refine lv_bipush (v := (12 : Int32)) hx hb dX7_lasts_41 (by decide) ?_
      refine q_callV2 q_E0ok (rest := []) (fun u => [(qm 0, .inr (7, oX7 qm m_images m_newMany m_at m_open m_steps m_use u.1 m_speaks m_isParted)), (qm 17, .inl (cI, 30, .inl u.2))]) ⟨hx, hb, hml, hown, hts⟩ (fun u hu => c7_begins l D cI qm m_images m_newMany m_at m_open m_steps m_use m_traced m_speaks m_isParted m_trace ((12 : Int32)) u hu) (cwV 1 hts gX7_lasts_X7_begins rfl rfl rfl hdX7_begins (rmq_ok (by omega) (Nat.le_of_ble_eq_true rfl))) hK hEv hA hP hD hS [0, 2] (by decide) rfl (fun _ => rfl) (va_recv hK hP (ci := 7) (q0 := 0) rfl rfl) rfl rfl hl.1 (Nat.le_of_ble_eq_true rfl) ⟨Nat.zero_le _, Nat.zero_le _⟩ h dX7_lasts_43 (fun m_traced_43 m_trace_43 H locs h hP hD hS => ?_)
      have hP : va_P D vwCl [(qm 0, .inr (7, oX7 qm m_images m_newMany m_at m_open m_steps m_use m_traced_43 m_speaks m_isParted)), (qm 1, .inl (cI, 3974, .inl m_s)), (qm 17, .inl (cI, 30, .inl m_trace_43))] H := hP
      have hD : va_D A [(qm 0, .inr (7, oX7 qm m_images m_newMany m_at m_open m_steps m_use m_traced_43 m_speaks m_isParted)), (qm 1, .inl (cI, 3974, .inl m_s)), (qm 17, .inl (cI, 30, .inl m_trace_43))] := hD
      refine lv_aload_n hx hb dX7_lasts_46 rfl (lv_at hl 1 rfl) ?_
      refine lv_aload_n hx hb dX7_lasts_47 rfl (lv_at hl 1 rfl) ?_
      refine q_callR q_E0ok (rest := [.ref (qm 0)]) ⟨hx, hb, hml, hown, hts⟩ (fun r hr => c7_kindNow l D cI qm m_images m_newMany m_at m_open m_steps m_use m_traced_43 m_speaks m_isParted m_s r hr) (cwV 0 hts gX7_lasts_X7_kindNow rfl rfl rfl hdX7_kindNow (rmq_ok (by omega) (Nat.le_of_ble_eq_true rfl))) hK hP hEv hS [0, 1] rfl (va_recv hK hP (ci := 7) (q0 := 0) rfl rfl) rfl rfl hl.1 (Nat.le_of_ble_eq_true rfl) ⟨Nat.zero_le _, Nat.zero_le _⟩ h dX7_lasts_48 (fun t48 h => ?_)
      refine lv_iload_n hx hb dX7_lasts_51 rfl (lv_at hl 3 rfl) ?_
      refine q_callW3 q_E0ok (rest := []) (fun u => [(qm 0, .inr (7, oX7 qm m_images m_newMany m_at m_open m_steps m_use u.2.1 m_speaks m_isParted)), (qm 1, .inl (cI, 3974, .inl m_s)), (qm 17, .inl (cI, 30, .inl u.2.2))]) (fun u => u.1) ⟨hx, hb, hml, hown, hts⟩ (fun u hu => c7_undoes l D cI qm 8 m_images m_newMany m_at m_open m_steps m_use m_traced_43 m_speaks m_isParted m_s m_trace_43 t48 x2 u hu) (cwV 2 hts gX7_lasts_X7_undoes rfl rfl rfl hdX7_undoes (rmq_ok (by omega) (Nat.le_of_ble_eq_true rfl))) hK hEv hA hP hD hS [0, 1, 2] (by decide) rfl (fun _ => rfl) (va_recv hK hP (ci := 7) (q0 := 0) rfl rfl) rfl rfl hl.1 (Nat.le_of_ble_eq_true rfl) ⟨Nat.zero_le _, Nat.zero_le _⟩ h dX7_lasts_52 (fun t52 m_traced_52 m_trace_52 H locs h hP hD hS => ?_)
      have hP : va_P D vwCl [(qm 0, .inr (7, oX7 qm m_images m_newMany m_at m_open m_steps m_use m_traced_52 m_speaks m_isParted)), (qm 1, .inl (cI, 3974, .inl m_s)), (qm 17, .inl (cI, 30, .inl m_trace_52))] H := hP
      have hD : va_D A [(qm 0, .inr (7, oX7 qm m_images m_newMany m_at m_open m_steps m_use m_traced_52 m_speaks m_isParted)), (qm 1, .inl (cI, 3974, .inl m_s)), (qm 17, .inl (cI, 30, .inl m_trace_52))] := hD
      refine lv_aload_n hx hb dX7_lasts_55 rfl (lv_at hl 1 rfl) ?_
      refine va_get (D := D) (ci := 7) (v := .int m_speaks) (C := RX7) (T := TX7) (N := 24) hx hb hts in7 hown hK hP 0 rfl rfl 18 (by decide) l249 (fun _ h9 => h9) rfl dX7_lasts_56 ?_
      refine lv_isub hx hb dX7_lasts_59 ?_
      exact hret (t52 - m_speaks, m_traced_52, m_trace_52) _ _ _ _ (vp_nar_int _) h hP hD hS dX7_lasts_60
    have h := q_f h w0
    rcases Decidable.em (x1 = (1 : Int32)) with w1 | w1
    · have h := q_t h w1
      refine lv_tableIn hx hb dX7_lasts_3 (off := 58) (tgt := 61) (by rw [w1]; decide) (by rw [w1]; decide) (by rw [w1]; rfl) (by decide) ?_
      refine lv_aload_n hx hb dX7_lasts_61 rfl (lv_at hl 1 rfl) ?_
      refine lv_bipush (v := (21 : Int32)) hx hb dX7_lasts_62 (by decide) ?_
      refine q_callV2 q_E0ok (rest := []) (fun u => [(qm 0, .inr (7, oX7 qm m_images m_newMany m_at m_open m_steps m_use u.1 m_speaks m_isParted)), (qm 17, .inl (cI, 30, .inl u.2))]) ⟨hx, hb, hml, hown, hts⟩ (fun u hu => c7_begins l D cI qm m_images m_newMany m_at m_open m_steps m_use m_traced m_speaks m_isParted m_trace ((21 : Int32)) u hu) (cwV 1 hts gX7_lasts_X7_begins rfl rfl rfl hdX7_begins (rmq_ok (by omega) (Nat.le_of_ble_eq_true rfl))) hK hEv hA hP hD hS [0, 2] (by decide) rfl (fun _ => rfl) (va_recv hK hP (ci := 7) (q0 := 0) rfl rfl) rfl rfl hl.1 (Nat.le_of_ble_eq_true rfl) ⟨Nat.zero_le _, Nat.zero_le _⟩ h dX7_lasts_64 (fun m_traced_64 m_trace_64 H locs h hP hD hS => ?_)
      have hP : va_P D vwCl [(qm 0, .inr (7, oX7 qm m_images m_newMany m_at m_open m_steps m_use m_traced_64 m_speaks m_isParted)), (qm 1, .inl (cI, 3974, .inl m_s)), (qm 17, .inl (cI, 30, .inl m_trace_64))] H := hP
      have hD : va_D A [(qm 0, .inr (7, oX7 qm m_images m_newMany m_at m_open m_steps m_use m_traced_64 m_speaks m_isParted)), (qm 1, .inl (cI, 3974, .inl m_s)), (qm 17, .inl (cI, 30, .inl m_trace_64))] := hD
      refine lv_aload_n hx hb dX7_lasts_67 rfl (lv_at hl 1 rfl) ?_
      refine lv_iconst (v := (1 : Int32)) hx hb dX7_lasts_68 (by decide) ?_
      refine q_callRS q_E0ok (rest := [.ref (qm 0)]) ⟨hx, hb, hml, hown, hts⟩ (fun r hr => c7_above l D cI ((1 : Int32)) r hr) (va_cwS 1 hts gX7_lasts_X7_above rfl rfl rfl hdX7_above (rmq_ok (by omega) (Nat.le_of_ble_eq_true rfl))) hK hP hEv hS [] rfl rfl rfl hl.1 (Nat.le_of_ble_eq_true rfl) ⟨Nat.zero_le _, Nat.zero_le _⟩ h dX7_lasts_69 (fun t69 h => ?_)
      refine lv_iload_n hx hb dX7_lasts_72 rfl (lv_at hl 3 rfl) ?_
      refine q_callW3 q_E0ok (rest := []) (fun u => [(qm 0, .inr (7, oX7 qm m_images m_newMany m_at m_open m_steps m_use u.2.1 m_speaks m_isParted)), (qm 1, .inl (cI, 3974, .inl m_s)), (qm 17, .inl (cI, 30, .inl u.2.2))]) (fun u => u.1) ⟨hx, hb, hml, hown, hts⟩ (fun u hu => ih m_images m_newMany m_at m_open m_steps m_use m_traced_64 m_speaks m_isParted m_s m_trace_64 t69 x2 u hu) (cwV 2 hts gX7_lasts_X7_lasts rfl rfl rfl hdX7_lasts (rmq_ok (by omega) (Nat.le_of_ble_eq_true rfl))) hK hEv hA hP hD hS [0, 1, 2] (by decide) rfl (fun _ => rfl) (va_recv hK hP (ci := 7) (q0 := 0) rfl rfl) rfl rfl hl.1 (Nat.le_of_ble_eq_true rfl) ⟨Nat.zero_le _, Nat.zero_le _⟩ h dX7_lasts_73 (fun t73 m_traced_73 m_trace_73 H locs h hP hD hS => ?_)
      have hP : va_P D vwCl [(qm 0, .inr (7, oX7 qm m_images m_newMany m_at m_open m_steps m_use m_traced_73 m_speaks m_isParted)), (qm 1, .inl (cI, 3974, .inl m_s)), (qm 17, .inl (cI, 30, .inl m_trace_73))] H := hP
      have hD : va_D A [(qm 0, .inr (7, oX7 qm m_images m_newMany m_at m_open m_steps m_use m_traced_73 m_speaks m_isParted)), (qm 1, .inl (cI, 3974, .inl m_s)), (qm 17, .inl (cI, 30, .inl m_trace_73))] := hD
      refine lv_aload_n hx hb dX7_lasts_76 rfl (lv_at hl 1 rfl) ?_
      refine q_callR q_E0ok (rest := [.int t73]) ⟨hx, hb, hml, hown, hts⟩ (fun r hr => c7_writerNow l D cI qm m_images m_newMany m_at m_open m_steps m_use m_traced_73 m_speaks m_isParted m_s r hr) (cwV 0 hts gX7_lasts_X7_writerNow rfl rfl rfl hdX7_writerNow (rmq_ok (by omega) (Nat.le_of_ble_eq_true rfl))) hK hP hEv hS [0, 1] rfl (va_recv hK hP (ci := 7) (q0 := 0) rfl rfl) rfl rfl hl.1 (Nat.le_of_ble_eq_true rfl) ⟨Nat.zero_le _, Nat.zero_le _⟩ h dX7_lasts_77 (fun t77 h => ?_)
      refine lv_ixor hx hb dX7_lasts_80 ?_
      exact hret (t73 ^^^ t77, m_traced_73, m_trace_73) _ _ _ _ (vp_nar_int _) h hP hD hS dX7_lasts_81
    have h := q_f h w1
    rcases Decidable.em (x1 = (2 : Int32)) with w2 | w2
    · have h := q_t h w2
      refine lv_tableIn hx hb dX7_lasts_3 (off := 125) (tgt := 128) (by rw [w2]; decide) (by rw [w2]; decide) (by rw [w2]; rfl) (by decide) ?_
      exact J128 x1 x2 m_traced m_trace _ _ _ (lv_sub hl [1, 2, 3] rfl) hP hD hS h
    have h := q_f h w2
    rcases Decidable.em (x1 = (3 : Int32)) with w3 | w3
    · have h := q_t h w3
      refine lv_tableIn hx hb dX7_lasts_3 (off := 79) (tgt := 82) (by rw [w3]; decide) (by rw [w3]; decide) (by rw [w3]; rfl) (by decide) ?_
      refine lv_aload_n hx hb dX7_lasts_82 rfl (lv_at hl 1 rfl) ?_
      refine lv_bipush (v := (41 : Int32)) hx hb dX7_lasts_83 (by decide) ?_
      refine q_callV2 q_E0ok (rest := []) (fun u => [(qm 0, .inr (7, oX7 qm m_images m_newMany m_at m_open m_steps m_use u.1 m_speaks m_isParted)), (qm 17, .inl (cI, 30, .inl u.2))]) ⟨hx, hb, hml, hown, hts⟩ (fun u hu => c7_begins l D cI qm m_images m_newMany m_at m_open m_steps m_use m_traced m_speaks m_isParted m_trace ((41 : Int32)) u hu) (cwV 1 hts gX7_lasts_X7_begins rfl rfl rfl hdX7_begins (rmq_ok (by omega) (Nat.le_of_ble_eq_true rfl))) hK hEv hA hP hD hS [0, 2] (by decide) rfl (fun _ => rfl) (va_recv hK hP (ci := 7) (q0 := 0) rfl rfl) rfl rfl hl.1 (Nat.le_of_ble_eq_true rfl) ⟨Nat.zero_le _, Nat.zero_le _⟩ h dX7_lasts_85 (fun m_traced_85 m_trace_85 H locs h hP hD hS => ?_)
      have hP : va_P D vwCl [(qm 0, .inr (7, oX7 qm m_images m_newMany m_at m_open m_steps m_use m_traced_85 m_speaks m_isParted)), (qm 1, .inl (cI, 3974, .inl m_s)), (qm 17, .inl (cI, 30, .inl m_trace_85))] H := hP
      have hD : va_D A [(qm 0, .inr (7, oX7 qm m_images m_newMany m_at m_open m_steps m_use m_traced_85 m_speaks m_isParted)), (qm 1, .inl (cI, 3974, .inl m_s)), (qm 17, .inl (cI, 30, .inl m_trace_85))] := hD
      refine lv_aload_n hx hb dX7_lasts_88 rfl (lv_at hl 1 rfl) ?_
      refine lv_iconst (v := (3 : Int32)) hx hb dX7_lasts_89 (by decide) ?_
      refine q_callRS q_E0ok (rest := [.ref (qm 0)]) ⟨hx, hb, hml, hown, hts⟩ (fun r hr => c7_above l D cI ((3 : Int32)) r hr) (va_cwS 1 hts gX7_lasts_X7_above rfl rfl rfl hdX7_above (rmq_ok (by omega) (Nat.le_of_ble_eq_true rfl))) hK hP hEv hS [] rfl rfl rfl hl.1 (Nat.le_of_ble_eq_true rfl) ⟨Nat.zero_le _, Nat.zero_le _⟩ h dX7_lasts_90 (fun t90 h => ?_)
      refine lv_iload_n hx hb dX7_lasts_93 rfl (lv_at hl 3 rfl) ?_
      refine q_callW3 q_E0ok (rest := []) (fun u => [(qm 0, .inr (7, oX7 qm m_images m_newMany m_at m_open m_steps m_use u.2.1 m_speaks m_isParted)), (qm 1, .inl (cI, 3974, .inl m_s)), (qm 17, .inl (cI, 30, .inl u.2.2))]) (fun u => u.1) ⟨hx, hb, hml, hown, hts⟩ (fun u hu => ih m_images m_newMany m_at m_open m_steps m_use m_traced_85 m_speaks m_isParted m_s m_trace_85 t90 x2 u hu) (cwV 2 hts gX7_lasts_X7_lasts rfl rfl rfl hdX7_lasts (rmq_ok (by omega) (Nat.le_of_ble_eq_true rfl))) hK hEv hA hP hD hS [0, 1, 2] (by decide) rfl (fun _ => rfl) (va_recv hK hP (ci := 7) (q0 := 0) rfl rfl) rfl rfl hl.1 (Nat.le_of_ble_eq_true rfl) ⟨Nat.zero_le _, Nat.zero_le _⟩ h dX7_lasts_94 (fun t94 m_traced_94 m_trace_94 H locs h hP hD hS => ?_)
      have hP : va_P D vwCl [(qm 0, .inr (7, oX7 qm m_images m_newMany m_at m_open m_steps m_use m_traced_94 m_speaks m_isParted)), (qm 1, .inl (cI, 3974, .inl m_s)), (qm 17, .inl (cI, 30, .inl m_trace_94))] H := hP
      have hD : va_D A [(qm 0, .inr (7, oX7 qm m_images m_newMany m_at m_open m_steps m_use m_traced_94 m_speaks m_isParted)), (qm 1, .inl (cI, 3974, .inl m_s)), (qm 17, .inl (cI, 30, .inl m_trace_94))] := hD
      refine lv_istore_n (lv' := [(3, .int t94), (0, .ref (qm 0)), (1, .int x1), (2, .int x2)]) hx hb dX7_lasts_97 rfl hl (by decide) rfl (fun ls hl => ?_)
      refine lv_iload_n hx hb dX7_lasts_98 rfl (lv_at hl 0 rfl) ?_
      refine lv_aload_n hx hb dX7_lasts_99 rfl (lv_at hl 1 rfl) ?_
      refine lv_aload_n hx hb dX7_lasts_100 rfl (lv_at hl 1 rfl) ?_
      refine q_callR q_E0ok (rest := [.ref (qm 0), .int t94]) ⟨hx, hb, hml, hown, hts⟩ (fun r hr => c7_kindNow l D cI qm m_images m_newMany m_at m_open m_steps m_use m_traced_94 m_speaks m_isParted m_s r hr) (cwV 0 hts gX7_lasts_X7_kindNow rfl rfl rfl hdX7_kindNow (rmq_ok (by omega) (Nat.le_of_ble_eq_true rfl))) hK hP hEv hS [0, 1] rfl (va_recv hK hP (ci := 7) (q0 := 0) rfl rfl) rfl rfl hl.1 (Nat.le_of_ble_eq_true rfl) ⟨Nat.zero_le _, Nat.zero_le _⟩ h dX7_lasts_101 (fun t101 h => ?_)
      refine lv_iconst (v := (2 : Int32)) hx hb dX7_lasts_104 (by decide) ?_
      refine q_callW3 q_E0ok (rest := [.int t94]) (fun u => [(qm 0, .inr (7, oX7 qm m_images m_newMany m_at m_open m_steps m_use u.2.1 m_speaks m_isParted)), (qm 1, .inl (cI, 3974, .inl m_s)), (qm 17, .inl (cI, 30, .inl u.2.2))]) (fun u => u.1) ⟨hx, hb, hml, hown, hts⟩ (fun u hu => c7_undoes l D cI qm 8 m_images m_newMany m_at m_open m_steps m_use m_traced_94 m_speaks m_isParted m_s m_trace_94 t101 ((2 : Int32)) u hu) (cwV 2 hts gX7_lasts_X7_undoes rfl rfl rfl hdX7_undoes (rmq_ok (by omega) (Nat.le_of_ble_eq_true rfl))) hK hEv hA hP hD hS [0, 1, 2] (by decide) rfl (fun _ => rfl) (va_recv hK hP (ci := 7) (q0 := 0) rfl rfl) rfl rfl hl.1 (Nat.le_of_ble_eq_true rfl) ⟨Nat.zero_le _, Nat.zero_le _⟩ h dX7_lasts_105 (fun t105 m_traced_105 m_trace_105 H locs h hP hD hS => ?_)
      have hP : va_P D vwCl [(qm 0, .inr (7, oX7 qm m_images m_newMany m_at m_open m_steps m_use m_traced_105 m_speaks m_isParted)), (qm 1, .inl (cI, 3974, .inl m_s)), (qm 17, .inl (cI, 30, .inl m_trace_105))] H := hP
      have hD : va_D A [(qm 0, .inr (7, oX7 qm m_images m_newMany m_at m_open m_steps m_use m_traced_105 m_speaks m_isParted)), (qm 1, .inl (cI, 3974, .inl m_s)), (qm 17, .inl (cI, 30, .inl m_trace_105))] := hD
      refine lv_isub hx hb dX7_lasts_108 ?_
      exact hret (t94 - t105, m_traced_105, m_trace_105) _ _ _ _ (vp_nar_int _) h hP hD hS dX7_lasts_109
    have h := q_f h w3
    rcases Decidable.em (x1 = (4 : Int32)) with w4 | w4
    · have h := q_t h w4
      refine lv_tableIn hx hb dX7_lasts_3 (off := 125) (tgt := 128) (by rw [w4]; decide) (by rw [w4]; decide) (by rw [w4]; rfl) (by decide) ?_
      exact J128 x1 x2 m_traced m_trace _ _ _ (lv_sub hl [1, 2, 3] rfl) hP hD hS h
    have h := q_f h w4
    rcases Decidable.em (x1 = (5 : Int32)) with w5 | w5
    · have h := q_t h w5
      refine lv_tableIn hx hb dX7_lasts_3 (off := 107) (tgt := 110) (by rw [w5]; decide) (by rw [w5]; decide) (by rw [w5]; rfl) (by decide) ?_
      refine lv_aload_n hx hb dX7_lasts_110 rfl (lv_at hl 1 rfl) ?_
      refine lv_bipush (v := (60 : Int32)) hx hb dX7_lasts_111 (by decide) ?_
      refine q_callV2 q_E0ok (rest := []) (fun u => [(qm 0, .inr (7, oX7 qm m_images m_newMany m_at m_open m_steps m_use u.1 m_speaks m_isParted)), (qm 17, .inl (cI, 30, .inl u.2))]) ⟨hx, hb, hml, hown, hts⟩ (fun u hu => c7_begins l D cI qm m_images m_newMany m_at m_open m_steps m_use m_traced m_speaks m_isParted m_trace ((60 : Int32)) u hu) (cwV 1 hts gX7_lasts_X7_begins rfl rfl rfl hdX7_begins (rmq_ok (by omega) (Nat.le_of_ble_eq_true rfl))) hK hEv hA hP hD hS [0, 2] (by decide) rfl (fun _ => rfl) (va_recv hK hP (ci := 7) (q0 := 0) rfl rfl) rfl rfl hl.1 (Nat.le_of_ble_eq_true rfl) ⟨Nat.zero_le _, Nat.zero_le _⟩ h dX7_lasts_113 (fun m_traced_113 m_trace_113 H locs h hP hD hS => ?_)
      have hP : va_P D vwCl [(qm 0, .inr (7, oX7 qm m_images m_newMany m_at m_open m_steps m_use m_traced_113 m_speaks m_isParted)), (qm 1, .inl (cI, 3974, .inl m_s)), (qm 17, .inl (cI, 30, .inl m_trace_113))] H := hP
      have hD : va_D A [(qm 0, .inr (7, oX7 qm m_images m_newMany m_at m_open m_steps m_use m_traced_113 m_speaks m_isParted)), (qm 1, .inl (cI, 3974, .inl m_s)), (qm 17, .inl (cI, 30, .inl m_trace_113))] := hD
      refine lv_aload_n hx hb dX7_lasts_116 rfl (lv_at hl 1 rfl) ?_
      refine lv_iconst (v := (5 : Int32)) hx hb dX7_lasts_117 (by decide) ?_
      refine q_callRS q_E0ok (rest := [.ref (qm 0)]) ⟨hx, hb, hml, hown, hts⟩ (fun r hr => c7_above l D cI ((5 : Int32)) r hr) (va_cwS 1 hts gX7_lasts_X7_above rfl rfl rfl hdX7_above (rmq_ok (by omega) (Nat.le_of_ble_eq_true rfl))) hK hP hEv hS [] rfl rfl rfl hl.1 (Nat.le_of_ble_eq_true rfl) ⟨Nat.zero_le _, Nat.zero_le _⟩ h dX7_lasts_118 (fun t118 h => ?_)
      refine lv_iload_n hx hb dX7_lasts_121 rfl (lv_at hl 3 rfl) ?_
      refine lv_iconst (v := (1 : Int32)) hx hb dX7_lasts_122 (by decide) ?_
      refine lv_iadd hx hb dX7_lasts_123 ?_
      refine q_callW3 q_E0ok (rest := []) (fun u => [(qm 0, .inr (7, oX7 qm m_images m_newMany m_at m_open m_steps m_use u.2.1 m_speaks m_isParted)), (qm 1, .inl (cI, 3974, .inl m_s)), (qm 17, .inl (cI, 30, .inl u.2.2))]) (fun u => u.1) ⟨hx, hb, hml, hown, hts⟩ (fun u hu => ih m_images m_newMany m_at m_open m_steps m_use m_traced_113 m_speaks m_isParted m_s m_trace_113 t118 (x2 + ((1 : Int32))) u hu) (cwV 2 hts gX7_lasts_X7_lasts rfl rfl rfl hdX7_lasts (rmq_ok (by omega) (Nat.le_of_ble_eq_true rfl))) hK hEv hA hP hD hS [0, 1, 2] (by decide) rfl (fun _ => rfl) (va_recv hK hP (ci := 7) (q0 := 0) rfl rfl) rfl rfl hl.1 (Nat.le_of_ble_eq_true rfl) ⟨Nat.zero_le _, Nat.zero_le _⟩ h dX7_lasts_124 (fun t124 m_traced_124 m_trace_124 H locs h hP hD hS => ?_)
      have hP : va_P D vwCl [(qm 0, .inr (7, oX7 qm m_images m_newMany m_at m_open m_steps m_use m_traced_124 m_speaks m_isParted)), (qm 1, .inl (cI, 3974, .inl m_s)), (qm 17, .inl (cI, 30, .inl m_trace_124))] H := hP
      have hD : va_D A [(qm 0, .inr (7, oX7 qm m_images m_newMany m_at m_open m_steps m_use m_traced_124 m_speaks m_isParted)), (qm 1, .inl (cI, 3974, .inl m_s)), (qm 17, .inl (cI, 30, .inl m_trace_124))] := hD
      exact hret (t124, m_traced_124, m_trace_124) _ _ _ _ (vp_nar_int _) h hP hD hS dX7_lasts_127
    have h := q_f h w5
    refine lv_tableOut hx hb dX7_lasts_3 (tgt := 128) (q_out (fun k hk e => ?_)) (by decide) ?_
    · rcases (show k = 0 ∨ k = 1 ∨ k = 2 ∨ k = 3 ∨ k = 4 ∨ k = 5 by omega) with rfl | rfl | rfl | rfl | rfl | rfl
      · exact w0 (Int32.toInt_inj.mp (e.trans (by decide)))
      · exact w1 (Int32.toInt_inj.mp (e.trans (by decide)))
      · exact w2 (Int32.toInt_inj.mp (e.trans (by decide)))
      · exact w3 (Int32.toInt_inj.mp (e.trans (by decide)))
      · exact w4 (Int32.toInt_inj.mp (e.trans (by decide)))
      · exact w5 (Int32.toInt_inj.mp (e.trans (by decide)))
    · exact J128 x1 x2 m_traced m_trace _ _ _ (lv_sub hl [1, 2, 3] rfl) hP hD hS h
