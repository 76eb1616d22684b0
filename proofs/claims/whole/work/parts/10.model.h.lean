set_option maxHeartbeats 4000000 in
set_option maxRecDepth 100000 in
theorem c7_writerIs (l : Launch) (D : va_G) (cI : ClassId) (qm : Nat → Nat) (m_images m_newMany m_at m_open m_steps m_use m_traced m_speaks m_isParted : Int32) (m_s m_errors m_undoneBy : Nat → Int32) (x1 : Int32) (x2 : Int32) (n : Nat) (u : Int32 × (Nat → Int32) × (Nat → Int32)) (h : f7_writerIs n x1 x2 m_s m_errors m_undoneBy = some u) : q_RW q_E0 l yX7_writerIs wsX7_writerIs (rmq (3)) D cI [.ref (qm 0), .int x1, .int x2] [(qm 0, .inr (7, oX7 qm m_images m_newMany m_at m_open m_steps m_use m_traced m_speaks m_isParted)), (qm 1, .inl (cI, 3974, .inl m_s)), (qm 4, .inl (cI, 7, .inl m_errors)), (qm 16, .inl (cI, 60, .inl m_undoneBy))] [(qm 0, .inr (7, oX7 qm m_images m_newMany m_at m_open m_steps m_use m_traced m_speaks m_isParted)), (qm 1, .inl (cI, 3974, .inl m_s)), (qm 4, .inl (cI, 7, .inl u.2.1)), (qm 16, .inl (cI, 60, .inl u.2.2))] u.1 := by
  refine q_startW (fun u : Int32 × (Nat → Int32) × (Nat → Int32) => [(qm 0, .inr (7, oX7 qm m_images m_newMany m_at m_open m_steps m_use m_traced m_speaks m_isParted)), (qm 1, .inl (cI, 3974, .inl m_s)), (qm 4, .inl (cI, 7, .inl u.2.1)), (qm 16, .inl (cI, 60, .inl u.2.2))]) (fun u => u.1) (cc := cX7_writerIs) (maxL := 6) (ty := .int) (own := RX7) (by decide) rfl rfl (Nat.le_of_ble_eq_true rfl) rfl (fun p e s m args below meth c Q A hx hb hml hown hts hK hEv hA hret hP hD hS ls hl => ?_)
  have in7 : ∀ w ∈ wsX70, w ∈ wsX7_writerIs := fun w h => List.mem_cons_of_mem _ (List.mem_append_right _ (h))
  have l7 := hts (.fieldLink RX7 7 "PageWarsModel" "s" "[I") (List.mem_of_getElem? (i := 1) rfl)
  have l37 := hts (.fieldLink RX7 37 "PageWarsModel" "undoneBy" "[I") (List.mem_of_getElem? (i := 2) rfl)
  have J83 : ∀ (kk83 : Nat) (x1 : Int32) (x2 : Int32) (x3 : Int32) (x4 : Int32) (m_errors : (Nat → Int32)) (m_undoneBy : (Nat → Int32)) (H : Heap) (locs : List Loc) (ls : Array Slot), lv_has ls 6 [(0, .ref (qm 0)), (1, .int x1), (2, .int x2), (3, .int x3), (4, .int x4)] → va_P D vwCl [(qm 0, .inr (7, oX7 qm m_images m_newMany m_at m_open m_steps m_use m_traced m_speaks m_isParted)), (qm 1, .inl (cI, 3974, .inl m_s)), (qm 4, .inl (cI, 7, .inl m_errors)), (qm 16, .inl (cI, 60, .inl m_undoneBy))] H → va_D A [(qm 0, .inr (7, oX7 qm m_images m_newMany m_at m_open m_steps m_use m_traced m_speaks m_isParted)), (qm 1, .inl (cI, 3974, .inl m_s)), (qm 4, .inl (cI, 7, .inl m_errors)), (qm 16, .inl (cI, 60, .inl m_undoneBy))] → va_S A s.heap H locs → f7_writerIs_83 n m_s kk83 x1 x2 x3 x4 m_errors m_undoneBy = some u → W p l e (rmq (3)) s m args below meth c H locs 0 0 Q (F0 m 83 ls []) := by
    intro kk83
    induction kk83 with
    | zero => intro x1 x2 x3 x4 m_errors m_undoneBy H locs ls hl hP hD hS h; exact nomatch (show (none : Option (Int32 × (Nat → Int32) × (Nat → Int32))) = some u from h)
    | succ kk83 ih83 =>
      have J151 : ∀ (x1 : Int32) (x2 : Int32) (x4 : Int32) (s0 : Int32) (s1 : Int32) (m_errors : (Nat → Int32)) (m_undoneBy : (Nat → Int32)) (H : Heap) (locs : List Loc) (ls : Array Slot), lv_has ls 6 [(0, .ref (qm 0)), (1, .int x1), (2, .int x2), (4, .int x4)] → va_P D vwCl [(qm 0, .inr (7, oX7 qm m_images m_newMany m_at m_open m_steps m_use m_traced m_speaks m_isParted)), (qm 1, .inl (cI, 3974, .inl m_s)), (qm 4, .inl (cI, 7, .inl m_errors)), (qm 16, .inl (cI, 60, .inl m_undoneBy))] H → va_D A [(qm 0, .inr (7, oX7 qm m_images m_newMany m_at m_open m_steps m_use m_traced m_speaks m_isParted)), (qm 1, .inl (cI, 3974, .inl m_s)), (qm 4, .inl (cI, 7, .inl m_errors)), (qm 16, .inl (cI, 60, .inl m_undoneBy))] → va_S A s.heap H locs → f7_writerIs_151 n m_s (f7_writerIs_83 n m_s kk83) x1 x2 x4 s0 s1 m_errors m_undoneBy = some u → W p l e (rmq (3)) s m args below meth c H locs 0 0 Q (F0 m 151 ls [.int s1, .int s0]) := by
        intro x1 x2 x4 s0 s1 m_errors m_undoneBy H locs ls hl hP hD hS h
        unfold f7_writerIs_151 at h
        refine lv_iadd hx hb dX7_writerIs_151 ?_
        refine q_let h (fun x3_152 h => ?_)
        refine lv_istore_n (lv' := [(3, .int x3_152), (0, .ref (qm 0)), (1, .int x1), (2, .int x2), (4, .int x4)]) hx hb dX7_writerIs_152 rfl hl (by decide) rfl (fun ls hl => ?_)
        refine q_iinc (fun v => [(4, .int v), (3, .int x3_152), (0, .ref (qm 0)), (1, .int x1), (2, .int x2)]) hx hb h dX7_writerIs_153 (by decide) hl (k := 4) rfl (by decide) (fun _ => rfl) (fun x4_153 ls h hl => ?_)
        refine lv_goto (tgt := 83) hx hb dX7_writerIs_156 (by decide) ?_
        exact ih83 x1 x2 x3_152 x4_153 m_errors m_undoneBy _ _ _ (lv_sub hl [2, 3, 4, 1, 0] rfl) hP hD hS h
      have J110 : ∀ (x1 : Int32) (x2 : Int32) (x3 : Int32) (x4 : Int32) (s0 : Int32) (m_errors : (Nat → Int32)) (m_undoneBy : (Nat → Int32)) (H : Heap) (locs : List Loc) (ls : Array Slot), lv_has ls 6 [(0, .ref (qm 0)), (1, .int x1), (2, .int x2), (3, .int x3), (4, .int x4)] → va_P D vwCl [(qm 0, .inr (7, oX7 qm m_images m_newMany m_at m_open m_steps m_use m_traced m_speaks m_isParted)), (qm 1, .inl (cI, 3974, .inl m_s)), (qm 4, .inl (cI, 7, .inl m_errors)), (qm 16, .inl (cI, 60, .inl m_undoneBy))] H → va_D A [(qm 0, .inr (7, oX7 qm m_images m_newMany m_at m_open m_steps m_use m_traced m_speaks m_isParted)), (qm 1, .inl (cI, 3974, .inl m_s)), (qm 4, .inl (cI, 7, .inl m_errors)), (qm 16, .inl (cI, 60, .inl m_undoneBy))] → va_S A s.heap H locs → f7_writerIs_110 n m_s (f7_writerIs_83 n m_s kk83) x1 x2 x3 x4 s0 m_errors m_undoneBy = some u → W p l e (rmq (3)) s m args below meth c H locs 0 0 Q (F0 m 110 ls [.int s0]) := by
        intro x1 x2 x3 x4 s0 m_errors m_undoneBy H locs ls hl hP hD hS h
        unfold f7_writerIs_110 at h
        refine lv_istore (lv' := [(5, .int s0), (0, .ref (qm 0)), (1, .int x1), (2, .int x2), (3, .int x3), (4, .int x4)]) hx hb dX7_writerIs_110 hl (by decide) rfl (fun ls hl => ?_)
        refine lv_iload_n hx hb dX7_writerIs_112 rfl (lv_at hl 4 rfl) ?_
        refine lv_iload hx hb dX7_writerIs_113 (lv_at hl 0 rfl) ?_
        refine q_ifne hx hb 122 h dX7_writerIs_115 (by decide) (fun h => ?_) (fun h => ?_)
        · refine lv_iload_n hx hb dX7_writerIs_122 rfl (lv_at hl 3 rfl) ?_
          refine lv_iconst (v := (1 : Int32)) hx hb dX7_writerIs_123 (by decide) ?_
          refine q_cne hx hb 136 h dX7_writerIs_124 (by decide) (fun h => ?_) (fun h => ?_)
          · refine lv_aload_n hx hb dX7_writerIs_136 rfl (lv_at hl 1 rfl) ?_
            refine va_get (D := D) (ci := 7) (v := .ref (qm 16)) (C := RX7) (T := TX7) (N := 24) hx hb hts in7 hown hK hP 0 rfl rfl 15 (by decide) l37 (fun _ h9 => h9) rfl dX7_writerIs_137 ?_
            refine lv_iload hx hb dX7_writerIs_140 (lv_at hl 5 rfl) ?_
            refine q_iald hx hb hK hP 3 0 rfl rfl h dX7_writerIs_142 (fun t142 h => ?_)
            refine q_iflt hx hb 150 h dX7_writerIs_143 (by decide) (fun h => ?_) (fun h => ?_)
            · refine lv_iconst (v := (0 : Int32)) hx hb dX7_writerIs_150 (by decide) ?_
              exact J151 x1 x2 x4 x3 ((0 : Int32)) m_errors m_undoneBy _ _ _ (lv_sub hl [1, 2, 3, 5] rfl) hP hD hS h
            · refine lv_iconst (v := (1 : Int32)) hx hb dX7_writerIs_146 (by decide) ?_
              refine lv_goto (tgt := 151) hx hb dX7_writerIs_147 (by decide) ?_
              exact J151 x1 x2 x4 x3 ((1 : Int32)) m_errors m_undoneBy _ _ _ (lv_sub hl [1, 2, 3, 5] rfl) hP hD hS h
          · refine lv_aload_n hx hb dX7_writerIs_127 rfl (lv_at hl 1 rfl) ?_
            refine lv_iload hx hb dX7_writerIs_128 (lv_at hl 5 rfl) ?_
            refine q_callR q_E0ok (rest := [.int x3]) ⟨hx, hb, hml, hown, hts⟩ (fun r hr => c7_staysOf l D cI qm m_images m_newMany m_at m_open m_steps m_use m_traced m_speaks m_isParted m_s x4 n r hr) (cwV 1 hts gX7_writerIs_X7_staysOf rfl rfl rfl hdX7_staysOf (rmq_ok (Nat.le_of_ble_eq_true rfl) (Nat.le_of_ble_eq_true rfl))) hK hP hEv hS [0, 1] rfl (va_recv hK hP (ci := 7) (q0 := 0) rfl rfl) rfl rfl hl.1 (Nat.le_of_ble_eq_true rfl) ⟨Nat.zero_le _, Nat.zero_le _⟩ h dX7_writerIs_130 (fun t130 h => ?_)
            refine lv_goto (tgt := 151) hx hb dX7_writerIs_133 (by decide) ?_
            exact J151 x1 x2 x4 x3 t130 m_errors m_undoneBy _ _ _ (lv_sub hl [1, 2, 3, 5] rfl) hP hD hS h
        · refine lv_iconst (v := (0 : Int32)) hx hb dX7_writerIs_118 (by decide) ?_
          refine lv_goto (tgt := 151) hx hb dX7_writerIs_119 (by decide) ?_
          exact J151 x1 x2 x4 x3 ((0 : Int32)) m_errors m_undoneBy _ _ _ (lv_sub hl [1, 2, 3, 5] rfl) hP hD hS h
      intro x1 x2 x3 x4 m_errors m_undoneBy H locs ls hl hP hD hS h
      rw [f7_writerIs_83.eq_2] at h
      refine lv_iload hx hb dX7_writerIs_83 (lv_at hl 4 rfl) ?_
      refine lv_aload_n hx hb dX7_writerIs_85 rfl (lv_at hl 0 rfl) ?_
      refine va_get (D := D) (ci := 7) (v := .ref (qm 1)) (C := RX7) (T := TX7) (N := 24) hx hb hts in7 hown hK hP 0 rfl rfl 0 (by decide) l7 (fun _ h9 => h9) rfl dX7_writerIs_86 ?_
      refine lv_iconst (v := (1 : Int32)) hx hb dX7_writerIs_89 (by decide) ?_
      refine q_iald hx hb hK hP 1 0 rfl rfl h dX7_writerIs_90 (fun t90 h => ?_)
      refine q_cge hx hb 159 h dX7_writerIs_91 (by decide) (fun h => ?_) (fun h => ?_)
      · refine lv_iload_n hx hb dX7_writerIs_159 rfl (lv_at hl 3 rfl) ?_
        exact hret (x3, m_errors, m_undoneBy) _ _ _ _ (vp_nar_int _) h hP hD hS dX7_writerIs_160
      · refine lv_aload_n hx hb dX7_writerIs_94 rfl (lv_at hl 0 rfl) ?_
        refine lv_iload hx hb dX7_writerIs_95 (lv_at hl 4 rfl) ?_
        refine lv_iconst (v := (1 : Int32)) hx hb dX7_writerIs_97 (by decide) ?_
        refine q_callR q_E0ok (rest := []) ⟨hx, hb, hml, hown, hts⟩ (fun r hr => c7_actIs1 l D cI qm m_images m_newMany m_at m_open m_steps m_use m_traced m_speaks m_isParted m_s x4 ((1 : Int32)) r hr) (cwV 2 hts gX7_writerIs_X7_actIs1 rfl rfl rfl hdX7_actIs1 (rmq_ok (Nat.le_of_ble_eq_true rfl) (Nat.le_of_ble_eq_true rfl))) hK hP hEv hS [0, 1] rfl (va_recv hK hP (ci := 7) (q0 := 0) rfl rfl) rfl rfl hl.1 (Nat.le_of_ble_eq_true rfl) ⟨Nat.zero_le _, Nat.zero_le _⟩ h dX7_writerIs_98 (fun t98 h => ?_)
        refine lv_iload_n hx hb dX7_writerIs_101 rfl (lv_at hl 1 rfl) ?_
        refine q_cne hx hb 109 h dX7_writerIs_102 (by decide) (fun h => ?_) (fun h => ?_)
        · refine lv_iconst (v := (0 : Int32)) hx hb dX7_writerIs_109 (by decide) ?_
          exact J110 x1 x2 x3 x4 ((0 : Int32)) m_errors m_undoneBy _ _ _ (lv_sub hl [0, 1, 2, 3, 4] rfl) hP hD hS h
        · refine lv_iconst (v := (1 : Int32)) hx hb dX7_writerIs_105 (by decide) ?_
          refine lv_goto (tgt := 110) hx hb dX7_writerIs_106 (by decide) ?_
          exact J110 x1 x2 x3 x4 ((1 : Int32)) m_errors m_undoneBy _ _ _ (lv_sub hl [0, 1, 2, 3, 4] rfl) hP hD hS h
  have J77 : ∀ (s0 : Int32) (m_errors : (Nat → Int32)) (m_undoneBy : (Nat → Int32)) (H : Heap) (locs : List Loc) (ls : Array Slot), lv_has ls 6 [(0, .ref (qm 0))] → va_P D vwCl [(qm 0, .inr (7, oX7 qm m_images m_newMany m_at m_open m_steps m_use m_traced m_speaks m_isParted)), (qm 1, .inl (cI, 3974, .inl m_s)), (qm 4, .inl (cI, 7, .inl m_errors)), (qm 16, .inl (cI, 60, .inl m_undoneBy))] H → va_D A [(qm 0, .inr (7, oX7 qm m_images m_newMany m_at m_open m_steps m_use m_traced m_speaks m_isParted)), (qm 1, .inl (cI, 3974, .inl m_s)), (qm 4, .inl (cI, 7, .inl m_errors)), (qm 16, .inl (cI, 60, .inl m_undoneBy))] → va_S A s.heap H locs → f7_writerIs_77 n m_s s0 m_errors m_undoneBy = some u → W p l e (rmq (3)) s m args below meth c H locs 0 0 Q (F0 m 77 ls [.int s0]) := by
    intro s0 m_errors m_undoneBy H locs ls hl hP hD hS h
    unfold f7_writerIs_77 at h
    exact hret (s0, m_errors, m_undoneBy) _ _ _ _ (vp_nar_int _) h hP hD hS dX7_writerIs_77
  have J60 : ∀ (x1 : Int32) (x2 : Int32) (m_errors : (Nat → Int32)) (m_undoneBy : (Nat → Int32)) (H : Heap) (locs : List Loc) (ls : Array Slot), lv_has ls 6 [(0, .ref (qm 0)), (1, .int x1), (2, .int x2)] → va_P D vwCl [(qm 0, .inr (7, oX7 qm m_images m_newMany m_at m_open m_steps m_use m_traced m_speaks m_isParted)), (qm 1, .inl (cI, 3974, .inl m_s)), (qm 4, .inl (cI, 7, .inl m_errors)), (qm 16, .inl (cI, 60, .inl m_undoneBy))] H → va_D A [(qm 0, .inr (7, oX7 qm m_images m_newMany m_at m_open m_steps m_use m_traced m_speaks m_isParted)), (qm 1, .inl (cI, 3974, .inl m_s)), (qm 4, .inl (cI, 7, .inl m_errors)), (qm 16, .inl (cI, 60, .inl m_undoneBy))] → va_S A s.heap H locs → f7_writerIs_60 n m_s x1 x2 m_errors m_undoneBy = some u → W p l e (rmq (3)) s m args below meth c H locs 0 0 Q (F0 m 60 ls []) := by
    intro x1 x2 m_errors m_undoneBy H locs ls hl hP hD hS h
    unfold f7_writerIs_60 at h
    refine lv_iload_n hx hb dX7_writerIs_60 rfl (lv_at hl 2 rfl) ?_
    refine q_ifne hx hb 72 h dX7_writerIs_61 (by decide) (fun h => ?_) (fun h => ?_)
    · refine lv_aload_n hx hb dX7_writerIs_72 rfl (lv_at hl 0 rfl) ?_
      refine lv_iload_n hx hb dX7_writerIs_73 rfl (lv_at hl 1 rfl) ?_
      refine q_callR q_E0ok (rest := []) ⟨hx, hb, hml, hown, hts⟩ (fun r hr => c7_backsOf l D cI qm m_images m_newMany m_at m_open m_steps m_use m_traced m_speaks m_isParted m_s x1 n r hr) (cwV 1 hts gX7_writerIs_X7_backsOf rfl rfl rfl hdX7_backsOf (rmq_ok (Nat.le_of_ble_eq_true rfl) (Nat.le_of_ble_eq_true rfl))) hK hP hEv hS [0, 1] rfl (va_recv hK hP (ci := 7) (q0 := 0) rfl rfl) rfl rfl hl.1 (Nat.le_of_ble_eq_true rfl) ⟨Nat.zero_le _, Nat.zero_le _⟩ h dX7_writerIs_74 (fun t74 h => ?_)
      exact J77 t74 m_errors m_undoneBy _ _ _ (lv_sub hl [0] rfl) hP hD hS h
    · refine lv_aload_n hx hb dX7_writerIs_64 rfl (lv_at hl 0 rfl) ?_
      refine lv_iload_n hx hb dX7_writerIs_65 rfl (lv_at hl 1 rfl) ?_
      refine q_callR q_E0ok (rest := []) ⟨hx, hb, hml, hown, hts⟩ (fun r hr => c7_wordsOf l D cI qm m_images m_newMany m_at m_open m_steps m_use m_traced m_speaks m_isParted m_s x1 n r hr) (cwV 1 hts gX7_writerIs_X7_wordsOf rfl rfl rfl hdX7_wordsOf (rmq_ok (Nat.le_of_ble_eq_true rfl) (Nat.le_of_ble_eq_true rfl))) hK hP hEv hS [0, 1] rfl (va_recv hK hP (ci := 7) (q0 := 0) rfl rfl) rfl rfl hl.1 (Nat.le_of_ble_eq_true rfl) ⟨Nat.zero_le _, Nat.zero_le _⟩ h dX7_writerIs_66 (fun t66 h => ?_)
      refine lv_goto (tgt := 77) hx hb dX7_writerIs_69 (by decide) ?_
      exact J77 t66 m_errors m_undoneBy _ _ _ (lv_sub hl [0] rfl) hP hD hS h
  have J50 : ∀ (s0 : Int32) (m_errors : (Nat → Int32)) (m_undoneBy : (Nat → Int32)) (H : Heap) (locs : List Loc) (ls : Array Slot), lv_has ls 6 [(0, .ref (qm 0))] → va_P D vwCl [(qm 0, .inr (7, oX7 qm m_images m_newMany m_at m_open m_steps m_use m_traced m_speaks m_isParted)), (qm 1, .inl (cI, 3974, .inl m_s)), (qm 4, .inl (cI, 7, .inl m_errors)), (qm 16, .inl (cI, 60, .inl m_undoneBy))] H → va_D A [(qm 0, .inr (7, oX7 qm m_images m_newMany m_at m_open m_steps m_use m_traced m_speaks m_isParted)), (qm 1, .inl (cI, 3974, .inl m_s)), (qm 4, .inl (cI, 7, .inl m_errors)), (qm 16, .inl (cI, 60, .inl m_undoneBy))] → va_S A s.heap H locs → f7_writerIs_50 n m_s s0 m_errors m_undoneBy = some u → W p l e (rmq (3)) s m args below meth c H locs 0 0 Q (F0 m 50 ls [.int s0]) := by
    intro s0 m_errors m_undoneBy H locs ls hl hP hD hS h
    unfold f7_writerIs_50 at h
    exact hret (s0, m_errors, m_undoneBy) _ _ _ _ (vp_nar_int _) h hP hD hS dX7_writerIs_50
  have J16 : ∀ (m_errors : (Nat → Int32)) (m_undoneBy : (Nat → Int32)) (H : Heap) (locs : List Loc) (ls : Array Slot), lv_has ls 6 [(0, .ref (qm 0))] → va_P D vwCl [(qm 0, .inr (7, oX7 qm m_images m_newMany m_at m_open m_steps m_use m_traced m_speaks m_isParted)), (qm 1, .inl (cI, 3974, .inl m_s)), (qm 4, .inl (cI, 7, .inl m_errors)), (qm 16, .inl (cI, 60, .inl m_undoneBy))] H → va_D A [(qm 0, .inr (7, oX7 qm m_images m_newMany m_at m_open m_steps m_use m_traced m_speaks m_isParted)), (qm 1, .inl (cI, 3974, .inl m_s)), (qm 4, .inl (cI, 7, .inl m_errors)), (qm 16, .inl (cI, 60, .inl m_undoneBy))] → va_S A s.heap H locs → f7_writerIs_16 n m_s m_errors m_undoneBy = some u → W p l e (rmq (3)) s m args below meth c H locs 0 0 Q (F0 m 16 ls []) := by
    intro m_errors m_undoneBy H locs ls hl hP hD hS h
    unfold f7_writerIs_16 at h
    refine lv_aload_n hx hb dX7_writerIs_16 rfl (lv_at hl 0 rfl) ?_
    refine lv_iconst (v := (1 : Int32)) hx hb dX7_writerIs_17 (by decide) ?_
    refine q_callW2 q_E0ok (rest := []) (fun u => [(qm 0, .inr (7, oX7 qm m_images m_newMany m_at m_open m_steps m_use m_traced m_speaks m_isParted)), (qm 4, .inl (cI, 7, .inl u.2))]) (fun u => u.1) ⟨hx, hb, hml, hown, hts⟩ (fun u hu => c7_error l D cI qm m_images m_newMany m_at m_open m_steps m_use m_traced m_speaks m_isParted m_errors ((1 : Int32)) u hu) (cwV 1 hts gX7_writerIs_X7_error rfl rfl rfl hdX7_error (rmq_ok (Nat.le_of_ble_eq_true rfl) (Nat.le_of_ble_eq_true rfl))) hK hEv hA hP hD hS [0, 2] (by decide) rfl (fun _ => rfl) (va_recv hK hP (ci := 7) (q0 := 0) rfl rfl) rfl rfl hl.1 (Nat.le_of_ble_eq_true rfl) ⟨Nat.zero_le _, Nat.zero_le _⟩ h dX7_writerIs_18 (fun t18 m_errors_18 H locs h hP hD hS => ?_)
    have hP : va_P D vwCl [(qm 0, .inr (7, oX7 qm m_images m_newMany m_at m_open m_steps m_use m_traced m_speaks m_isParted)), (qm 1, .inl (cI, 3974, .inl m_s)), (qm 4, .inl (cI, 7, .inl m_errors_18)), (qm 16, .inl (cI, 60, .inl m_undoneBy))] H := hP
    have hD : va_D A [(qm 0, .inr (7, oX7 qm m_images m_newMany m_at m_open m_steps m_use m_traced m_speaks m_isParted)), (qm 1, .inl (cI, 3974, .inl m_s)), (qm 4, .inl (cI, 7, .inl m_errors_18)), (qm 16, .inl (cI, 60, .inl m_undoneBy))] := hD
    exact hret (t18, m_errors_18, m_undoneBy) _ _ _ _ (vp_nar_int _) h hP hD hS dX7_writerIs_21
  unfold f7_writerIs at h
  refine lv_iload_n hx hb dX7_writerIs_0 rfl (lv_at hl 1 rfl) ?_
  refine q_callRS q_E0ok (rest := []) ⟨hx, hb, hml, hown, hts⟩ (fun r hr => c7_isWriter l D cI x1 r hr) (va_cwS 1 hts gX7_writerIs_X7_isWriter rfl rfl rfl hdX7_isWriter (rmq_ok (Nat.le_of_ble_eq_true rfl) (Nat.le_of_ble_eq_true rfl))) hK hP hEv hS [] rfl rfl rfl hl.1 (Nat.le_of_ble_eq_true rfl) ⟨Nat.zero_le _, Nat.zero_le _⟩ h dX7_writerIs_1 (fun t1 h => ?_)
  refine q_ifeq hx hb 16 h dX7_writerIs_4 (by decide) (fun h => ?_) (fun h => ?_)
  · exact J16 m_errors m_undoneBy _ _ _ (lv_sub hl [0] rfl) hP hD hS h
  · refine lv_iload_n hx hb dX7_writerIs_7 rfl (lv_at hl 2 rfl) ?_
    refine lv_iconst (v := (0 : Int32)) hx hb dX7_writerIs_8 (by decide) ?_
    refine lv_iconst (v := (4 : Int32)) hx hb dX7_writerIs_9 (by decide) ?_
    refine q_callRS q_E0ok (rest := []) ⟨hx, hb, hml, hown, hts⟩ (fun r hr => c7_in l D cI x2 ((0 : Int32)) ((4 : Int32)) r hr) (va_cwS 3 hts gX7_writerIs_X7_in rfl rfl rfl hdX7_in (rmq_ok (Nat.le_of_ble_eq_true rfl) (Nat.le_of_ble_eq_true rfl))) hK hP hEv hS [] rfl rfl rfl hl.1 (Nat.le_of_ble_eq_true rfl) ⟨Nat.zero_le _, Nat.zero_le _⟩ h dX7_writerIs_10 (fun t10 h => ?_)
    refine q_ifne hx hb 22 h dX7_writerIs_13 (by decide) (fun h => ?_) (fun h => ?_)
    · refine lv_aload_n hx hb dX7_writerIs_22 rfl (lv_at hl 0 rfl) ?_
      refine q_callV1 q_E0ok (rest := []) (fun u => [(qm 0, .inr (7, oX7 qm m_images m_newMany m_at m_open m_steps m_use m_traced m_speaks m_isParted)), (qm 1, .inl (cI, 3974, .inl m_s)), (qm 16, .inl (cI, 60, .inl u))]) ⟨hx, hb, hml, hown, hts⟩ (fun u hu => c7_findUndone l D cI qm m_images m_newMany m_at m_open m_steps m_use m_traced m_speaks m_isParted m_s m_undoneBy n u hu) (cwV 0 hts gX7_writerIs_X7_findUndone rfl rfl rfl hdX7_findUndone (rmq_ok (Nat.le_of_ble_eq_true rfl) (Nat.le_of_ble_eq_true rfl))) hK hEv hA hP hD hS [0, 1, 3] (by decide) rfl (fun _ => rfl) (va_recv hK hP (ci := 7) (q0 := 0) rfl rfl) rfl rfl hl.1 (Nat.le_of_ble_eq_true rfl) ⟨Nat.zero_le _, Nat.zero_le _⟩ h dX7_writerIs_23 (fun m_undoneBy_23 H locs h hP hD hS => ?_)
      have hP : va_P D vwCl [(qm 0, .inr (7, oX7 qm m_images m_newMany m_at m_open m_steps m_use m_traced m_speaks m_isParted)), (qm 1, .inl (cI, 3974, .inl m_s)), (qm 4, .inl (cI, 7, .inl m_errors)), (qm 16, .inl (cI, 60, .inl m_undoneBy_23))] H := hP
      have hD : va_D A [(qm 0, .inr (7, oX7 qm m_images m_newMany m_at m_open m_steps m_use m_traced m_speaks m_isParted)), (qm 1, .inl (cI, 3974, .inl m_s)), (qm 4, .inl (cI, 7, .inl m_errors)), (qm 16, .inl (cI, 60, .inl m_undoneBy_23))] := hD
      refine lv_iload_n hx hb dX7_writerIs_26 rfl (lv_at hl 2 rfl) ?_
      refine lv_iconst (v := (4 : Int32)) hx hb dX7_writerIs_27 (by decide) ?_
      refine q_cne hx hb 51 h dX7_writerIs_28 (by decide) (fun h => ?_) (fun h => ?_)
      · refine lv_iload_n hx hb dX7_writerIs_51 rfl (lv_at hl 2 rfl) ?_
        refine q_ifeq hx hb 60 h dX7_writerIs_52 (by decide) (fun h => ?_) (fun h => ?_)
        · exact J60 x1 x2 m_errors m_undoneBy_23 _ _ _ (lv_sub hl [0, 1, 2] rfl) hP hD hS h
        · refine lv_iload_n hx hb dX7_writerIs_55 rfl (lv_at hl 2 rfl) ?_
          refine lv_iconst (v := (3 : Int32)) hx hb dX7_writerIs_56 (by decide) ?_
          refine q_cne hx hb 78 h dX7_writerIs_57 (by decide) (fun h => ?_) (fun h => ?_)
          · refine lv_iconst (v := (0 : Int32)) hx hb dX7_writerIs_78 (by decide) ?_
            refine lv_istore_n (lv' := [(3, .int ((0 : Int32))), (0, .ref (qm 0)), (1, .int x1), (2, .int x2)]) hx hb dX7_writerIs_79 rfl hl (by decide) rfl (fun ls hl => ?_)
            refine lv_iconst (v := (0 : Int32)) hx hb dX7_writerIs_80 (by decide) ?_
            refine lv_istore (lv' := [(4, .int ((0 : Int32))), (3, .int ((0 : Int32))), (0, .ref (qm 0)), (1, .int x1), (2, .int x2)]) hx hb dX7_writerIs_81 hl (by decide) rfl (fun ls hl => ?_)
            exact J83 n x1 x2 ((0 : Int32)) ((0 : Int32)) m_errors m_undoneBy_23 _ _ _ (lv_sub hl [2, 3, 4, 1, 0] rfl) hP hD hS h
          · exact J60 x1 x2 m_errors m_undoneBy_23 _ _ _ (lv_sub hl [0, 1, 2] rfl) hP hD hS h
      · refine lv_aload_n hx hb dX7_writerIs_31 rfl (lv_at hl 0 rfl) ?_
        refine lv_iload_n hx hb dX7_writerIs_32 rfl (lv_at hl 1 rfl) ?_
        refine q_callR q_E0ok (rest := []) ⟨hx, hb, hml, hown, hts⟩ (fun r hr => c7_offSince l D cI qm m_images m_newMany m_at m_open m_steps m_use m_traced m_speaks m_isParted m_s m_undoneBy_23 x1 n r hr) (cwV 1 hts gX7_writerIs_X7_offSince rfl rfl rfl hdX7_offSince (rmq_ok (Nat.le_of_ble_eq_true rfl) (Nat.le_of_ble_eq_true rfl))) hK hP hEv hS [0, 1, 3] rfl (va_recv hK hP (ci := 7) (q0 := 0) rfl rfl) rfl rfl hl.1 (Nat.le_of_ble_eq_true rfl) ⟨Nat.zero_le _, Nat.zero_le _⟩ h dX7_writerIs_33 (fun t33 h => ?_)
        refine lv_istore_n (lv' := [(3, .int t33), (0, .ref (qm 0)), (1, .int x1), (2, .int x2)]) hx hb dX7_writerIs_36 rfl hl (by decide) rfl (fun ls hl => ?_)
        refine lv_iload_n hx hb dX7_writerIs_37 rfl (lv_at hl 0 rfl) ?_
        refine q_ifge hx hb 49 h dX7_writerIs_38 (by decide) (fun h => ?_) (fun h => ?_)
        · refine lv_iload_n hx hb dX7_writerIs_49 rfl (lv_at hl 0 rfl) ?_
          exact J50 t33 m_errors m_undoneBy_23 _ _ _ (lv_sub hl [1] rfl) hP hD hS h
        · refine lv_aload_n hx hb dX7_writerIs_41 rfl (lv_at hl 1 rfl) ?_
          refine lv_iconst (v := (2 : Int32)) hx hb dX7_writerIs_42 (by decide) ?_
          refine q_callW2 q_E0ok (rest := []) (fun u => [(qm 0, .inr (7, oX7 qm m_images m_newMany m_at m_open m_steps m_use m_traced m_speaks m_isParted)), (qm 4, .inl (cI, 7, .inl u.2))]) (fun u => u.1) ⟨hx, hb, hml, hown, hts⟩ (fun u hu => c7_error l D cI qm m_images m_newMany m_at m_open m_steps m_use m_traced m_speaks m_isParted m_errors ((2 : Int32)) u hu) (cwV 1 hts gX7_writerIs_X7_error rfl rfl rfl hdX7_error (rmq_ok (Nat.le_of_ble_eq_true rfl) (Nat.le_of_ble_eq_true rfl))) hK hEv hA hP hD hS [0, 2] (by decide) rfl (fun _ => rfl) (va_recv hK hP (ci := 7) (q0 := 0) rfl rfl) rfl rfl hl.1 (Nat.le_of_ble_eq_true rfl) ⟨Nat.zero_le _, Nat.zero_le _⟩ h dX7_writerIs_43 (fun t43 m_errors_43 H locs h hP hD hS => ?_)
          have hP : va_P D vwCl [(qm 0, .inr (7, oX7 qm m_images m_newMany m_at m_open m_steps m_use m_traced m_speaks m_isParted)), (qm 1, .inl (cI, 3974, .inl m_s)), (qm 4, .inl (cI, 7, .inl m_errors_43)), (qm 16, .inl (cI, 60, .inl m_undoneBy_23))] H := hP
          have hD : va_D A [(qm 0, .inr (7, oX7 qm m_images m_newMany m_at m_open m_steps m_use m_traced m_speaks m_isParted)), (qm 1, .inl (cI, 3974, .inl m_s)), (qm 4, .inl (cI, 7, .inl m_errors_43)), (qm 16, .inl (cI, 60, .inl m_undoneBy_23))] := hD
          refine lv_goto (tgt := 50) hx hb dX7_writerIs_46 (by decide) ?_
          exact J50 t43 m_errors_43 m_undoneBy_23 _ _ _ (lv_sub hl [1] rfl) hP hD hS h
    · exact J16 m_errors m_undoneBy _ _ _ (lv_sub hl [0] rfl) hP hD hS h
set_option maxHeartbeats 4000000 in
set_option maxRecDepth 100000 in
theorem c7_readAt (l : Launch) (D : va_G) (cI : ClassId) (qm : Nat → Nat) (m_images m_newMany m_at m_open m_steps m_use m_traced m_speaks m_isParted : Int32) (m_s : Nat → Int32) (x1 : Int32) (n : Nat) (u : Int32) (h : f7_readAt n x1 m_s = some u) : q_RO q_E0 l yX7_readAt wsX7_readAt (rmq (1)) D cI [.ref (qm 0), .int x1] [(qm 0, .inr (7, oX7 qm m_images m_newMany m_at m_open m_steps m_use m_traced m_speaks m_isParted)), (qm 1, .inl (cI, 3974, .inl m_s))] u := by
  refine q_startR (cc := cX7_readAt) (maxL := 3) (ty := .int) (own := RX7) (by decide) rfl rfl (Nat.le_of_ble_eq_true rfl) rfl (fun p e s m args below meth c Q hx hb hml hown hts hP hK hEv hret ls hl => ?_)
  have in7 : ∀ w ∈ wsX70, w ∈ wsX7_readAt := fun w h => List.mem_cons_of_mem _ (List.mem_append_right _ (h))
  have l7 := hts (.fieldLink RX7 7 "PageWarsModel" "s" "[I") (List.mem_of_getElem? (i := 1) rfl)
  have J28 : ∀ (x2 : Int32) (ls : Array Slot), lv_has ls 3 [(0, .ref (qm 0)), (2, .int x2)] → f7_readAt_28 n m_s x2 = some u → W p l e (rmq (1)) s m args below meth c s.heap [] 0 0 Q (F0 m 28 ls []) := by
    intro x2  ls hl h
    unfold f7_readAt_28 at h
    refine lv_iload_n hx hb dX7_readAt_28 rfl (lv_at hl 1 rfl) ?_
    exact hret _ _ _ (vp_nar_int _) h dX7_readAt_29
  have J2 : ∀ (kk2 : Nat) (x1 : Int32) (x2 : Int32) (ls : Array Slot), lv_has ls 3 [(0, .ref (qm 0)), (1, .int x1), (2, .int x2)] → f7_readAt_2 n m_s kk2 x1 x2 = some u → W p l e (rmq (1)) s m args below meth c s.heap [] 0 0 Q (F0 m 2 ls []) := by
    intro kk2
    induction kk2 with
    | zero => intro x1 x2  ls hl h; exact nomatch (show (none : Option (Int32)) = some u from h)
    | succ kk2 ih2 =>
      intro x1 x2  ls hl h
      rw [f7_readAt_2.eq_2] at h
      refine lv_iload_n hx hb dX7_readAt_2 rfl (lv_at hl 2 rfl) ?_
      refine lv_aload_n hx hb dX7_readAt_3 rfl (lv_at hl 0 rfl) ?_
      refine va_get (D := D) (ci := 7) (v := .ref (qm 1)) (C := RX7) (T := TX7) (N := 24) hx hb hts in7 hown hK hP 0 rfl rfl 0 (by decide) l7 (fun _ h9 => h9) rfl dX7_readAt_4 ?_
      refine lv_iconst (v := (1 : Int32)) hx hb dX7_readAt_7 (by decide) ?_
      refine q_iald hx hb hK hP 1 0 rfl rfl h dX7_readAt_8 (fun t8 h => ?_)
      refine q_cge hx hb 28 h dX7_readAt_9 (by decide) (fun h => ?_) (fun h => ?_)
      · exact J28 x2 _ (lv_sub hl [0, 2] rfl) h
      · refine lv_aload_n hx hb dX7_readAt_12 rfl (lv_at hl 0 rfl) ?_
        refine lv_iload_n hx hb dX7_readAt_13 rfl (lv_at hl 2 rfl) ?_
        refine lv_iconst (v := (2 : Int32)) hx hb dX7_readAt_14 (by decide) ?_
        refine q_callR q_E0ok (rest := []) ⟨hx, hb, hml, hown, hts⟩ (fun r hr => c7_actIs1 l D cI qm m_images m_newMany m_at m_open m_steps m_use m_traced m_speaks m_isParted m_s x2 ((2 : Int32)) r hr) (cwV 2 hts gX7_readAt_X7_actIs1 rfl rfl rfl hdX7_actIs1 (rmq_ok (Nat.le_of_ble_eq_true rfl) (Nat.le_of_ble_eq_true rfl))) hK hP hEv va_S.rf [0, 1] rfl (va_recv hK hP (ci := 7) (q0 := 0) rfl rfl) rfl rfl hl.1 (Nat.le_of_ble_eq_true rfl) ⟨Nat.zero_le _, Nat.zero_le _⟩ h dX7_readAt_15 (fun t15 h => ?_)
        refine lv_iload_n hx hb dX7_readAt_18 rfl (lv_at hl 1 rfl) ?_
        refine q_cgt hx hb 28 h dX7_readAt_19 (by decide) (fun h => ?_) (fun h => ?_)
        · exact J28 x2 _ (lv_sub hl [0, 2] rfl) h
        · refine q_iinc (fun v => [(2, .int v), (0, .ref (qm 0)), (1, .int x1)]) hx hb h dX7_readAt_22 (by decide) hl (k := 2) rfl (by decide) (fun _ => rfl) (fun x2_22 ls h hl => ?_)
          refine lv_goto (tgt := 2) hx hb dX7_readAt_25 (by decide) ?_
          exact ih2 x1 x2_22 _ (lv_sub hl [1, 2, 0] rfl) h
  unfold f7_readAt at h
  refine lv_iconst (v := (0 : Int32)) hx hb dX7_readAt_0 (by decide) ?_
  refine lv_istore_n (lv' := [(2, .int ((0 : Int32))), (0, .ref (qm 0)), (1, .int x1)]) hx hb dX7_readAt_1 rfl hl (by decide) rfl (fun ls hl => ?_)
  exact J2 n x1 ((0 : Int32)) _ (lv_sub hl [1, 2, 0] rfl) h
set_option maxHeartbeats 4000000 in
set_option maxRecDepth 100000 in
theorem c7_read (l : Launch) (D : va_G) (cI : ClassId) (qm : Nat → Nat) (m_images m_newMany m_at m_open m_steps m_use m_traced m_speaks m_isParted : Int32) (m_s m_errors : Nat → Int32) (x1 : Int32) (n : Nat) (u : Int32 × (Nat → Int32)) (h : f7_read n x1 m_s m_errors = some u) : q_RW q_E0 l yX7_read wsX7_read (rmq (2)) D cI [.ref (qm 0), .int x1] [(qm 0, .inr (7, oX7 qm m_images m_newMany m_at m_open m_steps m_use m_traced m_speaks m_isParted)), (qm 1, .inl (cI, 3974, .inl m_s)), (qm 4, .inl (cI, 7, .inl m_errors))] [(qm 0, .inr (7, oX7 qm m_images m_newMany m_at m_open m_steps m_use m_traced m_speaks m_isParted)), (qm 1, .inl (cI, 3974, .inl m_s)), (qm 4, .inl (cI, 7, .inl u.2))] u.1 := by
  refine q_startW (fun u : Int32 × (Nat → Int32) => [(qm 0, .inr (7, oX7 qm m_images m_newMany m_at m_open m_steps m_use m_traced m_speaks m_isParted)), (qm 1, .inl (cI, 3974, .inl m_s)), (qm 4, .inl (cI, 7, .inl u.2))]) (fun u => u.1) (cc := cX7_read) (maxL := 2) (ty := .int) (own := RX7) (by decide) rfl rfl (Nat.le_of_ble_eq_true rfl) rfl (fun p e s m args below meth c Q A hx hb hml hown hts hK hEv hA hret hP hD hS ls hl => ?_)
  have in7 : ∀ w ∈ wsX70, w ∈ wsX7_read := fun w h => List.mem_cons_of_mem _ (List.mem_append_right _ (h))
  have l7 := hts (.fieldLink RX7 7 "PageWarsModel" "s" "[I") (List.mem_of_getElem? (i := 1) rfl)
  have J27 : ∀ (s0 : Int32) (m_errors : (Nat → Int32)) (H : Heap) (locs : List Loc) (ls : Array Slot), lv_has ls 2 [(0, .ref (qm 0))] → va_P D vwCl [(qm 0, .inr (7, oX7 qm m_images m_newMany m_at m_open m_steps m_use m_traced m_speaks m_isParted)), (qm 1, .inl (cI, 3974, .inl m_s)), (qm 4, .inl (cI, 7, .inl m_errors))] H → va_D A [(qm 0, .inr (7, oX7 qm m_images m_newMany m_at m_open m_steps m_use m_traced m_speaks m_isParted)), (qm 1, .inl (cI, 3974, .inl m_s)), (qm 4, .inl (cI, 7, .inl m_errors))] → va_S A s.heap H locs → f7_read_27 n m_s s0 m_errors = some u → W p l e (rmq (2)) s m args below meth c H locs 0 0 Q (F0 m 27 ls [.int s0]) := by
    intro s0 m_errors H locs ls hl hP hD hS h
    unfold f7_read_27 at h
    exact hret (s0, m_errors) _ _ _ _ (vp_nar_int _) h hP hD hS dX7_read_27
  unfold f7_read at h
  refine lv_iload_n hx hb dX7_read_0 rfl (lv_at hl 1 rfl) ?_
  refine lv_iconst (v := (0 : Int32)) hx hb dX7_read_1 (by decide) ?_
  refine lv_aload_n hx hb dX7_read_2 rfl (lv_at hl 0 rfl) ?_
  refine va_get (D := D) (ci := 7) (v := .ref (qm 1)) (C := RX7) (T := TX7) (N := 24) hx hb hts in7 hown hK hP 0 rfl rfl 0 (by decide) l7 (fun _ h9 => h9) rfl dX7_read_3 ?_
  refine lv_iconst (v := (0 : Int32)) hx hb dX7_read_6 (by decide) ?_
  refine q_iald hx hb hK hP 1 0 rfl rfl h dX7_read_7 (fun t7 h => ?_)
  refine q_callRS q_E0ok (rest := []) ⟨hx, hb, hml, hown, hts⟩ (fun r hr => c7_in l D cI x1 ((0 : Int32)) t7 r hr) (va_cwS 3 hts gX7_read_X7_in rfl rfl rfl hdX7_in (rmq_ok (Nat.le_of_ble_eq_true rfl) (Nat.le_of_ble_eq_true rfl))) hK hP hEv hS [] rfl rfl rfl hl.1 (Nat.le_of_ble_eq_true rfl) ⟨Nat.zero_le _, Nat.zero_le _⟩ h dX7_read_8 (fun t8 h => ?_)
  refine q_ifeq hx hb 22 h dX7_read_11 (by decide) (fun h => ?_) (fun h => ?_)
  · refine lv_aload_n hx hb dX7_read_22 rfl (lv_at hl 0 rfl) ?_
    refine lv_iconst (v := (1 : Int32)) hx hb dX7_read_23 (by decide) ?_
    refine q_callW2 q_E0ok (rest := []) (fun u => [(qm 0, .inr (7, oX7 qm m_images m_newMany m_at m_open m_steps m_use m_traced m_speaks m_isParted)), (qm 4, .inl (cI, 7, .inl u.2))]) (fun u => u.1) ⟨hx, hb, hml, hown, hts⟩ (fun u hu => c7_error l D cI qm m_images m_newMany m_at m_open m_steps m_use m_traced m_speaks m_isParted m_errors ((1 : Int32)) u hu) (cwV 1 hts gX7_read_X7_error rfl rfl rfl hdX7_error (rmq_ok (Nat.le_of_ble_eq_true rfl) (Nat.le_of_ble_eq_true rfl))) hK hEv hA hP hD hS [0, 2] (by decide) rfl (fun _ => rfl) (va_recv hK hP (ci := 7) (q0 := 0) rfl rfl) rfl rfl hl.1 (Nat.le_of_ble_eq_true rfl) ⟨Nat.zero_le _, Nat.zero_le _⟩ h dX7_read_24 (fun t24 m_errors_24 H locs h hP hD hS => ?_)
    have hP : va_P D vwCl [(qm 0, .inr (7, oX7 qm m_images m_newMany m_at m_open m_steps m_use m_traced m_speaks m_isParted)), (qm 1, .inl (cI, 3974, .inl m_s)), (qm 4, .inl (cI, 7, .inl m_errors_24))] H := hP
    have hD : va_D A [(qm 0, .inr (7, oX7 qm m_images m_newMany m_at m_open m_steps m_use m_traced m_speaks m_isParted)), (qm 1, .inl (cI, 3974, .inl m_s)), (qm 4, .inl (cI, 7, .inl m_errors_24))] := hD
    exact J27 t24 m_errors_24 _ _ _ (lv_sub hl [0] rfl) hP hD hS h
  · refine lv_aload_n hx hb dX7_read_14 rfl (lv_at hl 0 rfl) ?_
    refine lv_iload_n hx hb dX7_read_15 rfl (lv_at hl 1 rfl) ?_
    refine q_callR q_E0ok (rest := []) ⟨hx, hb, hml, hown, hts⟩ (fun r hr => c7_readAt l D cI qm m_images m_newMany m_at m_open m_steps m_use m_traced m_speaks m_isParted m_s x1 n r hr) (cwV 1 hts gX7_read_X7_readAt rfl rfl rfl hdX7_readAt (rmq_ok (Nat.le_of_ble_eq_true rfl) (Nat.le_of_ble_eq_true rfl))) hK hP hEv hS [0, 1] rfl (va_recv hK hP (ci := 7) (q0 := 0) rfl rfl) rfl rfl hl.1 (Nat.le_of_ble_eq_true rfl) ⟨Nat.zero_le _, Nat.zero_le _⟩ h dX7_read_16 (fun t16 h => ?_)
    refine lv_goto (tgt := 27) hx hb dX7_read_19 (by decide) ?_
    exact J27 t16 m_errors _ _ _ (lv_sub hl [0] rfl) hP hD hS h
set_option maxHeartbeats 4000000 in
set_option maxRecDepth 100000 in
theorem c7_areMinutes (l : Launch) (D : va_G) (cI : ClassId) (qm : Nat → Nat) (m_images m_newMany m_at m_open m_steps m_use m_traced m_speaks m_isParted : Int32) (m_s : Nat → Int32) (x1 : Int32) (x2 : Int32) (u : Int32) (h : f7_areMinutes x1 x2 m_s = some u) : q_RO q_E0 l yX7_areMinutes wsX7_areMinutes (rmq (0)) D cI [.ref (qm 0), .int x1, .int x2] [(qm 0, .inr (7, oX7 qm m_images m_newMany m_at m_open m_steps m_use m_traced m_speaks m_isParted)), (qm 1, .inl (cI, 3974, .inl m_s))] u := by
  refine q_startR (cc := cX7_areMinutes) (maxL := 3) (ty := .boolean) (own := RX7) (by decide) rfl rfl (Nat.le_of_ble_eq_true rfl) rfl (fun p e s m args below meth c Q hx hb hml hown hts hP hK hEv hret ls hl => ?_)
  have in7 : ∀ w ∈ wsX70, w ∈ wsX7_areMinutes := fun w h => List.mem_cons_of_mem _ (List.mem_append_right _ (h))
  have l7 := hts (.fieldLink RX7 7 "PageWarsModel" "s" "[I") (List.mem_of_getElem? (i := 1) rfl)
  have J24 : ∀ (s0 : Int32) (ls : Array Slot), lv_has ls 3 [(0, .ref (qm 0))] → f7_areMinutes_24 m_s s0 = some u → W p l e (rmq (0)) s m args below meth c s.heap [] 0 0 Q (F0 m 24 ls [.int s0]) := by
    intro s0  ls hl h
    unfold f7_areMinutes_24 at h
    obtain ⟨hz, h⟩ := q_bz_of h
    exact hret _ _ _ (q_nz hz) h dX7_areMinutes_24
  have J23 : ∀  (ls : Array Slot), lv_has ls 3 [(0, .ref (qm 0))] → f7_areMinutes_23 m_s  = some u → W p l e (rmq (0)) s m args below meth c s.heap [] 0 0 Q (F0 m 23 ls []) := by
    intro   ls hl h
    unfold f7_areMinutes_23 at h
    refine lv_iconst (v := (0 : Int32)) hx hb dX7_areMinutes_23 (by decide) ?_
    exact J24 ((0 : Int32)) _ (lv_sub hl [0] rfl) h
  unfold f7_areMinutes at h
  refine lv_iload_n hx hb dX7_areMinutes_0 rfl (lv_at hl 1 rfl) ?_
  refine q_iflt hx hb 23 h dX7_areMinutes_1 (by decide) (fun h => ?_) (fun h => ?_)
  · exact J23  _ (lv_sub hl [0] rfl) h
  · refine lv_iload_n hx hb dX7_areMinutes_4 rfl (lv_at hl 1 rfl) ?_
    refine lv_iload_n hx hb dX7_areMinutes_5 rfl (lv_at hl 2 rfl) ?_
    refine q_cgt hx hb 23 h dX7_areMinutes_6 (by decide) (fun h => ?_) (fun h => ?_)
    · exact J23  _ (lv_sub hl [0] rfl) h
    · refine lv_iload_n hx hb dX7_areMinutes_9 rfl (lv_at hl 2 rfl) ?_
      refine lv_aload_n hx hb dX7_areMinutes_10 rfl (lv_at hl 0 rfl) ?_
      refine va_get (D := D) (ci := 7) (v := .ref (qm 1)) (C := RX7) (T := TX7) (N := 24) hx hb hts in7 hown hK hP 0 rfl rfl 0 (by decide) l7 (fun _ h9 => h9) rfl dX7_areMinutes_11 ?_
      refine lv_iconst (v := (0 : Int32)) hx hb dX7_areMinutes_14 (by decide) ?_
      refine q_iald hx hb hK hP 1 0 rfl rfl h dX7_areMinutes_15 (fun t15 h => ?_)
      refine q_cgt hx hb 23 h dX7_areMinutes_16 (by decide) (fun h => ?_) (fun h => ?_)
      · exact J23  _ (lv_sub hl [0] rfl) h
      · refine lv_iconst (v := (1 : Int32)) hx hb dX7_areMinutes_19 (by decide) ?_
        refine lv_goto (tgt := 24) hx hb dX7_areMinutes_20 (by decide) ?_
        exact J24 ((1 : Int32)) _ (lv_sub hl [0] rfl) h
set_option maxHeartbeats 4000000 in
set_option maxRecDepth 100000 in
theorem c7_within (l : Launch) (D : va_G) (cI : ClassId) (qm : Nat → Nat) (m_images m_newMany m_at m_open m_steps m_use m_traced m_speaks m_isParted : Int32) (m_s : Nat → Int32) (x1 : Int32) (x2 : Int32) (x3 : Int32) (u : Int32) (h : f7_within x1 x2 x3 m_s = some u) : q_RO q_E0 l yX7_within wsX7_within (rmq (1)) D cI [.ref (qm 0), .int x1, .int x2, .int x3] [(qm 0, .inr (7, oX7 qm m_images m_newMany m_at m_open m_steps m_use m_traced m_speaks m_isParted)), (qm 1, .inl (cI, 3974, .inl m_s))] u := by
  refine q_startR (cc := cX7_within) (maxL := 8) (ty := .int) (own := RX7) (by decide) rfl rfl (Nat.le_of_ble_eq_true rfl) rfl (fun p e s m args below meth c Q hx hb hml hown hts hP hK hEv hret ls hl => ?_)
  have in7 : ∀ w ∈ wsX70, w ∈ wsX7_within := fun w h => List.mem_cons_of_mem _ (List.mem_append_right _ (h))
  have l7 := hts (.fieldLink RX7 7 "PageWarsModel" "s" "[I") (List.mem_of_getElem? (i := 1) rfl)
  have J89 : ∀ (s0 : Int32) (ls : Array Slot), lv_has ls 8 [(0, .ref (qm 0))] → f7_within_89 m_s s0 = some u → W p l e (rmq (1)) s m args below meth c s.heap [] 0 0 Q (F0 m 89 ls [.int s0]) := by
    intro s0  ls hl h
    unfold f7_within_89 at h
    exact hret _ _ _ (vp_nar_int _) h dX7_within_89
  have J71 : ∀ (x6 : Int32) (s0 : Int32) (ls : Array Slot), lv_has ls 8 [(0, .ref (qm 0)), (6, .int x6)] → f7_within_71 m_s x6 s0 = some u → W p l e (rmq (1)) s m args below meth c s.heap [] 0 0 Q (F0 m 71 ls [.int s0]) := by
    intro x6 s0  ls hl h
    unfold f7_within_71 at h
    refine lv_istore (lv' := [(7, .int s0), (0, .ref (qm 0)), (6, .int x6)]) hx hb dX7_within_71 hl (by decide) rfl (fun ls hl => ?_)
    refine lv_iload hx hb dX7_within_73 (lv_at hl 0 rfl) ?_
    refine lv_iload hx hb dX7_within_75 (lv_at hl 2 rfl) ?_
    refine q_cle hx hb 88 h dX7_within_77 (by decide) (fun h => ?_) (fun h => ?_)
    · refine lv_iconst (v := (0 : Int32)) hx hb dX7_within_88 (by decide) ?_
      exact J89 ((0 : Int32)) _ (lv_sub hl [1] rfl) h
    · refine lv_iload hx hb dX7_within_80 (lv_at hl 0 rfl) ?_
      refine lv_iload hx hb dX7_within_82 (lv_at hl 2 rfl) ?_
      refine lv_isub hx hb dX7_within_84 ?_
      refine lv_goto (tgt := 89) hx hb dX7_within_85 (by decide) ?_
      exact J89 (s0 - x6) _ (lv_sub hl [1] rfl) h
  have J57 : ∀ (x3 : Int32) (x5 : Int32) (s0 : Int32) (ls : Array Slot), lv_has ls 8 [(0, .ref (qm 0)), (3, .int x3), (5, .int x5)] → f7_within_57 m_s x3 x5 s0 = some u → W p l e (rmq (1)) s m args below meth c s.heap [] 0 0 Q (F0 m 57 ls [.int s0]) := by
    intro x3 x5 s0  ls hl h
    unfold f7_within_57 at h
    refine lv_istore (lv' := [(6, .int s0), (0, .ref (qm 0)), (3, .int x3), (5, .int x5)]) hx hb dX7_within_57 hl (by decide) rfl (fun ls hl => ?_)
    refine lv_iload hx hb dX7_within_59 (lv_at hl 3 rfl) ?_
    refine lv_iload_n hx hb dX7_within_61 rfl (lv_at hl 2 rfl) ?_
    refine q_cge hx hb 70 h dX7_within_62 (by decide) (fun h => ?_) (fun h => ?_)
    · refine lv_iload_n hx hb dX7_within_70 rfl (lv_at hl 2 rfl) ?_
      exact J71 s0 x3 _ (lv_sub hl [1, 0] rfl) h
    · refine lv_iload hx hb dX7_within_65 (lv_at hl 3 rfl) ?_
      refine lv_goto (tgt := 71) hx hb dX7_within_67 (by decide) ?_
      exact J71 s0 x5 _ (lv_sub hl [1, 0] rfl) h
  have J43 : ∀ (x2 : Int32) (x3 : Int32) (x4 : Int32) (s0 : Int32) (ls : Array Slot), lv_has ls 8 [(0, .ref (qm 0)), (2, .int x2), (3, .int x3), (4, .int x4)] → f7_within_43 m_s x2 x3 x4 s0 = some u → W p l e (rmq (1)) s m args below meth c s.heap [] 0 0 Q (F0 m 43 ls [.int s0]) := by
    intro x2 x3 x4 s0  ls hl h
    unfold f7_within_43 at h
    refine lv_istore (lv' := [(5, .int s0), (0, .ref (qm 0)), (2, .int x2), (3, .int x3), (4, .int x4)]) hx hb dX7_within_43 hl (by decide) rfl (fun ls hl => ?_)
    refine lv_iload hx hb dX7_within_45 (lv_at hl 4 rfl) ?_
    refine lv_iload_n hx hb dX7_within_47 rfl (lv_at hl 2 rfl) ?_
    refine q_cle hx hb 56 h dX7_within_48 (by decide) (fun h => ?_) (fun h => ?_)
    · refine lv_iload_n hx hb dX7_within_56 rfl (lv_at hl 2 rfl) ?_
      exact J57 x3 s0 x2 _ (lv_sub hl [1, 3, 0] rfl) h
    · refine lv_iload hx hb dX7_within_51 (lv_at hl 4 rfl) ?_
      refine lv_goto (tgt := 57) hx hb dX7_within_53 (by decide) ?_
      exact J57 x3 s0 x4 _ (lv_sub hl [1, 3, 0] rfl) h
  have J16 : ∀ (x1 : Int32) (x2 : Int32) (x3 : Int32) (s0 : Int32) (ls : Array Slot), lv_has ls 8 [(0, .ref (qm 0)), (1, .int x1), (2, .int x2), (3, .int x3)] → f7_within_16 m_s x1 x2 x3 s0 = some u → W p l e (rmq (1)) s m args below meth c s.heap [] 0 0 Q (F0 m 16 ls [.int s0]) := by
    intro x1 x2 x3 s0  ls hl h
    unfold f7_within_16 at h
    refine lv_istore (lv' := [(4, .int s0), (0, .ref (qm 0)), (1, .int x1), (2, .int x2), (3, .int x3)]) hx hb dX7_within_16 hl (by decide) rfl (fun ls hl => ?_)
    refine lv_iload_n hx hb dX7_within_18 rfl (lv_at hl 2 rfl) ?_
    refine lv_aload_n hx hb dX7_within_19 rfl (lv_at hl 1 rfl) ?_
    refine va_get (D := D) (ci := 7) (v := .ref (qm 1)) (C := RX7) (T := TX7) (N := 24) hx hb hts in7 hown hK hP 0 rfl rfl 0 (by decide) l7 (fun _ h9 => h9) rfl dX7_within_20 ?_
    refine lv_iconst (v := (1 : Int32)) hx hb dX7_within_23 (by decide) ?_
    refine q_iald hx hb hK hP 1 0 rfl rfl h dX7_within_24 (fun t24 h => ?_)
    refine q_cne hx hb 37 h dX7_within_25 (by decide) (fun h => ?_) (fun h => ?_)
    · refine lv_aload_n hx hb dX7_within_37 rfl (lv_at hl 1 rfl) ?_
      refine lv_iload_n hx hb dX7_within_38 rfl (lv_at hl 2 rfl) ?_
      refine lv_iconst (v := (2 : Int32)) hx hb dX7_within_39 (by decide) ?_
      refine q_callR q_E0ok (rest := []) ⟨hx, hb, hml, hown, hts⟩ (fun r hr => c7_actIs1 l D cI qm m_images m_newMany m_at m_open m_steps m_use m_traced m_speaks m_isParted m_s x1 ((2 : Int32)) r hr) (cwV 2 hts gX7_within_X7_actIs1 rfl rfl rfl hdX7_actIs1 (rmq_ok (Nat.le_of_ble_eq_true rfl) (Nat.le_of_ble_eq_true rfl))) hK hP hEv va_S.rf [0, 1] rfl (va_recv hK hP (ci := 7) (q0 := 0) rfl rfl) rfl rfl hl.1 (Nat.le_of_ble_eq_true rfl) ⟨Nat.zero_le _, Nat.zero_le _⟩ h dX7_within_40 (fun t40 h => ?_)
      exact J43 x2 x3 s0 t40 _ (lv_sub hl [1, 3, 4, 0] rfl) h
    · refine lv_aload_n hx hb dX7_within_28 rfl (lv_at hl 1 rfl) ?_
      refine va_get (D := D) (ci := 7) (v := .ref (qm 1)) (C := RX7) (T := TX7) (N := 24) hx hb hts in7 hown hK hP 0 rfl rfl 0 (by decide) l7 (fun _ h9 => h9) rfl dX7_within_29 ?_
      refine lv_iconst (v := (0 : Int32)) hx hb dX7_within_32 (by decide) ?_
      refine q_iald hx hb hK hP 1 0 rfl rfl h dX7_within_33 (fun t33 h => ?_)
      refine lv_goto (tgt := 43) hx hb dX7_within_34 (by decide) ?_
      exact J43 x2 x3 s0 t33 _ (lv_sub hl [1, 3, 4, 0] rfl) h
  unfold f7_within at h
  refine lv_iload_n hx hb dX7_within_0 rfl (lv_at hl 1 rfl) ?_
  refine q_ifne hx hb 8 h dX7_within_1 (by decide) (fun h => ?_) (fun h => ?_)
  · refine lv_aload_n hx hb dX7_within_8 rfl (lv_at hl 0 rfl) ?_
    refine lv_iload_n hx hb dX7_within_9 rfl (lv_at hl 1 rfl) ?_
    refine lv_iconst (v := (1 : Int32)) hx hb dX7_within_10 (by decide) ?_
    refine lv_isub hx hb dX7_within_11 ?_
    refine lv_iconst (v := (2 : Int32)) hx hb dX7_within_12 (by decide) ?_
    refine q_callR q_E0ok (rest := []) ⟨hx, hb, hml, hown, hts⟩ (fun r hr => c7_actIs1 l D cI qm m_images m_newMany m_at m_open m_steps m_use m_traced m_speaks m_isParted m_s (x1 - ((1 : Int32))) ((2 : Int32)) r hr) (cwV 2 hts gX7_within_X7_actIs1 rfl rfl rfl hdX7_actIs1 (rmq_ok (Nat.le_of_ble_eq_true rfl) (Nat.le_of_ble_eq_true rfl))) hK hP hEv va_S.rf [0, 1] rfl (va_recv hK hP (ci := 7) (q0 := 0) rfl rfl) rfl rfl hl.1 (Nat.le_of_ble_eq_true rfl) ⟨Nat.zero_le _, Nat.zero_le _⟩ h dX7_within_13 (fun t13 h => ?_)
    exact J16 x1 x2 x3 t13 _ (lv_sub hl [0, 1, 2, 3] rfl) h
  · refine lv_iconst (v := (0 : Int32)) hx hb dX7_within_4 (by decide) ?_
    refine lv_goto (tgt := 16) hx hb dX7_within_5 (by decide) ?_
    exact J16 x1 x2 x3 ((0 : Int32)) _ (lv_sub hl [0, 1, 2, 3] rfl) h
set_option maxHeartbeats 4000000 in
set_option maxRecDepth 100000 in
theorem c7_wrong (l : Launch) (D : va_G) (cI : ClassId) (qm : Nat → Nat) (m_images m_newMany m_at m_open m_steps m_use m_traced m_speaks m_isParted : Int32) (m_s m_errors : Nat → Int32) (x1 : Int32) (x2 : Int32) (x3 : Int32) (n : Nat) (u : Int32 × (Nat → Int32)) (h : f7_wrong n x1 x2 x3 m_s m_errors = some u) : q_RW q_E0 l yX7_wrong wsX7_wrong (rmq (2)) D cI [.ref (qm 0), .int x1, .int x2, .int x3] [(qm 0, .inr (7, oX7 qm m_images m_newMany m_at m_open m_steps m_use m_traced m_speaks m_isParted)), (qm 1, .inl (cI, 3974, .inl m_s)), (qm 4, .inl (cI, 7, .inl m_errors))] [(qm 0, .inr (7, oX7 qm m_images m_newMany m_at m_open m_steps m_use m_traced m_speaks m_isParted)), (qm 1, .inl (cI, 3974, .inl m_s)), (qm 4, .inl (cI, 7, .inl u.2))] u.1 := by
  refine q_startW (fun u : Int32 × (Nat → Int32) => [(qm 0, .inr (7, oX7 qm m_images m_newMany m_at m_open m_steps m_use m_traced m_speaks m_isParted)), (qm 1, .inl (cI, 3974, .inl m_s)), (qm 4, .inl (cI, 7, .inl u.2))]) (fun u => u.1) (cc := cX7_wrong) (maxL := 6) (ty := .int) (own := RX7) (by decide) rfl rfl (Nat.le_of_ble_eq_true rfl) rfl (fun p e s m args below meth c Q A hx hb hml hown hts hK hEv hA hret hP hD hS ls hl => ?_)
  have in7 : ∀ w ∈ wsX70, w ∈ wsX7_wrong := fun w h => List.mem_cons_of_mem _ (List.mem_append_right _ (h))
  have l7 := hts (.fieldLink RX7 7 "PageWarsModel" "s" "[I") (List.mem_of_getElem? (i := 1) rfl)
  have J29 : ∀ (kk29 : Nat) (x1 : Int32) (x2 : Int32) (x3 : Int32) (x4 : Int32) (x5 : Int32) (m_errors : (Nat → Int32)) (H : Heap) (locs : List Loc) (ls : Array Slot), lv_has ls 6 [(0, .ref (qm 0)), (1, .int x1), (2, .int x2), (3, .int x3), (4, .int x4), (5, .int x5)] → va_P D vwCl [(qm 0, .inr (7, oX7 qm m_images m_newMany m_at m_open m_steps m_use m_traced m_speaks m_isParted)), (qm 1, .inl (cI, 3974, .inl m_s)), (qm 4, .inl (cI, 7, .inl m_errors))] H → va_D A [(qm 0, .inr (7, oX7 qm m_images m_newMany m_at m_open m_steps m_use m_traced m_speaks m_isParted)), (qm 1, .inl (cI, 3974, .inl m_s)), (qm 4, .inl (cI, 7, .inl m_errors))] → va_S A s.heap H locs → f7_wrong_29 n m_s kk29 x1 x2 x3 x4 x5 m_errors = some u → W p l e (rmq (2)) s m args below meth c H locs 0 0 Q (F0 m 29 ls []) := by
    intro kk29
    induction kk29 with
    | zero => intro x1 x2 x3 x4 x5 m_errors H locs ls hl hP hD hS h; exact nomatch (show (none : Option (Int32 × (Nat → Int32))) = some u from h)
    | succ kk29 ih29 =>
      have J64 : ∀ (x1 : Int32) (x2 : Int32) (x3 : Int32) (x5 : Int32) (s0 : Int32) (s1 : Int32) (m_errors : (Nat → Int32)) (H : Heap) (locs : List Loc) (ls : Array Slot), lv_has ls 6 [(0, .ref (qm 0)), (1, .int x1), (2, .int x2), (3, .int x3), (5, .int x5)] → va_P D vwCl [(qm 0, .inr (7, oX7 qm m_images m_newMany m_at m_open m_steps m_use m_traced m_speaks m_isParted)), (qm 1, .inl (cI, 3974, .inl m_s)), (qm 4, .inl (cI, 7, .inl m_errors))] H → va_D A [(qm 0, .inr (7, oX7 qm m_images m_newMany m_at m_open m_steps m_use m_traced m_speaks m_isParted)), (qm 1, .inl (cI, 3974, .inl m_s)), (qm 4, .inl (cI, 7, .inl m_errors))] → va_S A s.heap H locs → f7_wrong_64 n m_s (f7_wrong_29 n m_s kk29) x1 x2 x3 x5 s0 s1 m_errors = some u → W p l e (rmq (2)) s m args below meth c H locs 0 0 Q (F0 m 64 ls [.int s1, .int s0]) := by
        intro x1 x2 x3 x5 s0 s1 m_errors H locs ls hl hP hD hS h
        unfold f7_wrong_64 at h
        refine lv_iadd hx hb dX7_wrong_64 ?_
        refine q_let h (fun x4_65 h => ?_)
        refine lv_istore (lv' := [(4, .int x4_65), (0, .ref (qm 0)), (1, .int x1), (2, .int x2), (3, .int x3), (5, .int x5)]) hx hb dX7_wrong_65 hl (by decide) rfl (fun ls hl => ?_)
        refine q_iinc (fun v => [(5, .int v), (4, .int x4_65), (0, .ref (qm 0)), (1, .int x1), (2, .int x2), (3, .int x3)]) hx hb h dX7_wrong_67 (by decide) hl (k := 5) rfl (by decide) (fun _ => rfl) (fun x5_67 ls h hl => ?_)
        refine lv_goto (tgt := 29) hx hb dX7_wrong_70 (by decide) ?_
        exact ih29 x1 x2 x3 x4_65 x5_67 m_errors _ _ _ (lv_sub hl [2, 3, 4, 5, 1, 0] rfl) hP hD hS h
      intro x1 x2 x3 x4 x5 m_errors H locs ls hl hP hD hS h
      rw [f7_wrong_29.eq_2] at h
      refine lv_iload hx hb dX7_wrong_29 (lv_at hl 5 rfl) ?_
      refine lv_aload_n hx hb dX7_wrong_31 rfl (lv_at hl 0 rfl) ?_
      refine va_get (D := D) (ci := 7) (v := .ref (qm 1)) (C := RX7) (T := TX7) (N := 24) hx hb hts in7 hown hK hP 0 rfl rfl 0 (by decide) l7 (fun _ h9 => h9) rfl dX7_wrong_32 ?_
      refine lv_iconst (v := (1 : Int32)) hx hb dX7_wrong_35 (by decide) ?_
      refine q_iald hx hb hK hP 1 0 rfl rfl h dX7_wrong_36 (fun t36 h => ?_)
      refine q_cgt hx hb 73 h dX7_wrong_37 (by decide) (fun h => ?_) (fun h => ?_)
      · refine lv_iload hx hb dX7_wrong_73 (lv_at hl 4 rfl) ?_
        exact hret (x4, m_errors) _ _ _ _ (vp_nar_int _) h hP hD hS dX7_wrong_75
      · refine lv_iload hx hb dX7_wrong_40 (lv_at hl 4 rfl) ?_
        refine lv_aload_n hx hb dX7_wrong_42 rfl (lv_at hl 0 rfl) ?_
        refine lv_iload hx hb dX7_wrong_43 (lv_at hl 5 rfl) ?_
        refine lv_iload_n hx hb dX7_wrong_45 rfl (lv_at hl 1 rfl) ?_
        refine q_callR q_E0ok (rest := [.int x4]) ⟨hx, hb, hml, hown, hts⟩ (fun r hr => c7_areAlike l D cI qm m_images m_newMany m_at m_open m_steps m_use m_traced m_speaks m_isParted m_s x5 x1 n r hr) (cwV 2 hts gX7_wrong_X7_areAlike rfl rfl rfl hdX7_areAlike (rmq_ok (Nat.le_of_ble_eq_true rfl) (Nat.le_of_ble_eq_true rfl))) hK hP hEv hS [0, 1] rfl (va_recv hK hP (ci := 7) (q0 := 0) rfl rfl) rfl rfl hl.1 (Nat.le_of_ble_eq_true rfl) ⟨Nat.zero_le _, Nat.zero_le _⟩ h dX7_wrong_46 (fun t46 h => ?_)
        refine q_ifeq hx hb 63 h dX7_wrong_49 (by decide) (fun h => ?_) (fun h => ?_)
        · refine lv_iconst (v := (0 : Int32)) hx hb dX7_wrong_63 (by decide) ?_
          exact J64 x1 x2 x3 x5 x4 ((0 : Int32)) m_errors _ _ _ (lv_sub hl [0, 1, 2, 3, 5] rfl) hP hD hS h
        · refine lv_aload_n hx hb dX7_wrong_52 rfl (lv_at hl 0 rfl) ?_
          refine lv_iload hx hb dX7_wrong_53 (lv_at hl 5 rfl) ?_
          refine lv_iload_n hx hb dX7_wrong_55 rfl (lv_at hl 2 rfl) ?_
          refine lv_iload_n hx hb dX7_wrong_56 rfl (lv_at hl 3 rfl) ?_
          refine q_callR q_E0ok (rest := [.int x4]) ⟨hx, hb, hml, hown, hts⟩ (fun r hr => c7_within l D cI qm m_images m_newMany m_at m_open m_steps m_use m_traced m_speaks m_isParted m_s x5 x2 x3 r hr) (cwV 3 hts gX7_wrong_X7_within rfl rfl rfl hdX7_within (rmq_ok (Nat.le_of_ble_eq_true rfl) (Nat.le_of_ble_eq_true rfl))) hK hP hEv hS [0, 1] rfl (va_recv hK hP (ci := 7) (q0 := 0) rfl rfl) rfl rfl hl.1 (Nat.le_of_ble_eq_true rfl) ⟨Nat.zero_le _, Nat.zero_le _⟩ h dX7_wrong_57 (fun t57 h => ?_)
          refine lv_goto (tgt := 64) hx hb dX7_wrong_60 (by decide) ?_
          exact J64 x1 x2 x3 x5 x4 t57 m_errors _ _ _ (lv_sub hl [0, 1, 2, 3, 5] rfl) hP hD hS h
  have J17 : ∀ (m_errors : (Nat → Int32)) (H : Heap) (locs : List Loc) (ls : Array Slot), lv_has ls 6 [(0, .ref (qm 0))] → va_P D vwCl [(qm 0, .inr (7, oX7 qm m_images m_newMany m_at m_open m_steps m_use m_traced m_speaks m_isParted)), (qm 1, .inl (cI, 3974, .inl m_s)), (qm 4, .inl (cI, 7, .inl m_errors))] H → va_D A [(qm 0, .inr (7, oX7 qm m_images m_newMany m_at m_open m_steps m_use m_traced m_speaks m_isParted)), (qm 1, .inl (cI, 3974, .inl m_s)), (qm 4, .inl (cI, 7, .inl m_errors))] → va_S A s.heap H locs → f7_wrong_17 n m_s m_errors = some u → W p l e (rmq (2)) s m args below meth c H locs 0 0 Q (F0 m 17 ls []) := by
    intro m_errors H locs ls hl hP hD hS h
    unfold f7_wrong_17 at h
    refine lv_aload_n hx hb dX7_wrong_17 rfl (lv_at hl 0 rfl) ?_
    refine lv_iconst (v := (1 : Int32)) hx hb dX7_wrong_18 (by decide) ?_
    refine q_callW2 q_E0ok (rest := []) (fun u => [(qm 0, .inr (7, oX7 qm m_images m_newMany m_at m_open m_steps m_use m_traced m_speaks m_isParted)), (qm 4, .inl (cI, 7, .inl u.2))]) (fun u => u.1) ⟨hx, hb, hml, hown, hts⟩ (fun u hu => c7_error l D cI qm m_images m_newMany m_at m_open m_steps m_use m_traced m_speaks m_isParted m_errors ((1 : Int32)) u hu) (cwV 1 hts gX7_wrong_X7_error rfl rfl rfl hdX7_error (rmq_ok (Nat.le_of_ble_eq_true rfl) (Nat.le_of_ble_eq_true rfl))) hK hEv hA hP hD hS [0, 2] (by decide) rfl (fun _ => rfl) (va_recv hK hP (ci := 7) (q0 := 0) rfl rfl) rfl rfl hl.1 (Nat.le_of_ble_eq_true rfl) ⟨Nat.zero_le _, Nat.zero_le _⟩ h dX7_wrong_19 (fun t19 m_errors_19 H locs h hP hD hS => ?_)
    have hP : va_P D vwCl [(qm 0, .inr (7, oX7 qm m_images m_newMany m_at m_open m_steps m_use m_traced m_speaks m_isParted)), (qm 1, .inl (cI, 3974, .inl m_s)), (qm 4, .inl (cI, 7, .inl m_errors_19))] H := hP
    have hD : va_D A [(qm 0, .inr (7, oX7 qm m_images m_newMany m_at m_open m_steps m_use m_traced m_speaks m_isParted)), (qm 1, .inl (cI, 3974, .inl m_s)), (qm 4, .inl (cI, 7, .inl m_errors_19))] := hD
    exact hret (t19, m_errors_19) _ _ _ _ (vp_nar_int _) h hP hD hS dX7_wrong_22
  unfold f7_wrong at h
  refine lv_aload_n hx hb dX7_wrong_0 rfl (lv_at hl 0 rfl) ?_
  refine lv_iload_n hx hb dX7_wrong_1 rfl (lv_at hl 1 rfl) ?_
  refine q_callR q_E0ok (rest := []) ⟨hx, hb, hml, hown, hts⟩ (fun r hr => c7_isVersion l D cI qm m_images m_newMany m_at m_open m_steps m_use m_traced m_speaks m_isParted m_s x1 r hr) (cwV 1 hts gX7_wrong_X7_isVersion rfl rfl rfl hdX7_isVersion (rmq_ok (Nat.le_of_ble_eq_true rfl) (Nat.le_of_ble_eq_true rfl))) hK hP hEv hS [0, 1] rfl (va_recv hK hP (ci := 7) (q0 := 0) rfl rfl) rfl rfl hl.1 (Nat.le_of_ble_eq_true rfl) ⟨Nat.zero_le _, Nat.zero_le _⟩ h dX7_wrong_2 (fun t2 h => ?_)
  refine q_ifeq hx hb 17 h dX7_wrong_5 (by decide) (fun h => ?_) (fun h => ?_)
  · exact J17 m_errors _ _ _ (lv_sub hl [0] rfl) hP hD hS h
  · refine lv_aload_n hx hb dX7_wrong_8 rfl (lv_at hl 0 rfl) ?_
    refine lv_iload_n hx hb dX7_wrong_9 rfl (lv_at hl 2 rfl) ?_
    refine lv_iload_n hx hb dX7_wrong_10 rfl (lv_at hl 3 rfl) ?_
    refine q_callR q_E0ok (rest := []) ⟨hx, hb, hml, hown, hts⟩ (fun r hr => c7_areMinutes l D cI qm m_images m_newMany m_at m_open m_steps m_use m_traced m_speaks m_isParted m_s x2 x3 r hr) (cwV 2 hts gX7_wrong_X7_areMinutes rfl rfl rfl hdX7_areMinutes (rmq_ok (Nat.le_of_ble_eq_true rfl) (Nat.le_of_ble_eq_true rfl))) hK hP hEv hS [0, 1] rfl (va_recv hK hP (ci := 7) (q0 := 0) rfl rfl) rfl rfl hl.1 (Nat.le_of_ble_eq_true rfl) ⟨Nat.zero_le _, Nat.zero_le _⟩ h dX7_wrong_11 (fun t11 h => ?_)
    refine q_ifne hx hb 23 h dX7_wrong_14 (by decide) (fun h => ?_) (fun h => ?_)
    · refine lv_iconst (v := (0 : Int32)) hx hb dX7_wrong_23 (by decide) ?_
      refine lv_istore (lv' := [(4, .int ((0 : Int32))), (0, .ref (qm 0)), (1, .int x1), (2, .int x2), (3, .int x3)]) hx hb dX7_wrong_24 hl (by decide) rfl (fun ls hl => ?_)
      refine lv_iconst (v := (0 : Int32)) hx hb dX7_wrong_26 (by decide) ?_
      refine lv_istore (lv' := [(5, .int ((0 : Int32))), (4, .int ((0 : Int32))), (0, .ref (qm 0)), (1, .int x1), (2, .int x2), (3, .int x3)]) hx hb dX7_wrong_27 hl (by decide) rfl (fun ls hl => ?_)
      exact J29 n x1 x2 x3 ((0 : Int32)) ((0 : Int32)) m_errors _ _ _ (lv_sub hl [2, 3, 4, 5, 1, 0] rfl) hP hD hS h
    · exact J17 m_errors _ _ _ (lv_sub hl [0] rfl) hP hD hS h
set_option maxHeartbeats 4000000 in
set_option maxRecDepth 100000 in
theorem c7_hourOf (l : Launch) (D : va_G) (cI : ClassId) (qm : Nat → Nat) (m_images m_newMany m_at m_open m_steps m_use m_traced m_speaks m_isParted : Int32) (m_s : Nat → Int32) (x1 : Int32) (x2 : Int32) (n : Nat) (u : Int32) (h : f7_hourOf n x1 x2 m_s = some u) : q_RO q_E0 l yX7_hourOf wsX7_hourOf (rmq (1)) D cI [.ref (qm 0), .int x1, .int x2] [(qm 0, .inr (7, oX7 qm m_images m_newMany m_at m_open m_steps m_use m_traced m_speaks m_isParted)), (qm 1, .inl (cI, 3974, .inl m_s))] u := by
  refine q_startR (cc := cX7_hourOf) (maxL := 5) (ty := .int) (own := RX7) (by decide) rfl rfl (Nat.le_of_ble_eq_true rfl) rfl (fun p e s m args below meth c Q hx hb hml hown hts hP hK hEv hret ls hl => ?_)
  have in7 : ∀ w ∈ wsX70, w ∈ wsX7_hourOf := fun w h => List.mem_cons_of_mem _ (List.mem_append_right _ (h))
  have l7 := hts (.fieldLink RX7 7 "PageWarsModel" "s" "[I") (List.mem_of_getElem? (i := 1) rfl)
  have J5 : ∀ (kk5 : Nat) (x1 : Int32) (x2 : Int32) (x3 : Int32) (x4 : Int32) (ls : Array Slot), lv_has ls 5 [(0, .ref (qm 0)), (1, .int x1), (2, .int x2), (3, .int x3), (4, .int x4)] → f7_hourOf_5 n m_s kk5 x1 x2 x3 x4 = some u → W p l e (rmq (1)) s m args below meth c s.heap [] 0 0 Q (F0 m 5 ls []) := by
    intro kk5
    induction kk5 with
    | zero => intro x1 x2 x3 x4  ls hl h; exact nomatch (show (none : Option (Int32)) = some u from h)
    | succ kk5 ih5 =>
      have J50 : ∀ (x1 : Int32) (x2 : Int32) (x4 : Int32) (s0 : Int32) (s1 : Int32) (ls : Array Slot), lv_has ls 5 [(0, .ref (qm 0)), (1, .int x1), (2, .int x2), (4, .int x4)] → f7_hourOf_50 n m_s (f7_hourOf_5 n m_s kk5) x1 x2 x4 s0 s1 = some u → W p l e (rmq (1)) s m args below meth c s.heap [] 0 0 Q (F0 m 50 ls [.int s1, .int s0]) := by
        intro x1 x2 x4 s0 s1  ls hl h
        unfold f7_hourOf_50 at h
        refine lv_iadd hx hb dX7_hourOf_50 ?_
        refine q_let h (fun x3_51 h => ?_)
        refine lv_istore_n (lv' := [(3, .int x3_51), (0, .ref (qm 0)), (1, .int x1), (2, .int x2), (4, .int x4)]) hx hb dX7_hourOf_51 rfl hl (by decide) rfl (fun ls hl => ?_)
        refine q_iinc (fun v => [(4, .int v), (3, .int x3_51), (0, .ref (qm 0)), (1, .int x1), (2, .int x2)]) hx hb h dX7_hourOf_52 (by decide) hl (k := 4) rfl (by decide) (fun _ => rfl) (fun x4_52 ls h hl => ?_)
        refine lv_goto (tgt := 5) hx hb dX7_hourOf_55 (by decide) ?_
        exact ih5 x1 x2 x3_51 x4_52 _ (lv_sub hl [2, 3, 4, 1, 0] rfl) h
      have J49 : ∀ (x1 : Int32) (x2 : Int32) (x4 : Int32) (s0 : Int32) (ls : Array Slot), lv_has ls 5 [(0, .ref (qm 0)), (1, .int x1), (2, .int x2), (4, .int x4)] → f7_hourOf_49 n m_s (f7_hourOf_5 n m_s kk5) x1 x2 x4 s0 = some u → W p l e (rmq (1)) s m args below meth c s.heap [] 0 0 Q (F0 m 49 ls [.int s0]) := by
        intro x1 x2 x4 s0  ls hl h
        unfold f7_hourOf_49 at h
        refine lv_iconst (v := (0 : Int32)) hx hb dX7_hourOf_49 (by decide) ?_
        exact J50 x1 x2 x4 s0 ((0 : Int32)) _ (lv_sub hl [0, 1, 2, 3] rfl) h
      intro x1 x2 x3 x4  ls hl h
      rw [f7_hourOf_5.eq_2] at h
      refine lv_iload hx hb dX7_hourOf_5 (lv_at hl 4 rfl) ?_
      refine lv_aload_n hx hb dX7_hourOf_7 rfl (lv_at hl 0 rfl) ?_
      refine va_get (D := D) (ci := 7) (v := .ref (qm 1)) (C := RX7) (T := TX7) (N := 24) hx hb hts in7 hown hK hP 0 rfl rfl 0 (by decide) l7 (fun _ h9 => h9) rfl dX7_hourOf_8 ?_
      refine lv_iconst (v := (1 : Int32)) hx hb dX7_hourOf_11 (by decide) ?_
      refine q_iald hx hb hK hP 1 0 rfl rfl h dX7_hourOf_12 (fun t12 h => ?_)
      refine q_cge hx hb 58 h dX7_hourOf_13 (by decide) (fun h => ?_) (fun h => ?_)
      · refine lv_iload_n hx hb dX7_hourOf_58 rfl (lv_at hl 3 rfl) ?_
        exact hret _ _ _ (vp_nar_int _) h dX7_hourOf_59
      · refine lv_iload_n hx hb dX7_hourOf_16 rfl (lv_at hl 3 rfl) ?_
        refine lv_aload_n hx hb dX7_hourOf_17 rfl (lv_at hl 0 rfl) ?_
        refine lv_iload hx hb dX7_hourOf_18 (lv_at hl 4 rfl) ?_
        refine lv_iconst (v := (1 : Int32)) hx hb dX7_hourOf_20 (by decide) ?_
        refine q_callR q_E0ok (rest := [.int x3]) ⟨hx, hb, hml, hown, hts⟩ (fun r hr => c7_actIs1 l D cI qm m_images m_newMany m_at m_open m_steps m_use m_traced m_speaks m_isParted m_s x4 ((1 : Int32)) r hr) (cwV 2 hts gX7_hourOf_X7_actIs1 rfl rfl rfl hdX7_actIs1 (rmq_ok (Nat.le_of_ble_eq_true rfl) (Nat.le_of_ble_eq_true rfl))) hK hP hEv va_S.rf [0, 1] rfl (va_recv hK hP (ci := 7) (q0 := 0) rfl rfl) rfl rfl hl.1 (Nat.le_of_ble_eq_true rfl) ⟨Nat.zero_le _, Nat.zero_le _⟩ h dX7_hourOf_21 (fun t21 h => ?_)
        refine lv_iload_n hx hb dX7_hourOf_24 rfl (lv_at hl 1 rfl) ?_
        refine q_cne hx hb 49 h dX7_hourOf_25 (by decide) (fun h => ?_) (fun h => ?_)
        · exact J49 x1 x2 x4 x3 _ (lv_sub hl [0, 1, 2, 4] rfl) h
        · refine lv_aload_n hx hb dX7_hourOf_28 rfl (lv_at hl 0 rfl) ?_
          refine lv_iload hx hb dX7_hourOf_29 (lv_at hl 4 rfl) ?_
          refine lv_iconst (v := (2 : Int32)) hx hb dX7_hourOf_31 (by decide) ?_
          refine q_callR q_E0ok (rest := [.int x3]) ⟨hx, hb, hml, hown, hts⟩ (fun r hr => c7_actIs1 l D cI qm m_images m_newMany m_at m_open m_steps m_use m_traced m_speaks m_isParted m_s x4 ((2 : Int32)) r hr) (cwV 2 hts gX7_hourOf_X7_actIs1 rfl rfl rfl hdX7_actIs1 (rmq_ok (Nat.le_of_ble_eq_true rfl) (Nat.le_of_ble_eq_true rfl))) hK hP hEv va_S.rf [0, 1] rfl (va_recv hK hP (ci := 7) (q0 := 0) rfl rfl) rfl rfl hl.1 (Nat.le_of_ble_eq_true rfl) ⟨Nat.zero_le _, Nat.zero_le _⟩ h dX7_hourOf_32 (fun t32 h => ?_)
          refine lv_bipush (v := (60 : Int32)) hx hb dX7_hourOf_35 (by decide) ?_
          refine q_idiv hx hb h dX7_hourOf_37 (fun h => ?_)
          refine lv_bipush (v := (24 : Int32)) hx hb dX7_hourOf_38 (by decide) ?_
          refine q_irem hx hb h dX7_hourOf_40 (fun h => ?_)
          refine lv_iload_n hx hb dX7_hourOf_41 rfl (lv_at hl 2 rfl) ?_
          refine q_cne hx hb 49 h dX7_hourOf_42 (by decide) (fun h => ?_) (fun h => ?_)
          · exact J49 x1 x2 x4 x3 _ (lv_sub hl [0, 1, 2, 4] rfl) h
          · refine lv_iconst (v := (1 : Int32)) hx hb dX7_hourOf_45 (by decide) ?_
            refine lv_goto (tgt := 50) hx hb dX7_hourOf_46 (by decide) ?_
            exact J50 x1 x2 x4 x3 ((1 : Int32)) _ (lv_sub hl [0, 1, 2, 4] rfl) h
  unfold f7_hourOf at h
  refine lv_iconst (v := (0 : Int32)) hx hb dX7_hourOf_0 (by decide) ?_
  refine lv_istore_n (lv' := [(3, .int ((0 : Int32))), (0, .ref (qm 0)), (1, .int x1), (2, .int x2)]) hx hb dX7_hourOf_1 rfl hl (by decide) rfl (fun ls hl => ?_)
  refine lv_iconst (v := (0 : Int32)) hx hb dX7_hourOf_2 (by decide) ?_
  refine lv_istore (lv' := [(4, .int ((0 : Int32))), (3, .int ((0 : Int32))), (0, .ref (qm 0)), (1, .int x1), (2, .int x2)]) hx hb dX7_hourOf_3 hl (by decide) rfl (fun ls hl => ?_)
  exact J5 n x1 x2 ((0 : Int32)) ((0 : Int32)) _ (lv_sub hl [2, 3, 4, 1, 0] rfl) h
set_option maxHeartbeats 4000000 in
set_option maxRecDepth 100000 in
theorem c7_hand (l : Launch) (D : va_G) (cI : ClassId) (qm : Nat → Nat) (m_images m_newMany m_at m_open m_steps m_use m_traced m_speaks m_isParted : Int32) (m_s m_errors : Nat → Int32) (x1 : Int32) (x2 : Int32) (n : Nat) (u : Int32 × (Nat → Int32)) (h : f7_hand n x1 x2 m_s m_errors = some u) : q_RW q_E0 l yX7_hand wsX7_hand (rmq (2)) D cI [.ref (qm 0), .int x1, .int x2] [(qm 0, .inr (7, oX7 qm m_images m_newMany m_at m_open m_steps m_use m_traced m_speaks m_isParted)), (qm 1, .inl (cI, 3974, .inl m_s)), (qm 4, .inl (cI, 7, .inl m_errors))] [(qm 0, .inr (7, oX7 qm m_images m_newMany m_at m_open m_steps m_use m_traced m_speaks m_isParted)), (qm 1, .inl (cI, 3974, .inl m_s)), (qm 4, .inl (cI, 7, .inl u.2))] u.1 := by
  refine q_startW (fun u : Int32 × (Nat → Int32) => [(qm 0, .inr (7, oX7 qm m_images m_newMany m_at m_open m_steps m_use m_traced m_speaks m_isParted)), (qm 1, .inl (cI, 3974, .inl m_s)), (qm 4, .inl (cI, 7, .inl u.2))]) (fun u => u.1) (cc := cX7_hand) (maxL := 9) (ty := .int) (own := RX7) (by decide) rfl rfl (Nat.le_of_ble_eq_true rfl) rfl (fun p e s m args below meth c Q A hx hb hml hown hts hK hEv hA hret hP hD hS ls hl => ?_)
  have in7 : ∀ w ∈ wsX70, w ∈ wsX7_hand := fun w h => List.mem_cons_of_mem _ (List.mem_append_right _ (h))
  have J126 : ∀ (s0 : Int32) (s1 : Int32) (m_errors : (Nat → Int32)) (H : Heap) (locs : List Loc) (ls : Array Slot), lv_has ls 9 [(0, .ref (qm 0))] → va_P D vwCl [(qm 0, .inr (7, oX7 qm m_images m_newMany m_at m_open m_steps m_use m_traced m_speaks m_isParted)), (qm 1, .inl (cI, 3974, .inl m_s)), (qm 4, .inl (cI, 7, .inl m_errors))] H → va_D A [(qm 0, .inr (7, oX7 qm m_images m_newMany m_at m_open m_steps m_use m_traced m_speaks m_isParted)), (qm 1, .inl (cI, 3974, .inl m_s)), (qm 4, .inl (cI, 7, .inl m_errors))] → va_S A s.heap H locs → f7_hand_126 n m_s s0 s1 m_errors = some u → W p l e (rmq (2)) s m args below meth c H locs 0 0 Q (F0 m 126 ls [.int s1, .int s0]) := by
    intro s0 s1 m_errors H locs ls hl hP hD hS h
    unfold f7_hand_126 at h
    refine q_idiv hx hb h dX7_hand_126 (fun h => ?_)
    exact hret (s0 / s1, m_errors) _ _ _ _ (vp_nar_int _) h hP hD hS dX7_hand_127
  have J59 : ∀ (kk59 : Nat) (x1 : Int32) (x2 : Int32) (x3 : Int32) (x4 : Int32) (x5 : Int32) (x6 : Int32) (m_errors : (Nat → Int32)) (H : Heap) (locs : List Loc) (ls : Array Slot), lv_has ls 9 [(0, .ref (qm 0)), (1, .int x1), (2, .int x2), (3, .int x3), (4, .int x4), (5, .int x5), (6, .int x6)] → va_P D vwCl [(qm 0, .inr (7, oX7 qm m_images m_newMany m_at m_open m_steps m_use m_traced m_speaks m_isParted)), (qm 1, .inl (cI, 3974, .inl m_s)), (qm 4, .inl (cI, 7, .inl m_errors))] H → va_D A [(qm 0, .inr (7, oX7 qm m_images m_newMany m_at m_open m_steps m_use m_traced m_speaks m_isParted)), (qm 1, .inl (cI, 3974, .inl m_s)), (qm 4, .inl (cI, 7, .inl m_errors))] → va_S A s.heap H locs → f7_hand_59 n m_s kk59 x1 x2 x3 x4 x5 x6 m_errors = some u → W p l e (rmq (2)) s m args below meth c H locs 0 0 Q (F0 m 59 ls []) := by
    intro kk59
    induction kk59 with
    | zero => intro x1 x2 x3 x4 x5 x6 m_errors H locs ls hl hP hD hS h; exact nomatch (show (none : Option (Int32 × (Nat → Int32))) = some u from h)
    | succ kk59 ih59 =>
      have J100 : ∀ (x1 : Int32) (x2 : Int32) (x3 : Int32) (x4 : Int32) (x6 : Int32) (s0 : Int32) (s1 : Int32) (m_errors : (Nat → Int32)) (H : Heap) (locs : List Loc) (ls : Array Slot), lv_has ls 9 [(0, .ref (qm 0)), (1, .int x1), (2, .int x2), (3, .int x3), (4, .int x4), (6, .int x6)] → va_P D vwCl [(qm 0, .inr (7, oX7 qm m_images m_newMany m_at m_open m_steps m_use m_traced m_speaks m_isParted)), (qm 1, .inl (cI, 3974, .inl m_s)), (qm 4, .inl (cI, 7, .inl m_errors))] H → va_D A [(qm 0, .inr (7, oX7 qm m_images m_newMany m_at m_open m_steps m_use m_traced m_speaks m_isParted)), (qm 1, .inl (cI, 3974, .inl m_s)), (qm 4, .inl (cI, 7, .inl m_errors))] → va_S A s.heap H locs → f7_hand_100 n m_s (f7_hand_59 n m_s kk59) x1 x2 x3 x4 x6 s0 s1 m_errors = some u → W p l e (rmq (2)) s m args below meth c H locs 0 0 Q (F0 m 100 ls [.int s1, .int s0]) := by
        intro x1 x2 x3 x4 x6 s0 s1 m_errors H locs ls hl hP hD hS h
        unfold f7_hand_100 at h
        refine lv_iadd hx hb dX7_hand_100 ?_
        refine q_let h (fun x5_101 h => ?_)
        refine lv_istore (lv' := [(5, .int x5_101), (0, .ref (qm 0)), (1, .int x1), (2, .int x2), (3, .int x3), (4, .int x4), (6, .int x6)]) hx hb dX7_hand_101 hl (by decide) rfl (fun ls hl => ?_)
        refine q_iinc (fun v => [(6, .int v), (5, .int x5_101), (0, .ref (qm 0)), (1, .int x1), (2, .int x2), (3, .int x3), (4, .int x4)]) hx hb h dX7_hand_103 (by decide) hl (k := 6) rfl (by decide) (fun _ => rfl) (fun x6_103 ls h hl => ?_)
        refine lv_goto (tgt := 59) hx hb dX7_hand_106 (by decide) ?_
        exact ih59 x1 x2 x3 x4 x5_101 x6_103 m_errors _ _ _ (lv_sub hl [2, 3, 4, 5, 6, 1, 0] rfl) hP hD hS h
      intro x1 x2 x3 x4 x5 x6 m_errors H locs ls hl hP hD hS h
      rw [f7_hand_59.eq_2] at h
      refine lv_iload hx hb dX7_hand_59 (lv_at hl 6 rfl) ?_
      refine lv_bipush (v := (24 : Int32)) hx hb dX7_hand_61 (by decide) ?_
      refine q_cge hx hb 109 h dX7_hand_63 (by decide) (fun h => ?_) (fun h => ?_)
      · refine lv_bipush (v := (100 : Int32)) hx hb dX7_hand_109 (by decide) ?_
        refine lv_iload hx hb dX7_hand_111 (lv_at hl 5 rfl) ?_
        refine lv_imul hx hb dX7_hand_113 ?_
        refine lv_iload_n hx hb dX7_hand_114 rfl (lv_at hl 3 rfl) ?_
        refine lv_iload hx hb dX7_hand_115 (lv_at hl 4 rfl) ?_
        refine q_cge hx hb 124 h dX7_hand_117 (by decide) (fun h => ?_) (fun h => ?_)
        · refine lv_iload hx hb dX7_hand_124 (lv_at hl 4 rfl) ?_
          exact J126 (((100 : Int32)) * x5) x4 m_errors _ _ _ (lv_sub hl [0] rfl) hP hD hS h
        · refine lv_iload_n hx hb dX7_hand_120 rfl (lv_at hl 3 rfl) ?_
          refine lv_goto (tgt := 126) hx hb dX7_hand_121 (by decide) ?_
          exact J126 (((100 : Int32)) * x5) x3 m_errors _ _ _ (lv_sub hl [0] rfl) hP hD hS h
      · refine lv_aload_n hx hb dX7_hand_66 rfl (lv_at hl 0 rfl) ?_
        refine lv_iload_n hx hb dX7_hand_67 rfl (lv_at hl 1 rfl) ?_
        refine lv_iload hx hb dX7_hand_68 (lv_at hl 6 rfl) ?_
        refine q_callR q_E0ok (rest := []) ⟨hx, hb, hml, hown, hts⟩ (fun r hr => c7_hourOf l D cI qm m_images m_newMany m_at m_open m_steps m_use m_traced m_speaks m_isParted m_s x1 x6 n r hr) (cwV 2 hts gX7_hand_X7_hourOf rfl rfl rfl hdX7_hourOf (rmq_ok (Nat.le_of_ble_eq_true rfl) (Nat.le_of_ble_eq_true rfl))) hK hP hEv hS [0, 1] rfl (va_recv hK hP (ci := 7) (q0 := 0) rfl rfl) rfl rfl hl.1 (Nat.le_of_ble_eq_true rfl) ⟨Nat.zero_le _, Nat.zero_le _⟩ h dX7_hand_70 (fun t70 h => ?_)
        refine lv_istore (lv' := [(7, .int t70), (0, .ref (qm 0)), (1, .int x1), (2, .int x2), (3, .int x3), (4, .int x4), (5, .int x5), (6, .int x6)]) hx hb dX7_hand_73 hl (by decide) rfl (fun ls hl => ?_)
        refine lv_aload_n hx hb dX7_hand_75 rfl (lv_at hl 1 rfl) ?_
        refine lv_iload_n hx hb dX7_hand_76 rfl (lv_at hl 3 rfl) ?_
        refine lv_iload hx hb dX7_hand_77 (lv_at hl 7 rfl) ?_
        refine q_callR q_E0ok (rest := []) ⟨hx, hb, hml, hown, hts⟩ (fun r hr => c7_hourOf l D cI qm m_images m_newMany m_at m_open m_steps m_use m_traced m_speaks m_isParted m_s x2 x6 n r hr) (cwV 2 hts gX7_hand_X7_hourOf rfl rfl rfl hdX7_hourOf (rmq_ok (Nat.le_of_ble_eq_true rfl) (Nat.le_of_ble_eq_true rfl))) hK hP hEv hS [0, 1] rfl (va_recv hK hP (ci := 7) (q0 := 0) rfl rfl) rfl rfl hl.1 (Nat.le_of_ble_eq_true rfl) ⟨Nat.zero_le _, Nat.zero_le _⟩ h dX7_hand_79 (fun t79 h => ?_)
        refine lv_istore (lv' := [(8, .int t79), (7, .int t70), (0, .ref (qm 0)), (1, .int x1), (2, .int x2), (3, .int x3), (4, .int x4), (5, .int x5), (6, .int x6)]) hx hb dX7_hand_82 hl (by decide) rfl (fun ls hl => ?_)
        refine lv_iload hx hb dX7_hand_84 (lv_at hl 7 rfl) ?_
        refine lv_iload hx hb dX7_hand_86 (lv_at hl 1 rfl) ?_
        refine lv_iload hx hb dX7_hand_88 (lv_at hl 0 rfl) ?_
        refine q_cge hx hb 98 h dX7_hand_90 (by decide) (fun h => ?_) (fun h => ?_)
        · refine lv_iload hx hb dX7_hand_98 (lv_at hl 0 rfl) ?_
          exact J100 x1 x2 x3 x4 x6 x5 t79 m_errors _ _ _ (lv_sub hl [2, 3, 4, 5, 6, 8] rfl) hP hD hS h
        · refine lv_iload hx hb dX7_hand_93 (lv_at hl 1 rfl) ?_
          refine lv_goto (tgt := 100) hx hb dX7_hand_95 (by decide) ?_
          exact J100 x1 x2 x3 x4 x6 x5 t70 m_errors _ _ _ (lv_sub hl [2, 3, 4, 5, 6, 8] rfl) hP hD hS h
  have J47 : ∀ (m_errors : (Nat → Int32)) (H : Heap) (locs : List Loc) (ls : Array Slot), lv_has ls 9 [(0, .ref (qm 0))] → va_P D vwCl [(qm 0, .inr (7, oX7 qm m_images m_newMany m_at m_open m_steps m_use m_traced m_speaks m_isParted)), (qm 1, .inl (cI, 3974, .inl m_s)), (qm 4, .inl (cI, 7, .inl m_errors))] H → va_D A [(qm 0, .inr (7, oX7 qm m_images m_newMany m_at m_open m_steps m_use m_traced m_speaks m_isParted)), (qm 1, .inl (cI, 3974, .inl m_s)), (qm 4, .inl (cI, 7, .inl m_errors))] → va_S A s.heap H locs → f7_hand_47 n m_s m_errors = some u → W p l e (rmq (2)) s m args below meth c H locs 0 0 Q (F0 m 47 ls []) := by
    intro m_errors H locs ls hl hP hD hS h
    unfold f7_hand_47 at h
    refine lv_aload_n hx hb dX7_hand_47 rfl (lv_at hl 0 rfl) ?_
    refine lv_iconst (v := (2 : Int32)) hx hb dX7_hand_48 (by decide) ?_
    refine q_callW2 q_E0ok (rest := []) (fun u => [(qm 0, .inr (7, oX7 qm m_images m_newMany m_at m_open m_steps m_use m_traced m_speaks m_isParted)), (qm 4, .inl (cI, 7, .inl u.2))]) (fun u => u.1) ⟨hx, hb, hml, hown, hts⟩ (fun u hu => c7_error l D cI qm m_images m_newMany m_at m_open m_steps m_use m_traced m_speaks m_isParted m_errors ((2 : Int32)) u hu) (cwV 1 hts gX7_hand_X7_error rfl rfl rfl hdX7_error (rmq_ok (Nat.le_of_ble_eq_true rfl) (Nat.le_of_ble_eq_true rfl))) hK hEv hA hP hD hS [0, 2] (by decide) rfl (fun _ => rfl) (va_recv hK hP (ci := 7) (q0 := 0) rfl rfl) rfl rfl hl.1 (Nat.le_of_ble_eq_true rfl) ⟨Nat.zero_le _, Nat.zero_le _⟩ h dX7_hand_49 (fun t49 m_errors_49 H locs h hP hD hS => ?_)
    have hP : va_P D vwCl [(qm 0, .inr (7, oX7 qm m_images m_newMany m_at m_open m_steps m_use m_traced m_speaks m_isParted)), (qm 1, .inl (cI, 3974, .inl m_s)), (qm 4, .inl (cI, 7, .inl m_errors_49))] H := hP
    have hD : va_D A [(qm 0, .inr (7, oX7 qm m_images m_newMany m_at m_open m_steps m_use m_traced m_speaks m_isParted)), (qm 1, .inl (cI, 3974, .inl m_s)), (qm 4, .inl (cI, 7, .inl m_errors_49))] := hD
    exact hret (t49, m_errors_49) _ _ _ _ (vp_nar_int _) h hP hD hS dX7_hand_52
  have J19 : ∀ (m_errors : (Nat → Int32)) (H : Heap) (locs : List Loc) (ls : Array Slot), lv_has ls 9 [(0, .ref (qm 0))] → va_P D vwCl [(qm 0, .inr (7, oX7 qm m_images m_newMany m_at m_open m_steps m_use m_traced m_speaks m_isParted)), (qm 1, .inl (cI, 3974, .inl m_s)), (qm 4, .inl (cI, 7, .inl m_errors))] H → va_D A [(qm 0, .inr (7, oX7 qm m_images m_newMany m_at m_open m_steps m_use m_traced m_speaks m_isParted)), (qm 1, .inl (cI, 3974, .inl m_s)), (qm 4, .inl (cI, 7, .inl m_errors))] → va_S A s.heap H locs → f7_hand_19 n m_s m_errors = some u → W p l e (rmq (2)) s m args below meth c H locs 0 0 Q (F0 m 19 ls []) := by
    intro m_errors H locs ls hl hP hD hS h
    unfold f7_hand_19 at h
    refine lv_aload_n hx hb dX7_hand_19 rfl (lv_at hl 0 rfl) ?_
    refine lv_iconst (v := (1 : Int32)) hx hb dX7_hand_20 (by decide) ?_
    refine q_callW2 q_E0ok (rest := []) (fun u => [(qm 0, .inr (7, oX7 qm m_images m_newMany m_at m_open m_steps m_use m_traced m_speaks m_isParted)), (qm 4, .inl (cI, 7, .inl u.2))]) (fun u => u.1) ⟨hx, hb, hml, hown, hts⟩ (fun u hu => c7_error l D cI qm m_images m_newMany m_at m_open m_steps m_use m_traced m_speaks m_isParted m_errors ((1 : Int32)) u hu) (cwV 1 hts gX7_hand_X7_error rfl rfl rfl hdX7_error (rmq_ok (Nat.le_of_ble_eq_true rfl) (Nat.le_of_ble_eq_true rfl))) hK hEv hA hP hD hS [0, 2] (by decide) rfl (fun _ => rfl) (va_recv hK hP (ci := 7) (q0 := 0) rfl rfl) rfl rfl hl.1 (Nat.le_of_ble_eq_true rfl) ⟨Nat.zero_le _, Nat.zero_le _⟩ h dX7_hand_21 (fun t21 m_errors_21 H locs h hP hD hS => ?_)
    have hP : va_P D vwCl [(qm 0, .inr (7, oX7 qm m_images m_newMany m_at m_open m_steps m_use m_traced m_speaks m_isParted)), (qm 1, .inl (cI, 3974, .inl m_s)), (qm 4, .inl (cI, 7, .inl m_errors_21))] H := hP
    have hD : va_D A [(qm 0, .inr (7, oX7 qm m_images m_newMany m_at m_open m_steps m_use m_traced m_speaks m_isParted)), (qm 1, .inl (cI, 3974, .inl m_s)), (qm 4, .inl (cI, 7, .inl m_errors_21))] := hD
    exact hret (t21, m_errors_21) _ _ _ _ (vp_nar_int _) h hP hD hS dX7_hand_24
  unfold f7_hand at h
  refine lv_iload_n hx hb dX7_hand_0 rfl (lv_at hl 1 rfl) ?_
  refine q_callRS q_E0ok (rest := []) ⟨hx, hb, hml, hown, hts⟩ (fun r hr => c7_isWriter l D cI x1 r hr) (va_cwS 1 hts gX7_hand_X7_isWriter rfl rfl rfl hdX7_isWriter (rmq_ok (Nat.le_of_ble_eq_true rfl) (Nat.le_of_ble_eq_true rfl))) hK hP hEv hS [] rfl rfl rfl hl.1 (Nat.le_of_ble_eq_true rfl) ⟨Nat.zero_le _, Nat.zero_le _⟩ h dX7_hand_1 (fun t1 h => ?_)
  refine q_ifeq hx hb 19 h dX7_hand_4 (by decide) (fun h => ?_) (fun h => ?_)
  · exact J19 m_errors _ _ _ (lv_sub hl [0] rfl) hP hD hS h
  · refine lv_iload_n hx hb dX7_hand_7 rfl (lv_at hl 2 rfl) ?_
    refine q_callRS q_E0ok (rest := []) ⟨hx, hb, hml, hown, hts⟩ (fun r hr => c7_isWriter l D cI x2 r hr) (va_cwS 1 hts gX7_hand_X7_isWriter rfl rfl rfl hdX7_isWriter (rmq_ok (Nat.le_of_ble_eq_true rfl) (Nat.le_of_ble_eq_true rfl))) hK hP hEv hS [] rfl rfl rfl hl.1 (Nat.le_of_ble_eq_true rfl) ⟨Nat.zero_le _, Nat.zero_le _⟩ h dX7_hand_8 (fun t8 h => ?_)
    refine q_ifeq hx hb 19 h dX7_hand_11 (by decide) (fun h => ?_) (fun h => ?_)
    · exact J19 m_errors _ _ _ (lv_sub hl [0] rfl) hP hD hS h
    · refine lv_iload_n hx hb dX7_hand_14 rfl (lv_at hl 1 rfl) ?_
      refine lv_iload_n hx hb dX7_hand_15 rfl (lv_at hl 2 rfl) ?_
      refine q_cne hx hb 25 h dX7_hand_16 (by decide) (fun h => ?_) (fun h => ?_)
      · refine lv_aload_n hx hb dX7_hand_25 rfl (lv_at hl 0 rfl) ?_
        refine lv_iload_n hx hb dX7_hand_26 rfl (lv_at hl 1 rfl) ?_
        refine q_callR q_E0ok (rest := []) ⟨hx, hb, hml, hown, hts⟩ (fun r hr => c7_actsOf l D cI qm m_images m_newMany m_at m_open m_steps m_use m_traced m_speaks m_isParted m_s x1 n r hr) (cwV 1 hts gX7_hand_X7_actsOf rfl rfl rfl hdX7_actsOf (rmq_ok (Nat.le_of_ble_eq_true rfl) (Nat.le_of_ble_eq_true rfl))) hK hP hEv hS [0, 1] rfl (va_recv hK hP (ci := 7) (q0 := 0) rfl rfl) rfl rfl hl.1 (Nat.le_of_ble_eq_true rfl) ⟨Nat.zero_le _, Nat.zero_le _⟩ h dX7_hand_27 (fun t27 h => ?_)
        refine lv_istore_n (lv' := [(3, .int t27), (0, .ref (qm 0)), (1, .int x1), (2, .int x2)]) hx hb dX7_hand_30 rfl hl (by decide) rfl (fun ls hl => ?_)
        refine lv_aload_n hx hb dX7_hand_31 rfl (lv_at hl 1 rfl) ?_
        refine lv_iload_n hx hb dX7_hand_32 rfl (lv_at hl 3 rfl) ?_
        refine q_callR q_E0ok (rest := []) ⟨hx, hb, hml, hown, hts⟩ (fun r hr => c7_actsOf l D cI qm m_images m_newMany m_at m_open m_steps m_use m_traced m_speaks m_isParted m_s x2 n r hr) (cwV 1 hts gX7_hand_X7_actsOf rfl rfl rfl hdX7_actsOf (rmq_ok (Nat.le_of_ble_eq_true rfl) (Nat.le_of_ble_eq_true rfl))) hK hP hEv hS [0, 1] rfl (va_recv hK hP (ci := 7) (q0 := 0) rfl rfl) rfl rfl hl.1 (Nat.le_of_ble_eq_true rfl) ⟨Nat.zero_le _, Nat.zero_le _⟩ h dX7_hand_33 (fun t33 h => ?_)
        refine lv_istore (lv' := [(4, .int t33), (3, .int t27), (0, .ref (qm 0)), (1, .int x1), (2, .int x2)]) hx hb dX7_hand_36 hl (by decide) rfl (fun ls hl => ?_)
        refine lv_iload_n hx hb dX7_hand_38 rfl (lv_at hl 1 rfl) ?_
        refine q_ifeq hx hb 47 h dX7_hand_39 (by decide) (fun h => ?_) (fun h => ?_)
        · exact J47 m_errors _ _ _ (lv_sub hl [2] rfl) hP hD hS h
        · refine lv_iload hx hb dX7_hand_42 (lv_at hl 0 rfl) ?_
          refine q_ifne hx hb 53 h dX7_hand_44 (by decide) (fun h => ?_) (fun h => ?_)
          · refine lv_iconst (v := (0 : Int32)) hx hb dX7_hand_53 (by decide) ?_
            refine lv_istore (lv' := [(5, .int ((0 : Int32))), (4, .int t33), (3, .int t27), (0, .ref (qm 0)), (1, .int x1), (2, .int x2)]) hx hb dX7_hand_54 hl (by decide) rfl (fun ls hl => ?_)
            refine lv_iconst (v := (0 : Int32)) hx hb dX7_hand_56 (by decide) ?_
            refine lv_istore (lv' := [(6, .int ((0 : Int32))), (5, .int ((0 : Int32))), (4, .int t33), (3, .int t27), (0, .ref (qm 0)), (1, .int x1), (2, .int x2)]) hx hb dX7_hand_57 hl (by decide) rfl (fun ls hl => ?_)
            exact J59 n x1 x2 t27 t33 ((0 : Int32)) ((0 : Int32)) m_errors _ _ _ (lv_sub hl [4, 5, 6, 3, 2, 1, 0] rfl) hP hD hS h
          · exact J47 m_errors _ _ _ (lv_sub hl [2] rfl) hP hD hS h
      · exact J19 m_errors _ _ _ (lv_sub hl [0] rfl) hP hD hS h
set_option maxHeartbeats 4000000 in
set_option maxRecDepth 100000 in
theorem c7_score (l : Launch) (D : va_G) (cI : ClassId) (qm : Nat → Nat) (m_images m_newMany m_at m_open m_steps m_use m_traced m_speaks m_isParted : Int32) (m_s m_errors : Nat → Int32) (x1 : Int32) (x2 : Int32) (u : Int32 × (Nat → Int32) × (Nat → Int32)) (h : f7_score x1 x2 m_s m_errors = some u) : q_RW q_E0 l yX7_score wsX7_score (rmq (2)) D cI [.ref (qm 0), .int x1, .int x2] [(qm 0, .inr (7, oX7 qm m_images m_newMany m_at m_open m_steps m_use m_traced m_speaks m_isParted)), (qm 1, .inl (cI, 3974, .inl m_s)), (qm 4, .inl (cI, 7, .inl m_errors))] [(qm 0, .inr (7, oX7 qm m_images m_newMany m_at m_open m_steps m_use m_traced m_speaks m_isParted)), (qm 1, .inl (cI, 3974, .inl u.2.1)), (qm 4, .inl (cI, 7, .inl u.2.2))] u.1 := by
  refine q_startW (fun u : Int32 × (Nat → Int32) × (Nat → Int32) => [(qm 0, .inr (7, oX7 qm m_images m_newMany m_at m_open m_steps m_use m_traced m_speaks m_isParted)), (qm 1, .inl (cI, 3974, .inl u.2.1)), (qm 4, .inl (cI, 7, .inl u.2.2))]) (fun u => u.1) (cc := cX7_score) (maxL := 4) (ty := .int) (own := RX7) (by decide) rfl rfl (Nat.le_of_ble_eq_true rfl) rfl (fun p e s m args below meth c Q A hx hb hml hown hts hK hEv hA hret hP hD hS ls hl => ?_)
  have in7 : ∀ w ∈ wsX70, w ∈ wsX7_score := fun w h => List.mem_cons_of_mem _ (List.mem_append_right _ (h))
  have l7 := hts (.fieldLink RX7 7 "PageWarsModel" "s" "[I") (List.mem_of_getElem? (i := 1) rfl)
  have J18 : ∀ (m_s : (Nat → Int32)) (m_errors : (Nat → Int32)) (H : Heap) (locs : List Loc) (ls : Array Slot), lv_has ls 4 [(0, .ref (qm 0))] → va_P D vwCl [(qm 0, .inr (7, oX7 qm m_images m_newMany m_at m_open m_steps m_use m_traced m_speaks m_isParted)), (qm 1, .inl (cI, 3974, .inl m_s)), (qm 4, .inl (cI, 7, .inl m_errors))] H → va_D A [(qm 0, .inr (7, oX7 qm m_images m_newMany m_at m_open m_steps m_use m_traced m_speaks m_isParted)), (qm 1, .inl (cI, 3974, .inl m_s)), (qm 4, .inl (cI, 7, .inl m_errors))] → va_S A s.heap H locs → f7_score_18  m_s m_errors = some u → W p l e (rmq (2)) s m args below meth c H locs 0 0 Q (F0 m 18 ls []) := by
    intro m_s m_errors H locs ls hl hP hD hS h
    unfold f7_score_18 at h
    refine lv_aload_n hx hb dX7_score_18 rfl (lv_at hl 0 rfl) ?_
    refine lv_iconst (v := (1 : Int32)) hx hb dX7_score_19 (by decide) ?_
    refine q_callW2 q_E0ok (rest := []) (fun u => [(qm 0, .inr (7, oX7 qm m_images m_newMany m_at m_open m_steps m_use m_traced m_speaks m_isParted)), (qm 4, .inl (cI, 7, .inl u.2))]) (fun u => u.1) ⟨hx, hb, hml, hown, hts⟩ (fun u hu => c7_error l D cI qm m_images m_newMany m_at m_open m_steps m_use m_traced m_speaks m_isParted m_errors ((1 : Int32)) u hu) (cwV 1 hts gX7_score_X7_error rfl rfl rfl hdX7_error (rmq_ok (Nat.le_of_ble_eq_true rfl) (Nat.le_of_ble_eq_true rfl))) hK hEv hA hP hD hS [0, 2] (by decide) rfl (fun _ => rfl) (va_recv hK hP (ci := 7) (q0 := 0) rfl rfl) rfl rfl hl.1 (Nat.le_of_ble_eq_true rfl) ⟨Nat.zero_le _, Nat.zero_le _⟩ h dX7_score_20 (fun t20 m_errors_20 H locs h hP hD hS => ?_)
    have hP : va_P D vwCl [(qm 0, .inr (7, oX7 qm m_images m_newMany m_at m_open m_steps m_use m_traced m_speaks m_isParted)), (qm 1, .inl (cI, 3974, .inl m_s)), (qm 4, .inl (cI, 7, .inl m_errors_20))] H := hP
    have hD : va_D A [(qm 0, .inr (7, oX7 qm m_images m_newMany m_at m_open m_steps m_use m_traced m_speaks m_isParted)), (qm 1, .inl (cI, 3974, .inl m_s)), (qm 4, .inl (cI, 7, .inl m_errors_20))] := hD
    exact hret (t20, m_s, m_errors_20) _ _ _ _ (vp_nar_int _) h hP hD hS dX7_score_23
  unfold f7_score at h
  refine lv_aload_n hx hb dX7_score_0 rfl (lv_at hl 0 rfl) ?_
  refine lv_iload_n hx hb dX7_score_1 rfl (lv_at hl 1 rfl) ?_
  refine q_callR q_E0ok (rest := []) ⟨hx, hb, hml, hown, hts⟩ (fun r hr => c7_isAct l D cI qm m_images m_newMany m_at m_open m_steps m_use m_traced m_speaks m_isParted m_s x1 r hr) (cwV 1 hts gX7_score_X7_isAct rfl rfl rfl hdX7_isAct (rmq_ok (Nat.le_of_ble_eq_true rfl) (Nat.le_of_ble_eq_true rfl))) hK hP hEv hS [0, 1] rfl (va_recv hK hP (ci := 7) (q0 := 0) rfl rfl) rfl rfl hl.1 (Nat.le_of_ble_eq_true rfl) ⟨Nat.zero_le _, Nat.zero_le _⟩ h dX7_score_2 (fun t2 h => ?_)
  refine q_ifeq hx hb 18 h dX7_score_5 (by decide) (fun h => ?_) (fun h => ?_)
  · exact J18 m_s m_errors _ _ _ (lv_sub hl [0] rfl) hP hD hS h
  · refine lv_iload_n hx hb dX7_score_8 rfl (lv_at hl 2 rfl) ?_
    refine lv_iconst (v := (-1 : Int32)) hx hb dX7_score_9 (by decide) ?_
    refine lv_bipush (v := (100 : Int32)) hx hb dX7_score_10 (by decide) ?_
    refine q_callRS q_E0ok (rest := []) ⟨hx, hb, hml, hown, hts⟩ (fun r hr => c7_in l D cI x2 ((-1 : Int32)) ((100 : Int32)) r hr) (va_cwS 3 hts gX7_score_X7_in rfl rfl rfl hdX7_in (rmq_ok (Nat.le_of_ble_eq_true rfl) (Nat.le_of_ble_eq_true rfl))) hK hP hEv hS [] rfl rfl rfl hl.1 (Nat.le_of_ble_eq_true rfl) ⟨Nat.zero_le _, Nat.zero_le _⟩ h dX7_score_12 (fun t12 h => ?_)
    refine q_ifne hx hb 24 h dX7_score_15 (by decide) (fun h => ?_) (fun h => ?_)
    · refine lv_aload_n hx hb dX7_score_24 rfl (lv_at hl 0 rfl) ?_
      refine lv_iload_n hx hb dX7_score_25 rfl (lv_at hl 1 rfl) ?_
      refine lv_iconst (v := (4 : Int32)) hx hb dX7_score_26 (by decide) ?_
      refine q_callR q_E0ok (rest := []) ⟨hx, hb, hml, hown, hts⟩ (fun r hr => c7_actIs1 l D cI qm m_images m_newMany m_at m_open m_steps m_use m_traced m_speaks m_isParted m_s x1 ((4 : Int32)) r hr) (cwV 2 hts gX7_score_X7_actIs1 rfl rfl rfl hdX7_actIs1 (rmq_ok (Nat.le_of_ble_eq_true rfl) (Nat.le_of_ble_eq_true rfl))) hK hP hEv hS [0, 1] rfl (va_recv hK hP (ci := 7) (q0 := 0) rfl rfl) rfl rfl hl.1 (Nat.le_of_ble_eq_true rfl) ⟨Nat.zero_le _, Nat.zero_le _⟩ h dX7_score_27 (fun t27 h => ?_)
      refine lv_istore_n (lv' := [(3, .int t27), (0, .ref (qm 0)), (1, .int x1), (2, .int x2)]) hx hb dX7_score_30 rfl hl (by decide) rfl (fun ls hl => ?_)
      refine lv_aload_n hx hb dX7_score_31 rfl (lv_at hl 1 rfl) ?_
      refine va_get (D := D) (ci := 7) (v := .ref (qm 1)) (C := RX7) (T := TX7) (N := 24) hx hb hts in7 hown hK hP 0 rfl rfl 0 (by decide) l7 (fun _ h9 => h9) rfl dX7_score_32 ?_
      refine lv_bipush (v := (10 : Int32)) hx hb dX7_score_35 (by decide) ?_
      refine lv_iconst (v := (5 : Int32)) hx hb dX7_score_37 (by decide) ?_
      refine lv_iload_n hx hb dX7_score_38 rfl (lv_at hl 2 rfl) ?_
      refine lv_imul hx hb dX7_score_39 ?_
      refine lv_iadd hx hb dX7_score_40 ?_
      refine lv_iconst (v := (4 : Int32)) hx hb dX7_score_41 (by decide) ?_
      refine lv_iadd hx hb dX7_score_42 ?_
      refine lv_iload_n hx hb dX7_score_43 rfl (lv_at hl 3 rfl) ?_
      refine q_iast hx hb hK hP hD hS 1 0 rfl rfl h dX7_score_44 (fun m_s_44 H locs h hP hD hS => ?_)
      have hP : va_P D vwCl [(qm 0, .inr (7, oX7 qm m_images m_newMany m_at m_open m_steps m_use m_traced m_speaks m_isParted)), (qm 1, .inl (cI, 3974, .inl m_s_44)), (qm 4, .inl (cI, 7, .inl m_errors))] H := hP
      have hD : va_D A [(qm 0, .inr (7, oX7 qm m_images m_newMany m_at m_open m_steps m_use m_traced m_speaks m_isParted)), (qm 1, .inl (cI, 3974, .inl m_s_44)), (qm 4, .inl (cI, 7, .inl m_errors))] := hD
      refine lv_iload_n hx hb dX7_score_45 rfl (lv_at hl 0 rfl) ?_
      exact hret (t27, m_s_44, m_errors) _ _ _ _ (vp_nar_int _) h hP hD hS dX7_score_46
    · exact J18 m_s m_errors _ _ _ (lv_sub hl [0] rfl) hP hD hS h
set_option maxHeartbeats 4000000 in
set_option maxRecDepth 100000 in
theorem c7_costs (l : Launch) (D : va_G) (cI : ClassId) (qm : Nat → Nat) (m_images m_newMany m_at m_open m_steps m_use m_traced m_speaks m_isParted : Int32) (m_s : Nat → Int32) (x1 : Int32) (x2 : Int32) (x3 : Int32) (n : Nat) (u : Int32) (h : f7_costs n x1 x2 x3 m_s = some u) : q_RO q_E0 l yX7_costs wsX7_costs (rmq (1)) D cI [.ref (qm 0), .int x1, .int x2, .int x3] [(qm 0, .inr (7, oX7 qm m_images m_newMany m_at m_open m_steps m_use m_traced m_speaks m_isParted)), (qm 1, .inl (cI, 3974, .inl m_s))] u := by
  refine q_startR (cc := cX7_costs) (maxL := 8) (ty := .int) (own := RX7) (by decide) rfl rfl (Nat.le_of_ble_eq_true rfl) rfl (fun p e s m args below meth c Q hx hb hml hown hts hP hK hEv hret ls hl => ?_)
  have in7 : ∀ w ∈ wsX70, w ∈ wsX7_costs := fun w h => List.mem_cons_of_mem _ (List.mem_append_right _ (h))
  have l7 := hts (.fieldLink RX7 7 "PageWarsModel" "s" "[I") (List.mem_of_getElem? (i := 1) rfl)
  have J6 : ∀ (kk6 : Nat) (x1 : Int32) (x2 : Int32) (x3 : Int32) (x4 : Int32) (x5 : Int32) (ls : Array Slot), lv_has ls 8 [(0, .ref (qm 0)), (1, .int x1), (2, .int x2), (3, .int x3), (4, .int x4), (5, .int x5)] → f7_costs_6 n m_s kk6 x1 x2 x3 x4 x5 = some u → W p l e (rmq (1)) s m args below meth c s.heap [] 0 0 Q (F0 m 6 ls []) := by
    intro kk6
    induction kk6 with
    | zero => intro x1 x2 x3 x4 x5  ls hl h; exact nomatch (show (none : Option (Int32)) = some u from h)
    | succ kk6 ih6 =>
      have J84 : ∀ (x1 : Int32) (x2 : Int32) (x3 : Int32) (x5 : Int32) (s0 : Int32) (s1 : Int32) (ls : Array Slot), lv_has ls 8 [(0, .ref (qm 0)), (1, .int x1), (2, .int x2), (3, .int x3), (5, .int x5)] → f7_costs_84 n m_s (f7_costs_6 n m_s kk6) x1 x2 x3 x5 s0 s1 = some u → W p l e (rmq (1)) s m args below meth c s.heap [] 0 0 Q (F0 m 84 ls [.int s1, .int s0]) := by
        intro x1 x2 x3 x5 s0 s1  ls hl h
        unfold f7_costs_84 at h
        refine lv_iadd hx hb dX7_costs_84 ?_
        refine q_let h (fun x4_85 h => ?_)
        refine lv_istore (lv' := [(4, .int x4_85), (0, .ref (qm 0)), (1, .int x1), (2, .int x2), (3, .int x3), (5, .int x5)]) hx hb dX7_costs_85 hl (by decide) rfl (fun ls hl => ?_)
        refine q_iinc (fun v => [(5, .int v), (4, .int x4_85), (0, .ref (qm 0)), (1, .int x1), (2, .int x2), (3, .int x3)]) hx hb h dX7_costs_87 (by decide) hl (k := 5) rfl (by decide) (fun _ => rfl) (fun x5_87 ls h hl => ?_)
        refine lv_goto (tgt := 6) hx hb dX7_costs_90 (by decide) ?_
        exact ih6 x1 x2 x3 x4_85 x5_87 _ (lv_sub hl [2, 3, 4, 5, 1, 0] rfl) h
      have J42 : ∀ (x1 : Int32) (x2 : Int32) (x3 : Int32) (x4 : Int32) (x5 : Int32) (x6 : Int32) (s0 : Int32) (ls : Array Slot), lv_has ls 8 [(0, .ref (qm 0)), (1, .int x1), (2, .int x2), (3, .int x3), (4, .int x4), (5, .int x5), (6, .int x6)] → f7_costs_42 n m_s (f7_costs_6 n m_s kk6) x1 x2 x3 x4 x5 x6 s0 = some u → W p l e (rmq (1)) s m args below meth c s.heap [] 0 0 Q (F0 m 42 ls [.int s0]) := by
        intro x1 x2 x3 x4 x5 x6 s0  ls hl h
        unfold f7_costs_42 at h
        refine lv_istore (lv' := [(7, .int s0), (0, .ref (qm 0)), (1, .int x1), (2, .int x2), (3, .int x3), (4, .int x4), (5, .int x5), (6, .int x6)]) hx hb dX7_costs_42 hl (by decide) rfl (fun ls hl => ?_)
        refine lv_iload hx hb dX7_costs_44 (lv_at hl 5 rfl) ?_
        refine lv_iload hx hb dX7_costs_46 (lv_at hl 7 rfl) ?_
        refine q_ifge hx hb 55 h dX7_costs_48 (by decide) (fun h => ?_) (fun h => ?_)
        · refine lv_iload hx hb dX7_costs_55 (lv_at hl 7 rfl) ?_
          refine lv_iload_n hx hb dX7_costs_57 rfl (lv_at hl 2 rfl) ?_
          refine q_clt hx hb 74 h dX7_costs_58 (by decide) (fun h => ?_) (fun h => ?_)
          · refine lv_iload hx hb dX7_costs_74 (lv_at hl 0 rfl) ?_
            refine q_ifeq hx hb 83 h dX7_costs_76 (by decide) (fun h => ?_) (fun h => ?_)
            · refine lv_iconst (v := (0 : Int32)) hx hb dX7_costs_83 (by decide) ?_
              exact J84 x1 x2 x3 x5 x4 ((0 : Int32)) _ (lv_sub hl [1, 2, 3, 4, 6] rfl) h
            · refine lv_iload_n hx hb dX7_costs_79 rfl (lv_at hl 4 rfl) ?_
              refine lv_goto (tgt := 84) hx hb dX7_costs_80 (by decide) ?_
              exact J84 x1 x2 x3 x5 x4 x3 _ (lv_sub hl [1, 2, 3, 4, 6] rfl) h
          · refine lv_iload hx hb dX7_costs_61 (lv_at hl 0 rfl) ?_
            refine q_ifeq hx hb 70 h dX7_costs_63 (by decide) (fun h => ?_) (fun h => ?_)
            · refine lv_iload_n hx hb dX7_costs_70 rfl (lv_at hl 3 rfl) ?_
              refine lv_goto (tgt := 84) hx hb dX7_costs_71 (by decide) ?_
              exact J84 x1 x2 x3 x5 x4 x2 _ (lv_sub hl [1, 2, 3, 4, 6] rfl) h
            · refine lv_iconst (v := (0 : Int32)) hx hb dX7_costs_66 (by decide) ?_
              refine lv_goto (tgt := 84) hx hb dX7_costs_67 (by decide) ?_
              exact J84 x1 x2 x3 x5 x4 ((0 : Int32)) _ (lv_sub hl [1, 2, 3, 4, 6] rfl) h
        · refine lv_iconst (v := (0 : Int32)) hx hb dX7_costs_51 (by decide) ?_
          refine lv_goto (tgt := 84) hx hb dX7_costs_52 (by decide) ?_
          exact J84 x1 x2 x3 x5 x4 ((0 : Int32)) _ (lv_sub hl [1, 2, 3, 4, 6] rfl) h
      intro x1 x2 x3 x4 x5  ls hl h
      rw [f7_costs_6.eq_2] at h
      refine lv_iload hx hb dX7_costs_6 (lv_at hl 5 rfl) ?_
      refine lv_aload_n hx hb dX7_costs_8 rfl (lv_at hl 0 rfl) ?_
      refine va_get (D := D) (ci := 7) (v := .ref (qm 1)) (C := RX7) (T := TX7) (N := 24) hx hb hts in7 hown hK hP 0 rfl rfl 0 (by decide) l7 (fun _ h9 => h9) rfl dX7_costs_9 ?_
      refine lv_iconst (v := (1 : Int32)) hx hb dX7_costs_12 (by decide) ?_
      refine q_iald hx hb hK hP 1 0 rfl rfl h dX7_costs_13 (fun t13 h => ?_)
      refine q_cge hx hb 93 h dX7_costs_14 (by decide) (fun h => ?_) (fun h => ?_)
      · refine lv_iload hx hb dX7_costs_93 (lv_at hl 4 rfl) ?_
        exact hret _ _ _ (vp_nar_int _) h dX7_costs_95
      · refine lv_aload_n hx hb dX7_costs_17 rfl (lv_at hl 0 rfl) ?_
        refine lv_iload hx hb dX7_costs_18 (lv_at hl 5 rfl) ?_
        refine lv_iconst (v := (4 : Int32)) hx hb dX7_costs_20 (by decide) ?_
        refine q_callR q_E0ok (rest := []) ⟨hx, hb, hml, hown, hts⟩ (fun r hr => c7_actIs1 l D cI qm m_images m_newMany m_at m_open m_steps m_use m_traced m_speaks m_isParted m_s x5 ((4 : Int32)) r hr) (cwV 2 hts gX7_costs_X7_actIs1 rfl rfl rfl hdX7_actIs1 (rmq_ok (Nat.le_of_ble_eq_true rfl) (Nat.le_of_ble_eq_true rfl))) hK hP hEv va_S.rf [0, 1] rfl (va_recv hK hP (ci := 7) (q0 := 0) rfl rfl) rfl rfl hl.1 (Nat.le_of_ble_eq_true rfl) ⟨Nat.zero_le _, Nat.zero_le _⟩ h dX7_costs_21 (fun t21 h => ?_)
        refine lv_istore (lv' := [(6, .int t21), (0, .ref (qm 0)), (1, .int x1), (2, .int x2), (3, .int x3), (4, .int x4), (5, .int x5)]) hx hb dX7_costs_24 hl (by decide) rfl (fun ls hl => ?_)
        refine lv_aload_n hx hb dX7_costs_26 rfl (lv_at hl 1 rfl) ?_
        refine lv_iload hx hb dX7_costs_27 (lv_at hl 6 rfl) ?_
        refine lv_iconst (v := (0 : Int32)) hx hb dX7_costs_29 (by decide) ?_
        refine q_callR q_E0ok (rest := []) ⟨hx, hb, hml, hown, hts⟩ (fun r hr => c7_actIs1 l D cI qm m_images m_newMany m_at m_open m_steps m_use m_traced m_speaks m_isParted m_s x5 ((0 : Int32)) r hr) (cwV 2 hts gX7_costs_X7_actIs1 rfl rfl rfl hdX7_actIs1 (rmq_ok (Nat.le_of_ble_eq_true rfl) (Nat.le_of_ble_eq_true rfl))) hK hP hEv va_S.rf [0, 1] rfl (va_recv hK hP (ci := 7) (q0 := 0) rfl rfl) rfl rfl hl.1 (Nat.le_of_ble_eq_true rfl) ⟨Nat.zero_le _, Nat.zero_le _⟩ h dX7_costs_30 (fun t30 h => ?_)
        refine lv_iconst (v := (4 : Int32)) hx hb dX7_costs_33 (by decide) ?_
        refine q_cne hx hb 41 h dX7_costs_34 (by decide) (fun h => ?_) (fun h => ?_)
        · refine lv_iconst (v := (0 : Int32)) hx hb dX7_costs_41 (by decide) ?_
          exact J42 x1 x2 x3 x4 x5 t21 ((0 : Int32)) _ (lv_sub hl [1, 2, 3, 4, 5, 6, 0] rfl) h
        · refine lv_iconst (v := (1 : Int32)) hx hb dX7_costs_37 (by decide) ?_
          refine lv_goto (tgt := 42) hx hb dX7_costs_38 (by decide) ?_
          exact J42 x1 x2 x3 x4 x5 t21 ((1 : Int32)) _ (lv_sub hl [1, 2, 3, 4, 5, 6, 0] rfl) h
  unfold f7_costs at h
  refine lv_iconst (v := (0 : Int32)) hx hb dX7_costs_0 (by decide) ?_
  refine lv_istore (lv' := [(4, .int ((0 : Int32))), (0, .ref (qm 0)), (1, .int x1), (2, .int x2), (3, .int x3)]) hx hb dX7_costs_1 hl (by decide) rfl (fun ls hl => ?_)
  refine lv_iconst (v := (0 : Int32)) hx hb dX7_costs_3 (by decide) ?_
  refine lv_istore (lv' := [(5, .int ((0 : Int32))), (4, .int ((0 : Int32))), (0, .ref (qm 0)), (1, .int x1), (2, .int x2), (3, .int x3)]) hx hb dX7_costs_4 hl (by decide) rfl (fun ls hl => ?_)
  exact J6 n x1 x2 x3 ((0 : Int32)) ((0 : Int32)) _ (lv_sub hl [2, 3, 4, 5, 1, 0] rfl) h
