set_option maxHeartbeats 4000000 in
set_option maxRecDepth 100000 in
theorem c7_text (l : Launch) (D : va_G) (cI : ClassId) (qm : Nat → Nat) (m_images m_newMany m_at m_open m_steps m_use m_traced m_speaks m_isParted : Int32) (m_s m_errors m_step : Nat → Int32) (x1 : Int32) (n : Nat) (u : Int32 × Int32 × Int32 × Int32 × Int32 × (Nat → Int32) × (Nat → Int32) × (Nat → Int32)) (h : f7_text n x1 m_at m_open m_steps m_use m_s m_errors m_step = some u) : q_RW q_E0 l yX7_text wsX7_text (rmq (62)) D cI [.ref (qm 0), .int x1] [(qm 0, .inr (7, oX7 qm m_images m_newMany m_at m_open m_steps m_use m_traced m_speaks m_isParted)), (qm 1, .inl (cI, 3974, .inl m_s)), (qm 4, .inl (cI, 7, .inl m_errors)), (qm 12, .inl (cI, 124, .inl m_step))] [(qm 0, .inr (7, oX7 qm m_images m_newMany u.2.1 u.2.2.1 u.2.2.2.1 u.2.2.2.2.1 m_traced m_speaks m_isParted)), (qm 1, .inl (cI, 3974, .inl u.2.2.2.2.2.1)), (qm 4, .inl (cI, 7, .inl u.2.2.2.2.2.2.1)), (qm 12, .inl (cI, 124, .inl u.2.2.2.2.2.2.2))] u.1 := by
  refine q_startW (fun u : Int32 × Int32 × Int32 × Int32 × Int32 × (Nat → Int32) × (Nat → Int32) × (Nat → Int32) => [(qm 0, .inr (7, oX7 qm m_images m_newMany u.2.1 u.2.2.1 u.2.2.2.1 u.2.2.2.2.1 m_traced m_speaks m_isParted)), (qm 1, .inl (cI, 3974, .inl u.2.2.2.2.2.1)), (qm 4, .inl (cI, 7, .inl u.2.2.2.2.2.2.1)), (qm 12, .inl (cI, 124, .inl u.2.2.2.2.2.2.2))]) (fun u => u.1) (cc := cX7_text) (maxL := 5) (ty := .int) (own := RX7) (by decide) rfl rfl (Nat.le_of_ble_eq_true rfl) rfl (fun p e s m args below meth c Q A hx hb hml hown hts hK hEv hA hret hP hD hS ls hl => ?_)
  have in7 : ∀ w ∈ wsX70, w ∈ wsX7_text := fun w h => List.mem_cons_of_mem _ (List.mem_append_right _ (h))
  have l7 := hts (.fieldLink RX7 7 "PageWarsModel" "s" "[I") (List.mem_of_getElem? (i := 5) rfl)
  have l25 := hts (.fieldLink RX7 25 "PageWarsModel" "step" "[I") (List.mem_of_getElem? (i := 6) rfl)
  have l151 := hts (.fieldLink RX7 151 "PageWarsModel" "at" "I") (List.mem_of_getElem? (i := 2) rfl)
  have l154 := hts (.fieldLink RX7 154 "PageWarsModel" "use" "I") (List.mem_of_getElem? (i := 1) rfl)
  have l157 := hts (.fieldLink RX7 157 "PageWarsModel" "steps" "I") (List.mem_of_getElem? (i := 4) rfl)
  have l182 := hts (.fieldLink RX7 182 "PageWarsModel" "open" "I") (List.mem_of_getElem? (i := 3) rfl)
  have J103 : ∀ (kk103 : Nat) (x3 : Int32) (x4 : Int32) (m_at : Int32) (m_open : Int32) (m_steps : Int32) (m_use : Int32) (m_s : (Nat → Int32)) (m_errors : (Nat → Int32)) (m_step : (Nat → Int32)) (H : Heap) (locs : List Loc) (ls : Array Slot), lv_has ls 5 [(0, .ref (qm 0)), (3, .int x3), (4, .int x4)] → va_P D vwCl [(qm 0, .inr (7, oX7 qm m_images m_newMany m_at m_open m_steps m_use m_traced m_speaks m_isParted)), (qm 1, .inl (cI, 3974, .inl m_s)), (qm 4, .inl (cI, 7, .inl m_errors)), (qm 12, .inl (cI, 124, .inl m_step))] H → va_D A [(qm 0, .inr (7, oX7 qm m_images m_newMany m_at m_open m_steps m_use m_traced m_speaks m_isParted)), (qm 1, .inl (cI, 3974, .inl m_s)), (qm 4, .inl (cI, 7, .inl m_errors)), (qm 12, .inl (cI, 124, .inl m_step))] → va_S A s.heap H locs → f7_text_103 n kk103 x3 x4 m_at m_open m_steps m_use m_s m_errors m_step = some u → W p l e (rmq (62)) s m args below meth c H locs 0 0 Q (F0 m 103 ls []) := by
    intro kk103
    induction kk103 with
    | zero => intro x3 x4 m_at m_open m_steps m_use m_s m_errors m_step H locs ls hl hP hD hS h; exact nomatch (show (none : Option (Int32 × Int32 × Int32 × Int32 × Int32 × (Nat → Int32) × (Nat → Int32) × (Nat → Int32))) = some u from h)
    | succ kk103 ih103 =>
      intro x3 x4 m_at m_open m_steps m_use m_s m_errors m_step H locs ls hl hP hD hS h
      rw [f7_text_103.eq_2] at h
      refine lv_iload hx hb dX7_text_103 (lv_at hl 2 rfl) ?_
      refine lv_iconst (v := (2 : Int32)) hx hb dX7_text_105 (by decide) ?_
      refine lv_aload_n hx hb dX7_text_106 rfl (lv_at hl 0 rfl) ?_
      refine va_get (D := D) (ci := 7) (v := .int m_steps) (C := RX7) (T := TX7) (N := 24) hx hb hts in7 hown hK hP 0 rfl rfl 9 (by decide) l157 (fun _ h9 => h9) rfl dX7_text_107 ?_
      refine lv_imul hx hb dX7_text_110 ?_
      refine q_cge hx hb 138 h dX7_text_111 (by decide) (fun h => ?_) (fun h => ?_)
      · refine lv_iconst (v := (1 : Int32)) hx hb dX7_text_138 (by decide) ?_
        exact hret ((1 : Int32), m_at, m_open, m_steps, m_use, m_s, m_errors, m_step) _ _ _ _ (vp_nar_int _) h hP hD hS dX7_text_139
      · refine lv_aload_n hx hb dX7_text_114 rfl (lv_at hl 0 rfl) ?_
        refine va_get (D := D) (ci := 7) (v := .ref (qm 1)) (C := RX7) (T := TX7) (N := 24) hx hb hts in7 hown hK hP 0 rfl rfl 0 (by decide) l7 (fun _ h9 => h9) rfl dX7_text_115 ?_
        refine lv_iload_n hx hb dX7_text_118 rfl (lv_at hl 1 rfl) ?_
        refine lv_iconst (v := (1 : Int32)) hx hb dX7_text_119 (by decide) ?_
        refine lv_iadd hx hb dX7_text_120 ?_
        refine lv_iload hx hb dX7_text_121 (lv_at hl 2 rfl) ?_
        refine lv_iadd hx hb dX7_text_123 ?_
        refine lv_aload_n hx hb dX7_text_124 rfl (lv_at hl 0 rfl) ?_
        refine va_get (D := D) (ci := 7) (v := .ref (qm 12)) (C := RX7) (T := TX7) (N := 24) hx hb hts in7 hown hK hP 0 rfl rfl 11 (by decide) l25 (fun _ h9 => h9) rfl dX7_text_125 ?_
        refine lv_iload hx hb dX7_text_128 (lv_at hl 2 rfl) ?_
        refine q_iald hx hb hK hP 3 0 rfl rfl h dX7_text_130 (fun t130 h => ?_)
        refine q_iast hx hb hK hP hD hS 1 0 rfl rfl h dX7_text_131 (fun m_s_131 H locs h hP hD hS => ?_)
        have hP : va_P D vwCl [(qm 0, .inr (7, oX7 qm m_images m_newMany m_at m_open m_steps m_use m_traced m_speaks m_isParted)), (qm 1, .inl (cI, 3974, .inl m_s_131)), (qm 4, .inl (cI, 7, .inl m_errors)), (qm 12, .inl (cI, 124, .inl m_step))] H := hP
        have hD : va_D A [(qm 0, .inr (7, oX7 qm m_images m_newMany m_at m_open m_steps m_use m_traced m_speaks m_isParted)), (qm 1, .inl (cI, 3974, .inl m_s_131)), (qm 4, .inl (cI, 7, .inl m_errors)), (qm 12, .inl (cI, 124, .inl m_step))] := hD
        refine q_iinc (fun v => [(4, .int v), (0, .ref (qm 0)), (3, .int x3)]) hx hb h dX7_text_132 (by decide) hl (k := 2) rfl (by decide) (fun _ => rfl) (fun x4_132 ls h hl => ?_)
        refine lv_goto (tgt := 103) hx hb dX7_text_135 (by decide) ?_
        exact ih103 x3 x4_132 m_at m_open m_steps m_use m_s_131 m_errors m_step _ _ _ (lv_sub hl [1, 2, 0] rfl) hP hD hS h
  have J61 : ∀ (x1 : Int32) (s0 : Int32) (m_at : Int32) (m_open : Int32) (m_steps : Int32) (m_use : Int32) (m_s : (Nat → Int32)) (m_errors : (Nat → Int32)) (m_step : (Nat → Int32)) (H : Heap) (locs : List Loc) (ls : Array Slot), lv_has ls 5 [(0, .ref (qm 0)), (1, .int x1)] → va_P D vwCl [(qm 0, .inr (7, oX7 qm m_images m_newMany m_at m_open m_steps m_use m_traced m_speaks m_isParted)), (qm 1, .inl (cI, 3974, .inl m_s)), (qm 4, .inl (cI, 7, .inl m_errors)), (qm 12, .inl (cI, 124, .inl m_step))] H → va_D A [(qm 0, .inr (7, oX7 qm m_images m_newMany m_at m_open m_steps m_use m_traced m_speaks m_isParted)), (qm 1, .inl (cI, 3974, .inl m_s)), (qm 4, .inl (cI, 7, .inl m_errors)), (qm 12, .inl (cI, 124, .inl m_step))] → va_S A s.heap H locs → f7_text_61 n x1 s0 m_at m_open m_steps m_use m_s m_errors m_step = some u → W p l e (rmq (62)) s m args below meth c H locs 0 0 Q (F0 m 61 ls [.int s0]) := by
    intro x1 s0 m_at m_open m_steps m_use m_s m_errors m_step H locs ls hl hP hD hS h
    unfold f7_text_61 at h
    refine lv_istore_n (lv' := [(2, .int s0), (0, .ref (qm 0)), (1, .int x1)]) hx hb dX7_text_61 rfl hl (by decide) rfl (fun ls hl => ?_)
    refine lv_aload_n hx hb dX7_text_62 rfl (lv_at hl 1 rfl) ?_
    refine va_get (D := D) (ci := 7) (v := .ref (qm 1)) (C := RX7) (T := TX7) (N := 24) hx hb hts in7 hown hK hP 0 rfl rfl 0 (by decide) l7 (fun _ h9 => h9) rfl dX7_text_63 ?_
    refine lv_iconst (v := (4 : Int32)) hx hb dX7_text_66 (by decide) ?_
    refine lv_iconst (v := (0 : Int32)) hx hb dX7_text_67 (by decide) ?_
    refine q_iast hx hb hK hP hD hS 1 0 rfl rfl h dX7_text_68 (fun m_s_68 H locs h hP hD hS => ?_)
    have hP : va_P D vwCl [(qm 0, .inr (7, oX7 qm m_images m_newMany m_at m_open m_steps m_use m_traced m_speaks m_isParted)), (qm 1, .inl (cI, 3974, .inl m_s_68)), (qm 4, .inl (cI, 7, .inl m_errors)), (qm 12, .inl (cI, 124, .inl m_step))] H := hP
    have hD : va_D A [(qm 0, .inr (7, oX7 qm m_images m_newMany m_at m_open m_steps m_use m_traced m_speaks m_isParted)), (qm 1, .inl (cI, 3974, .inl m_s_68)), (qm 4, .inl (cI, 7, .inl m_errors)), (qm 12, .inl (cI, 124, .inl m_step))] := hD
    refine lv_iload_n hx hb dX7_text_69 rfl (lv_at hl 0 rfl) ?_
    refine q_ifne hx hb 81 h dX7_text_70 (by decide) (fun h => ?_) (fun h => ?_)
    · refine lv_sipush (v := (2890 : Int32)) hx hb dX7_text_81 (by decide) ?_
      refine lv_bipush (v := (125 : Int32)) hx hb dX7_text_84 (by decide) ?_
      refine lv_iload_n hx hb dX7_text_86 rfl (lv_at hl 2 rfl) ?_
      refine lv_imul hx hb dX7_text_87 ?_
      refine lv_iadd hx hb dX7_text_88 ?_
      refine q_let h (fun x3_89 h => ?_)
      refine lv_istore_n (lv' := [(3, .int x3_89), (2, .int s0), (0, .ref (qm 0)), (1, .int x1)]) hx hb dX7_text_89 rfl hl (by decide) rfl (fun ls hl => ?_)
      refine lv_aload_n hx hb dX7_text_90 rfl (lv_at hl 2 rfl) ?_
      refine va_get (D := D) (ci := 7) (v := .ref (qm 1)) (C := RX7) (T := TX7) (N := 24) hx hb hts in7 hown hK hP 0 rfl rfl 0 (by decide) l7 (fun _ h9 => h9) rfl dX7_text_91 ?_
      refine lv_iload_n hx hb dX7_text_94 rfl (lv_at hl 0 rfl) ?_
      refine lv_aload_n hx hb dX7_text_95 rfl (lv_at hl 2 rfl) ?_
      refine va_get (D := D) (ci := 7) (v := .int m_steps) (C := RX7) (T := TX7) (N := 24) hx hb hts in7 hown hK hP 0 rfl rfl 9 (by decide) l157 (fun _ h9 => h9) rfl dX7_text_96 ?_
      refine q_iast hx hb hK hP hD hS 1 0 rfl rfl h dX7_text_99 (fun m_s_99 H locs h hP hD hS => ?_)
      have hP : va_P D vwCl [(qm 0, .inr (7, oX7 qm m_images m_newMany m_at m_open m_steps m_use m_traced m_speaks m_isParted)), (qm 1, .inl (cI, 3974, .inl m_s_99)), (qm 4, .inl (cI, 7, .inl m_errors)), (qm 12, .inl (cI, 124, .inl m_step))] H := hP
      have hD : va_D A [(qm 0, .inr (7, oX7 qm m_images m_newMany m_at m_open m_steps m_use m_traced m_speaks m_isParted)), (qm 1, .inl (cI, 3974, .inl m_s_99)), (qm 4, .inl (cI, 7, .inl m_errors)), (qm 12, .inl (cI, 124, .inl m_step))] := hD
      refine lv_iconst (v := (0 : Int32)) hx hb dX7_text_100 (by decide) ?_
      refine lv_istore (lv' := [(4, .int ((0 : Int32))), (3, .int x3_89), (2, .int s0), (0, .ref (qm 0)), (1, .int x1)]) hx hb dX7_text_101 hl (by decide) rfl (fun ls hl => ?_)
      exact J103 n x3_89 ((0 : Int32)) m_at m_open m_steps m_use m_s_99 m_errors m_step _ _ _ (lv_sub hl [3, 1, 0] rfl) hP hD hS h
    · refine lv_bipush (v := (-10 : Int32)) hx hb dX7_text_73 (by decide) ?_
      refine lv_aload_n hx hb dX7_text_75 rfl (lv_at hl 1 rfl) ?_
      refine va_get (D := D) (ci := 7) (v := .int m_at) (C := RX7) (T := TX7) (N := 24) hx hb hts in7 hown hK hP 0 rfl rfl 7 (by decide) l151 (fun _ h9 => h9) rfl dX7_text_76 ?_
      refine lv_isub hx hb dX7_text_79 ?_
      exact hret (((-10 : Int32)) - m_at, m_at, m_open, m_steps, m_use, m_s_68, m_errors, m_step) _ _ _ _ (vp_nar_int _) h hP hD hS dX7_text_80
  have J60 : ∀ (x1 : Int32) (m_at : Int32) (m_open : Int32) (m_steps : Int32) (m_use : Int32) (m_s : (Nat → Int32)) (m_errors : (Nat → Int32)) (m_step : (Nat → Int32)) (H : Heap) (locs : List Loc) (ls : Array Slot), lv_has ls 5 [(0, .ref (qm 0)), (1, .int x1)] → va_P D vwCl [(qm 0, .inr (7, oX7 qm m_images m_newMany m_at m_open m_steps m_use m_traced m_speaks m_isParted)), (qm 1, .inl (cI, 3974, .inl m_s)), (qm 4, .inl (cI, 7, .inl m_errors)), (qm 12, .inl (cI, 124, .inl m_step))] H → va_D A [(qm 0, .inr (7, oX7 qm m_images m_newMany m_at m_open m_steps m_use m_traced m_speaks m_isParted)), (qm 1, .inl (cI, 3974, .inl m_s)), (qm 4, .inl (cI, 7, .inl m_errors)), (qm 12, .inl (cI, 124, .inl m_step))] → va_S A s.heap H locs → f7_text_60 n x1 m_at m_open m_steps m_use m_s m_errors m_step = some u → W p l e (rmq (62)) s m args below meth c H locs 0 0 Q (F0 m 60 ls []) := by
    intro x1 m_at m_open m_steps m_use m_s m_errors m_step H locs ls hl hP hD hS h
    unfold f7_text_60 at h
    refine lv_iconst (v := (0 : Int32)) hx hb dX7_text_60 (by decide) ?_
    exact J61 x1 ((0 : Int32)) m_at m_open m_steps m_use m_s m_errors m_step _ _ _ (lv_sub hl [0, 1] rfl) hP hD hS h
  unfold f7_text at h
  refine lv_iload_n hx hb dX7_text_0 rfl (lv_at hl 1 rfl) ?_
  refine lv_iconst (v := (0 : Int32)) hx hb dX7_text_1 (by decide) ?_
  refine lv_bipush (v := (7 : Int32)) hx hb dX7_text_2 (by decide) ?_
  refine q_callRS q_E0ok (rest := []) ⟨hx, hb, hml, hown, hts⟩ (fun r hr => c7_in l D cI x1 ((0 : Int32)) ((7 : Int32)) r hr) (va_cwS 3 hts gX7_text_X7_in rfl rfl rfl hdX7_in (rmq_ok (Nat.le_of_ble_eq_true rfl) (Nat.le_of_ble_eq_true rfl))) hK hP hEv hS [] rfl rfl rfl hl.1 (Nat.le_of_ble_eq_true rfl) ⟨Nat.zero_le _, Nat.zero_le _⟩ h dX7_text_4 (fun t4 h => ?_)
  refine q_ifne hx hb 16 h dX7_text_7 (by decide) (fun h => ?_) (fun h => ?_)
  · refine lv_aload_n hx hb dX7_text_16 rfl (lv_at hl 0 rfl) ?_
    refine lv_iload_n hx hb dX7_text_17 rfl (lv_at hl 1 rfl) ?_
    refine va_put (D := D) (ci := 7) (v := .int x1) (ty := .int) (C := RX7) (T := TX7) (N := 24) hx hb hts in7 tyX7 tyX7_ok nmX7 hown hK hP hD hS 0 rfl rfl 10 (by decide) l154 (fun _ h9 => h9) rfl (by decide +kernel) rfl rfl (Nat.le_of_ble_eq_true rfl) dX7_text_18 (fun H locs hP hD hS => ?_)
    have hP : va_P D vwCl [(qm 0, .inr (7, oX7 qm m_images m_newMany m_at m_open m_steps x1 m_traced m_speaks m_isParted)), (qm 1, .inl (cI, 3974, .inl m_s)), (qm 4, .inl (cI, 7, .inl m_errors)), (qm 12, .inl (cI, 124, .inl m_step))] H := hP
    have hD : va_D A [(qm 0, .inr (7, oX7 qm m_images m_newMany m_at m_open m_steps x1 m_traced m_speaks m_isParted)), (qm 1, .inl (cI, 3974, .inl m_s)), (qm 4, .inl (cI, 7, .inl m_errors)), (qm 12, .inl (cI, 124, .inl m_step))] := hD
    refine lv_aload_n hx hb dX7_text_21 rfl (lv_at hl 0 rfl) ?_
    refine lv_iconst (v := (0 : Int32)) hx hb dX7_text_22 (by decide) ?_
    refine va_put (D := D) (ci := 7) (v := .int ((0 : Int32))) (ty := .int) (C := RX7) (T := TX7) (N := 24) hx hb hts in7 tyX7 tyX7_ok nmX7 hown hK hP hD hS 0 rfl rfl 7 (by decide) l151 (fun _ h9 => h9) rfl (by decide +kernel) rfl rfl (Nat.le_of_ble_eq_true rfl) dX7_text_23 (fun H locs hP hD hS => ?_)
    have hP : va_P D vwCl [(qm 0, .inr (7, oX7 qm m_images m_newMany ((0 : Int32)) m_open m_steps x1 m_traced m_speaks m_isParted)), (qm 1, .inl (cI, 3974, .inl m_s)), (qm 4, .inl (cI, 7, .inl m_errors)), (qm 12, .inl (cI, 124, .inl m_step))] H := hP
    have hD : va_D A [(qm 0, .inr (7, oX7 qm m_images m_newMany ((0 : Int32)) m_open m_steps x1 m_traced m_speaks m_isParted)), (qm 1, .inl (cI, 3974, .inl m_s)), (qm 4, .inl (cI, 7, .inl m_errors)), (qm 12, .inl (cI, 124, .inl m_step))] := hD
    refine lv_aload_n hx hb dX7_text_26 rfl (lv_at hl 0 rfl) ?_
    refine lv_iconst (v := (0 : Int32)) hx hb dX7_text_27 (by decide) ?_
    refine va_put (D := D) (ci := 7) (v := .int ((0 : Int32))) (ty := .int) (C := RX7) (T := TX7) (N := 24) hx hb hts in7 tyX7 tyX7_ok nmX7 hown hK hP hD hS 0 rfl rfl 8 (by decide) l182 (fun _ h9 => h9) rfl (by decide +kernel) rfl rfl (Nat.le_of_ble_eq_true rfl) dX7_text_28 (fun H locs hP hD hS => ?_)
    have hP : va_P D vwCl [(qm 0, .inr (7, oX7 qm m_images m_newMany ((0 : Int32)) ((0 : Int32)) m_steps x1 m_traced m_speaks m_isParted)), (qm 1, .inl (cI, 3974, .inl m_s)), (qm 4, .inl (cI, 7, .inl m_errors)), (qm 12, .inl (cI, 124, .inl m_step))] H := hP
    have hD : va_D A [(qm 0, .inr (7, oX7 qm m_images m_newMany ((0 : Int32)) ((0 : Int32)) m_steps x1 m_traced m_speaks m_isParted)), (qm 1, .inl (cI, 3974, .inl m_s)), (qm 4, .inl (cI, 7, .inl m_errors)), (qm 12, .inl (cI, 124, .inl m_step))] := hD
    refine lv_aload_n hx hb dX7_text_31 rfl (lv_at hl 0 rfl) ?_
    refine lv_iconst (v := (0 : Int32)) hx hb dX7_text_32 (by decide) ?_
    refine va_put (D := D) (ci := 7) (v := .int ((0 : Int32))) (ty := .int) (C := RX7) (T := TX7) (N := 24) hx hb hts in7 tyX7 tyX7_ok nmX7 hown hK hP hD hS 0 rfl rfl 9 (by decide) l157 (fun _ h9 => h9) rfl (by decide +kernel) rfl rfl (Nat.le_of_ble_eq_true rfl) dX7_text_33 (fun H locs hP hD hS => ?_)
    have hP : va_P D vwCl [(qm 0, .inr (7, oX7 qm m_images m_newMany ((0 : Int32)) ((0 : Int32)) ((0 : Int32)) x1 m_traced m_speaks m_isParted)), (qm 1, .inl (cI, 3974, .inl m_s)), (qm 4, .inl (cI, 7, .inl m_errors)), (qm 12, .inl (cI, 124, .inl m_step))] H := hP
    have hD : va_D A [(qm 0, .inr (7, oX7 qm m_images m_newMany ((0 : Int32)) ((0 : Int32)) ((0 : Int32)) x1 m_traced m_speaks m_isParted)), (qm 1, .inl (cI, 3974, .inl m_s)), (qm 4, .inl (cI, 7, .inl m_errors)), (qm 12, .inl (cI, 124, .inl m_step))] := hD
    refine lv_aload_n hx hb dX7_text_36 rfl (lv_at hl 0 rfl) ?_
    refine q_callW5 q_E0ok (rest := []) (fun u => [(qm 0, .inr (7, oX7 qm m_images m_newMany u.2.1 u.2.2.1 u.2.2.2.1 x1 m_traced m_speaks m_isParted)), (qm 1, .inl (cI, 3974, .inl m_s)), (qm 12, .inl (cI, 124, .inl u.2.2.2.2))]) (fun u => u.1) ⟨hx, hb, hml, hown, hts⟩ (fun u hu => c7_whole l D cI qm n (f7_one n 8) 56 (by omega) (c7_one l D cI qm n 8) m_images m_newMany ((0 : Int32)) ((0 : Int32)) ((0 : Int32)) x1 m_traced m_speaks m_isParted m_s m_step u hu) (cwV 0 hts gX7_text_X7_whole rfl rfl rfl hdX7_whole (rmq_ok (Nat.le_of_ble_eq_true rfl) (Nat.le_of_ble_eq_true rfl))) hK hEv hA hP hD hS [0, 1, 3] (by decide) rfl (fun _ => rfl) (va_recv hK hP (ci := 7) (q0 := 0) rfl rfl) rfl rfl hl.1 (Nat.le_of_ble_eq_true rfl) ⟨Nat.zero_le _, Nat.zero_le _⟩ h dX7_text_37 (fun t37 m_at_37 m_open_37 m_steps_37 m_step_37 H locs h hP hD hS => ?_)
    have hP : va_P D vwCl [(qm 0, .inr (7, oX7 qm m_images m_newMany m_at_37 m_open_37 m_steps_37 x1 m_traced m_speaks m_isParted)), (qm 1, .inl (cI, 3974, .inl m_s)), (qm 4, .inl (cI, 7, .inl m_errors)), (qm 12, .inl (cI, 124, .inl m_step_37))] H := hP
    have hD : va_D A [(qm 0, .inr (7, oX7 qm m_images m_newMany m_at_37 m_open_37 m_steps_37 x1 m_traced m_speaks m_isParted)), (qm 1, .inl (cI, 3974, .inl m_s)), (qm 4, .inl (cI, 7, .inl m_errors)), (qm 12, .inl (cI, 124, .inl m_step_37))] := hD
    refine q_ifeq hx hb 60 h dX7_text_40 (by decide) (fun h => ?_) (fun h => ?_)
    · exact J60 x1 m_at_37 m_open_37 m_steps_37 x1 m_s m_errors m_step_37 _ _ _ (lv_sub hl [0, 1] rfl) hP hD hS h
    · refine lv_aload_n hx hb dX7_text_43 rfl (lv_at hl 0 rfl) ?_
      refine va_get (D := D) (ci := 7) (v := .int m_at_37) (C := RX7) (T := TX7) (N := 24) hx hb hts in7 hown hK hP 0 rfl rfl 7 (by decide) l151 (fun _ h9 => h9) rfl dX7_text_44 ?_
      refine lv_aload_n hx hb dX7_text_47 rfl (lv_at hl 0 rfl) ?_
      refine va_get (D := D) (ci := 7) (v := .ref (qm 1)) (C := RX7) (T := TX7) (N := 24) hx hb hts in7 hown hK hP 0 rfl rfl 0 (by decide) l7 (fun _ h9 => h9) rfl dX7_text_48 ?_
      refine lv_iconst (v := (4 : Int32)) hx hb dX7_text_51 (by decide) ?_
      refine q_iald hx hb hK hP 1 0 rfl rfl h dX7_text_52 (fun t52 h => ?_)
      refine q_cne hx hb 60 h dX7_text_53 (by decide) (fun h => ?_) (fun h => ?_)
      · exact J60 x1 m_at_37 m_open_37 m_steps_37 x1 m_s m_errors m_step_37 _ _ _ (lv_sub hl [0, 1] rfl) hP hD hS h
      · refine lv_iconst (v := (1 : Int32)) hx hb dX7_text_56 (by decide) ?_
        refine lv_goto (tgt := 61) hx hb dX7_text_57 (by decide) ?_
        exact J61 x1 ((1 : Int32)) m_at_37 m_open_37 m_steps_37 x1 m_s m_errors m_step_37 _ _ _ (lv_sub hl [0, 1] rfl) hP hD hS h
  · refine lv_aload_n hx hb dX7_text_10 rfl (lv_at hl 0 rfl) ?_
    refine lv_iconst (v := (1 : Int32)) hx hb dX7_text_11 (by decide) ?_
    refine q_callW2 q_E0ok (rest := []) (fun u => [(qm 0, .inr (7, oX7 qm m_images m_newMany m_at m_open m_steps m_use m_traced m_speaks m_isParted)), (qm 4, .inl (cI, 7, .inl u.2))]) (fun u => u.1) ⟨hx, hb, hml, hown, hts⟩ (fun u hu => c7_error l D cI qm m_images m_newMany m_at m_open m_steps m_use m_traced m_speaks m_isParted m_errors ((1 : Int32)) u hu) (cwV 1 hts gX7_text_X7_error rfl rfl rfl hdX7_error (rmq_ok (Nat.le_of_ble_eq_true rfl) (Nat.le_of_ble_eq_true rfl))) hK hEv hA hP hD hS [0, 2] (by decide) rfl (fun _ => rfl) (va_recv hK hP (ci := 7) (q0 := 0) rfl rfl) rfl rfl hl.1 (Nat.le_of_ble_eq_true rfl) ⟨Nat.zero_le _, Nat.zero_le _⟩ h dX7_text_12 (fun t12 m_errors_12 H locs h hP hD hS => ?_)
    have hP : va_P D vwCl [(qm 0, .inr (7, oX7 qm m_images m_newMany m_at m_open m_steps m_use m_traced m_speaks m_isParted)), (qm 1, .inl (cI, 3974, .inl m_s)), (qm 4, .inl (cI, 7, .inl m_errors_12)), (qm 12, .inl (cI, 124, .inl m_step))] H := hP
    have hD : va_D A [(qm 0, .inr (7, oX7 qm m_images m_newMany m_at m_open m_steps m_use m_traced m_speaks m_isParted)), (qm 1, .inl (cI, 3974, .inl m_s)), (qm 4, .inl (cI, 7, .inl m_errors_12)), (qm 12, .inl (cI, 124, .inl m_step))] := hD
    exact hret (t12, m_at, m_open, m_steps, m_use, m_s, m_errors_12, m_step) _ _ _ _ (vp_nar_int _) h hP hD hS dX7_text_15
set_option maxHeartbeats 4000000 in
set_option maxRecDepth 100000 in
theorem c7_untell (l : Launch) (D : va_G) (cI : ClassId) (qm : Nat → Nat) (m_images m_newMany m_at m_open m_steps m_use m_traced m_speaks m_isParted : Int32) (m_s m_errors : Nat → Int32) (x1 : Int32) (u : Int32 × (Nat → Int32) × (Nat → Int32)) (h : f7_untell x1 m_s m_errors = some u) : q_RW q_E0 l yX7_untell wsX7_untell (rmq (1)) D cI [.ref (qm 0), .int x1] [(qm 0, .inr (7, oX7 qm m_images m_newMany m_at m_open m_steps m_use m_traced m_speaks m_isParted)), (qm 1, .inl (cI, 3974, .inl m_s)), (qm 4, .inl (cI, 7, .inl m_errors))] [(qm 0, .inr (7, oX7 qm m_images m_newMany m_at m_open m_steps m_use m_traced m_speaks m_isParted)), (qm 1, .inl (cI, 3974, .inl u.2.1)), (qm 4, .inl (cI, 7, .inl u.2.2))] u.1 := by
  refine q_startW (fun u : Int32 × (Nat → Int32) × (Nat → Int32) => [(qm 0, .inr (7, oX7 qm m_images m_newMany m_at m_open m_steps m_use m_traced m_speaks m_isParted)), (qm 1, .inl (cI, 3974, .inl u.2.1)), (qm 4, .inl (cI, 7, .inl u.2.2))]) (fun u => u.1) (cc := cX7_untell) (maxL := 3) (ty := .int) (own := RX7) (by decide) rfl rfl (Nat.le_of_ble_eq_true rfl) rfl (fun p e s m args below meth c Q A hx hb hml hown hts hK hEv hA hret hP hD hS ls hl => ?_)
  have in7 : ∀ w ∈ wsX70, w ∈ wsX7_untell := fun w h => List.mem_cons_of_mem _ (List.mem_append_right _ (h))
  have l7 := hts (.fieldLink RX7 7 "PageWarsModel" "s" "[I") (List.mem_of_getElem? (i := 1) rfl)
  have J29 : ∀ (x1 : Int32) (s0 : Int32) (m_s : (Nat → Int32)) (m_errors : (Nat → Int32)) (H : Heap) (locs : List Loc) (ls : Array Slot), lv_has ls 3 [(0, .ref (qm 0)), (1, .int x1)] → va_P D vwCl [(qm 0, .inr (7, oX7 qm m_images m_newMany m_at m_open m_steps m_use m_traced m_speaks m_isParted)), (qm 1, .inl (cI, 3974, .inl m_s)), (qm 4, .inl (cI, 7, .inl m_errors))] H → va_D A [(qm 0, .inr (7, oX7 qm m_images m_newMany m_at m_open m_steps m_use m_traced m_speaks m_isParted)), (qm 1, .inl (cI, 3974, .inl m_s)), (qm 4, .inl (cI, 7, .inl m_errors))] → va_S A s.heap H locs → f7_untell_29  x1 s0 m_s m_errors = some u → W p l e (rmq (1)) s m args below meth c H locs 0 0 Q (F0 m 29 ls [.int s0]) := by
    intro x1 s0 m_s m_errors H locs ls hl hP hD hS h
    unfold f7_untell_29 at h
    refine lv_istore_n (lv' := [(2, .int s0), (0, .ref (qm 0)), (1, .int x1)]) hx hb dX7_untell_29 rfl hl (by decide) rfl (fun ls hl => ?_)
    refine lv_aload_n hx hb dX7_untell_30 rfl (lv_at hl 1 rfl) ?_
    refine va_get (D := D) (ci := 7) (v := .ref (qm 1)) (C := RX7) (T := TX7) (N := 24) hx hb hts in7 hown hK hP 0 rfl rfl 0 (by decide) l7 (fun _ h9 => h9) rfl dX7_untell_31 ?_
    refine lv_sipush (v := (2890 : Int32)) hx hb dX7_untell_34 (by decide) ?_
    refine lv_bipush (v := (125 : Int32)) hx hb dX7_untell_37 (by decide) ?_
    refine lv_iload_n hx hb dX7_untell_39 rfl (lv_at hl 2 rfl) ?_
    refine lv_imul hx hb dX7_untell_40 ?_
    refine lv_iadd hx hb dX7_untell_41 ?_
    refine lv_iconst (v := (0 : Int32)) hx hb dX7_untell_42 (by decide) ?_
    refine q_iast hx hb hK hP hD hS 1 0 rfl rfl h dX7_untell_43 (fun m_s_43 H locs h hP hD hS => ?_)
    have hP : va_P D vwCl [(qm 0, .inr (7, oX7 qm m_images m_newMany m_at m_open m_steps m_use m_traced m_speaks m_isParted)), (qm 1, .inl (cI, 3974, .inl m_s_43)), (qm 4, .inl (cI, 7, .inl m_errors))] H := hP
    have hD : va_D A [(qm 0, .inr (7, oX7 qm m_images m_newMany m_at m_open m_steps m_use m_traced m_speaks m_isParted)), (qm 1, .inl (cI, 3974, .inl m_s_43)), (qm 4, .inl (cI, 7, .inl m_errors))] := hD
    refine lv_iload_n hx hb dX7_untell_44 rfl (lv_at hl 0 rfl) ?_
    exact hret (s0, m_s_43, m_errors) _ _ _ _ (vp_nar_int _) h hP hD hS dX7_untell_45
  unfold f7_untell at h
  refine lv_iload_n hx hb dX7_untell_0 rfl (lv_at hl 1 rfl) ?_
  refine lv_iconst (v := (0 : Int32)) hx hb dX7_untell_1 (by decide) ?_
  refine lv_bipush (v := (7 : Int32)) hx hb dX7_untell_2 (by decide) ?_
  refine q_callRS q_E0ok (rest := []) ⟨hx, hb, hml, hown, hts⟩ (fun r hr => c7_in l D cI x1 ((0 : Int32)) ((7 : Int32)) r hr) (va_cwS 3 hts gX7_untell_X7_in rfl rfl rfl hdX7_in (rmq_ok (Nat.le_of_ble_eq_true rfl) (Nat.le_of_ble_eq_true rfl))) hK hP hEv hS [] rfl rfl rfl hl.1 (Nat.le_of_ble_eq_true rfl) ⟨Nat.zero_le _, Nat.zero_le _⟩ h dX7_untell_4 (fun t4 h => ?_)
  refine q_ifne hx hb 16 h dX7_untell_7 (by decide) (fun h => ?_) (fun h => ?_)
  · refine lv_aload_n hx hb dX7_untell_16 rfl (lv_at hl 0 rfl) ?_
    refine lv_iload_n hx hb dX7_untell_17 rfl (lv_at hl 1 rfl) ?_
    refine q_callR q_E0ok (rest := []) ⟨hx, hb, hml, hown, hts⟩ (fun r hr => c7_hasText l D cI qm m_images m_newMany m_at m_open m_steps m_use m_traced m_speaks m_isParted m_s x1 r hr) (cwV 1 hts gX7_untell_X7_hasText rfl rfl rfl hdX7_hasText (rmq_ok (Nat.le_of_ble_eq_true rfl) (Nat.le_of_ble_eq_true rfl))) hK hP hEv hS [0, 1] rfl (va_recv hK hP (ci := 7) (q0 := 0) rfl rfl) rfl rfl hl.1 (Nat.le_of_ble_eq_true rfl) ⟨Nat.zero_le _, Nat.zero_le _⟩ h dX7_untell_18 (fun t18 h => ?_)
    refine q_ifeq hx hb 28 h dX7_untell_21 (by decide) (fun h => ?_) (fun h => ?_)
    · refine lv_iconst (v := (0 : Int32)) hx hb dX7_untell_28 (by decide) ?_
      exact J29 x1 ((0 : Int32)) m_s m_errors _ _ _ (lv_sub hl [0, 1] rfl) hP hD hS h
    · refine lv_iconst (v := (1 : Int32)) hx hb dX7_untell_24 (by decide) ?_
      refine lv_goto (tgt := 29) hx hb dX7_untell_25 (by decide) ?_
      exact J29 x1 ((1 : Int32)) m_s m_errors _ _ _ (lv_sub hl [0, 1] rfl) hP hD hS h
  · refine lv_aload_n hx hb dX7_untell_10 rfl (lv_at hl 0 rfl) ?_
    refine lv_iconst (v := (1 : Int32)) hx hb dX7_untell_11 (by decide) ?_
    refine q_callW2 q_E0ok (rest := []) (fun u => [(qm 0, .inr (7, oX7 qm m_images m_newMany m_at m_open m_steps m_use m_traced m_speaks m_isParted)), (qm 4, .inl (cI, 7, .inl u.2))]) (fun u => u.1) ⟨hx, hb, hml, hown, hts⟩ (fun u hu => c7_error l D cI qm m_images m_newMany m_at m_open m_steps m_use m_traced m_speaks m_isParted m_errors ((1 : Int32)) u hu) (cwV 1 hts gX7_untell_X7_error rfl rfl rfl hdX7_error (rmq_ok (Nat.le_of_ble_eq_true rfl) (Nat.le_of_ble_eq_true rfl))) hK hEv hA hP hD hS [0, 2] (by decide) rfl (fun _ => rfl) (va_recv hK hP (ci := 7) (q0 := 0) rfl rfl) rfl rfl hl.1 (Nat.le_of_ble_eq_true rfl) ⟨Nat.zero_le _, Nat.zero_le _⟩ h dX7_untell_12 (fun t12 m_errors_12 H locs h hP hD hS => ?_)
    have hP : va_P D vwCl [(qm 0, .inr (7, oX7 qm m_images m_newMany m_at m_open m_steps m_use m_traced m_speaks m_isParted)), (qm 1, .inl (cI, 3974, .inl m_s)), (qm 4, .inl (cI, 7, .inl m_errors_12))] H := hP
    have hD : va_D A [(qm 0, .inr (7, oX7 qm m_images m_newMany m_at m_open m_steps m_use m_traced m_speaks m_isParted)), (qm 1, .inl (cI, 3974, .inl m_s)), (qm 4, .inl (cI, 7, .inl m_errors_12))] := hD
    exact hret (t12, m_s, m_errors_12) _ _ _ _ (vp_nar_int _) h hP hD hS dX7_untell_15
set_option maxHeartbeats 4000000 in
set_option maxRecDepth 100000 in
theorem c7_draw (l : Launch) (D : va_G) (cI : ClassId) (qm : Nat → Nat) (m_images m_newMany m_at m_open m_steps m_use m_traced m_speaks m_isParted : Int32) (m_s : Nat → Int32) (u : Int32 × (Nat → Int32)) (h : f7_draw m_s = some u) : q_RW q_E0 l yX7_draw wsX7_draw (rmq (0)) D cI [.ref (qm 0)] [(qm 0, .inr (7, oX7 qm m_images m_newMany m_at m_open m_steps m_use m_traced m_speaks m_isParted)), (qm 1, .inl (cI, 3974, .inl m_s))] [(qm 0, .inr (7, oX7 qm m_images m_newMany m_at m_open m_steps m_use m_traced m_speaks m_isParted)), (qm 1, .inl (cI, 3974, .inl u.2))] u.1 := by
  refine q_startW (fun u : Int32 × (Nat → Int32) => [(qm 0, .inr (7, oX7 qm m_images m_newMany m_at m_open m_steps m_use m_traced m_speaks m_isParted)), (qm 1, .inl (cI, 3974, .inl u.2))]) (fun u => u.1) (cc := cX7_draw) (maxL := 1) (ty := .int) (own := RX7) (by decide) rfl rfl (Nat.le_of_ble_eq_true rfl) rfl (fun p e s m args below meth c Q A hx hb hml hown hts hK hEv hA hret hP hD hS ls hl => ?_)
  have in7 : ∀ w ∈ wsX70, w ∈ wsX7_draw := fun w h => List.mem_cons_of_mem _ (List.mem_append_right _ (h))
  have l7 := hts (.fieldLink RX7 7 "PageWarsModel" "s" "[I") (List.mem_of_getElem? (i := 1) rfl)
  unfold f7_draw at h
  refine lv_aload_n hx hb dX7_draw_0 rfl (lv_at hl 0 rfl) ?_
  refine va_get (D := D) (ci := 7) (v := .ref (qm 1)) (C := RX7) (T := TX7) (N := 24) hx hb hts in7 hown hK hP 0 rfl rfl 0 (by decide) l7 (fun _ h9 => h9) rfl dX7_draw_1 ?_
  refine lv_bipush (v := (6 : Int32)) hx hb dX7_draw_4 (by decide) ?_
  refine lv_aload_n hx hb dX7_draw_6 rfl (lv_at hl 0 rfl) ?_
  refine va_get (D := D) (ci := 7) (v := .ref (qm 1)) (C := RX7) (T := TX7) (N := 24) hx hb hts in7 hown hK hP 0 rfl rfl 0 (by decide) l7 (fun _ h9 => h9) rfl dX7_draw_7 ?_
  refine lv_bipush (v := (6 : Int32)) hx hb dX7_draw_10 (by decide) ?_
  refine q_iald hx hb hK hP 1 0 rfl rfl h dX7_draw_12 (fun t12 h => ?_)
  refine lv_ldc (v := (1103515245 : Int32)) hx hb hown (hts (.constant RX7 197 (1103515245)) (List.mem_of_getElem? (i := 2) rfl)) dX7_draw_13 ?_
  refine lv_imul hx hb dX7_draw_15 ?_
  refine lv_sipush (v := (12345 : Int32)) hx hb dX7_draw_16 (by decide) ?_
  refine lv_iadd hx hb dX7_draw_19 ?_
  refine q_iast hx hb hK hP hD hS 1 0 rfl rfl h dX7_draw_20 (fun m_s_20 H locs h hP hD hS => ?_)
  have hP : va_P D vwCl [(qm 0, .inr (7, oX7 qm m_images m_newMany m_at m_open m_steps m_use m_traced m_speaks m_isParted)), (qm 1, .inl (cI, 3974, .inl m_s_20))] H := hP
  have hD : va_D A [(qm 0, .inr (7, oX7 qm m_images m_newMany m_at m_open m_steps m_use m_traced m_speaks m_isParted)), (qm 1, .inl (cI, 3974, .inl m_s_20))] := hD
  refine lv_aload_n hx hb dX7_draw_21 rfl (lv_at hl 0 rfl) ?_
  refine va_get (D := D) (ci := 7) (v := .ref (qm 1)) (C := RX7) (T := TX7) (N := 24) hx hb hts in7 hown hK hP 0 rfl rfl 0 (by decide) l7 (fun _ h9 => h9) rfl dX7_draw_22 ?_
  refine lv_bipush (v := (6 : Int32)) hx hb dX7_draw_25 (by decide) ?_
  refine q_iald hx hb hK hP 1 0 rfl rfl h dX7_draw_27 (fun t27 h => ?_)
  refine lv_bipush (v := (8 : Int32)) hx hb dX7_draw_28 (by decide) ?_
  refine lv_iushr hx hb dX7_draw_30 rfl ?_
  exact hret ((t27.toUInt32 >>> (((8 : Int32)).toUInt32 &&& Int32.toUInt32 31)).toInt32, m_s_20) _ _ _ _ (vp_nar_int _) h hP hD hS dX7_draw_31
set_option maxHeartbeats 4000000 in
set_option maxRecDepth 100000 in
theorem c7_wordsOf (l : Launch) (D : va_G) (cI : ClassId) (qm : Nat → Nat) (m_images m_newMany m_at m_open m_steps m_use m_traced m_speaks m_isParted : Int32) (m_s : Nat → Int32) (x1 : Int32) (n : Nat) (u : Int32) (h : f7_wordsOf n x1 m_s = some u) : q_RO q_E0 l yX7_wordsOf wsX7_wordsOf (rmq (2)) D cI [.ref (qm 0), .int x1] [(qm 0, .inr (7, oX7 qm m_images m_newMany m_at m_open m_steps m_use m_traced m_speaks m_isParted)), (qm 1, .inl (cI, 3974, .inl m_s))] u := by
  refine q_startR (cc := cX7_wordsOf) (maxL := 4) (ty := .int) (own := RX7) (by decide) rfl rfl (Nat.le_of_ble_eq_true rfl) rfl (fun p e s m args below meth c Q hx hb hml hown hts hP hK hEv hret ls hl => ?_)
  have in7 : ∀ w ∈ wsX70, w ∈ wsX7_wordsOf := fun w h => List.mem_cons_of_mem _ (List.mem_append_right _ (h))
  have l7 := hts (.fieldLink RX7 7 "PageWarsModel" "s" "[I") (List.mem_of_getElem? (i := 1) rfl)
  have J4 : ∀ (kk4 : Nat) (x1 : Int32) (x2 : Int32) (x3 : Int32) (ls : Array Slot), lv_has ls 4 [(0, .ref (qm 0)), (1, .int x1), (2, .int x2), (3, .int x3)] → f7_wordsOf_4 n m_s kk4 x1 x2 x3 = some u → W p l e (rmq (2)) s m args below meth c s.heap [] 0 0 Q (F0 m 4 ls []) := by
    intro kk4
    induction kk4 with
    | zero => intro x1 x2 x3  ls hl h; exact nomatch (show (none : Option (Int32)) = some u from h)
    | succ kk4 ih4 =>
      have J38 : ∀ (x1 : Int32) (x3 : Int32) (s0 : Int32) (s1 : Int32) (ls : Array Slot), lv_has ls 4 [(0, .ref (qm 0)), (1, .int x1), (3, .int x3)] → f7_wordsOf_38 n m_s (f7_wordsOf_4 n m_s kk4) x1 x3 s0 s1 = some u → W p l e (rmq (2)) s m args below meth c s.heap [] 0 0 Q (F0 m 38 ls [.int s1, .int s0]) := by
        intro x1 x3 s0 s1  ls hl h
        unfold f7_wordsOf_38 at h
        refine lv_iadd hx hb dX7_wordsOf_38 ?_
        refine q_let h (fun x2_39 h => ?_)
        refine lv_istore_n (lv' := [(2, .int x2_39), (0, .ref (qm 0)), (1, .int x1), (3, .int x3)]) hx hb dX7_wordsOf_39 rfl hl (by decide) rfl (fun ls hl => ?_)
        refine q_iinc (fun v => [(3, .int v), (2, .int x2_39), (0, .ref (qm 0)), (1, .int x1)]) hx hb h dX7_wordsOf_40 (by decide) hl (k := 3) rfl (by decide) (fun _ => rfl) (fun x3_40 ls h hl => ?_)
        refine lv_goto (tgt := 4) hx hb dX7_wordsOf_43 (by decide) ?_
        exact ih4 x1 x2_39 x3_40 _ (lv_sub hl [2, 3, 1, 0] rfl) h
      intro x1 x2 x3  ls hl h
      rw [f7_wordsOf_4.eq_2] at h
      refine lv_iload_n hx hb dX7_wordsOf_4 rfl (lv_at hl 3 rfl) ?_
      refine lv_aload_n hx hb dX7_wordsOf_5 rfl (lv_at hl 0 rfl) ?_
      refine q_callR q_E0ok (rest := [.int x3]) ⟨hx, hb, hml, hown, hts⟩ (fun r hr => c7_page l D cI qm m_images m_newMany m_at m_open m_steps m_use m_traced m_speaks m_isParted m_s r hr) (cwV 0 hts gX7_wordsOf_X7_page rfl rfl rfl hdX7_page (rmq_ok (Nat.le_of_ble_eq_true rfl) (Nat.le_of_ble_eq_true rfl))) hK hP hEv va_S.rf [0, 1] rfl (va_recv hK hP (ci := 7) (q0 := 0) rfl rfl) rfl rfl hl.1 (Nat.le_of_ble_eq_true rfl) ⟨Nat.zero_le _, Nat.zero_le _⟩ h dX7_wordsOf_6 (fun t6 h => ?_)
      refine q_cge hx hb 46 h dX7_wordsOf_9 (by decide) (fun h => ?_) (fun h => ?_)
      · refine lv_iload_n hx hb dX7_wordsOf_46 rfl (lv_at hl 2 rfl) ?_
        exact hret _ _ _ (vp_nar_int _) h dX7_wordsOf_47
      · refine lv_iload_n hx hb dX7_wordsOf_12 rfl (lv_at hl 2 rfl) ?_
        refine lv_aload_n hx hb dX7_wordsOf_13 rfl (lv_at hl 0 rfl) ?_
        refine lv_aload_n hx hb dX7_wordsOf_14 rfl (lv_at hl 0 rfl) ?_
        refine lv_aload_n hx hb dX7_wordsOf_15 rfl (lv_at hl 0 rfl) ?_
        refine va_get (D := D) (ci := 7) (v := .ref (qm 1)) (C := RX7) (T := TX7) (N := 24) hx hb hts in7 hown hK hP 0 rfl rfl 0 (by decide) l7 (fun _ h9 => h9) rfl dX7_wordsOf_16 ?_
        refine lv_iconst (v := (1 : Int32)) hx hb dX7_wordsOf_19 (by decide) ?_
        refine q_iald hx hb hK hP 1 0 rfl rfl h dX7_wordsOf_20 (fun t20 h => ?_)
        refine lv_iload_n hx hb dX7_wordsOf_21 rfl (lv_at hl 3 rfl) ?_
        refine q_callR q_E0ok (rest := [.ref (qm 0), .int x2]) ⟨hx, hb, hml, hown, hts⟩ (fun r hr => c7_originAt l D cI qm m_images m_newMany m_at m_open m_steps m_use m_traced m_speaks m_isParted m_s t20 x3 r hr) (cwV 2 hts gX7_wordsOf_X7_originAt rfl rfl rfl hdX7_originAt (rmq_ok (Nat.le_of_ble_eq_true rfl) (Nat.le_of_ble_eq_true rfl))) hK hP hEv va_S.rf [0, 1] rfl (va_recv hK hP (ci := 7) (q0 := 0) rfl rfl) rfl rfl hl.1 (Nat.le_of_ble_eq_true rfl) ⟨Nat.zero_le _, Nat.zero_le _⟩ h dX7_wordsOf_22 (fun t22 h => ?_)
        refine lv_iconst (v := (1 : Int32)) hx hb dX7_wordsOf_25 (by decide) ?_
        refine q_callR q_E0ok (rest := [.int x2]) ⟨hx, hb, hml, hown, hts⟩ (fun r hr => c7_actIs1 l D cI qm m_images m_newMany m_at m_open m_steps m_use m_traced m_speaks m_isParted m_s t22 ((1 : Int32)) r hr) (cwV 2 hts gX7_wordsOf_X7_actIs1 rfl rfl rfl hdX7_actIs1 (rmq_ok (Nat.le_of_ble_eq_true rfl) (Nat.le_of_ble_eq_true rfl))) hK hP hEv va_S.rf [0, 1] rfl (va_recv hK hP (ci := 7) (q0 := 0) rfl rfl) rfl rfl hl.1 (Nat.le_of_ble_eq_true rfl) ⟨Nat.zero_le _, Nat.zero_le _⟩ h dX7_wordsOf_26 (fun t26 h => ?_)
        refine lv_iload_n hx hb dX7_wordsOf_29 rfl (lv_at hl 1 rfl) ?_
        refine q_cne hx hb 37 h dX7_wordsOf_30 (by decide) (fun h => ?_) (fun h => ?_)
        · refine lv_iconst (v := (0 : Int32)) hx hb dX7_wordsOf_37 (by decide) ?_
          exact J38 x1 x3 x2 ((0 : Int32)) _ (lv_sub hl [0, 1, 3] rfl) h
        · refine lv_iconst (v := (1 : Int32)) hx hb dX7_wordsOf_33 (by decide) ?_
          refine lv_goto (tgt := 38) hx hb dX7_wordsOf_34 (by decide) ?_
          exact J38 x1 x3 x2 ((1 : Int32)) _ (lv_sub hl [0, 1, 3] rfl) h
  unfold f7_wordsOf at h
  refine lv_iconst (v := (0 : Int32)) hx hb dX7_wordsOf_0 (by decide) ?_
  refine lv_istore_n (lv' := [(2, .int ((0 : Int32))), (0, .ref (qm 0)), (1, .int x1)]) hx hb dX7_wordsOf_1 rfl hl (by decide) rfl (fun ls hl => ?_)
  refine lv_iconst (v := (0 : Int32)) hx hb dX7_wordsOf_2 (by decide) ?_
  refine lv_istore_n (lv' := [(3, .int ((0 : Int32))), (2, .int ((0 : Int32))), (0, .ref (qm 0)), (1, .int x1)]) hx hb dX7_wordsOf_3 rfl hl (by decide) rfl (fun ls hl => ?_)
  exact J4 n x1 ((0 : Int32)) ((0 : Int32)) _ (lv_sub hl [2, 3, 1, 0] rfl) h
set_option maxHeartbeats 4000000 in
set_option maxRecDepth 100000 in
theorem c7_latest (l : Launch) (D : va_G) (cI : ClassId) (qm : Nat → Nat) (m_images m_newMany m_at m_open m_steps m_use m_traced m_speaks m_isParted : Int32) (m_s : Nat → Int32) (x1 : Int32) (n : Nat) (u : Int32) (h : f7_latest n x1 m_s = some u) : q_RO q_E0 l yX7_latest wsX7_latest (rmq (1)) D cI [.ref (qm 0), .int x1] [(qm 0, .inr (7, oX7 qm m_images m_newMany m_at m_open m_steps m_use m_traced m_speaks m_isParted)), (qm 1, .inl (cI, 3974, .inl m_s))] u := by
  refine q_startR (cc := cX7_latest) (maxL := 4) (ty := .int) (own := RX7) (by decide) rfl rfl (Nat.le_of_ble_eq_true rfl) rfl (fun p e s m args below meth c Q hx hb hml hown hts hP hK hEv hret ls hl => ?_)
  have in7 : ∀ w ∈ wsX70, w ∈ wsX7_latest := fun w h => List.mem_cons_of_mem _ (List.mem_append_right _ (h))
  have l7 := hts (.fieldLink RX7 7 "PageWarsModel" "s" "[I") (List.mem_of_getElem? (i := 1) rfl)
  have J4 : ∀ (kk4 : Nat) (x1 : Int32) (x2 : Int32) (x3 : Int32) (ls : Array Slot), lv_has ls 4 [(0, .ref (qm 0)), (1, .int x1), (2, .int x2), (3, .int x3)] → f7_latest_4 n m_s kk4 x1 x2 x3 = some u → W p l e (rmq (1)) s m args below meth c s.heap [] 0 0 Q (F0 m 4 ls []) := by
    intro kk4
    induction kk4 with
    | zero => intro x1 x2 x3  ls hl h; exact nomatch (show (none : Option (Int32)) = some u from h)
    | succ kk4 ih4 =>
      have J40 : ∀ (x1 : Int32) (x3 : Int32) (s0 : Int32) (ls : Array Slot), lv_has ls 4 [(0, .ref (qm 0)), (1, .int x1), (3, .int x3)] → f7_latest_40 n m_s (f7_latest_4 n m_s kk4) x1 x3 s0 = some u → W p l e (rmq (1)) s m args below meth c s.heap [] 0 0 Q (F0 m 40 ls [.int s0]) := by
        intro x1 x3 s0  ls hl h
        unfold f7_latest_40 at h
        refine lv_istore_n (lv' := [(2, .int s0), (0, .ref (qm 0)), (1, .int x1), (3, .int x3)]) hx hb dX7_latest_40 rfl hl (by decide) rfl (fun ls hl => ?_)
        refine q_iinc (fun v => [(3, .int v), (2, .int s0), (0, .ref (qm 0)), (1, .int x1)]) hx hb h dX7_latest_41 (by decide) hl (k := 3) rfl (by decide) (fun _ => rfl) (fun x3_41 ls h hl => ?_)
        refine lv_goto (tgt := 4) hx hb dX7_latest_44 (by decide) ?_
        exact ih4 x1 s0 x3_41 _ (lv_sub hl [2, 3, 1, 0] rfl) h
      have J39 : ∀ (x1 : Int32) (x2 : Int32) (x3 : Int32) (ls : Array Slot), lv_has ls 4 [(0, .ref (qm 0)), (1, .int x1), (2, .int x2), (3, .int x3)] → f7_latest_39 n m_s (f7_latest_4 n m_s kk4) x1 x2 x3 = some u → W p l e (rmq (1)) s m args below meth c s.heap [] 0 0 Q (F0 m 39 ls []) := by
        intro x1 x2 x3  ls hl h
        unfold f7_latest_39 at h
        refine lv_iload_n hx hb dX7_latest_39 rfl (lv_at hl 2 rfl) ?_
        exact J40 x1 x3 x2 _ (lv_sub hl [0, 1, 3] rfl) h
      intro x1 x2 x3  ls hl h
      rw [f7_latest_4.eq_2] at h
      refine lv_iload_n hx hb dX7_latest_4 rfl (lv_at hl 3 rfl) ?_
      refine lv_aload_n hx hb dX7_latest_5 rfl (lv_at hl 0 rfl) ?_
      refine va_get (D := D) (ci := 7) (v := .ref (qm 1)) (C := RX7) (T := TX7) (N := 24) hx hb hts in7 hown hK hP 0 rfl rfl 0 (by decide) l7 (fun _ h9 => h9) rfl dX7_latest_6 ?_
      refine lv_iconst (v := (1 : Int32)) hx hb dX7_latest_9 (by decide) ?_
      refine q_iald hx hb hK hP 1 0 rfl rfl h dX7_latest_10 (fun t10 h => ?_)
      refine q_cge hx hb 47 h dX7_latest_11 (by decide) (fun h => ?_) (fun h => ?_)
      · refine lv_iload_n hx hb dX7_latest_47 rfl (lv_at hl 2 rfl) ?_
        exact hret _ _ _ (vp_nar_int _) h dX7_latest_48
      · refine lv_aload_n hx hb dX7_latest_14 rfl (lv_at hl 0 rfl) ?_
        refine lv_iload_n hx hb dX7_latest_15 rfl (lv_at hl 3 rfl) ?_
        refine lv_iconst (v := (1 : Int32)) hx hb dX7_latest_16 (by decide) ?_
        refine q_callR q_E0ok (rest := []) ⟨hx, hb, hml, hown, hts⟩ (fun r hr => c7_actIs1 l D cI qm m_images m_newMany m_at m_open m_steps m_use m_traced m_speaks m_isParted m_s x3 ((1 : Int32)) r hr) (cwV 2 hts gX7_latest_X7_actIs1 rfl rfl rfl hdX7_actIs1 (rmq_ok (Nat.le_of_ble_eq_true rfl) (Nat.le_of_ble_eq_true rfl))) hK hP hEv va_S.rf [0, 1] rfl (va_recv hK hP (ci := 7) (q0 := 0) rfl rfl) rfl rfl hl.1 (Nat.le_of_ble_eq_true rfl) ⟨Nat.zero_le _, Nat.zero_le _⟩ h dX7_latest_17 (fun t17 h => ?_)
        refine lv_iload_n hx hb dX7_latest_20 rfl (lv_at hl 1 rfl) ?_
        refine q_cne hx hb 39 h dX7_latest_21 (by decide) (fun h => ?_) (fun h => ?_)
        · exact J39 x1 x2 x3 _ (lv_sub hl [0, 1, 2, 3] rfl) h
        · refine lv_aload_n hx hb dX7_latest_24 rfl (lv_at hl 0 rfl) ?_
          refine lv_iload_n hx hb dX7_latest_25 rfl (lv_at hl 3 rfl) ?_
          refine lv_iconst (v := (0 : Int32)) hx hb dX7_latest_26 (by decide) ?_
          refine q_callR q_E0ok (rest := []) ⟨hx, hb, hml, hown, hts⟩ (fun r hr => c7_actIs1 l D cI qm m_images m_newMany m_at m_open m_steps m_use m_traced m_speaks m_isParted m_s x3 ((0 : Int32)) r hr) (cwV 2 hts gX7_latest_X7_actIs1 rfl rfl rfl hdX7_actIs1 (rmq_ok (Nat.le_of_ble_eq_true rfl) (Nat.le_of_ble_eq_true rfl))) hK hP hEv va_S.rf [0, 1] rfl (va_recv hK hP (ci := 7) (q0 := 0) rfl rfl) rfl rfl hl.1 (Nat.le_of_ble_eq_true rfl) ⟨Nat.zero_le _, Nat.zero_le _⟩ h dX7_latest_27 (fun t27 h => ?_)
          refine lv_bipush (v := (6 : Int32)) hx hb dX7_latest_30 (by decide) ?_
          refine q_cge hx hb 39 h dX7_latest_32 (by decide) (fun h => ?_) (fun h => ?_)
          · exact J39 x1 x2 x3 _ (lv_sub hl [0, 1, 2, 3] rfl) h
          · refine lv_iload_n hx hb dX7_latest_35 rfl (lv_at hl 3 rfl) ?_
            refine lv_goto (tgt := 40) hx hb dX7_latest_36 (by decide) ?_
            exact J40 x1 x3 x3 _ (lv_sub hl [0, 1, 3] rfl) h
  unfold f7_latest at h
  refine lv_iconst (v := (-1 : Int32)) hx hb dX7_latest_0 (by decide) ?_
  refine lv_istore_n (lv' := [(2, .int ((-1 : Int32))), (0, .ref (qm 0)), (1, .int x1)]) hx hb dX7_latest_1 rfl hl (by decide) rfl (fun ls hl => ?_)
  refine lv_iconst (v := (0 : Int32)) hx hb dX7_latest_2 (by decide) ?_
  refine lv_istore_n (lv' := [(3, .int ((0 : Int32))), (2, .int ((-1 : Int32))), (0, .ref (qm 0)), (1, .int x1)]) hx hb dX7_latest_3 rfl hl (by decide) rfl (fun ls hl => ?_)
  exact J4 n x1 ((-1 : Int32)) ((0 : Int32)) _ (lv_sub hl [2, 3, 1, 0] rfl) h
set_option maxHeartbeats 4000000 in
set_option maxRecDepth 100000 in
theorem c7_lives (l : Launch) (D : va_G) (cI : ClassId) (qm : Nat → Nat) (m_images m_newMany m_at m_open m_steps m_use m_traced m_speaks m_isParted : Int32) (m_s m_newWord m_newOrigin m_named m_pile m_undoneBy : Nat → Int32) (x1 : Int32) (n : Nat) (u : Int32 × (Nat → Int32) × (Nat → Int32) × (Nat → Int32) × (Nat → Int32) × (Nat → Int32) × (Nat → Int32)) (h : f7_lives n x1 m_newMany m_s m_newWord m_newOrigin m_named m_pile m_undoneBy = some u) : q_RV q_E0 l yX7_lives wsX7_lives (rmq (5)) D cI [.ref (qm 0), .int x1] [(qm 0, .inr (7, oX7 qm m_images m_newMany m_at m_open m_steps m_use m_traced m_speaks m_isParted)), (qm 1, .inl (cI, 3974, .inl m_s)), (qm 5, .inl (cI, 40, .inl m_newWord)), (qm 6, .inl (cI, 40, .inl m_newOrigin)), (qm 13, .inl (cI, 128, .inl m_named)), (qm 14, .inl (cI, 64, .inl m_pile)), (qm 16, .inl (cI, 60, .inl m_undoneBy))] [(qm 0, .inr (7, oX7 qm m_images u.1 m_at m_open m_steps m_use m_traced m_speaks m_isParted)), (qm 1, .inl (cI, 3974, .inl u.2.1)), (qm 5, .inl (cI, 40, .inl u.2.2.1)), (qm 6, .inl (cI, 40, .inl u.2.2.2.1)), (qm 13, .inl (cI, 128, .inl u.2.2.2.2.1)), (qm 14, .inl (cI, 64, .inl u.2.2.2.2.2.1)), (qm 16, .inl (cI, 60, .inl u.2.2.2.2.2.2))] := by
  refine q_startV (fun u : Int32 × (Nat → Int32) × (Nat → Int32) × (Nat → Int32) × (Nat → Int32) × (Nat → Int32) × (Nat → Int32) => [(qm 0, .inr (7, oX7 qm m_images u.1 m_at m_open m_steps m_use m_traced m_speaks m_isParted)), (qm 1, .inl (cI, 3974, .inl u.2.1)), (qm 5, .inl (cI, 40, .inl u.2.2.1)), (qm 6, .inl (cI, 40, .inl u.2.2.2.1)), (qm 13, .inl (cI, 128, .inl u.2.2.2.2.1)), (qm 14, .inl (cI, 64, .inl u.2.2.2.2.2.1)), (qm 16, .inl (cI, 60, .inl u.2.2.2.2.2.2))]) (cc := cX7_lives) (maxL := 5) (own := RX7) (by decide) rfl rfl (Nat.le_of_ble_eq_true rfl) rfl (fun p e s m args below meth c Q A hx hb hml hown hts hK hEv hA hret hP hD hS ls hl => ?_)
  have in7 : ∀ w ∈ wsX70, w ∈ wsX7_lives := fun w h => List.mem_cons_of_mem _ (List.mem_append_right _ (h))
  have l7 := hts (.fieldLink RX7 7 "PageWarsModel" "s" "[I") (List.mem_of_getElem? (i := 2) rfl)
  have l28 := hts (.fieldLink RX7 28 "PageWarsModel" "named" "[I") (List.mem_of_getElem? (i := 1) rfl)
  have J207 : ∀ (m_newMany : Int32) (m_s : (Nat → Int32)) (m_newWord : (Nat → Int32)) (m_newOrigin : (Nat → Int32)) (m_named : (Nat → Int32)) (m_pile : (Nat → Int32)) (m_undoneBy : (Nat → Int32)) (H : Heap) (locs : List Loc) (ls : Array Slot), lv_has ls 5 [(0, .ref (qm 0))] → va_P D vwCl [(qm 0, .inr (7, oX7 qm m_images m_newMany m_at m_open m_steps m_use m_traced m_speaks m_isParted)), (qm 1, .inl (cI, 3974, .inl m_s)), (qm 5, .inl (cI, 40, .inl m_newWord)), (qm 6, .inl (cI, 40, .inl m_newOrigin)), (qm 13, .inl (cI, 128, .inl m_named)), (qm 14, .inl (cI, 64, .inl m_pile)), (qm 16, .inl (cI, 60, .inl m_undoneBy))] H → va_D A [(qm 0, .inr (7, oX7 qm m_images m_newMany m_at m_open m_steps m_use m_traced m_speaks m_isParted)), (qm 1, .inl (cI, 3974, .inl m_s)), (qm 5, .inl (cI, 40, .inl m_newWord)), (qm 6, .inl (cI, 40, .inl m_newOrigin)), (qm 13, .inl (cI, 128, .inl m_named)), (qm 14, .inl (cI, 64, .inl m_pile)), (qm 16, .inl (cI, 60, .inl m_undoneBy))] → va_S A s.heap H locs → f7_lives_207 n m_newMany m_s m_newWord m_newOrigin m_named m_pile m_undoneBy = some u → W p l e (rmq (5)) s m args below meth c H locs 0 0 Q (F0 m 207 ls []) := by
    intro m_newMany m_s m_newWord m_newOrigin m_named m_pile m_undoneBy H locs ls hl hP hD hS h
    unfold f7_lives_207 at h
    exact hret (m_newMany, m_s, m_newWord, m_newOrigin, m_named, m_pile, m_undoneBy) _ _ _ _ h hP hD hS dX7_lives_207
  have J194 : ∀ (x1 : Int32) (x3 : Int32) (m_newMany : Int32) (m_s : (Nat → Int32)) (m_newWord : (Nat → Int32)) (m_newOrigin : (Nat → Int32)) (m_named : (Nat → Int32)) (m_pile : (Nat → Int32)) (m_undoneBy : (Nat → Int32)) (H : Heap) (locs : List Loc) (ls : Array Slot), lv_has ls 5 [(0, .ref (qm 0)), (1, .int x1), (3, .int x3)] → va_P D vwCl [(qm 0, .inr (7, oX7 qm m_images m_newMany m_at m_open m_steps m_use m_traced m_speaks m_isParted)), (qm 1, .inl (cI, 3974, .inl m_s)), (qm 5, .inl (cI, 40, .inl m_newWord)), (qm 6, .inl (cI, 40, .inl m_newOrigin)), (qm 13, .inl (cI, 128, .inl m_named)), (qm 14, .inl (cI, 64, .inl m_pile)), (qm 16, .inl (cI, 60, .inl m_undoneBy))] H → va_D A [(qm 0, .inr (7, oX7 qm m_images m_newMany m_at m_open m_steps m_use m_traced m_speaks m_isParted)), (qm 1, .inl (cI, 3974, .inl m_s)), (qm 5, .inl (cI, 40, .inl m_newWord)), (qm 6, .inl (cI, 40, .inl m_newOrigin)), (qm 13, .inl (cI, 128, .inl m_named)), (qm 14, .inl (cI, 64, .inl m_pile)), (qm 16, .inl (cI, 60, .inl m_undoneBy))] → va_S A s.heap H locs → f7_lives_194 n x1 x3 m_newMany m_s m_newWord m_newOrigin m_named m_pile m_undoneBy = some u → W p l e (rmq (5)) s m args below meth c H locs 0 0 Q (F0 m 194 ls []) := by
    intro x1 x3 m_newMany m_s m_newWord m_newOrigin m_named m_pile m_undoneBy H locs ls hl hP hD hS h
    unfold f7_lives_194 at h
    refine lv_iload_n hx hb dX7_lives_194 rfl (lv_at hl 2 rfl) ?_
    refine lv_iconst (v := (4 : Int32)) hx hb dX7_lives_195 (by decide) ?_
    refine q_cne hx hb 207 h dX7_lives_196 (by decide) (fun h => ?_) (fun h => ?_)
    · exact J207 m_newMany m_s m_newWord m_newOrigin m_named m_pile m_undoneBy _ _ _ (lv_sub hl [0] rfl) hP hD hS h
    · refine lv_aload_n hx hb dX7_lives_199 rfl (lv_at hl 0 rfl) ?_
      refine lv_iload_n hx hb dX7_lives_200 rfl (lv_at hl 1 rfl) ?_
      refine lv_iconst (v := (0 : Int32)) hx hb dX7_lives_201 (by decide) ?_
      refine q_callW8 q_E0ok (rest := []) (fun u => [(qm 0, .inr (7, oX7 qm m_images u.2.1 m_at m_open m_steps m_use m_traced m_speaks m_isParted)), (qm 1, .inl (cI, 3974, .inl u.2.2.1)), (qm 5, .inl (cI, 40, .inl u.2.2.2.1)), (qm 6, .inl (cI, 40, .inl u.2.2.2.2.1)), (qm 13, .inl (cI, 128, .inl u.2.2.2.2.2.1)), (qm 14, .inl (cI, 64, .inl u.2.2.2.2.2.2.1)), (qm 16, .inl (cI, 60, .inl u.2.2.2.2.2.2.2))]) (fun u => u.1) ⟨hx, hb, hml, hown, hts⟩ (fun u hu => c7_goesBack l D cI qm m_images m_newMany m_at m_open m_steps m_use m_traced m_speaks m_isParted m_s m_newWord m_newOrigin m_named m_pile m_undoneBy x1 ((0 : Int32)) n u hu) (cwV 2 hts gX7_lives_X7_goesBack rfl rfl rfl hdX7_goesBack (rmq_ok (Nat.le_of_ble_eq_true rfl) (Nat.le_of_ble_eq_true rfl))) hK hEv hA hP hD hS [0, 1, 2, 3, 4, 5, 6] (by decide) rfl (fun _ => rfl) (va_recv hK hP (ci := 7) (q0 := 0) rfl rfl) rfl rfl hl.1 (Nat.le_of_ble_eq_true rfl) ⟨Nat.zero_le _, Nat.zero_le _⟩ h dX7_lives_202 (fun t202 m_newMany_202 m_s_202 m_newWord_202 m_newOrigin_202 m_named_202 m_pile_202 m_undoneBy_202 H locs h hP hD hS => ?_)
      have hP : va_P D vwCl [(qm 0, .inr (7, oX7 qm m_images m_newMany_202 m_at m_open m_steps m_use m_traced m_speaks m_isParted)), (qm 1, .inl (cI, 3974, .inl m_s_202)), (qm 5, .inl (cI, 40, .inl m_newWord_202)), (qm 6, .inl (cI, 40, .inl m_newOrigin_202)), (qm 13, .inl (cI, 128, .inl m_named_202)), (qm 14, .inl (cI, 64, .inl m_pile_202)), (qm 16, .inl (cI, 60, .inl m_undoneBy_202))] H := hP
      have hD : va_D A [(qm 0, .inr (7, oX7 qm m_images m_newMany_202 m_at m_open m_steps m_use m_traced m_speaks m_isParted)), (qm 1, .inl (cI, 3974, .inl m_s_202)), (qm 5, .inl (cI, 40, .inl m_newWord_202)), (qm 6, .inl (cI, 40, .inl m_newOrigin_202)), (qm 13, .inl (cI, 128, .inl m_named_202)), (qm 14, .inl (cI, 64, .inl m_pile_202)), (qm 16, .inl (cI, 60, .inl m_undoneBy_202))] := hD
      refine lv_istore (lv' := [(4, .int t202), (0, .ref (qm 0)), (1, .int x1), (3, .int x3)]) hx hb dX7_lives_205 hl (by decide) rfl (fun ls hl => ?_)
      exact J207 m_newMany_202 m_s_202 m_newWord_202 m_newOrigin_202 m_named_202 m_pile_202 m_undoneBy_202 _ _ _ (lv_sub hl [1] rfl) hP hD hS h
  have J164 : ∀ (x1 : Int32) (x3 : Int32) (m_newMany : Int32) (m_s : (Nat → Int32)) (m_newWord : (Nat → Int32)) (m_newOrigin : (Nat → Int32)) (m_named : (Nat → Int32)) (m_pile : (Nat → Int32)) (m_undoneBy : (Nat → Int32)) (H : Heap) (locs : List Loc) (ls : Array Slot), lv_has ls 5 [(0, .ref (qm 0)), (1, .int x1), (3, .int x3)] → va_P D vwCl [(qm 0, .inr (7, oX7 qm m_images m_newMany m_at m_open m_steps m_use m_traced m_speaks m_isParted)), (qm 1, .inl (cI, 3974, .inl m_s)), (qm 5, .inl (cI, 40, .inl m_newWord)), (qm 6, .inl (cI, 40, .inl m_newOrigin)), (qm 13, .inl (cI, 128, .inl m_named)), (qm 14, .inl (cI, 64, .inl m_pile)), (qm 16, .inl (cI, 60, .inl m_undoneBy))] H → va_D A [(qm 0, .inr (7, oX7 qm m_images m_newMany m_at m_open m_steps m_use m_traced m_speaks m_isParted)), (qm 1, .inl (cI, 3974, .inl m_s)), (qm 5, .inl (cI, 40, .inl m_newWord)), (qm 6, .inl (cI, 40, .inl m_newOrigin)), (qm 13, .inl (cI, 128, .inl m_named)), (qm 14, .inl (cI, 64, .inl m_pile)), (qm 16, .inl (cI, 60, .inl m_undoneBy))] → va_S A s.heap H locs → f7_lives_164 n x1 x3 m_newMany m_s m_newWord m_newOrigin m_named m_pile m_undoneBy = some u → W p l e (rmq (5)) s m args below meth c H locs 0 0 Q (F0 m 164 ls []) := by
    intro x1 x3 m_newMany m_s m_newWord m_newOrigin m_named m_pile m_undoneBy H locs ls hl hP hD hS h
    unfold f7_lives_164 at h
    refine lv_iload_n hx hb dX7_lives_164 rfl (lv_at hl 2 rfl) ?_
    refine lv_iconst (v := (3 : Int32)) hx hb dX7_lives_165 (by decide) ?_
    refine q_cne hx hb 194 h dX7_lives_166 (by decide) (fun h => ?_) (fun h => ?_)
    · exact J194 x1 x3 m_newMany m_s m_newWord m_newOrigin m_named m_pile m_undoneBy _ _ _ (lv_sub hl [0, 1, 2] rfl) hP hD hS h
    · refine lv_aload_n hx hb dX7_lives_169 rfl (lv_at hl 0 rfl) ?_
      refine lv_iload_n hx hb dX7_lives_170 rfl (lv_at hl 1 rfl) ?_
      refine q_callR q_E0ok (rest := []) ⟨hx, hb, hml, hown, hts⟩ (fun r hr => c7_latest l D cI qm m_images m_newMany m_at m_open m_steps m_use m_traced m_speaks m_isParted m_s x1 n r hr) (cwV 1 hts gX7_lives_X7_latest rfl rfl rfl hdX7_latest (rmq_ok (Nat.le_of_ble_eq_true rfl) (Nat.le_of_ble_eq_true rfl))) hK hP hEv hS [0, 1] rfl (va_recv hK hP (ci := 7) (q0 := 0) rfl rfl) rfl rfl hl.1 (Nat.le_of_ble_eq_true rfl) ⟨Nat.zero_le _, Nat.zero_le _⟩ h dX7_lives_171 (fun t171 h => ?_)
      refine q_iflt hx hb 194 h dX7_lives_174 (by decide) (fun h => ?_) (fun h => ?_)
      · exact J194 x1 x3 m_newMany m_s m_newWord m_newOrigin m_named m_pile m_undoneBy _ _ _ (lv_sub hl [0, 1, 2] rfl) hP hD hS h
      · refine lv_aload_n hx hb dX7_lives_177 rfl (lv_at hl 0 rfl) ?_
        refine lv_iload_n hx hb dX7_lives_178 rfl (lv_at hl 1 rfl) ?_
        refine lv_aload_n hx hb dX7_lives_179 rfl (lv_at hl 0 rfl) ?_
        refine lv_iload_n hx hb dX7_lives_180 rfl (lv_at hl 1 rfl) ?_
        refine q_callR q_E0ok (rest := [.int x1, .ref (qm 0)]) ⟨hx, hb, hml, hown, hts⟩ (fun r hr => c7_latest l D cI qm m_images m_newMany m_at m_open m_steps m_use m_traced m_speaks m_isParted m_s x1 n r hr) (cwV 1 hts gX7_lives_X7_latest rfl rfl rfl hdX7_latest (rmq_ok (Nat.le_of_ble_eq_true rfl) (Nat.le_of_ble_eq_true rfl))) hK hP hEv hS [0, 1] rfl (va_recv hK hP (ci := 7) (q0 := 0) rfl rfl) rfl rfl hl.1 (Nat.le_of_ble_eq_true rfl) ⟨Nat.zero_le _, Nat.zero_le _⟩ h dX7_lives_181 (fun t181 h => ?_)
        refine lv_iconst (v := (1 : Int32)) hx hb dX7_lives_184 (by decide) ?_
        refine lv_iadd hx hb dX7_lives_185 ?_
        refine q_callW8 q_E0ok (rest := []) (fun u => [(qm 0, .inr (7, oX7 qm m_images u.2.1 m_at m_open m_steps m_use m_traced m_speaks m_isParted)), (qm 1, .inl (cI, 3974, .inl u.2.2.1)), (qm 5, .inl (cI, 40, .inl u.2.2.2.1)), (qm 6, .inl (cI, 40, .inl u.2.2.2.2.1)), (qm 13, .inl (cI, 128, .inl u.2.2.2.2.2.1)), (qm 14, .inl (cI, 64, .inl u.2.2.2.2.2.2.1)), (qm 16, .inl (cI, 60, .inl u.2.2.2.2.2.2.2))]) (fun u => u.1) ⟨hx, hb, hml, hown, hts⟩ (fun u hu => c7_goesBack l D cI qm m_images m_newMany m_at m_open m_steps m_use m_traced m_speaks m_isParted m_s m_newWord m_newOrigin m_named m_pile m_undoneBy x1 (t181 + ((1 : Int32))) n u hu) (cwV 2 hts gX7_lives_X7_goesBack rfl rfl rfl hdX7_goesBack (rmq_ok (Nat.le_of_ble_eq_true rfl) (Nat.le_of_ble_eq_true rfl))) hK hEv hA hP hD hS [0, 1, 2, 3, 4, 5, 6] (by decide) rfl (fun _ => rfl) (va_recv hK hP (ci := 7) (q0 := 0) rfl rfl) rfl rfl hl.1 (Nat.le_of_ble_eq_true rfl) ⟨Nat.zero_le _, Nat.zero_le _⟩ h dX7_lives_186 (fun t186 m_newMany_186 m_s_186 m_newWord_186 m_newOrigin_186 m_named_186 m_pile_186 m_undoneBy_186 H locs h hP hD hS => ?_)
        have hP : va_P D vwCl [(qm 0, .inr (7, oX7 qm m_images m_newMany_186 m_at m_open m_steps m_use m_traced m_speaks m_isParted)), (qm 1, .inl (cI, 3974, .inl m_s_186)), (qm 5, .inl (cI, 40, .inl m_newWord_186)), (qm 6, .inl (cI, 40, .inl m_newOrigin_186)), (qm 13, .inl (cI, 128, .inl m_named_186)), (qm 14, .inl (cI, 64, .inl m_pile_186)), (qm 16, .inl (cI, 60, .inl m_undoneBy_186))] H := hP
        have hD : va_D A [(qm 0, .inr (7, oX7 qm m_images m_newMany_186 m_at m_open m_steps m_use m_traced m_speaks m_isParted)), (qm 1, .inl (cI, 3974, .inl m_s_186)), (qm 5, .inl (cI, 40, .inl m_newWord_186)), (qm 6, .inl (cI, 40, .inl m_newOrigin_186)), (qm 13, .inl (cI, 128, .inl m_named_186)), (qm 14, .inl (cI, 64, .inl m_pile_186)), (qm 16, .inl (cI, 60, .inl m_undoneBy_186))] := hD
        refine lv_istore (lv' := [(4, .int t186), (0, .ref (qm 0)), (1, .int x1), (3, .int x3)]) hx hb dX7_lives_189 hl (by decide) rfl (fun ls hl => ?_)
        refine lv_goto (tgt := 207) hx hb dX7_lives_191 (by decide) ?_
        exact J207 m_newMany_186 m_s_186 m_newWord_186 m_newOrigin_186 m_named_186 m_pile_186 m_undoneBy_186 _ _ _ (lv_sub hl [1] rfl) hP hD hS h
  have J136 : ∀ (x1 : Int32) (x3 : Int32) (m_newMany : Int32) (m_s : (Nat → Int32)) (m_newWord : (Nat → Int32)) (m_newOrigin : (Nat → Int32)) (m_named : (Nat → Int32)) (m_pile : (Nat → Int32)) (m_undoneBy : (Nat → Int32)) (H : Heap) (locs : List Loc) (ls : Array Slot), lv_has ls 5 [(0, .ref (qm 0)), (1, .int x1), (3, .int x3)] → va_P D vwCl [(qm 0, .inr (7, oX7 qm m_images m_newMany m_at m_open m_steps m_use m_traced m_speaks m_isParted)), (qm 1, .inl (cI, 3974, .inl m_s)), (qm 5, .inl (cI, 40, .inl m_newWord)), (qm 6, .inl (cI, 40, .inl m_newOrigin)), (qm 13, .inl (cI, 128, .inl m_named)), (qm 14, .inl (cI, 64, .inl m_pile)), (qm 16, .inl (cI, 60, .inl m_undoneBy))] H → va_D A [(qm 0, .inr (7, oX7 qm m_images m_newMany m_at m_open m_steps m_use m_traced m_speaks m_isParted)), (qm 1, .inl (cI, 3974, .inl m_s)), (qm 5, .inl (cI, 40, .inl m_newWord)), (qm 6, .inl (cI, 40, .inl m_newOrigin)), (qm 13, .inl (cI, 128, .inl m_named)), (qm 14, .inl (cI, 64, .inl m_pile)), (qm 16, .inl (cI, 60, .inl m_undoneBy))] → va_S A s.heap H locs → f7_lives_136 n x1 x3 m_newMany m_s m_newWord m_newOrigin m_named m_pile m_undoneBy = some u → W p l e (rmq (5)) s m args below meth c H locs 0 0 Q (F0 m 136 ls []) := by
    intro x1 x3 m_newMany m_s m_newWord m_newOrigin m_named m_pile m_undoneBy H locs ls hl hP hD hS h
    unfold f7_lives_136 at h
    refine lv_iload_n hx hb dX7_lives_136 rfl (lv_at hl 2 rfl) ?_
    refine lv_iconst (v := (2 : Int32)) hx hb dX7_lives_137 (by decide) ?_
    refine q_cne hx hb 164 h dX7_lives_138 (by decide) (fun h => ?_) (fun h => ?_)
    · exact J164 x1 x3 m_newMany m_s m_newWord m_newOrigin m_named m_pile m_undoneBy _ _ _ (lv_sub hl [0, 1, 2] rfl) hP hD hS h
    · refine lv_aload_n hx hb dX7_lives_141 rfl (lv_at hl 0 rfl) ?_
      refine q_callR q_E0ok (rest := []) ⟨hx, hb, hml, hown, hts⟩ (fun r hr => c7_page l D cI qm m_images m_newMany m_at m_open m_steps m_use m_traced m_speaks m_isParted m_s r hr) (cwV 0 hts gX7_lives_X7_page rfl rfl rfl hdX7_page (rmq_ok (Nat.le_of_ble_eq_true rfl) (Nat.le_of_ble_eq_true rfl))) hK hP hEv hS [0, 1] rfl (va_recv hK hP (ci := 7) (q0 := 0) rfl rfl) rfl rfl hl.1 (Nat.le_of_ble_eq_true rfl) ⟨Nat.zero_le _, Nat.zero_le _⟩ h dX7_lives_142 (fun t142 h => ?_)
      refine q_ifle hx hb 164 h dX7_lives_145 (by decide) (fun h => ?_) (fun h => ?_)
      · exact J164 x1 x3 m_newMany m_s m_newWord m_newOrigin m_named m_pile m_undoneBy _ _ _ (lv_sub hl [0, 1, 2] rfl) hP hD hS h
      · refine lv_aload_n hx hb dX7_lives_148 rfl (lv_at hl 0 rfl) ?_
        refine lv_iload_n hx hb dX7_lives_149 rfl (lv_at hl 1 rfl) ?_
        refine lv_aload_n hx hb dX7_lives_150 rfl (lv_at hl 0 rfl) ?_
        refine q_callR q_E0ok (rest := [.int x1, .ref (qm 0)]) ⟨hx, hb, hml, hown, hts⟩ (fun r hr => c7_page l D cI qm m_images m_newMany m_at m_open m_steps m_use m_traced m_speaks m_isParted m_s r hr) (cwV 0 hts gX7_lives_X7_page rfl rfl rfl hdX7_page (rmq_ok (Nat.le_of_ble_eq_true rfl) (Nat.le_of_ble_eq_true rfl))) hK hP hEv hS [0, 1] rfl (va_recv hK hP (ci := 7) (q0 := 0) rfl rfl) rfl rfl hl.1 (Nat.le_of_ble_eq_true rfl) ⟨Nat.zero_le _, Nat.zero_le _⟩ h dX7_lives_151 (fun t151 h => ?_)
        refine lv_iconst (v := (1 : Int32)) hx hb dX7_lives_154 (by decide) ?_
        refine lv_isub hx hb dX7_lives_155 ?_
        refine q_callW8 q_E0ok (rest := []) (fun u => [(qm 0, .inr (7, oX7 qm m_images u.2.1 m_at m_open m_steps m_use m_traced m_speaks m_isParted)), (qm 1, .inl (cI, 3974, .inl u.2.2.1)), (qm 5, .inl (cI, 40, .inl u.2.2.2.1)), (qm 6, .inl (cI, 40, .inl u.2.2.2.2.1)), (qm 13, .inl (cI, 128, .inl u.2.2.2.2.2.1)), (qm 14, .inl (cI, 64, .inl u.2.2.2.2.2.2.1)), (qm 16, .inl (cI, 60, .inl u.2.2.2.2.2.2.2))]) (fun u => u.1) ⟨hx, hb, hml, hown, hts⟩ (fun u hu => c7_cuts l D cI qm m_images m_newMany m_at m_open m_steps m_use m_traced m_speaks m_isParted m_s m_newWord m_newOrigin m_named m_pile m_undoneBy x1 (t151 - ((1 : Int32))) n u hu) (cwV 2 hts gX7_lives_X7_cuts rfl rfl rfl hdX7_cuts (rmq_ok (Nat.le_of_ble_eq_true rfl) (Nat.le_of_ble_eq_true rfl))) hK hEv hA hP hD hS [0, 1, 2, 3, 4, 5, 6] (by decide) rfl (fun _ => rfl) (va_recv hK hP (ci := 7) (q0 := 0) rfl rfl) rfl rfl hl.1 (Nat.le_of_ble_eq_true rfl) ⟨Nat.zero_le _, Nat.zero_le _⟩ h dX7_lives_156 (fun t156 m_newMany_156 m_s_156 m_newWord_156 m_newOrigin_156 m_named_156 m_pile_156 m_undoneBy_156 H locs h hP hD hS => ?_)
        have hP : va_P D vwCl [(qm 0, .inr (7, oX7 qm m_images m_newMany_156 m_at m_open m_steps m_use m_traced m_speaks m_isParted)), (qm 1, .inl (cI, 3974, .inl m_s_156)), (qm 5, .inl (cI, 40, .inl m_newWord_156)), (qm 6, .inl (cI, 40, .inl m_newOrigin_156)), (qm 13, .inl (cI, 128, .inl m_named_156)), (qm 14, .inl (cI, 64, .inl m_pile_156)), (qm 16, .inl (cI, 60, .inl m_undoneBy_156))] H := hP
        have hD : va_D A [(qm 0, .inr (7, oX7 qm m_images m_newMany_156 m_at m_open m_steps m_use m_traced m_speaks m_isParted)), (qm 1, .inl (cI, 3974, .inl m_s_156)), (qm 5, .inl (cI, 40, .inl m_newWord_156)), (qm 6, .inl (cI, 40, .inl m_newOrigin_156)), (qm 13, .inl (cI, 128, .inl m_named_156)), (qm 14, .inl (cI, 64, .inl m_pile_156)), (qm 16, .inl (cI, 60, .inl m_undoneBy_156))] := hD
        refine lv_istore (lv' := [(4, .int t156), (0, .ref (qm 0)), (1, .int x1), (3, .int x3)]) hx hb dX7_lives_159 hl (by decide) rfl (fun ls hl => ?_)
        refine lv_goto (tgt := 207) hx hb dX7_lives_161 (by decide) ?_
        exact J207 m_newMany_156 m_s_156 m_newWord_156 m_newOrigin_156 m_named_156 m_pile_156 m_undoneBy_156 _ _ _ (lv_sub hl [1] rfl) hP hD hS h
  have J100 : ∀ (m_newMany : Int32) (m_s : (Nat → Int32)) (m_newWord : (Nat → Int32)) (m_newOrigin : (Nat → Int32)) (m_named : (Nat → Int32)) (m_pile : (Nat → Int32)) (m_undoneBy : (Nat → Int32)) (H : Heap) (locs : List Loc) (ls : Array Slot), lv_has ls 5 [(0, .ref (qm 0))] → va_P D vwCl [(qm 0, .inr (7, oX7 qm m_images m_newMany m_at m_open m_steps m_use m_traced m_speaks m_isParted)), (qm 1, .inl (cI, 3974, .inl m_s)), (qm 5, .inl (cI, 40, .inl m_newWord)), (qm 6, .inl (cI, 40, .inl m_newOrigin)), (qm 13, .inl (cI, 128, .inl m_named)), (qm 14, .inl (cI, 64, .inl m_pile)), (qm 16, .inl (cI, 60, .inl m_undoneBy))] H → va_D A [(qm 0, .inr (7, oX7 qm m_images m_newMany m_at m_open m_steps m_use m_traced m_speaks m_isParted)), (qm 1, .inl (cI, 3974, .inl m_s)), (qm 5, .inl (cI, 40, .inl m_newWord)), (qm 6, .inl (cI, 40, .inl m_newOrigin)), (qm 13, .inl (cI, 128, .inl m_named)), (qm 14, .inl (cI, 64, .inl m_pile)), (qm 16, .inl (cI, 60, .inl m_undoneBy))] → va_S A s.heap H locs → f7_lives_100 n m_newMany m_s m_newWord m_newOrigin m_named m_pile m_undoneBy = some u → W p l e (rmq (5)) s m args below meth c H locs 0 0 Q (F0 m 100 ls []) := by
    intro m_newMany m_s m_newWord m_newOrigin m_named m_pile m_undoneBy H locs ls hl hP hD hS h
    unfold f7_lives_100 at h
    exact hret (m_newMany, m_s, m_newWord, m_newOrigin, m_named, m_pile, m_undoneBy) _ _ _ _ h hP hD hS dX7_lives_100
  unfold f7_lives at h
  refine lv_aload_n hx hb dX7_lives_0 rfl (lv_at hl 0 rfl) ?_
  refine q_callW2 q_E0ok (rest := []) (fun u => [(qm 0, .inr (7, oX7 qm m_images m_newMany m_at m_open m_steps m_use m_traced m_speaks m_isParted)), (qm 1, .inl (cI, 3974, .inl u.2))]) (fun u => u.1) ⟨hx, hb, hml, hown, hts⟩ (fun u hu => c7_draw l D cI qm m_images m_newMany m_at m_open m_steps m_use m_traced m_speaks m_isParted m_s u hu) (cwV 0 hts gX7_lives_X7_draw rfl rfl rfl hdX7_draw (rmq_ok (Nat.le_of_ble_eq_true rfl) (Nat.le_of_ble_eq_true rfl))) hK hEv hA hP hD hS [0, 1] (by decide) rfl (fun _ => rfl) (va_recv hK hP (ci := 7) (q0 := 0) rfl rfl) rfl rfl hl.1 (Nat.le_of_ble_eq_true rfl) ⟨Nat.zero_le _, Nat.zero_le _⟩ h dX7_lives_1 (fun t1 m_s_1 H locs h hP hD hS => ?_)
  have hP : va_P D vwCl [(qm 0, .inr (7, oX7 qm m_images m_newMany m_at m_open m_steps m_use m_traced m_speaks m_isParted)), (qm 1, .inl (cI, 3974, .inl m_s_1)), (qm 5, .inl (cI, 40, .inl m_newWord)), (qm 6, .inl (cI, 40, .inl m_newOrigin)), (qm 13, .inl (cI, 128, .inl m_named)), (qm 14, .inl (cI, 64, .inl m_pile)), (qm 16, .inl (cI, 60, .inl m_undoneBy))] H := hP
  have hD : va_D A [(qm 0, .inr (7, oX7 qm m_images m_newMany m_at m_open m_steps m_use m_traced m_speaks m_isParted)), (qm 1, .inl (cI, 3974, .inl m_s_1)), (qm 5, .inl (cI, 40, .inl m_newWord)), (qm 6, .inl (cI, 40, .inl m_newOrigin)), (qm 13, .inl (cI, 128, .inl m_named)), (qm 14, .inl (cI, 64, .inl m_pile)), (qm 16, .inl (cI, 60, .inl m_undoneBy))] := hD
  refine lv_bipush (v := (100 : Int32)) hx hb dX7_lives_4 (by decide) ?_
  refine q_irem hx hb h dX7_lives_6 (fun h => ?_)
  refine q_let h (fun x2_7 h => ?_)
  refine lv_istore_n (lv' := [(2, .int x2_7), (0, .ref (qm 0)), (1, .int x1)]) hx hb dX7_lives_7 rfl hl (by decide) rfl (fun ls hl => ?_)
  refine lv_aload_n hx hb dX7_lives_8 rfl (lv_at hl 1 rfl) ?_
  refine va_get (D := D) (ci := 7) (v := .ref (qm 13)) (C := RX7) (T := TX7) (N := 24) hx hb hts in7 hown hK hP 0 rfl rfl 12 (by decide) l28 (fun _ h9 => h9) rfl dX7_lives_9 ?_
  refine lv_bipush (v := (108 : Int32)) hx hb dX7_lives_12 (by decide) ?_
  refine lv_aload_n hx hb dX7_lives_14 rfl (lv_at hl 1 rfl) ?_
  refine q_callR q_E0ok (rest := [.int ((108 : Int32)), .ref (qm 13)]) ⟨hx, hb, hml, hown, hts⟩ (fun r hr => c7_page l D cI qm m_images m_newMany m_at m_open m_steps m_use m_traced m_speaks m_isParted m_s_1 r hr) (cwV 0 hts gX7_lives_X7_page rfl rfl rfl hdX7_page (rmq_ok (Nat.le_of_ble_eq_true rfl) (Nat.le_of_ble_eq_true rfl))) hK hP hEv hS [0, 1] rfl (va_recv hK hP (ci := 7) (q0 := 0) rfl rfl) rfl rfl hl.1 (Nat.le_of_ble_eq_true rfl) ⟨Nat.zero_le _, Nat.zero_le _⟩ h dX7_lives_15 (fun t15 h => ?_)
  refine q_iast hx hb hK hP hD hS 4 0 rfl rfl h dX7_lives_18 (fun m_named_18 H locs h hP hD hS => ?_)
  have hP : va_P D vwCl [(qm 0, .inr (7, oX7 qm m_images m_newMany m_at m_open m_steps m_use m_traced m_speaks m_isParted)), (qm 1, .inl (cI, 3974, .inl m_s_1)), (qm 5, .inl (cI, 40, .inl m_newWord)), (qm 6, .inl (cI, 40, .inl m_newOrigin)), (qm 13, .inl (cI, 128, .inl m_named_18)), (qm 14, .inl (cI, 64, .inl m_pile)), (qm 16, .inl (cI, 60, .inl m_undoneBy))] H := hP
  have hD : va_D A [(qm 0, .inr (7, oX7 qm m_images m_newMany m_at m_open m_steps m_use m_traced m_speaks m_isParted)), (qm 1, .inl (cI, 3974, .inl m_s_1)), (qm 5, .inl (cI, 40, .inl m_newWord)), (qm 6, .inl (cI, 40, .inl m_newOrigin)), (qm 13, .inl (cI, 128, .inl m_named_18)), (qm 14, .inl (cI, 64, .inl m_pile)), (qm 16, .inl (cI, 60, .inl m_undoneBy))] := hD
  refine lv_aload_n hx hb dX7_lives_19 rfl (lv_at hl 1 rfl) ?_
  refine va_get (D := D) (ci := 7) (v := .ref (qm 13)) (C := RX7) (T := TX7) (N := 24) hx hb hts in7 hown hK hP 0 rfl rfl 12 (by decide) l28 (fun _ h9 => h9) rfl dX7_lives_20 ?_
  refine lv_bipush (v := (109 : Int32)) hx hb dX7_lives_23 (by decide) ?_
  refine lv_aload_n hx hb dX7_lives_25 rfl (lv_at hl 1 rfl) ?_
  refine va_get (D := D) (ci := 7) (v := .ref (qm 1)) (C := RX7) (T := TX7) (N := 24) hx hb hts in7 hown hK hP 0 rfl rfl 0 (by decide) l7 (fun _ h9 => h9) rfl dX7_lives_26 ?_
  refine lv_iconst (v := (0 : Int32)) hx hb dX7_lives_29 (by decide) ?_
  refine q_iald hx hb hK hP 1 0 rfl rfl h dX7_lives_30 (fun t30 h => ?_)
  refine lv_sipush (v := (1440 : Int32)) hx hb dX7_lives_31 (by decide) ?_
  refine q_irem hx hb h dX7_lives_34 (fun h => ?_)
  refine q_iast hx hb hK hP hD hS 4 0 rfl rfl h dX7_lives_35 (fun m_named_35 H locs h hP hD hS => ?_)
  have hP : va_P D vwCl [(qm 0, .inr (7, oX7 qm m_images m_newMany m_at m_open m_steps m_use m_traced m_speaks m_isParted)), (qm 1, .inl (cI, 3974, .inl m_s_1)), (qm 5, .inl (cI, 40, .inl m_newWord)), (qm 6, .inl (cI, 40, .inl m_newOrigin)), (qm 13, .inl (cI, 128, .inl m_named_35)), (qm 14, .inl (cI, 64, .inl m_pile)), (qm 16, .inl (cI, 60, .inl m_undoneBy))] H := hP
  have hD : va_D A [(qm 0, .inr (7, oX7 qm m_images m_newMany m_at m_open m_steps m_use m_traced m_speaks m_isParted)), (qm 1, .inl (cI, 3974, .inl m_s_1)), (qm 5, .inl (cI, 40, .inl m_newWord)), (qm 6, .inl (cI, 40, .inl m_newOrigin)), (qm 13, .inl (cI, 128, .inl m_named_35)), (qm 14, .inl (cI, 64, .inl m_pile)), (qm 16, .inl (cI, 60, .inl m_undoneBy))] := hD
  refine lv_aload_n hx hb dX7_lives_36 rfl (lv_at hl 1 rfl) ?_
  refine va_get (D := D) (ci := 7) (v := .ref (qm 13)) (C := RX7) (T := TX7) (N := 24) hx hb hts in7 hown hK hP 0 rfl rfl 12 (by decide) l28 (fun _ h9 => h9) rfl dX7_lives_37 ?_
  refine lv_bipush (v := (98 : Int32)) hx hb dX7_lives_40 (by decide) ?_
  refine lv_aload_n hx hb dX7_lives_42 rfl (lv_at hl 1 rfl) ?_
  refine lv_iload_n hx hb dX7_lives_43 rfl (lv_at hl 2 rfl) ?_
  refine q_callR q_E0ok (rest := [.int ((98 : Int32)), .ref (qm 13)]) ⟨hx, hb, hml, hown, hts⟩ (fun r hr => c7_backsOf l D cI qm m_images m_newMany m_at m_open m_steps m_use m_traced m_speaks m_isParted m_s_1 x1 n r hr) (cwV 1 hts gX7_lives_X7_backsOf rfl rfl rfl hdX7_backsOf (rmq_ok (Nat.le_of_ble_eq_true rfl) (Nat.le_of_ble_eq_true rfl))) hK hP hEv hS [0, 1] rfl (va_recv hK hP (ci := 7) (q0 := 0) rfl rfl) rfl rfl hl.1 (Nat.le_of_ble_eq_true rfl) ⟨Nat.zero_le _, Nat.zero_le _⟩ h dX7_lives_44 (fun t44 h => ?_)
  refine q_iast hx hb hK hP hD hS 4 0 rfl rfl h dX7_lives_47 (fun m_named_47 H locs h hP hD hS => ?_)
  have hP : va_P D vwCl [(qm 0, .inr (7, oX7 qm m_images m_newMany m_at m_open m_steps m_use m_traced m_speaks m_isParted)), (qm 1, .inl (cI, 3974, .inl m_s_1)), (qm 5, .inl (cI, 40, .inl m_newWord)), (qm 6, .inl (cI, 40, .inl m_newOrigin)), (qm 13, .inl (cI, 128, .inl m_named_47)), (qm 14, .inl (cI, 64, .inl m_pile)), (qm 16, .inl (cI, 60, .inl m_undoneBy))] H := hP
  have hD : va_D A [(qm 0, .inr (7, oX7 qm m_images m_newMany m_at m_open m_steps m_use m_traced m_speaks m_isParted)), (qm 1, .inl (cI, 3974, .inl m_s_1)), (qm 5, .inl (cI, 40, .inl m_newWord)), (qm 6, .inl (cI, 40, .inl m_newOrigin)), (qm 13, .inl (cI, 128, .inl m_named_47)), (qm 14, .inl (cI, 64, .inl m_pile)), (qm 16, .inl (cI, 60, .inl m_undoneBy))] := hD
  refine lv_aload_n hx hb dX7_lives_48 rfl (lv_at hl 1 rfl) ?_
  refine va_get (D := D) (ci := 7) (v := .ref (qm 13)) (C := RX7) (T := TX7) (N := 24) hx hb hts in7 hown hK hP 0 rfl rfl 12 (by decide) l28 (fun _ h9 => h9) rfl dX7_lives_49 ?_
  refine lv_bipush (v := (111 : Int32)) hx hb dX7_lives_52 (by decide) ?_
  refine lv_aload_n hx hb dX7_lives_54 rfl (lv_at hl 1 rfl) ?_
  refine lv_iload_n hx hb dX7_lives_55 rfl (lv_at hl 2 rfl) ?_
  refine q_callR q_E0ok (rest := [.int ((111 : Int32)), .ref (qm 13)]) ⟨hx, hb, hml, hown, hts⟩ (fun r hr => c7_wordsOf l D cI qm m_images m_newMany m_at m_open m_steps m_use m_traced m_speaks m_isParted m_s_1 x1 n r hr) (cwV 1 hts gX7_lives_X7_wordsOf rfl rfl rfl hdX7_wordsOf (rmq_ok (Nat.le_of_ble_eq_true rfl) (Nat.le_of_ble_eq_true rfl))) hK hP hEv hS [0, 1] rfl (va_recv hK hP (ci := 7) (q0 := 0) rfl rfl) rfl rfl hl.1 (Nat.le_of_ble_eq_true rfl) ⟨Nat.zero_le _, Nat.zero_le _⟩ h dX7_lives_56 (fun t56 h => ?_)
  refine q_iast hx hb hK hP hD hS 4 0 rfl rfl h dX7_lives_59 (fun m_named_59 H locs h hP hD hS => ?_)
  have hP : va_P D vwCl [(qm 0, .inr (7, oX7 qm m_images m_newMany m_at m_open m_steps m_use m_traced m_speaks m_isParted)), (qm 1, .inl (cI, 3974, .inl m_s_1)), (qm 5, .inl (cI, 40, .inl m_newWord)), (qm 6, .inl (cI, 40, .inl m_newOrigin)), (qm 13, .inl (cI, 128, .inl m_named_59)), (qm 14, .inl (cI, 64, .inl m_pile)), (qm 16, .inl (cI, 60, .inl m_undoneBy))] H := hP
  have hD : va_D A [(qm 0, .inr (7, oX7 qm m_images m_newMany m_at m_open m_steps m_use m_traced m_speaks m_isParted)), (qm 1, .inl (cI, 3974, .inl m_s_1)), (qm 5, .inl (cI, 40, .inl m_newWord)), (qm 6, .inl (cI, 40, .inl m_newOrigin)), (qm 13, .inl (cI, 128, .inl m_named_59)), (qm 14, .inl (cI, 64, .inl m_pile)), (qm 16, .inl (cI, 60, .inl m_undoneBy))] := hD
  refine lv_aload_n hx hb dX7_lives_60 rfl (lv_at hl 1 rfl) ?_
  refine va_get (D := D) (ci := 7) (v := .ref (qm 13)) (C := RX7) (T := TX7) (N := 24) hx hb hts in7 hown hK hP 0 rfl rfl 12 (by decide) l28 (fun _ h9 => h9) rfl dX7_lives_61 ?_
  refine lv_bipush (v := (114 : Int32)) hx hb dX7_lives_64 (by decide) ?_
  refine lv_iload_n hx hb dX7_lives_66 rfl (lv_at hl 0 rfl) ?_
  refine q_iast hx hb hK hP hD hS 4 0 rfl rfl h dX7_lives_67 (fun m_named_67 H locs h hP hD hS => ?_)
  have hP : va_P D vwCl [(qm 0, .inr (7, oX7 qm m_images m_newMany m_at m_open m_steps m_use m_traced m_speaks m_isParted)), (qm 1, .inl (cI, 3974, .inl m_s_1)), (qm 5, .inl (cI, 40, .inl m_newWord)), (qm 6, .inl (cI, 40, .inl m_newOrigin)), (qm 13, .inl (cI, 128, .inl m_named_67)), (qm 14, .inl (cI, 64, .inl m_pile)), (qm 16, .inl (cI, 60, .inl m_undoneBy))] H := hP
  have hD : va_D A [(qm 0, .inr (7, oX7 qm m_images m_newMany m_at m_open m_steps m_use m_traced m_speaks m_isParted)), (qm 1, .inl (cI, 3974, .inl m_s_1)), (qm 5, .inl (cI, 40, .inl m_newWord)), (qm 6, .inl (cI, 40, .inl m_newOrigin)), (qm 13, .inl (cI, 128, .inl m_named_67)), (qm 14, .inl (cI, 64, .inl m_pile)), (qm 16, .inl (cI, 60, .inl m_undoneBy))] := hD
  refine lv_aload_n hx hb dX7_lives_68 rfl (lv_at hl 1 rfl) ?_
  refine lv_iconst (v := (2 : Int32)) hx hb dX7_lives_69 (by decide) ?_
  refine lv_iload_n hx hb dX7_lives_70 rfl (lv_at hl 2 rfl) ?_
  refine lv_iadd hx hb dX7_lives_71 ?_
  refine q_callW2 q_E0ok (rest := []) (fun u => [(qm 0, .inr (7, oX7 qm m_images m_newMany m_at m_open m_steps m_use m_traced m_speaks m_isParted)), (qm 1, .inl (cI, 3974, .inl m_s_1)), (qm 13, .inl (cI, 128, .inl m_named_67)), (qm 14, .inl (cI, 64, .inl u.2))]) (fun u => u.1) ⟨hx, hb, hml, hown, hts⟩ (fun u hu => c7_worked l D cI qm m_images m_newMany m_at m_open m_steps m_use m_traced m_speaks m_isParted m_s_1 m_named_67 m_pile (((2 : Int32)) + x1) n u hu) (cwV 1 hts gX7_lives_X7_worked rfl rfl rfl hdX7_worked (rmq_ok (Nat.le_of_ble_eq_true rfl) (Nat.le_of_ble_eq_true rfl))) hK hEv hA hP hD hS [0, 1, 4, 5] (by decide) rfl (fun _ => rfl) (va_recv hK hP (ci := 7) (q0 := 0) rfl rfl) rfl rfl hl.1 (Nat.le_of_ble_eq_true rfl) ⟨Nat.zero_le _, Nat.zero_le _⟩ h dX7_lives_72 (fun t72 m_pile_72 H locs h hP hD hS => ?_)
  have hP : va_P D vwCl [(qm 0, .inr (7, oX7 qm m_images m_newMany m_at m_open m_steps m_use m_traced m_speaks m_isParted)), (qm 1, .inl (cI, 3974, .inl m_s_1)), (qm 5, .inl (cI, 40, .inl m_newWord)), (qm 6, .inl (cI, 40, .inl m_newOrigin)), (qm 13, .inl (cI, 128, .inl m_named_67)), (qm 14, .inl (cI, 64, .inl m_pile_72)), (qm 16, .inl (cI, 60, .inl m_undoneBy))] H := hP
  have hD : va_D A [(qm 0, .inr (7, oX7 qm m_images m_newMany m_at m_open m_steps m_use m_traced m_speaks m_isParted)), (qm 1, .inl (cI, 3974, .inl m_s_1)), (qm 5, .inl (cI, 40, .inl m_newWord)), (qm 6, .inl (cI, 40, .inl m_newOrigin)), (qm 13, .inl (cI, 128, .inl m_named_67)), (qm 14, .inl (cI, 64, .inl m_pile_72)), (qm 16, .inl (cI, 60, .inl m_undoneBy))] := hD
  refine lv_istore_n (lv' := [(3, .int t72), (2, .int x2_7), (0, .ref (qm 0)), (1, .int x1)]) hx hb dX7_lives_75 rfl hl (by decide) rfl (fun ls hl => ?_)
  refine lv_iload_n hx hb dX7_lives_76 rfl (lv_at hl 0 rfl) ?_
  refine lv_iconst (v := (1 : Int32)) hx hb dX7_lives_77 (by decide) ?_
  refine lv_iconst (v := (4 : Int32)) hx hb dX7_lives_78 (by decide) ?_
  refine q_callRS q_E0ok (rest := []) ⟨hx, hb, hml, hown, hts⟩ (fun r hr => c7_in l D cI t72 ((1 : Int32)) ((4 : Int32)) r hr) (va_cwS 3 hts gX7_lives_X7_in rfl rfl rfl hdX7_in (rmq_ok (Nat.le_of_ble_eq_true rfl) (Nat.le_of_ble_eq_true rfl))) hK hP hEv hS [] rfl rfl rfl hl.1 (Nat.le_of_ble_eq_true rfl) ⟨Nat.zero_le _, Nat.zero_le _⟩ h dX7_lives_79 (fun t79 h => ?_)
  refine q_ifeq hx hb 100 h dX7_lives_82 (by decide) (fun h => ?_) (fun h => ?_)
  · exact J100 m_newMany m_s_1 m_newWord m_newOrigin m_named_67 m_pile_72 m_undoneBy _ _ _ (lv_sub hl [2] rfl) hP hD hS h
  · refine lv_aload_n hx hb dX7_lives_85 rfl (lv_at hl 2 rfl) ?_
    refine q_callR q_E0ok (rest := []) ⟨hx, hb, hml, hown, hts⟩ (fun r hr => c7_isFull l D cI qm m_images m_newMany m_at m_open m_steps m_use m_traced m_speaks m_isParted m_s_1 r hr) (cwV 0 hts gX7_lives_X7_isFull rfl rfl rfl hdX7_isFull (rmq_ok (Nat.le_of_ble_eq_true rfl) (Nat.le_of_ble_eq_true rfl))) hK hP hEv hS [0, 1] rfl (va_recv hK hP (ci := 7) (q0 := 0) rfl rfl) rfl rfl hl.1 (Nat.le_of_ble_eq_true rfl) ⟨Nat.zero_le _, Nat.zero_le _⟩ h dX7_lives_86 (fun t86 h => ?_)
    refine q_ifne hx hb 100 h dX7_lives_89 (by decide) (fun h => ?_) (fun h => ?_)
    · exact J100 m_newMany m_s_1 m_newWord m_newOrigin m_named_67 m_pile_72 m_undoneBy _ _ _ (lv_sub hl [2] rfl) hP hD hS h
    · refine lv_aload_n hx hb dX7_lives_92 rfl (lv_at hl 2 rfl) ?_
      refine lv_iload_n hx hb dX7_lives_93 rfl (lv_at hl 3 rfl) ?_
      refine q_callW3 q_E0ok (rest := []) (fun u => [(qm 0, .inr (7, oX7 qm m_images m_newMany m_at m_open m_steps m_use m_traced m_speaks m_isParted)), (qm 1, .inl (cI, 3974, .inl m_s_1)), (qm 13, .inl (cI, 128, .inl u.2.1)), (qm 14, .inl (cI, 64, .inl u.2.2))]) (fun u => u.1) ⟨hx, hb, hml, hown, hts⟩ (fun u hu => c7_mayAct l D cI qm m_images m_newMany m_at m_open m_steps m_use m_traced m_speaks m_isParted m_s_1 m_named_67 m_pile_72 x1 n u hu) (cwV 1 hts gX7_lives_X7_mayAct rfl rfl rfl hdX7_mayAct (rmq_ok (Nat.le_of_ble_eq_true rfl) (Nat.le_of_ble_eq_true rfl))) hK hEv hA hP hD hS [0, 1, 4, 5] (by decide) rfl (fun _ => rfl) (va_recv hK hP (ci := 7) (q0 := 0) rfl rfl) rfl rfl hl.1 (Nat.le_of_ble_eq_true rfl) ⟨Nat.zero_le _, Nat.zero_le _⟩ h dX7_lives_94 (fun t94 m_named_94 m_pile_94 H locs h hP hD hS => ?_)
      have hP : va_P D vwCl [(qm 0, .inr (7, oX7 qm m_images m_newMany m_at m_open m_steps m_use m_traced m_speaks m_isParted)), (qm 1, .inl (cI, 3974, .inl m_s_1)), (qm 5, .inl (cI, 40, .inl m_newWord)), (qm 6, .inl (cI, 40, .inl m_newOrigin)), (qm 13, .inl (cI, 128, .inl m_named_94)), (qm 14, .inl (cI, 64, .inl m_pile_94)), (qm 16, .inl (cI, 60, .inl m_undoneBy))] H := hP
      have hD : va_D A [(qm 0, .inr (7, oX7 qm m_images m_newMany m_at m_open m_steps m_use m_traced m_speaks m_isParted)), (qm 1, .inl (cI, 3974, .inl m_s_1)), (qm 5, .inl (cI, 40, .inl m_newWord)), (qm 6, .inl (cI, 40, .inl m_newOrigin)), (qm 13, .inl (cI, 128, .inl m_named_94)), (qm 14, .inl (cI, 64, .inl m_pile_94)), (qm 16, .inl (cI, 60, .inl m_undoneBy))] := hD
      refine q_ifne hx hb 101 h dX7_lives_97 (by decide) (fun h => ?_) (fun h => ?_)
      · refine lv_iconst (v := (0 : Int32)) hx hb dX7_lives_101 (by decide) ?_
        refine lv_istore (lv' := [(4, .int ((0 : Int32))), (3, .int t72), (2, .int x2_7), (0, .ref (qm 0)), (1, .int x1)]) hx hb dX7_lives_102 hl (by decide) rfl (fun ls hl => ?_)
        refine lv_iload_n hx hb dX7_lives_104 rfl (lv_at hl 1 rfl) ?_
        refine lv_iconst (v := (1 : Int32)) hx hb dX7_lives_105 (by decide) ?_
        refine q_cne hx hb 136 h dX7_lives_106 (by decide) (fun h => ?_) (fun h => ?_)
        · exact J136 x1 t72 m_newMany m_s_1 m_newWord m_newOrigin m_named_94 m_pile_94 m_undoneBy _ _ _ (lv_sub hl [3, 4, 1] rfl) hP hD hS h
        · refine lv_aload_n hx hb dX7_lives_109 rfl (lv_at hl 3 rfl) ?_
          refine q_callR q_E0ok (rest := []) ⟨hx, hb, hml, hown, hts⟩ (fun r hr => c7_page l D cI qm m_images m_newMany m_at m_open m_steps m_use m_traced m_speaks m_isParted m_s_1 r hr) (cwV 0 hts gX7_lives_X7_page rfl rfl rfl hdX7_page (rmq_ok (Nat.le_of_ble_eq_true rfl) (Nat.le_of_ble_eq_true rfl))) hK hP hEv hS [0, 1] rfl (va_recv hK hP (ci := 7) (q0 := 0) rfl rfl) rfl rfl hl.1 (Nat.le_of_ble_eq_true rfl) ⟨Nat.zero_le _, Nat.zero_le _⟩ h dX7_lives_110 (fun t110 h => ?_)
          refine lv_bipush (v := (20 : Int32)) hx hb dX7_lives_113 (by decide) ?_
          refine q_cge hx hb 136 h dX7_lives_115 (by decide) (fun h => ?_) (fun h => ?_)
          · exact J136 x1 t72 m_newMany m_s_1 m_newWord m_newOrigin m_named_94 m_pile_94 m_undoneBy _ _ _ (lv_sub hl [3, 4, 1] rfl) hP hD hS h
          · refine lv_aload_n hx hb dX7_lives_118 rfl (lv_at hl 3 rfl) ?_
            refine lv_iconst (v := (1 : Int32)) hx hb dX7_lives_119 (by decide) ?_
            refine lv_iload_n hx hb dX7_lives_120 rfl (lv_at hl 4 rfl) ?_
            refine lv_aload_n hx hb dX7_lives_121 rfl (lv_at hl 3 rfl) ?_
            refine q_callR q_E0ok (rest := [.int x1, .int ((1 : Int32)), .ref (qm 0)]) ⟨hx, hb, hml, hown, hts⟩ (fun r hr => c7_page l D cI qm m_images m_newMany m_at m_open m_steps m_use m_traced m_speaks m_isParted m_s_1 r hr) (cwV 0 hts gX7_lives_X7_page rfl rfl rfl hdX7_page (rmq_ok (Nat.le_of_ble_eq_true rfl) (Nat.le_of_ble_eq_true rfl))) hK hP hEv hS [0, 1] rfl (va_recv hK hP (ci := 7) (q0 := 0) rfl rfl) rfl rfl hl.1 (Nat.le_of_ble_eq_true rfl) ⟨Nat.zero_le _, Nat.zero_le _⟩ h dX7_lives_122 (fun t122 h => ?_)
            refine lv_iload_n hx hb dX7_lives_125 rfl (lv_at hl 4 rfl) ?_
            refine lv_iconst (v := (1 : Int32)) hx hb dX7_lives_126 (by decide) ?_
            refine lv_iadd hx hb dX7_lives_127 ?_
            refine q_callW8 q_E0ok (rest := []) (fun u => [(qm 0, .inr (7, oX7 qm m_images u.2.1 m_at m_open m_steps m_use m_traced m_speaks m_isParted)), (qm 1, .inl (cI, 3974, .inl u.2.2.1)), (qm 5, .inl (cI, 40, .inl u.2.2.2.1)), (qm 6, .inl (cI, 40, .inl u.2.2.2.2.1)), (qm 13, .inl (cI, 128, .inl u.2.2.2.2.2.1)), (qm 14, .inl (cI, 64, .inl u.2.2.2.2.2.2.1)), (qm 16, .inl (cI, 60, .inl u.2.2.2.2.2.2.2))]) (fun u => u.1) ⟨hx, hb, hml, hown, hts⟩ (fun u hu => c7_writes l D cI qm m_images m_newMany m_at m_open m_steps m_use m_traced m_speaks m_isParted m_s_1 m_newWord m_newOrigin m_named_94 m_pile_94 m_undoneBy ((1 : Int32)) x1 t122 (x1 + ((1 : Int32))) n u hu) (cwV 4 hts gX7_lives_X7_writes rfl rfl rfl hdX7_writes (rmq_ok (Nat.le_of_ble_eq_true rfl) (Nat.le_of_ble_eq_true rfl))) hK hEv hA hP hD hS [0, 1, 2, 3, 4, 5, 6] (by decide) rfl (fun _ => rfl) (va_recv hK hP (ci := 7) (q0 := 0) rfl rfl) rfl rfl hl.1 (Nat.le_of_ble_eq_true rfl) ⟨Nat.zero_le _, Nat.zero_le _⟩ h dX7_lives_128 (fun t128 m_newMany_128 m_s_128 m_newWord_128 m_newOrigin_128 m_named_128 m_pile_128 m_undoneBy_128 H locs h hP hD hS => ?_)
            have hP : va_P D vwCl [(qm 0, .inr (7, oX7 qm m_images m_newMany_128 m_at m_open m_steps m_use m_traced m_speaks m_isParted)), (qm 1, .inl (cI, 3974, .inl m_s_128)), (qm 5, .inl (cI, 40, .inl m_newWord_128)), (qm 6, .inl (cI, 40, .inl m_newOrigin_128)), (qm 13, .inl (cI, 128, .inl m_named_128)), (qm 14, .inl (cI, 64, .inl m_pile_128)), (qm 16, .inl (cI, 60, .inl m_undoneBy_128))] H := hP
            have hD : va_D A [(qm 0, .inr (7, oX7 qm m_images m_newMany_128 m_at m_open m_steps m_use m_traced m_speaks m_isParted)), (qm 1, .inl (cI, 3974, .inl m_s_128)), (qm 5, .inl (cI, 40, .inl m_newWord_128)), (qm 6, .inl (cI, 40, .inl m_newOrigin_128)), (qm 13, .inl (cI, 128, .inl m_named_128)), (qm 14, .inl (cI, 64, .inl m_pile_128)), (qm 16, .inl (cI, 60, .inl m_undoneBy_128))] := hD
            refine lv_istore (lv' := [(4, .int t128), (3, .int t72), (2, .int x2_7), (0, .ref (qm 0)), (1, .int x1)]) hx hb dX7_lives_131 hl (by decide) rfl (fun ls hl => ?_)
            refine lv_goto (tgt := 207) hx hb dX7_lives_133 (by decide) ?_
            exact J207 m_newMany_128 m_s_128 m_newWord_128 m_newOrigin_128 m_named_128 m_pile_128 m_undoneBy_128 _ _ _ (lv_sub hl [3] rfl) hP hD hS h
      · exact J100 m_newMany m_s_1 m_newWord m_newOrigin m_named_94 m_pile_94 m_undoneBy _ _ _ (lv_sub hl [2] rfl) hP hD hS h
set_option maxHeartbeats 4000000 in
set_option maxRecDepth 100000 in
theorem c7_live (l : Launch) (D : va_G) (cI : ClassId) (qm : Nat → Nat) (m_images m_newMany m_at m_open m_steps m_use m_traced m_speaks m_isParted : Int32) (m_s m_errors m_newWord m_newOrigin m_named m_pile m_undoneBy : Nat → Int32) (x1 : Int32) (n : Nat) (u : Int32 × Int32 × (Nat → Int32) × (Nat → Int32) × (Nat → Int32) × (Nat → Int32) × (Nat → Int32) × (Nat → Int32) × (Nat → Int32)) (h : f7_live n x1 m_newMany m_s m_errors m_newWord m_newOrigin m_named m_pile m_undoneBy = some u) : q_RW q_E0 l yX7_live wsX7_live (rmq (6)) D cI [.ref (qm 0), .int x1] [(qm 0, .inr (7, oX7 qm m_images m_newMany m_at m_open m_steps m_use m_traced m_speaks m_isParted)), (qm 1, .inl (cI, 3974, .inl m_s)), (qm 4, .inl (cI, 7, .inl m_errors)), (qm 5, .inl (cI, 40, .inl m_newWord)), (qm 6, .inl (cI, 40, .inl m_newOrigin)), (qm 13, .inl (cI, 128, .inl m_named)), (qm 14, .inl (cI, 64, .inl m_pile)), (qm 16, .inl (cI, 60, .inl m_undoneBy))] [(qm 0, .inr (7, oX7 qm m_images u.2.1 m_at m_open m_steps m_use m_traced m_speaks m_isParted)), (qm 1, .inl (cI, 3974, .inl u.2.2.1)), (qm 4, .inl (cI, 7, .inl u.2.2.2.1)), (qm 5, .inl (cI, 40, .inl u.2.2.2.2.1)), (qm 6, .inl (cI, 40, .inl u.2.2.2.2.2.1)), (qm 13, .inl (cI, 128, .inl u.2.2.2.2.2.2.1)), (qm 14, .inl (cI, 64, .inl u.2.2.2.2.2.2.2.1)), (qm 16, .inl (cI, 60, .inl u.2.2.2.2.2.2.2.2))] u.1 := by
  refine q_startW (fun u : Int32 × Int32 × (Nat → Int32) × (Nat → Int32) × (Nat → Int32) × (Nat → Int32) × (Nat → Int32) × (Nat → Int32) × (Nat → Int32) => [(qm 0, .inr (7, oX7 qm m_images u.2.1 m_at m_open m_steps m_use m_traced m_speaks m_isParted)), (qm 1, .inl (cI, 3974, .inl u.2.2.1)), (qm 4, .inl (cI, 7, .inl u.2.2.2.1)), (qm 5, .inl (cI, 40, .inl u.2.2.2.2.1)), (qm 6, .inl (cI, 40, .inl u.2.2.2.2.2.1)), (qm 13, .inl (cI, 128, .inl u.2.2.2.2.2.2.1)), (qm 14, .inl (cI, 64, .inl u.2.2.2.2.2.2.2.1)), (qm 16, .inl (cI, 60, .inl u.2.2.2.2.2.2.2.2))]) (fun u => u.1) (cc := cX7_live) (maxL := 4) (ty := .int) (own := RX7) (by decide) rfl rfl (Nat.le_of_ble_eq_true rfl) rfl (fun p e s m args below meth c Q A hx hb hml hown hts hK hEv hA hret hP hD hS ls hl => ?_)
  have in7 : ∀ w ∈ wsX70, w ∈ wsX7_live := fun w h => List.mem_cons_of_mem _ (List.mem_append_right _ (h))
  have l7 := hts (.fieldLink RX7 7 "PageWarsModel" "s" "[I") (List.mem_of_getElem? (i := 1) rfl)
  have J38 : ∀ (kk38 : Nat) (x1 : Int32) (x2 : Int32) (m_newMany : Int32) (m_s : (Nat → Int32)) (m_errors : (Nat → Int32)) (m_newWord : (Nat → Int32)) (m_newOrigin : (Nat → Int32)) (m_named : (Nat → Int32)) (m_pile : (Nat → Int32)) (m_undoneBy : (Nat → Int32)) (H : Heap) (locs : List Loc) (ls : Array Slot), lv_has ls 4 [(0, .ref (qm 0)), (1, .int x1), (2, .int x2)] → va_P D vwCl [(qm 0, .inr (7, oX7 qm m_images m_newMany m_at m_open m_steps m_use m_traced m_speaks m_isParted)), (qm 1, .inl (cI, 3974, .inl m_s)), (qm 4, .inl (cI, 7, .inl m_errors)), (qm 5, .inl (cI, 40, .inl m_newWord)), (qm 6, .inl (cI, 40, .inl m_newOrigin)), (qm 13, .inl (cI, 128, .inl m_named)), (qm 14, .inl (cI, 64, .inl m_pile)), (qm 16, .inl (cI, 60, .inl m_undoneBy))] H → va_D A [(qm 0, .inr (7, oX7 qm m_images m_newMany m_at m_open m_steps m_use m_traced m_speaks m_isParted)), (qm 1, .inl (cI, 3974, .inl m_s)), (qm 4, .inl (cI, 7, .inl m_errors)), (qm 5, .inl (cI, 40, .inl m_newWord)), (qm 6, .inl (cI, 40, .inl m_newOrigin)), (qm 13, .inl (cI, 128, .inl m_named)), (qm 14, .inl (cI, 64, .inl m_pile)), (qm 16, .inl (cI, 60, .inl m_undoneBy))] → va_S A s.heap H locs → f7_live_38 n kk38 x1 x2 m_newMany m_s m_errors m_newWord m_newOrigin m_named m_pile m_undoneBy = some u → W p l e (rmq (6)) s m args below meth c H locs 0 0 Q (F0 m 38 ls []) := by
    intro kk38
    induction kk38 with
    | zero => intro x1 x2 m_newMany m_s m_errors m_newWord m_newOrigin m_named m_pile m_undoneBy H locs ls hl hP hD hS h; exact nomatch (show (none : Option (Int32 × Int32 × (Nat → Int32) × (Nat → Int32) × (Nat → Int32) × (Nat → Int32) × (Nat → Int32) × (Nat → Int32) × (Nat → Int32))) = some u from h)
    | succ kk38 ih38 =>
      have J45 : ∀ (kk45 : Nat) (x1 : Int32) (x2 : Int32) (x3 : Int32) (m_newMany : Int32) (m_s : (Nat → Int32)) (m_errors : (Nat → Int32)) (m_newWord : (Nat → Int32)) (m_newOrigin : (Nat → Int32)) (m_named : (Nat → Int32)) (m_pile : (Nat → Int32)) (m_undoneBy : (Nat → Int32)) (H : Heap) (locs : List Loc) (ls : Array Slot), lv_has ls 4 [(0, .ref (qm 0)), (1, .int x1), (2, .int x2), (3, .int x3)] → va_P D vwCl [(qm 0, .inr (7, oX7 qm m_images m_newMany m_at m_open m_steps m_use m_traced m_speaks m_isParted)), (qm 1, .inl (cI, 3974, .inl m_s)), (qm 4, .inl (cI, 7, .inl m_errors)), (qm 5, .inl (cI, 40, .inl m_newWord)), (qm 6, .inl (cI, 40, .inl m_newOrigin)), (qm 13, .inl (cI, 128, .inl m_named)), (qm 14, .inl (cI, 64, .inl m_pile)), (qm 16, .inl (cI, 60, .inl m_undoneBy))] H → va_D A [(qm 0, .inr (7, oX7 qm m_images m_newMany m_at m_open m_steps m_use m_traced m_speaks m_isParted)), (qm 1, .inl (cI, 3974, .inl m_s)), (qm 4, .inl (cI, 7, .inl m_errors)), (qm 5, .inl (cI, 40, .inl m_newWord)), (qm 6, .inl (cI, 40, .inl m_newOrigin)), (qm 13, .inl (cI, 128, .inl m_named)), (qm 14, .inl (cI, 64, .inl m_pile)), (qm 16, .inl (cI, 60, .inl m_undoneBy))] → va_S A s.heap H locs → f7_live_45 n (f7_live_38 n kk38) kk45 x1 x2 x3 m_newMany m_s m_errors m_newWord m_newOrigin m_named m_pile m_undoneBy = some u → W p l e (rmq (6)) s m args below meth c H locs 0 0 Q (F0 m 45 ls []) := by
        intro kk45
        induction kk45 with
        | zero => intro x1 x2 x3 m_newMany m_s m_errors m_newWord m_newOrigin m_named m_pile m_undoneBy H locs ls hl hP hD hS h; exact nomatch (show (none : Option (Int32 × Int32 × (Nat → Int32) × (Nat → Int32) × (Nat → Int32) × (Nat → Int32) × (Nat → Int32) × (Nat → Int32) × (Nat → Int32))) = some u from h)
        | succ kk45 ih45 =>
          have J66 : ∀ (x1 : Int32) (x2 : Int32) (x3 : Int32) (m_newMany : Int32) (m_s : (Nat → Int32)) (m_errors : (Nat → Int32)) (m_newWord : (Nat → Int32)) (m_newOrigin : (Nat → Int32)) (m_named : (Nat → Int32)) (m_pile : (Nat → Int32)) (m_undoneBy : (Nat → Int32)) (H : Heap) (locs : List Loc) (ls : Array Slot), lv_has ls 4 [(0, .ref (qm 0)), (1, .int x1), (2, .int x2), (3, .int x3)] → va_P D vwCl [(qm 0, .inr (7, oX7 qm m_images m_newMany m_at m_open m_steps m_use m_traced m_speaks m_isParted)), (qm 1, .inl (cI, 3974, .inl m_s)), (qm 4, .inl (cI, 7, .inl m_errors)), (qm 5, .inl (cI, 40, .inl m_newWord)), (qm 6, .inl (cI, 40, .inl m_newOrigin)), (qm 13, .inl (cI, 128, .inl m_named)), (qm 14, .inl (cI, 64, .inl m_pile)), (qm 16, .inl (cI, 60, .inl m_undoneBy))] H → va_D A [(qm 0, .inr (7, oX7 qm m_images m_newMany m_at m_open m_steps m_use m_traced m_speaks m_isParted)), (qm 1, .inl (cI, 3974, .inl m_s)), (qm 4, .inl (cI, 7, .inl m_errors)), (qm 5, .inl (cI, 40, .inl m_newWord)), (qm 6, .inl (cI, 40, .inl m_newOrigin)), (qm 13, .inl (cI, 128, .inl m_named)), (qm 14, .inl (cI, 64, .inl m_pile)), (qm 16, .inl (cI, 60, .inl m_undoneBy))] → va_S A s.heap H locs → f7_live_66 n (f7_live_38 n kk38) (f7_live_45 n (f7_live_38 n kk38) kk45) x1 x2 x3 m_newMany m_s m_errors m_newWord m_newOrigin m_named m_pile m_undoneBy = some u → W p l e (rmq (6)) s m args below meth c H locs 0 0 Q (F0 m 66 ls []) := by
            intro x1 x2 x3 m_newMany m_s m_errors m_newWord m_newOrigin m_named m_pile m_undoneBy H locs ls hl hP hD hS h
            unfold f7_live_66 at h
            refine q_iinc (fun v => [(3, .int v), (0, .ref (qm 0)), (1, .int x1), (2, .int x2)]) hx hb h dX7_live_66 (by decide) hl (k := 3) rfl (by decide) (fun _ => rfl) (fun x3_66 ls h hl => ?_)
            refine lv_goto (tgt := 45) hx hb dX7_live_69 (by decide) ?_
            exact ih45 x1 x2 x3_66 m_newMany m_s m_errors m_newWord m_newOrigin m_named m_pile m_undoneBy _ _ _ (lv_sub hl [1, 2, 3, 0] rfl) hP hD hS h
          intro x1 x2 x3 m_newMany m_s m_errors m_newWord m_newOrigin m_named m_pile m_undoneBy H locs ls hl hP hD hS h
          rw [f7_live_45.eq_2] at h
          refine lv_iload_n hx hb dX7_live_45 rfl (lv_at hl 3 rfl) ?_
          refine lv_bipush (v := (6 : Int32)) hx hb dX7_live_46 (by decide) ?_
          refine q_cge hx hb 72 h dX7_live_48 (by decide) (fun h => ?_) (fun h => ?_)
          · refine lv_aload_n hx hb dX7_live_72 rfl (lv_at hl 0 rfl) ?_
            refine va_get (D := D) (ci := 7) (v := .ref (qm 1)) (C := RX7) (T := TX7) (N := 24) hx hb hts in7 hown hK hP 0 rfl rfl 0 (by decide) l7 (fun _ h9 => h9) rfl dX7_live_73 ?_
            refine lv_iconst (v := (0 : Int32)) hx hb dX7_live_76 (by decide) ?_
            refine lv_dup2_11 hx hb dX7_live_77 rfl rfl ?_
            refine q_iald hx hb hK hP 1 0 rfl rfl h dX7_live_78 (fun t78 h => ?_)
            refine lv_iconst (v := (1 : Int32)) hx hb dX7_live_79 (by decide) ?_
            refine lv_iadd hx hb dX7_live_80 ?_
            refine q_iast hx hb hK hP hD hS 1 0 rfl rfl h dX7_live_81 (fun m_s_81 H locs h hP hD hS => ?_)
            have hP : va_P D vwCl [(qm 0, .inr (7, oX7 qm m_images m_newMany m_at m_open m_steps m_use m_traced m_speaks m_isParted)), (qm 1, .inl (cI, 3974, .inl m_s_81)), (qm 4, .inl (cI, 7, .inl m_errors)), (qm 5, .inl (cI, 40, .inl m_newWord)), (qm 6, .inl (cI, 40, .inl m_newOrigin)), (qm 13, .inl (cI, 128, .inl m_named)), (qm 14, .inl (cI, 64, .inl m_pile)), (qm 16, .inl (cI, 60, .inl m_undoneBy))] H := hP
            have hD : va_D A [(qm 0, .inr (7, oX7 qm m_images m_newMany m_at m_open m_steps m_use m_traced m_speaks m_isParted)), (qm 1, .inl (cI, 3974, .inl m_s_81)), (qm 4, .inl (cI, 7, .inl m_errors)), (qm 5, .inl (cI, 40, .inl m_newWord)), (qm 6, .inl (cI, 40, .inl m_newOrigin)), (qm 13, .inl (cI, 128, .inl m_named)), (qm 14, .inl (cI, 64, .inl m_pile)), (qm 16, .inl (cI, 60, .inl m_undoneBy))] := hD
            refine q_iinc (fun v => [(2, .int v), (0, .ref (qm 0)), (1, .int x1), (3, .int x3)]) hx hb h dX7_live_82 (by decide) hl (k := 2) rfl (by decide) (fun _ => rfl) (fun x2_82 ls h hl => ?_)
            refine lv_goto (tgt := 38) hx hb dX7_live_85 (by decide) ?_
            exact ih38 x1 x2_82 m_newMany m_s_81 m_errors m_newWord m_newOrigin m_named m_pile m_undoneBy _ _ _ (lv_sub hl [1, 2, 0] rfl) hP hD hS h
          · refine lv_aload_n hx hb dX7_live_51 rfl (lv_at hl 0 rfl) ?_
            refine lv_iconst (v := (2 : Int32)) hx hb dX7_live_52 (by decide) ?_
            refine lv_iload_n hx hb dX7_live_53 rfl (lv_at hl 3 rfl) ?_
            refine lv_iadd hx hb dX7_live_54 ?_
            refine q_callR q_E0ok (rest := []) ⟨hx, hb, hml, hown, hts⟩ (fun r hr => c7_hasText l D cI qm m_images m_newMany m_at m_open m_steps m_use m_traced m_speaks m_isParted m_s (((2 : Int32)) + x3) r hr) (cwV 1 hts gX7_live_X7_hasText rfl rfl rfl hdX7_hasText (rmq_ok (Nat.le_of_ble_eq_true rfl) (Nat.le_of_ble_eq_true rfl))) hK hP hEv hS [0, 1] rfl (va_recv hK hP (ci := 7) (q0 := 0) rfl rfl) rfl rfl hl.1 (Nat.le_of_ble_eq_true rfl) ⟨Nat.zero_le _, Nat.zero_le _⟩ h dX7_live_55 (fun t55 h => ?_)
            refine q_ifeq hx hb 66 h dX7_live_58 (by decide) (fun h => ?_) (fun h => ?_)
            · exact J66 x1 x2 x3 m_newMany m_s m_errors m_newWord m_newOrigin m_named m_pile m_undoneBy _ _ _ (lv_sub hl [0, 1, 2, 3] rfl) hP hD hS h
            · refine lv_aload_n hx hb dX7_live_61 rfl (lv_at hl 0 rfl) ?_
              refine lv_iload_n hx hb dX7_live_62 rfl (lv_at hl 3 rfl) ?_
              refine q_callV7 q_E0ok (rest := []) (fun u => [(qm 0, .inr (7, oX7 qm m_images u.1 m_at m_open m_steps m_use m_traced m_speaks m_isParted)), (qm 1, .inl (cI, 3974, .inl u.2.1)), (qm 5, .inl (cI, 40, .inl u.2.2.1)), (qm 6, .inl (cI, 40, .inl u.2.2.2.1)), (qm 13, .inl (cI, 128, .inl u.2.2.2.2.1)), (qm 14, .inl (cI, 64, .inl u.2.2.2.2.2.1)), (qm 16, .inl (cI, 60, .inl u.2.2.2.2.2.2))]) ⟨hx, hb, hml, hown, hts⟩ (fun u hu => c7_lives l D cI qm m_images m_newMany m_at m_open m_steps m_use m_traced m_speaks m_isParted m_s m_newWord m_newOrigin m_named m_pile m_undoneBy x3 n u hu) (cwV 1 hts gX7_live_X7_lives rfl rfl rfl hdX7_lives (rmq_ok (Nat.le_of_ble_eq_true rfl) (Nat.le_of_ble_eq_true rfl))) hK hEv hA hP hD hS [0, 1, 3, 4, 5, 6, 7] (by decide) rfl (fun _ => rfl) (va_recv hK hP (ci := 7) (q0 := 0) rfl rfl) rfl rfl hl.1 (Nat.le_of_ble_eq_true rfl) ⟨Nat.zero_le _, Nat.zero_le _⟩ h dX7_live_63 (fun m_newMany_63 m_s_63 m_newWord_63 m_newOrigin_63 m_named_63 m_pile_63 m_undoneBy_63 H locs h hP hD hS => ?_)
              have hP : va_P D vwCl [(qm 0, .inr (7, oX7 qm m_images m_newMany_63 m_at m_open m_steps m_use m_traced m_speaks m_isParted)), (qm 1, .inl (cI, 3974, .inl m_s_63)), (qm 4, .inl (cI, 7, .inl m_errors)), (qm 5, .inl (cI, 40, .inl m_newWord_63)), (qm 6, .inl (cI, 40, .inl m_newOrigin_63)), (qm 13, .inl (cI, 128, .inl m_named_63)), (qm 14, .inl (cI, 64, .inl m_pile_63)), (qm 16, .inl (cI, 60, .inl m_undoneBy_63))] H := hP
              have hD : va_D A [(qm 0, .inr (7, oX7 qm m_images m_newMany_63 m_at m_open m_steps m_use m_traced m_speaks m_isParted)), (qm 1, .inl (cI, 3974, .inl m_s_63)), (qm 4, .inl (cI, 7, .inl m_errors)), (qm 5, .inl (cI, 40, .inl m_newWord_63)), (qm 6, .inl (cI, 40, .inl m_newOrigin_63)), (qm 13, .inl (cI, 128, .inl m_named_63)), (qm 14, .inl (cI, 64, .inl m_pile_63)), (qm 16, .inl (cI, 60, .inl m_undoneBy_63))] := hD
              exact J66 x1 x2 x3 m_newMany_63 m_s_63 m_errors m_newWord_63 m_newOrigin_63 m_named_63 m_pile_63 m_undoneBy_63 _ _ _ (lv_sub hl [0, 1, 2, 3] rfl) hP hD hS h
      intro x1 x2 m_newMany m_s m_errors m_newWord m_newOrigin m_named m_pile m_undoneBy H locs ls hl hP hD hS h
      rw [f7_live_38.eq_2] at h
      refine lv_iload_n hx hb dX7_live_38 rfl (lv_at hl 2 rfl) ?_
      refine lv_iload_n hx hb dX7_live_39 rfl (lv_at hl 1 rfl) ?_
      refine q_cge hx hb 88 h dX7_live_40 (by decide) (fun h => ?_) (fun h => ?_)
      · refine lv_aload_n hx hb dX7_live_88 rfl (lv_at hl 0 rfl) ?_
        refine va_get (D := D) (ci := 7) (v := .ref (qm 1)) (C := RX7) (T := TX7) (N := 24) hx hb hts in7 hown hK hP 0 rfl rfl 0 (by decide) l7 (fun _ h9 => h9) rfl dX7_live_89 ?_
        refine lv_iconst (v := (0 : Int32)) hx hb dX7_live_92 (by decide) ?_
        refine q_iald hx hb hK hP 1 0 rfl rfl h dX7_live_93 (fun t93 h => ?_)
        exact hret (t93, m_newMany, m_s, m_errors, m_newWord, m_newOrigin, m_named, m_pile, m_undoneBy) _ _ _ _ (vp_nar_int _) h hP hD hS dX7_live_94
      · refine lv_iconst (v := (0 : Int32)) hx hb dX7_live_43 (by decide) ?_
        refine lv_istore_n (lv' := [(3, .int ((0 : Int32))), (0, .ref (qm 0)), (1, .int x1), (2, .int x2)]) hx hb dX7_live_44 rfl hl (by decide) rfl (fun ls hl => ?_)
        exact J45 n x1 x2 ((0 : Int32)) m_newMany m_s m_errors m_newWord m_newOrigin m_named m_pile m_undoneBy _ _ _ (lv_sub hl [1, 2, 3, 0] rfl) hP hD hS h
  unfold f7_live at h
  refine lv_iload_n hx hb dX7_live_0 rfl (lv_at hl 1 rfl) ?_
  refine lv_iconst (v := (1 : Int32)) hx hb dX7_live_1 (by decide) ?_
  refine lv_bipush (v := (60 : Int32)) hx hb dX7_live_2 (by decide) ?_
  refine q_callRS q_E0ok (rest := []) ⟨hx, hb, hml, hown, hts⟩ (fun r hr => c7_in l D cI x1 ((1 : Int32)) ((60 : Int32)) r hr) (va_cwS 3 hts gX7_live_X7_in rfl rfl rfl hdX7_in (rmq_ok (Nat.le_of_ble_eq_true rfl) (Nat.le_of_ble_eq_true rfl))) hK hP hEv hS [] rfl rfl rfl hl.1 (Nat.le_of_ble_eq_true rfl) ⟨Nat.zero_le _, Nat.zero_le _⟩ h dX7_live_4 (fun t4 h => ?_)
  refine q_ifne hx hb 16 h dX7_live_7 (by decide) (fun h => ?_) (fun h => ?_)
  · refine lv_aload_n hx hb dX7_live_16 rfl (lv_at hl 0 rfl) ?_
    refine va_get (D := D) (ci := 7) (v := .ref (qm 1)) (C := RX7) (T := TX7) (N := 24) hx hb hts in7 hown hK hP 0 rfl rfl 0 (by decide) l7 (fun _ h9 => h9) rfl dX7_live_17 ?_
    refine lv_iconst (v := (0 : Int32)) hx hb dX7_live_20 (by decide) ?_
    refine q_iald hx hb hK hP 1 0 rfl rfl h dX7_live_21 (fun t21 h => ?_)
    refine lv_iload_n hx hb dX7_live_22 rfl (lv_at hl 1 rfl) ?_
    refine lv_iadd hx hb dX7_live_23 ?_
    refine lv_sipush (v := (29999 : Int32)) hx hb dX7_live_24 (by decide) ?_
    refine q_cle hx hb 36 h dX7_live_27 (by decide) (fun h => ?_) (fun h => ?_)
    · refine lv_iconst (v := (0 : Int32)) hx hb dX7_live_36 (by decide) ?_
      refine lv_istore_n (lv' := [(2, .int ((0 : Int32))), (0, .ref (qm 0)), (1, .int x1)]) hx hb dX7_live_37 rfl hl (by decide) rfl (fun ls hl => ?_)
      exact J38 n x1 ((0 : Int32)) m_newMany m_s m_errors m_newWord m_newOrigin m_named m_pile m_undoneBy _ _ _ (lv_sub hl [1, 2, 0] rfl) hP hD hS h
    · refine lv_aload_n hx hb dX7_live_30 rfl (lv_at hl 0 rfl) ?_
      refine lv_iconst (v := (3 : Int32)) hx hb dX7_live_31 (by decide) ?_
      refine q_callW2 q_E0ok (rest := []) (fun u => [(qm 0, .inr (7, oX7 qm m_images m_newMany m_at m_open m_steps m_use m_traced m_speaks m_isParted)), (qm 4, .inl (cI, 7, .inl u.2))]) (fun u => u.1) ⟨hx, hb, hml, hown, hts⟩ (fun u hu => c7_error l D cI qm m_images m_newMany m_at m_open m_steps m_use m_traced m_speaks m_isParted m_errors ((3 : Int32)) u hu) (cwV 1 hts gX7_live_X7_error rfl rfl rfl hdX7_error (rmq_ok (Nat.le_of_ble_eq_true rfl) (Nat.le_of_ble_eq_true rfl))) hK hEv hA hP hD hS [0, 2] (by decide) rfl (fun _ => rfl) (va_recv hK hP (ci := 7) (q0 := 0) rfl rfl) rfl rfl hl.1 (Nat.le_of_ble_eq_true rfl) ⟨Nat.zero_le _, Nat.zero_le _⟩ h dX7_live_32 (fun t32 m_errors_32 H locs h hP hD hS => ?_)
      have hP : va_P D vwCl [(qm 0, .inr (7, oX7 qm m_images m_newMany m_at m_open m_steps m_use m_traced m_speaks m_isParted)), (qm 1, .inl (cI, 3974, .inl m_s)), (qm 4, .inl (cI, 7, .inl m_errors_32)), (qm 5, .inl (cI, 40, .inl m_newWord)), (qm 6, .inl (cI, 40, .inl m_newOrigin)), (qm 13, .inl (cI, 128, .inl m_named)), (qm 14, .inl (cI, 64, .inl m_pile)), (qm 16, .inl (cI, 60, .inl m_undoneBy))] H := hP
      have hD : va_D A [(qm 0, .inr (7, oX7 qm m_images m_newMany m_at m_open m_steps m_use m_traced m_speaks m_isParted)), (qm 1, .inl (cI, 3974, .inl m_s)), (qm 4, .inl (cI, 7, .inl m_errors_32)), (qm 5, .inl (cI, 40, .inl m_newWord)), (qm 6, .inl (cI, 40, .inl m_newOrigin)), (qm 13, .inl (cI, 128, .inl m_named)), (qm 14, .inl (cI, 64, .inl m_pile)), (qm 16, .inl (cI, 60, .inl m_undoneBy))] := hD
      exact hret (t32, m_newMany, m_s, m_errors_32, m_newWord, m_newOrigin, m_named, m_pile, m_undoneBy) _ _ _ _ (vp_nar_int _) h hP hD hS dX7_live_35
  · refine lv_aload_n hx hb dX7_live_10 rfl (lv_at hl 0 rfl) ?_
    refine lv_iconst (v := (1 : Int32)) hx hb dX7_live_11 (by decide) ?_
    refine q_callW2 q_E0ok (rest := []) (fun u => [(qm 0, .inr (7, oX7 qm m_images m_newMany m_at m_open m_steps m_use m_traced m_speaks m_isParted)), (qm 4, .inl (cI, 7, .inl u.2))]) (fun u => u.1) ⟨hx, hb, hml, hown, hts⟩ (fun u hu => c7_error l D cI qm m_images m_newMany m_at m_open m_steps m_use m_traced m_speaks m_isParted m_errors ((1 : Int32)) u hu) (cwV 1 hts gX7_live_X7_error rfl rfl rfl hdX7_error (rmq_ok (Nat.le_of_ble_eq_true rfl) (Nat.le_of_ble_eq_true rfl))) hK hEv hA hP hD hS [0, 2] (by decide) rfl (fun _ => rfl) (va_recv hK hP (ci := 7) (q0 := 0) rfl rfl) rfl rfl hl.1 (Nat.le_of_ble_eq_true rfl) ⟨Nat.zero_le _, Nat.zero_le _⟩ h dX7_live_12 (fun t12 m_errors_12 H locs h hP hD hS => ?_)
    have hP : va_P D vwCl [(qm 0, .inr (7, oX7 qm m_images m_newMany m_at m_open m_steps m_use m_traced m_speaks m_isParted)), (qm 1, .inl (cI, 3974, .inl m_s)), (qm 4, .inl (cI, 7, .inl m_errors_12)), (qm 5, .inl (cI, 40, .inl m_newWord)), (qm 6, .inl (cI, 40, .inl m_newOrigin)), (qm 13, .inl (cI, 128, .inl m_named)), (qm 14, .inl (cI, 64, .inl m_pile)), (qm 16, .inl (cI, 60, .inl m_undoneBy))] H := hP
    have hD : va_D A [(qm 0, .inr (7, oX7 qm m_images m_newMany m_at m_open m_steps m_use m_traced m_speaks m_isParted)), (qm 1, .inl (cI, 3974, .inl m_s)), (qm 4, .inl (cI, 7, .inl m_errors_12)), (qm 5, .inl (cI, 40, .inl m_newWord)), (qm 6, .inl (cI, 40, .inl m_newOrigin)), (qm 13, .inl (cI, 128, .inl m_named)), (qm 14, .inl (cI, 64, .inl m_pile)), (qm 16, .inl (cI, 60, .inl m_undoneBy))] := hD
    exact hret (t12, m_newMany, m_s, m_errors_12, m_newWord, m_newOrigin, m_named, m_pile, m_undoneBy) _ _ _ _ (vp_nar_int _) h hP hD hS dX7_live_15
set_option maxHeartbeats 4000000 in
set_option maxRecDepth 100000 in
theorem c7_seed (l : Launch) (D : va_G) (cI : ClassId) (qm : Nat → Nat) (m_images m_newMany m_at m_open m_steps m_use m_traced m_speaks m_isParted : Int32) (m_s : Nat → Int32) (x1 : Int32) (u : Int32 × (Nat → Int32)) (h : f7_seed x1 m_s = some u) : q_RW q_E0 l yX7_seed wsX7_seed (rmq (0)) D cI [.ref (qm 0), .int x1] [(qm 0, .inr (7, oX7 qm m_images m_newMany m_at m_open m_steps m_use m_traced m_speaks m_isParted)), (qm 1, .inl (cI, 3974, .inl m_s))] [(qm 0, .inr (7, oX7 qm m_images m_newMany m_at m_open m_steps m_use m_traced m_speaks m_isParted)), (qm 1, .inl (cI, 3974, .inl u.2))] u.1 := by
  refine q_startW (fun u : Int32 × (Nat → Int32) => [(qm 0, .inr (7, oX7 qm m_images m_newMany m_at m_open m_steps m_use m_traced m_speaks m_isParted)), (qm 1, .inl (cI, 3974, .inl u.2))]) (fun u => u.1) (cc := cX7_seed) (maxL := 3) (ty := .int) (own := RX7) (by decide) rfl rfl (Nat.le_of_ble_eq_true rfl) rfl (fun p e s m args below meth c Q A hx hb hml hown hts hK hEv hA hret hP hD hS ls hl => ?_)
  have in7 : ∀ w ∈ wsX70, w ∈ wsX7_seed := fun w h => List.mem_cons_of_mem _ (List.mem_append_right _ (h))
  have l7 := hts (.fieldLink RX7 7 "PageWarsModel" "s" "[I") (List.mem_of_getElem? (i := 1) rfl)
  unfold f7_seed at h
  refine lv_aload_n hx hb dX7_seed_0 rfl (lv_at hl 0 rfl) ?_
  refine va_get (D := D) (ci := 7) (v := .ref (qm 1)) (C := RX7) (T := TX7) (N := 24) hx hb hts in7 hown hK hP 0 rfl rfl 0 (by decide) l7 (fun _ h9 => h9) rfl dX7_seed_1 ?_
  refine lv_bipush (v := (6 : Int32)) hx hb dX7_seed_4 (by decide) ?_
  refine q_iald hx hb hK hP 1 0 rfl rfl h dX7_seed_6 (fun t6 h => ?_)
  refine lv_istore_n (lv' := [(2, .int t6), (0, .ref (qm 0)), (1, .int x1)]) hx hb dX7_seed_7 rfl hl (by decide) rfl (fun ls hl => ?_)
  refine lv_aload_n hx hb dX7_seed_8 rfl (lv_at hl 1 rfl) ?_
  refine va_get (D := D) (ci := 7) (v := .ref (qm 1)) (C := RX7) (T := TX7) (N := 24) hx hb hts in7 hown hK hP 0 rfl rfl 0 (by decide) l7 (fun _ h9 => h9) rfl dX7_seed_9 ?_
  refine lv_bipush (v := (6 : Int32)) hx hb dX7_seed_12 (by decide) ?_
  refine lv_iload_n hx hb dX7_seed_14 rfl (lv_at hl 2 rfl) ?_
  refine q_iast hx hb hK hP hD hS 1 0 rfl rfl h dX7_seed_15 (fun m_s_15 H locs h hP hD hS => ?_)
  have hP : va_P D vwCl [(qm 0, .inr (7, oX7 qm m_images m_newMany m_at m_open m_steps m_use m_traced m_speaks m_isParted)), (qm 1, .inl (cI, 3974, .inl m_s_15))] H := hP
  have hD : va_D A [(qm 0, .inr (7, oX7 qm m_images m_newMany m_at m_open m_steps m_use m_traced m_speaks m_isParted)), (qm 1, .inl (cI, 3974, .inl m_s_15))] := hD
  refine lv_iload_n hx hb dX7_seed_16 rfl (lv_at hl 0 rfl) ?_
  exact hret (t6, m_s_15) _ _ _ _ (vp_nar_int _) h hP hD hS dX7_seed_17
set_option maxHeartbeats 4000000 in
set_option maxRecDepth 100000 in
theorem c7_alike (l : Launch) (D : va_G) (cI : ClassId) (qm : Nat → Nat) (m_images m_newMany m_at m_open m_steps m_use m_traced m_speaks m_isParted : Int32) (m_s m_errors : Nat → Int32) (x1 : Int32) (x2 : Int32) (n : Nat) (u : Int32 × (Nat → Int32)) (h : f7_alike n x1 x2 m_s m_errors = some u) : q_RW q_E0 l yX7_alike wsX7_alike (rmq (2)) D cI [.ref (qm 0), .int x1, .int x2] [(qm 0, .inr (7, oX7 qm m_images m_newMany m_at m_open m_steps m_use m_traced m_speaks m_isParted)), (qm 1, .inl (cI, 3974, .inl m_s)), (qm 4, .inl (cI, 7, .inl m_errors))] [(qm 0, .inr (7, oX7 qm m_images m_newMany m_at m_open m_steps m_use m_traced m_speaks m_isParted)), (qm 1, .inl (cI, 3974, .inl m_s)), (qm 4, .inl (cI, 7, .inl u.2))] u.1 := by
  refine q_startW (fun u : Int32 × (Nat → Int32) => [(qm 0, .inr (7, oX7 qm m_images m_newMany m_at m_open m_steps m_use m_traced m_speaks m_isParted)), (qm 1, .inl (cI, 3974, .inl m_s)), (qm 4, .inl (cI, 7, .inl u.2))]) (fun u => u.1) (cc := cX7_alike) (maxL := 3) (ty := .int) (own := RX7) (by decide) rfl rfl (Nat.le_of_ble_eq_true rfl) rfl (fun p e s m args below meth c Q A hx hb hml hown hts hK hEv hA hret hP hD hS ls hl => ?_)
  have in7 : ∀ w ∈ wsX70, w ∈ wsX7_alike := fun w h => List.mem_cons_of_mem _ (List.mem_append_right _ (h))
  have J38 : ∀ (s0 : Int32) (m_errors : (Nat → Int32)) (H : Heap) (locs : List Loc) (ls : Array Slot), lv_has ls 3 [(0, .ref (qm 0))] → va_P D vwCl [(qm 0, .inr (7, oX7 qm m_images m_newMany m_at m_open m_steps m_use m_traced m_speaks m_isParted)), (qm 1, .inl (cI, 3974, .inl m_s)), (qm 4, .inl (cI, 7, .inl m_errors))] H → va_D A [(qm 0, .inr (7, oX7 qm m_images m_newMany m_at m_open m_steps m_use m_traced m_speaks m_isParted)), (qm 1, .inl (cI, 3974, .inl m_s)), (qm 4, .inl (cI, 7, .inl m_errors))] → va_S A s.heap H locs → f7_alike_38 n m_s s0 m_errors = some u → W p l e (rmq (2)) s m args below meth c H locs 0 0 Q (F0 m 38 ls [.int s0]) := by
    intro s0 m_errors H locs ls hl hP hD hS h
    unfold f7_alike_38 at h
    exact hret (s0, m_errors) _ _ _ _ (vp_nar_int _) h hP hD hS dX7_alike_38
  have J16 : ∀ (m_errors : (Nat → Int32)) (H : Heap) (locs : List Loc) (ls : Array Slot), lv_has ls 3 [(0, .ref (qm 0))] → va_P D vwCl [(qm 0, .inr (7, oX7 qm m_images m_newMany m_at m_open m_steps m_use m_traced m_speaks m_isParted)), (qm 1, .inl (cI, 3974, .inl m_s)), (qm 4, .inl (cI, 7, .inl m_errors))] H → va_D A [(qm 0, .inr (7, oX7 qm m_images m_newMany m_at m_open m_steps m_use m_traced m_speaks m_isParted)), (qm 1, .inl (cI, 3974, .inl m_s)), (qm 4, .inl (cI, 7, .inl m_errors))] → va_S A s.heap H locs → f7_alike_16 n m_s m_errors = some u → W p l e (rmq (2)) s m args below meth c H locs 0 0 Q (F0 m 16 ls []) := by
    intro m_errors H locs ls hl hP hD hS h
    unfold f7_alike_16 at h
    refine lv_aload_n hx hb dX7_alike_16 rfl (lv_at hl 0 rfl) ?_
    refine lv_iconst (v := (1 : Int32)) hx hb dX7_alike_17 (by decide) ?_
    refine q_callW2 q_E0ok (rest := []) (fun u => [(qm 0, .inr (7, oX7 qm m_images m_newMany m_at m_open m_steps m_use m_traced m_speaks m_isParted)), (qm 4, .inl (cI, 7, .inl u.2))]) (fun u => u.1) ⟨hx, hb, hml, hown, hts⟩ (fun u hu => c7_error l D cI qm m_images m_newMany m_at m_open m_steps m_use m_traced m_speaks m_isParted m_errors ((1 : Int32)) u hu) (cwV 1 hts gX7_alike_X7_error rfl rfl rfl hdX7_error (rmq_ok (Nat.le_of_ble_eq_true rfl) (Nat.le_of_ble_eq_true rfl))) hK hEv hA hP hD hS [0, 2] (by decide) rfl (fun _ => rfl) (va_recv hK hP (ci := 7) (q0 := 0) rfl rfl) rfl rfl hl.1 (Nat.le_of_ble_eq_true rfl) ⟨Nat.zero_le _, Nat.zero_le _⟩ h dX7_alike_18 (fun t18 m_errors_18 H locs h hP hD hS => ?_)
    have hP : va_P D vwCl [(qm 0, .inr (7, oX7 qm m_images m_newMany m_at m_open m_steps m_use m_traced m_speaks m_isParted)), (qm 1, .inl (cI, 3974, .inl m_s)), (qm 4, .inl (cI, 7, .inl m_errors_18))] H := hP
    have hD : va_D A [(qm 0, .inr (7, oX7 qm m_images m_newMany m_at m_open m_steps m_use m_traced m_speaks m_isParted)), (qm 1, .inl (cI, 3974, .inl m_s)), (qm 4, .inl (cI, 7, .inl m_errors_18))] := hD
    refine lv_goto (tgt := 38) hx hb dX7_alike_21 (by decide) ?_
    exact J38 t18 m_errors_18 _ _ _ (lv_sub hl [0] rfl) hP hD hS h
  unfold f7_alike at h
  refine lv_aload_n hx hb dX7_alike_0 rfl (lv_at hl 0 rfl) ?_
  refine lv_iload_n hx hb dX7_alike_1 rfl (lv_at hl 1 rfl) ?_
  refine q_callR q_E0ok (rest := []) ⟨hx, hb, hml, hown, hts⟩ (fun r hr => c7_isVersion l D cI qm m_images m_newMany m_at m_open m_steps m_use m_traced m_speaks m_isParted m_s x1 r hr) (cwV 1 hts gX7_alike_X7_isVersion rfl rfl rfl hdX7_isVersion (rmq_ok (Nat.le_of_ble_eq_true rfl) (Nat.le_of_ble_eq_true rfl))) hK hP hEv hS [0, 1] rfl (va_recv hK hP (ci := 7) (q0 := 0) rfl rfl) rfl rfl hl.1 (Nat.le_of_ble_eq_true rfl) ⟨Nat.zero_le _, Nat.zero_le _⟩ h dX7_alike_2 (fun t2 h => ?_)
  refine q_ifeq hx hb 16 h dX7_alike_5 (by decide) (fun h => ?_) (fun h => ?_)
  · exact J16 m_errors _ _ _ (lv_sub hl [0] rfl) hP hD hS h
  · refine lv_aload_n hx hb dX7_alike_8 rfl (lv_at hl 0 rfl) ?_
    refine lv_iload_n hx hb dX7_alike_9 rfl (lv_at hl 2 rfl) ?_
    refine q_callR q_E0ok (rest := []) ⟨hx, hb, hml, hown, hts⟩ (fun r hr => c7_isVersion l D cI qm m_images m_newMany m_at m_open m_steps m_use m_traced m_speaks m_isParted m_s x2 r hr) (cwV 1 hts gX7_alike_X7_isVersion rfl rfl rfl hdX7_isVersion (rmq_ok (Nat.le_of_ble_eq_true rfl) (Nat.le_of_ble_eq_true rfl))) hK hP hEv hS [0, 1] rfl (va_recv hK hP (ci := 7) (q0 := 0) rfl rfl) rfl rfl hl.1 (Nat.le_of_ble_eq_true rfl) ⟨Nat.zero_le _, Nat.zero_le _⟩ h dX7_alike_10 (fun t10 h => ?_)
    refine q_ifne hx hb 24 h dX7_alike_13 (by decide) (fun h => ?_) (fun h => ?_)
    · refine lv_aload_n hx hb dX7_alike_24 rfl (lv_at hl 0 rfl) ?_
      refine lv_iload_n hx hb dX7_alike_25 rfl (lv_at hl 1 rfl) ?_
      refine lv_iload_n hx hb dX7_alike_26 rfl (lv_at hl 2 rfl) ?_
      refine q_callR q_E0ok (rest := []) ⟨hx, hb, hml, hown, hts⟩ (fun r hr => c7_areAlike l D cI qm m_images m_newMany m_at m_open m_steps m_use m_traced m_speaks m_isParted m_s x1 x2 n r hr) (cwV 2 hts gX7_alike_X7_areAlike rfl rfl rfl hdX7_areAlike (rmq_ok (Nat.le_of_ble_eq_true rfl) (Nat.le_of_ble_eq_true rfl))) hK hP hEv hS [0, 1] rfl (va_recv hK hP (ci := 7) (q0 := 0) rfl rfl) rfl rfl hl.1 (Nat.le_of_ble_eq_true rfl) ⟨Nat.zero_le _, Nat.zero_le _⟩ h dX7_alike_27 (fun t27 h => ?_)
      refine q_ifeq hx hb 37 h dX7_alike_30 (by decide) (fun h => ?_) (fun h => ?_)
      · refine lv_iconst (v := (0 : Int32)) hx hb dX7_alike_37 (by decide) ?_
        exact J38 ((0 : Int32)) m_errors _ _ _ (lv_sub hl [0] rfl) hP hD hS h
      · refine lv_iconst (v := (1 : Int32)) hx hb dX7_alike_33 (by decide) ?_
        refine lv_goto (tgt := 38) hx hb dX7_alike_34 (by decide) ?_
        exact J38 ((1 : Int32)) m_errors _ _ _ (lv_sub hl [0] rfl) hP hD hS h
    · exact J16 m_errors _ _ _ (lv_sub hl [0] rfl) hP hD hS h
