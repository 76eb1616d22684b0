set_option maxHeartbeats 4000000 in
set_option maxRecDepth 100000 in
theorem c7_words (l : Launch) (D : va_G) (cI : ClassId) (qm : Nat → Nat) (m_images m_newMany m_at m_open m_steps m_use m_traced m_speaks m_isParted : Int32) (m_s m_errors m_newWord m_newOrigin m_named m_pile m_undoneBy m_bits m_sizes m_number : Nat → Int32) (x1 : Int32) (x2 : Int32) (n : Nat) (u : Int32 × Int32 × (Nat → Int32) × (Nat → Int32) × (Nat → Int32) × (Nat → Int32) × (Nat → Int32) × (Nat → Int32) × (Nat → Int32)) (h : f7_words n x1 x2 m_newMany m_s m_errors m_newWord m_newOrigin m_named m_pile m_undoneBy m_bits m_sizes m_number = some u) : q_RW q_E0 l yX7_words wsX7_words (rmq (5)) D cI [.ref (qm 0), .int x1, .int x2] [(qm 0, .inr (7, oX7 qm m_images m_newMany m_at m_open m_steps m_use m_traced m_speaks m_isParted)), (qm 1, .inl (cI, 3974, .inl m_s)), (qm 4, .inl (cI, 7, .inl m_errors)), (qm 5, .inl (cI, 40, .inl m_newWord)), (qm 6, .inl (cI, 40, .inl m_newOrigin)), (qm 13, .inl (cI, 128, .inl m_named)), (qm 14, .inl (cI, 64, .inl m_pile)), (qm 16, .inl (cI, 60, .inl m_undoneBy)), (qm 21, .inl (cI, 4, .inl m_bits)), (qm 22, .inl (cI, 4, .inl m_sizes)), (qm 23, .inl (cI, 96, .inl m_number))] [(qm 0, .inr (7, oX7 qm m_images u.2.1 m_at m_open m_steps m_use m_traced m_speaks m_isParted)), (qm 1, .inl (cI, 3974, .inl u.2.2.1)), (qm 4, .inl (cI, 7, .inl u.2.2.2.1)), (qm 5, .inl (cI, 40, .inl u.2.2.2.2.1)), (qm 6, .inl (cI, 40, .inl u.2.2.2.2.2.1)), (qm 13, .inl (cI, 128, .inl u.2.2.2.2.2.2.1)), (qm 14, .inl (cI, 64, .inl u.2.2.2.2.2.2.2.1)), (qm 16, .inl (cI, 60, .inl u.2.2.2.2.2.2.2.2)), (qm 21, .inl (cI, 4, .inl m_bits)), (qm 22, .inl (cI, 4, .inl m_sizes)), (qm 23, .inl (cI, 96, .inl m_number))] u.1 := by
  refine q_startW (fun u : Int32 × Int32 × (Nat → Int32) × (Nat → Int32) × (Nat → Int32) × (Nat → Int32) × (Nat → Int32) × (Nat → Int32) × (Nat → Int32) => [(qm 0, .inr (7, oX7 qm m_images u.2.1 m_at m_open m_steps m_use m_traced m_speaks m_isParted)), (qm 1, .inl (cI, 3974, .inl u.2.2.1)), (qm 4, .inl (cI, 7, .inl u.2.2.2.1)), (qm 5, .inl (cI, 40, .inl u.2.2.2.2.1)), (qm 6, .inl (cI, 40, .inl u.2.2.2.2.2.1)), (qm 13, .inl (cI, 128, .inl u.2.2.2.2.2.2.1)), (qm 14, .inl (cI, 64, .inl u.2.2.2.2.2.2.2.1)), (qm 16, .inl (cI, 60, .inl u.2.2.2.2.2.2.2.2)), (qm 21, .inl (cI, 4, .inl m_bits)), (qm 22, .inl (cI, 4, .inl m_sizes)), (qm 23, .inl (cI, 96, .inl m_number))]) (fun u => u.1) (cc := cX7_words) (maxL := 8) (ty := .int) (own := RX7) (by decide) rfl rfl (Nat.le_of_ble_eq_true rfl) rfl (fun p e s m args below meth c Q A hx hb hml hown hts hK hEv hA hret hP hD hS ls hl => ?_)
  have in7 : ∀ w ∈ wsX70, w ∈ wsX7_words := fun w h => List.mem_cons_of_mem _ (List.mem_append_right _ (h))
  have l43 := hts (.fieldLink RX7 43 "PageWarsModel" "bits" "[I") (List.mem_of_getElem? (i := 1) rfl)
  have l46 := hts (.fieldLink RX7 46 "PageWarsModel" "sizes" "[I") (List.mem_of_getElem? (i := 2) rfl)
  have l49 := hts (.fieldLink RX7 49 "PageWarsModel" "number" "[I") (List.mem_of_getElem? (i := 3) rfl)
  have J143 : ∀ (x3 : Int32) (m_newMany : Int32) (m_s : (Nat → Int32)) (m_errors : (Nat → Int32)) (m_newWord : (Nat → Int32)) (m_newOrigin : (Nat → Int32)) (m_named : (Nat → Int32)) (m_pile : (Nat → Int32)) (m_undoneBy : (Nat → Int32)) (H : Heap) (locs : List Loc) (ls : Array Slot), lv_has ls 8 [(0, .ref (qm 0)), (3, .int x3)] → va_P D vwCl [(qm 0, .inr (7, oX7 qm m_images m_newMany m_at m_open m_steps m_use m_traced m_speaks m_isParted)), (qm 1, .inl (cI, 3974, .inl m_s)), (qm 4, .inl (cI, 7, .inl m_errors)), (qm 5, .inl (cI, 40, .inl m_newWord)), (qm 6, .inl (cI, 40, .inl m_newOrigin)), (qm 13, .inl (cI, 128, .inl m_named)), (qm 14, .inl (cI, 64, .inl m_pile)), (qm 16, .inl (cI, 60, .inl m_undoneBy)), (qm 21, .inl (cI, 4, .inl m_bits)), (qm 22, .inl (cI, 4, .inl m_sizes)), (qm 23, .inl (cI, 96, .inl m_number))] H → va_D A [(qm 0, .inr (7, oX7 qm m_images m_newMany m_at m_open m_steps m_use m_traced m_speaks m_isParted)), (qm 1, .inl (cI, 3974, .inl m_s)), (qm 4, .inl (cI, 7, .inl m_errors)), (qm 5, .inl (cI, 40, .inl m_newWord)), (qm 6, .inl (cI, 40, .inl m_newOrigin)), (qm 13, .inl (cI, 128, .inl m_named)), (qm 14, .inl (cI, 64, .inl m_pile)), (qm 16, .inl (cI, 60, .inl m_undoneBy)), (qm 21, .inl (cI, 4, .inl m_bits)), (qm 22, .inl (cI, 4, .inl m_sizes)), (qm 23, .inl (cI, 96, .inl m_number))] → va_S A s.heap H locs → f7_words_143 n m_bits m_sizes m_number x3 m_newMany m_s m_errors m_newWord m_newOrigin m_named m_pile m_undoneBy = some u → W p l e (rmq (5)) s m args below meth c H locs 0 0 Q (F0 m 143 ls []) := by
    intro x3 m_newMany m_s m_errors m_newWord m_newOrigin m_named m_pile m_undoneBy H locs ls hl hP hD hS h
    unfold f7_words_143 at h
    refine lv_iload_n hx hb dX7_words_143 rfl (lv_at hl 1 rfl) ?_
    exact hret (x3, m_newMany, m_s, m_errors, m_newWord, m_newOrigin, m_named, m_pile, m_undoneBy) _ _ _ _ (vp_nar_int _) h hP hD hS dX7_words_144
  have J43 : ∀ (kk43 : Nat) (x1 : Int32) (x2 : Int32) (x3 : Int32) (x4 : Int32) (x5 : Int32) (m_newMany : Int32) (m_s : (Nat → Int32)) (m_errors : (Nat → Int32)) (m_newWord : (Nat → Int32)) (m_newOrigin : (Nat → Int32)) (m_named : (Nat → Int32)) (m_pile : (Nat → Int32)) (m_undoneBy : (Nat → Int32)) (H : Heap) (locs : List Loc) (ls : Array Slot), lv_has ls 8 [(0, .ref (qm 0)), (1, .int x1), (2, .int x2), (3, .int x3), (4, .int x4), (5, .int x5)] → va_P D vwCl [(qm 0, .inr (7, oX7 qm m_images m_newMany m_at m_open m_steps m_use m_traced m_speaks m_isParted)), (qm 1, .inl (cI, 3974, .inl m_s)), (qm 4, .inl (cI, 7, .inl m_errors)), (qm 5, .inl (cI, 40, .inl m_newWord)), (qm 6, .inl (cI, 40, .inl m_newOrigin)), (qm 13, .inl (cI, 128, .inl m_named)), (qm 14, .inl (cI, 64, .inl m_pile)), (qm 16, .inl (cI, 60, .inl m_undoneBy)), (qm 21, .inl (cI, 4, .inl m_bits)), (qm 22, .inl (cI, 4, .inl m_sizes)), (qm 23, .inl (cI, 96, .inl m_number))] H → va_D A [(qm 0, .inr (7, oX7 qm m_images m_newMany m_at m_open m_steps m_use m_traced m_speaks m_isParted)), (qm 1, .inl (cI, 3974, .inl m_s)), (qm 4, .inl (cI, 7, .inl m_errors)), (qm 5, .inl (cI, 40, .inl m_newWord)), (qm 6, .inl (cI, 40, .inl m_newOrigin)), (qm 13, .inl (cI, 128, .inl m_named)), (qm 14, .inl (cI, 64, .inl m_pile)), (qm 16, .inl (cI, 60, .inl m_undoneBy)), (qm 21, .inl (cI, 4, .inl m_bits)), (qm 22, .inl (cI, 4, .inl m_sizes)), (qm 23, .inl (cI, 96, .inl m_number))] → va_S A s.heap H locs → f7_words_43 n m_bits m_sizes m_number kk43 x1 x2 x3 x4 x5 m_newMany m_s m_errors m_newWord m_newOrigin m_named m_pile m_undoneBy = some u → W p l e (rmq (5)) s m args below meth c H locs 0 0 Q (F0 m 43 ls []) := by
    intro kk43
    induction kk43 with
    | zero => intro x1 x2 x3 x4 x5 m_newMany m_s m_errors m_newWord m_newOrigin m_named m_pile m_undoneBy H locs ls hl hP hD hS h; exact nomatch (show (none : Option (Int32 × Int32 × (Nat → Int32) × (Nat → Int32) × (Nat → Int32) × (Nat → Int32) × (Nat → Int32) × (Nat → Int32) × (Nat → Int32))) = some u from h)
    | succ kk43 ih43 =>
      have J137 : ∀ (x1 : Int32) (x2 : Int32) (x3 : Int32) (x4 : Int32) (x5 : Int32) (m_newMany : Int32) (m_s : (Nat → Int32)) (m_errors : (Nat → Int32)) (m_newWord : (Nat → Int32)) (m_newOrigin : (Nat → Int32)) (m_named : (Nat → Int32)) (m_pile : (Nat → Int32)) (m_undoneBy : (Nat → Int32)) (H : Heap) (locs : List Loc) (ls : Array Slot), lv_has ls 8 [(0, .ref (qm 0)), (1, .int x1), (2, .int x2), (3, .int x3), (4, .int x4), (5, .int x5)] → va_P D vwCl [(qm 0, .inr (7, oX7 qm m_images m_newMany m_at m_open m_steps m_use m_traced m_speaks m_isParted)), (qm 1, .inl (cI, 3974, .inl m_s)), (qm 4, .inl (cI, 7, .inl m_errors)), (qm 5, .inl (cI, 40, .inl m_newWord)), (qm 6, .inl (cI, 40, .inl m_newOrigin)), (qm 13, .inl (cI, 128, .inl m_named)), (qm 14, .inl (cI, 64, .inl m_pile)), (qm 16, .inl (cI, 60, .inl m_undoneBy)), (qm 21, .inl (cI, 4, .inl m_bits)), (qm 22, .inl (cI, 4, .inl m_sizes)), (qm 23, .inl (cI, 96, .inl m_number))] H → va_D A [(qm 0, .inr (7, oX7 qm m_images m_newMany m_at m_open m_steps m_use m_traced m_speaks m_isParted)), (qm 1, .inl (cI, 3974, .inl m_s)), (qm 4, .inl (cI, 7, .inl m_errors)), (qm 5, .inl (cI, 40, .inl m_newWord)), (qm 6, .inl (cI, 40, .inl m_newOrigin)), (qm 13, .inl (cI, 128, .inl m_named)), (qm 14, .inl (cI, 64, .inl m_pile)), (qm 16, .inl (cI, 60, .inl m_undoneBy)), (qm 21, .inl (cI, 4, .inl m_bits)), (qm 22, .inl (cI, 4, .inl m_sizes)), (qm 23, .inl (cI, 96, .inl m_number))] → va_S A s.heap H locs → f7_words_137 n m_bits m_sizes m_number (f7_words_43 n m_bits m_sizes m_number kk43) x1 x2 x3 x4 x5 m_newMany m_s m_errors m_newWord m_newOrigin m_named m_pile m_undoneBy = some u → W p l e (rmq (5)) s m args below meth c H locs 0 0 Q (F0 m 137 ls []) := by
        intro x1 x2 x3 x4 x5 m_newMany m_s m_errors m_newWord m_newOrigin m_named m_pile m_undoneBy H locs ls hl hP hD hS h
        unfold f7_words_137 at h
        refine q_iinc (fun v => [(5, .int v), (0, .ref (qm 0)), (1, .int x1), (2, .int x2), (3, .int x3), (4, .int x4)]) hx hb h dX7_words_137 (by decide) hl (k := 5) rfl (by decide) (fun _ => rfl) (fun x5_137 ls h hl => ?_)
        refine lv_goto (tgt := 43) hx hb dX7_words_140 (by decide) ?_
        exact ih43 x1 x2 x3 x4 x5_137 m_newMany m_s m_errors m_newWord m_newOrigin m_named m_pile m_undoneBy _ _ _ (lv_sub hl [1, 2, 3, 4, 5, 0] rfl) hP hD hS h
      have J113 : ∀ (x1 : Int32) (x2 : Int32) (x3 : Int32) (x5 : Int32) (x6 : Int32) (s0 : Int32) (m_newMany : Int32) (m_s : (Nat → Int32)) (m_errors : (Nat → Int32)) (m_newWord : (Nat → Int32)) (m_newOrigin : (Nat → Int32)) (m_named : (Nat → Int32)) (m_pile : (Nat → Int32)) (m_undoneBy : (Nat → Int32)) (H : Heap) (locs : List Loc) (ls : Array Slot), lv_has ls 8 [(0, .ref (qm 0)), (1, .int x1), (2, .int x2), (3, .int x3), (5, .int x5), (6, .int x6)] → va_P D vwCl [(qm 0, .inr (7, oX7 qm m_images m_newMany m_at m_open m_steps m_use m_traced m_speaks m_isParted)), (qm 1, .inl (cI, 3974, .inl m_s)), (qm 4, .inl (cI, 7, .inl m_errors)), (qm 5, .inl (cI, 40, .inl m_newWord)), (qm 6, .inl (cI, 40, .inl m_newOrigin)), (qm 13, .inl (cI, 128, .inl m_named)), (qm 14, .inl (cI, 64, .inl m_pile)), (qm 16, .inl (cI, 60, .inl m_undoneBy)), (qm 21, .inl (cI, 4, .inl m_bits)), (qm 22, .inl (cI, 4, .inl m_sizes)), (qm 23, .inl (cI, 96, .inl m_number))] H → va_D A [(qm 0, .inr (7, oX7 qm m_images m_newMany m_at m_open m_steps m_use m_traced m_speaks m_isParted)), (qm 1, .inl (cI, 3974, .inl m_s)), (qm 4, .inl (cI, 7, .inl m_errors)), (qm 5, .inl (cI, 40, .inl m_newWord)), (qm 6, .inl (cI, 40, .inl m_newOrigin)), (qm 13, .inl (cI, 128, .inl m_named)), (qm 14, .inl (cI, 64, .inl m_pile)), (qm 16, .inl (cI, 60, .inl m_undoneBy)), (qm 21, .inl (cI, 4, .inl m_bits)), (qm 22, .inl (cI, 4, .inl m_sizes)), (qm 23, .inl (cI, 96, .inl m_number))] → va_S A s.heap H locs → f7_words_113 n m_bits m_sizes m_number (f7_words_43 n m_bits m_sizes m_number kk43) x1 x2 x3 x5 x6 s0 m_newMany m_s m_errors m_newWord m_newOrigin m_named m_pile m_undoneBy = some u → W p l e (rmq (5)) s m args below meth c H locs 0 0 Q (F0 m 113 ls [.int s0]) := by
        intro x1 x2 x3 x5 x6 s0 m_newMany m_s m_errors m_newWord m_newOrigin m_named m_pile m_undoneBy H locs ls hl hP hD hS h
        unfold f7_words_113 at h
        refine lv_istore (lv' := [(4, .int s0), (0, .ref (qm 0)), (1, .int x1), (2, .int x2), (3, .int x3), (5, .int x5), (6, .int x6)]) hx hb dX7_words_113 hl (by decide) rfl (fun ls hl => ?_)
        refine lv_iload hx hb dX7_words_115 (lv_at hl 0 rfl) ?_
        refine q_ifeq hx hb 137 h dX7_words_117 (by decide) (fun h => ?_) (fun h => ?_)
        · exact J137 x1 x2 x3 s0 x5 m_newMany m_s m_errors m_newWord m_newOrigin m_named m_pile m_undoneBy _ _ _ (lv_sub hl [1, 2, 3, 4, 0, 5] rfl) hP hD hS h
        · refine lv_aload_n hx hb dX7_words_120 rfl (lv_at hl 1 rfl) ?_
          refine lv_iconst (v := (1 : Int32)) hx hb dX7_words_121 (by decide) ?_
          refine lv_iload_n hx hb dX7_words_122 rfl (lv_at hl 3 rfl) ?_
          refine lv_aload_n hx hb dX7_words_123 rfl (lv_at hl 1 rfl) ?_
          refine q_callR q_E0ok (rest := [.int x2, .int ((1 : Int32)), .ref (qm 0)]) ⟨hx, hb, hml, hown, hts⟩ (fun r hr => c7_page l D cI qm m_images m_newMany m_at m_open m_steps m_use m_traced m_speaks m_isParted m_s r hr) (cwV 0 hts gX7_words_X7_page rfl rfl rfl hdX7_page (rmq_ok (Nat.le_of_ble_eq_true rfl) (Nat.le_of_ble_eq_true rfl))) hK hP hEv hS [0, 1] rfl (va_recv hK hP (ci := 7) (q0 := 0) rfl rfl) rfl rfl hl.1 (Nat.le_of_ble_eq_true rfl) ⟨Nat.zero_le _, Nat.zero_le _⟩ h dX7_words_124 (fun t124 h => ?_)
          refine lv_iload hx hb dX7_words_127 (lv_at hl 6 rfl) ?_
          refine q_callW8 q_E0ok (rest := []) (fun u => [(qm 0, .inr (7, oX7 qm m_images u.2.1 m_at m_open m_steps m_use m_traced m_speaks m_isParted)), (qm 1, .inl (cI, 3974, .inl u.2.2.1)), (qm 5, .inl (cI, 40, .inl u.2.2.2.1)), (qm 6, .inl (cI, 40, .inl u.2.2.2.2.1)), (qm 13, .inl (cI, 128, .inl u.2.2.2.2.2.1)), (qm 14, .inl (cI, 64, .inl u.2.2.2.2.2.2.1)), (qm 16, .inl (cI, 60, .inl u.2.2.2.2.2.2.2))]) (fun u => u.1) ⟨hx, hb, hml, hown, hts⟩ (fun u hu => c7_writes l D cI qm m_images m_newMany m_at m_open m_steps m_use m_traced m_speaks m_isParted m_s m_newWord m_newOrigin m_named m_pile m_undoneBy ((1 : Int32)) x2 t124 x6 n u hu) (cwV 4 hts gX7_words_X7_writes rfl rfl rfl hdX7_writes (rmq_ok (Nat.le_of_ble_eq_true rfl) (Nat.le_of_ble_eq_true rfl))) hK hEv hA hP hD hS [0, 1, 3, 4, 5, 6, 7] (by decide) rfl (fun _ => rfl) (va_recv hK hP (ci := 7) (q0 := 0) rfl rfl) rfl rfl hl.1 (Nat.le_of_ble_eq_true rfl) ⟨Nat.zero_le _, Nat.zero_le _⟩ h dX7_words_129 (fun t129 m_newMany_129 m_s_129 m_newWord_129 m_newOrigin_129 m_named_129 m_pile_129 m_undoneBy_129 H locs h hP hD hS => ?_)
          have hP : va_P D vwCl [(qm 0, .inr (7, oX7 qm m_images m_newMany_129 m_at m_open m_steps m_use m_traced m_speaks m_isParted)), (qm 1, .inl (cI, 3974, .inl m_s_129)), (qm 4, .inl (cI, 7, .inl m_errors)), (qm 5, .inl (cI, 40, .inl m_newWord_129)), (qm 6, .inl (cI, 40, .inl m_newOrigin_129)), (qm 13, .inl (cI, 128, .inl m_named_129)), (qm 14, .inl (cI, 64, .inl m_pile_129)), (qm 16, .inl (cI, 60, .inl m_undoneBy_129)), (qm 21, .inl (cI, 4, .inl m_bits)), (qm 22, .inl (cI, 4, .inl m_sizes)), (qm 23, .inl (cI, 96, .inl m_number))] H := hP
          have hD : va_D A [(qm 0, .inr (7, oX7 qm m_images m_newMany_129 m_at m_open m_steps m_use m_traced m_speaks m_isParted)), (qm 1, .inl (cI, 3974, .inl m_s_129)), (qm 4, .inl (cI, 7, .inl m_errors)), (qm 5, .inl (cI, 40, .inl m_newWord_129)), (qm 6, .inl (cI, 40, .inl m_newOrigin_129)), (qm 13, .inl (cI, 128, .inl m_named_129)), (qm 14, .inl (cI, 64, .inl m_pile_129)), (qm 16, .inl (cI, 60, .inl m_undoneBy_129)), (qm 21, .inl (cI, 4, .inl m_bits)), (qm 22, .inl (cI, 4, .inl m_sizes)), (qm 23, .inl (cI, 96, .inl m_number))] := hD
          refine lv_istore (lv' := [(7, .int t129), (4, .int s0), (0, .ref (qm 0)), (1, .int x1), (2, .int x2), (3, .int x3), (5, .int x5), (6, .int x6)]) hx hb dX7_words_132 hl (by decide) rfl (fun ls hl => ?_)
          refine q_iinc (fun v => [(3, .int v), (7, .int t129), (4, .int s0), (0, .ref (qm 0)), (1, .int x1), (2, .int x2), (5, .int x5), (6, .int x6)]) hx hb h dX7_words_134 (by decide) hl (k := 5) rfl (by decide) (fun _ => rfl) (fun x3_134 ls h hl => ?_)
          exact J137 x1 x2 x3_134 s0 x5 m_newMany_129 m_s_129 m_errors m_newWord_129 m_newOrigin_129 m_named_129 m_pile_129 m_undoneBy_129 _ _ _ (lv_sub hl [3, 4, 5, 0, 2, 6] rfl) hP hD hS h
      have J112 : ∀ (x1 : Int32) (x2 : Int32) (x3 : Int32) (x5 : Int32) (x6 : Int32) (m_newMany : Int32) (m_s : (Nat → Int32)) (m_errors : (Nat → Int32)) (m_newWord : (Nat → Int32)) (m_newOrigin : (Nat → Int32)) (m_named : (Nat → Int32)) (m_pile : (Nat → Int32)) (m_undoneBy : (Nat → Int32)) (H : Heap) (locs : List Loc) (ls : Array Slot), lv_has ls 8 [(0, .ref (qm 0)), (1, .int x1), (2, .int x2), (3, .int x3), (5, .int x5), (6, .int x6)] → va_P D vwCl [(qm 0, .inr (7, oX7 qm m_images m_newMany m_at m_open m_steps m_use m_traced m_speaks m_isParted)), (qm 1, .inl (cI, 3974, .inl m_s)), (qm 4, .inl (cI, 7, .inl m_errors)), (qm 5, .inl (cI, 40, .inl m_newWord)), (qm 6, .inl (cI, 40, .inl m_newOrigin)), (qm 13, .inl (cI, 128, .inl m_named)), (qm 14, .inl (cI, 64, .inl m_pile)), (qm 16, .inl (cI, 60, .inl m_undoneBy)), (qm 21, .inl (cI, 4, .inl m_bits)), (qm 22, .inl (cI, 4, .inl m_sizes)), (qm 23, .inl (cI, 96, .inl m_number))] H → va_D A [(qm 0, .inr (7, oX7 qm m_images m_newMany m_at m_open m_steps m_use m_traced m_speaks m_isParted)), (qm 1, .inl (cI, 3974, .inl m_s)), (qm 4, .inl (cI, 7, .inl m_errors)), (qm 5, .inl (cI, 40, .inl m_newWord)), (qm 6, .inl (cI, 40, .inl m_newOrigin)), (qm 13, .inl (cI, 128, .inl m_named)), (qm 14, .inl (cI, 64, .inl m_pile)), (qm 16, .inl (cI, 60, .inl m_undoneBy)), (qm 21, .inl (cI, 4, .inl m_bits)), (qm 22, .inl (cI, 4, .inl m_sizes)), (qm 23, .inl (cI, 96, .inl m_number))] → va_S A s.heap H locs → f7_words_112 n m_bits m_sizes m_number (f7_words_43 n m_bits m_sizes m_number kk43) x1 x2 x3 x5 x6 m_newMany m_s m_errors m_newWord m_newOrigin m_named m_pile m_undoneBy = some u → W p l e (rmq (5)) s m args below meth c H locs 0 0 Q (F0 m 112 ls []) := by
        intro x1 x2 x3 x5 x6 m_newMany m_s m_errors m_newWord m_newOrigin m_named m_pile m_undoneBy H locs ls hl hP hD hS h
        unfold f7_words_112 at h
        refine lv_iconst (v := (0 : Int32)) hx hb dX7_words_112 (by decide) ?_
        exact J113 x1 x2 x3 x5 x6 ((0 : Int32)) m_newMany m_s m_errors m_newWord m_newOrigin m_named m_pile m_undoneBy _ _ _ (lv_sub hl [0, 1, 2, 3, 4, 5] rfl) hP hD hS h
      intro x1 x2 x3 x4 x5 m_newMany m_s m_errors m_newWord m_newOrigin m_named m_pile m_undoneBy H locs ls hl hP hD hS h
      rw [f7_words_43.eq_2] at h
      refine lv_iload hx hb dX7_words_43 (lv_at hl 5 rfl) ?_
      refine lv_aload_n hx hb dX7_words_45 rfl (lv_at hl 0 rfl) ?_
      refine va_get (D := D) (ci := 7) (v := .ref (qm 22)) (C := RX7) (T := TX7) (N := 24) hx hb hts in7 hown hK hP 0 rfl rfl 21 (by decide) l46 (fun _ h9 => h9) rfl dX7_words_46 ?_
      refine lv_iload_n hx hb dX7_words_49 rfl (lv_at hl 1 rfl) ?_
      refine q_iald hx hb hK hP 9 0 rfl rfl h dX7_words_50 (fun t50 h => ?_)
      refine q_cge hx hb 143 h dX7_words_51 (by decide) (fun h => ?_) (fun h => ?_)
      · exact J143 x3 m_newMany m_s m_errors m_newWord m_newOrigin m_named m_pile m_undoneBy _ _ _ (lv_sub hl [0, 3] rfl) hP hD hS h
      · refine lv_iload hx hb dX7_words_54 (lv_at hl 4 rfl) ?_
        refine q_ifeq hx hb 143 h dX7_words_56 (by decide) (fun h => ?_) (fun h => ?_)
        · exact J143 x3 m_newMany m_s m_errors m_newWord m_newOrigin m_named m_pile m_undoneBy _ _ _ (lv_sub hl [0, 3] rfl) hP hD hS h
        · refine lv_aload_n hx hb dX7_words_59 rfl (lv_at hl 0 rfl) ?_
          refine va_get (D := D) (ci := 7) (v := .ref (qm 23)) (C := RX7) (T := TX7) (N := 24) hx hb hts in7 hown hK hP 0 rfl rfl 22 (by decide) l49 (fun _ h9 => h9) rfl dX7_words_60 ?_
          refine lv_bipush (v := (24 : Int32)) hx hb dX7_words_63 (by decide) ?_
          refine lv_iload_n hx hb dX7_words_65 rfl (lv_at hl 1 rfl) ?_
          refine lv_imul hx hb dX7_words_66 ?_
          refine lv_iload hx hb dX7_words_67 (lv_at hl 5 rfl) ?_
          refine lv_iadd hx hb dX7_words_69 ?_
          refine q_iald hx hb hK hP 10 0 rfl rfl h dX7_words_70 (fun t70 h => ?_)
          refine lv_istore (lv' := [(6, .int t70), (0, .ref (qm 0)), (1, .int x1), (2, .int x2), (3, .int x3), (4, .int x4), (5, .int x5)]) hx hb dX7_words_71 hl (by decide) rfl (fun ls hl => ?_)
          refine lv_iload hx hb dX7_words_73 (lv_at hl 0 rfl) ?_
          refine lv_iconst (v := (1 : Int32)) hx hb dX7_words_75 (by decide) ?_
          refine lv_bipush (v := (60 : Int32)) hx hb dX7_words_76 (by decide) ?_
          refine q_callRS q_E0ok (rest := []) ⟨hx, hb, hml, hown, hts⟩ (fun r hr => c7_in l D cI t70 ((1 : Int32)) ((60 : Int32)) r hr) (va_cwS 3 hts gX7_words_X7_in rfl rfl rfl hdX7_in (rmq_ok (Nat.le_of_ble_eq_true rfl) (Nat.le_of_ble_eq_true rfl))) hK hP hEv hS [] rfl rfl rfl hl.1 (Nat.le_of_ble_eq_true rfl) ⟨Nat.zero_le _, Nat.zero_le _⟩ h dX7_words_78 (fun t78 h => ?_)
          refine q_ifeq hx hb 112 h dX7_words_81 (by decide) (fun h => ?_) (fun h => ?_)
          · exact J112 x1 x2 x3 x5 t70 m_newMany m_s m_errors m_newWord m_newOrigin m_named m_pile m_undoneBy _ _ _ (lv_sub hl [1, 2, 3, 4, 6, 0] rfl) hP hD hS h
          · refine lv_aload_n hx hb dX7_words_84 rfl (lv_at hl 1 rfl) ?_
            refine lv_iload_n hx hb dX7_words_85 rfl (lv_at hl 3 rfl) ?_
            refine q_callW3 q_E0ok (rest := []) (fun u => [(qm 0, .inr (7, oX7 qm m_images m_newMany m_at m_open m_steps m_use m_traced m_speaks m_isParted)), (qm 1, .inl (cI, 3974, .inl m_s)), (qm 13, .inl (cI, 128, .inl u.2.1)), (qm 14, .inl (cI, 64, .inl u.2.2))]) (fun u => u.1) ⟨hx, hb, hml, hown, hts⟩ (fun u hu => c7_mayAct l D cI qm m_images m_newMany m_at m_open m_steps m_use m_traced m_speaks m_isParted m_s m_named m_pile x2 n u hu) (cwV 1 hts gX7_words_X7_mayAct rfl rfl rfl hdX7_mayAct (rmq_ok (Nat.le_of_ble_eq_true rfl) (Nat.le_of_ble_eq_true rfl))) hK hEv hA hP hD hS [0, 1, 5, 6] (by decide) rfl (fun _ => rfl) (va_recv hK hP (ci := 7) (q0 := 0) rfl rfl) rfl rfl hl.1 (Nat.le_of_ble_eq_true rfl) ⟨Nat.zero_le _, Nat.zero_le _⟩ h dX7_words_86 (fun t86 m_named_86 m_pile_86 H locs h hP hD hS => ?_)
            have hP : va_P D vwCl [(qm 0, .inr (7, oX7 qm m_images m_newMany m_at m_open m_steps m_use m_traced m_speaks m_isParted)), (qm 1, .inl (cI, 3974, .inl m_s)), (qm 4, .inl (cI, 7, .inl m_errors)), (qm 5, .inl (cI, 40, .inl m_newWord)), (qm 6, .inl (cI, 40, .inl m_newOrigin)), (qm 13, .inl (cI, 128, .inl m_named_86)), (qm 14, .inl (cI, 64, .inl m_pile_86)), (qm 16, .inl (cI, 60, .inl m_undoneBy)), (qm 21, .inl (cI, 4, .inl m_bits)), (qm 22, .inl (cI, 4, .inl m_sizes)), (qm 23, .inl (cI, 96, .inl m_number))] H := hP
            have hD : va_D A [(qm 0, .inr (7, oX7 qm m_images m_newMany m_at m_open m_steps m_use m_traced m_speaks m_isParted)), (qm 1, .inl (cI, 3974, .inl m_s)), (qm 4, .inl (cI, 7, .inl m_errors)), (qm 5, .inl (cI, 40, .inl m_newWord)), (qm 6, .inl (cI, 40, .inl m_newOrigin)), (qm 13, .inl (cI, 128, .inl m_named_86)), (qm 14, .inl (cI, 64, .inl m_pile_86)), (qm 16, .inl (cI, 60, .inl m_undoneBy)), (qm 21, .inl (cI, 4, .inl m_bits)), (qm 22, .inl (cI, 4, .inl m_sizes)), (qm 23, .inl (cI, 96, .inl m_number))] := hD
            refine q_ifeq hx hb 112 h dX7_words_89 (by decide) (fun h => ?_) (fun h => ?_)
            · exact J112 x1 x2 x3 x5 t70 m_newMany m_s m_errors m_newWord m_newOrigin m_named_86 m_pile_86 m_undoneBy _ _ _ (lv_sub hl [1, 2, 3, 4, 6, 0] rfl) hP hD hS h
            · refine lv_aload_n hx hb dX7_words_92 rfl (lv_at hl 1 rfl) ?_
              refine q_callR q_E0ok (rest := []) ⟨hx, hb, hml, hown, hts⟩ (fun r hr => c7_isFull l D cI qm m_images m_newMany m_at m_open m_steps m_use m_traced m_speaks m_isParted m_s r hr) (cwV 0 hts gX7_words_X7_isFull rfl rfl rfl hdX7_isFull (rmq_ok (Nat.le_of_ble_eq_true rfl) (Nat.le_of_ble_eq_true rfl))) hK hP hEv hS [0, 1] rfl (va_recv hK hP (ci := 7) (q0 := 0) rfl rfl) rfl rfl hl.1 (Nat.le_of_ble_eq_true rfl) ⟨Nat.zero_le _, Nat.zero_le _⟩ h dX7_words_93 (fun t93 h => ?_)
              refine q_ifne hx hb 112 h dX7_words_96 (by decide) (fun h => ?_) (fun h => ?_)
              · exact J112 x1 x2 x3 x5 t70 m_newMany m_s m_errors m_newWord m_newOrigin m_named_86 m_pile_86 m_undoneBy _ _ _ (lv_sub hl [1, 2, 3, 4, 6, 0] rfl) hP hD hS h
              · refine lv_aload_n hx hb dX7_words_99 rfl (lv_at hl 1 rfl) ?_
                refine q_callR q_E0ok (rest := []) ⟨hx, hb, hml, hown, hts⟩ (fun r hr => c7_page l D cI qm m_images m_newMany m_at m_open m_steps m_use m_traced m_speaks m_isParted m_s r hr) (cwV 0 hts gX7_words_X7_page rfl rfl rfl hdX7_page (rmq_ok (Nat.le_of_ble_eq_true rfl) (Nat.le_of_ble_eq_true rfl))) hK hP hEv hS [0, 1] rfl (va_recv hK hP (ci := 7) (q0 := 0) rfl rfl) rfl rfl hl.1 (Nat.le_of_ble_eq_true rfl) ⟨Nat.zero_le _, Nat.zero_le _⟩ h dX7_words_100 (fun t100 h => ?_)
                refine lv_bipush (v := (20 : Int32)) hx hb dX7_words_103 (by decide) ?_
                refine q_cge hx hb 112 h dX7_words_105 (by decide) (fun h => ?_) (fun h => ?_)
                · exact J112 x1 x2 x3 x5 t70 m_newMany m_s m_errors m_newWord m_newOrigin m_named_86 m_pile_86 m_undoneBy _ _ _ (lv_sub hl [1, 2, 3, 4, 6, 0] rfl) hP hD hS h
                · refine lv_iconst (v := (1 : Int32)) hx hb dX7_words_108 (by decide) ?_
                  refine lv_goto (tgt := 113) hx hb dX7_words_109 (by decide) ?_
                  exact J113 x1 x2 x3 x5 t70 ((1 : Int32)) m_newMany m_s m_errors m_newWord m_newOrigin m_named_86 m_pile_86 m_undoneBy _ _ _ (lv_sub hl [1, 2, 3, 4, 6, 0] rfl) hP hD hS h
  have J14 : ∀ (m_newMany : Int32) (m_s : (Nat → Int32)) (m_errors : (Nat → Int32)) (m_newWord : (Nat → Int32)) (m_newOrigin : (Nat → Int32)) (m_named : (Nat → Int32)) (m_pile : (Nat → Int32)) (m_undoneBy : (Nat → Int32)) (H : Heap) (locs : List Loc) (ls : Array Slot), lv_has ls 8 [(0, .ref (qm 0))] → va_P D vwCl [(qm 0, .inr (7, oX7 qm m_images m_newMany m_at m_open m_steps m_use m_traced m_speaks m_isParted)), (qm 1, .inl (cI, 3974, .inl m_s)), (qm 4, .inl (cI, 7, .inl m_errors)), (qm 5, .inl (cI, 40, .inl m_newWord)), (qm 6, .inl (cI, 40, .inl m_newOrigin)), (qm 13, .inl (cI, 128, .inl m_named)), (qm 14, .inl (cI, 64, .inl m_pile)), (qm 16, .inl (cI, 60, .inl m_undoneBy)), (qm 21, .inl (cI, 4, .inl m_bits)), (qm 22, .inl (cI, 4, .inl m_sizes)), (qm 23, .inl (cI, 96, .inl m_number))] H → va_D A [(qm 0, .inr (7, oX7 qm m_images m_newMany m_at m_open m_steps m_use m_traced m_speaks m_isParted)), (qm 1, .inl (cI, 3974, .inl m_s)), (qm 4, .inl (cI, 7, .inl m_errors)), (qm 5, .inl (cI, 40, .inl m_newWord)), (qm 6, .inl (cI, 40, .inl m_newOrigin)), (qm 13, .inl (cI, 128, .inl m_named)), (qm 14, .inl (cI, 64, .inl m_pile)), (qm 16, .inl (cI, 60, .inl m_undoneBy)), (qm 21, .inl (cI, 4, .inl m_bits)), (qm 22, .inl (cI, 4, .inl m_sizes)), (qm 23, .inl (cI, 96, .inl m_number))] → va_S A s.heap H locs → f7_words_14 n m_bits m_sizes m_number m_newMany m_s m_errors m_newWord m_newOrigin m_named m_pile m_undoneBy = some u → W p l e (rmq (5)) s m args below meth c H locs 0 0 Q (F0 m 14 ls []) := by
    intro m_newMany m_s m_errors m_newWord m_newOrigin m_named m_pile m_undoneBy H locs ls hl hP hD hS h
    unfold f7_words_14 at h
    refine lv_aload_n hx hb dX7_words_14 rfl (lv_at hl 0 rfl) ?_
    refine lv_iconst (v := (1 : Int32)) hx hb dX7_words_15 (by decide) ?_
    refine q_callW2 q_E0ok (rest := []) (fun u => [(qm 0, .inr (7, oX7 qm m_images m_newMany m_at m_open m_steps m_use m_traced m_speaks m_isParted)), (qm 4, .inl (cI, 7, .inl u.2))]) (fun u => u.1) ⟨hx, hb, hml, hown, hts⟩ (fun u hu => c7_error l D cI qm m_images m_newMany m_at m_open m_steps m_use m_traced m_speaks m_isParted m_errors ((1 : Int32)) u hu) (cwV 1 hts gX7_words_X7_error rfl rfl rfl hdX7_error (rmq_ok (Nat.le_of_ble_eq_true rfl) (Nat.le_of_ble_eq_true rfl))) hK hEv hA hP hD hS [0, 2] (by decide) rfl (fun _ => rfl) (va_recv hK hP (ci := 7) (q0 := 0) rfl rfl) rfl rfl hl.1 (Nat.le_of_ble_eq_true rfl) ⟨Nat.zero_le _, Nat.zero_le _⟩ h dX7_words_16 (fun t16 m_errors_16 H locs h hP hD hS => ?_)
    have hP : va_P D vwCl [(qm 0, .inr (7, oX7 qm m_images m_newMany m_at m_open m_steps m_use m_traced m_speaks m_isParted)), (qm 1, .inl (cI, 3974, .inl m_s)), (qm 4, .inl (cI, 7, .inl m_errors_16)), (qm 5, .inl (cI, 40, .inl m_newWord)), (qm 6, .inl (cI, 40, .inl m_newOrigin)), (qm 13, .inl (cI, 128, .inl m_named)), (qm 14, .inl (cI, 64, .inl m_pile)), (qm 16, .inl (cI, 60, .inl m_undoneBy)), (qm 21, .inl (cI, 4, .inl m_bits)), (qm 22, .inl (cI, 4, .inl m_sizes)), (qm 23, .inl (cI, 96, .inl m_number))] H := hP
    have hD : va_D A [(qm 0, .inr (7, oX7 qm m_images m_newMany m_at m_open m_steps m_use m_traced m_speaks m_isParted)), (qm 1, .inl (cI, 3974, .inl m_s)), (qm 4, .inl (cI, 7, .inl m_errors_16)), (qm 5, .inl (cI, 40, .inl m_newWord)), (qm 6, .inl (cI, 40, .inl m_newOrigin)), (qm 13, .inl (cI, 128, .inl m_named)), (qm 14, .inl (cI, 64, .inl m_pile)), (qm 16, .inl (cI, 60, .inl m_undoneBy)), (qm 21, .inl (cI, 4, .inl m_bits)), (qm 22, .inl (cI, 4, .inl m_sizes)), (qm 23, .inl (cI, 96, .inl m_number))] := hD
    exact hret (t16, m_newMany, m_s, m_errors_16, m_newWord, m_newOrigin, m_named, m_pile, m_undoneBy) _ _ _ _ (vp_nar_int _) h hP hD hS dX7_words_19
  unfold f7_words at h
  refine lv_iload_n hx hb dX7_words_0 rfl (lv_at hl 1 rfl) ?_
  refine q_callRS q_E0ok (rest := []) ⟨hx, hb, hml, hown, hts⟩ (fun r hr => c7_isSheet l D cI x1 r hr) (va_cwS 1 hts gX7_words_X7_isSheet rfl rfl rfl hdX7_isSheet (rmq_ok (Nat.le_of_ble_eq_true rfl) (Nat.le_of_ble_eq_true rfl))) hK hP hEv hS [] rfl rfl rfl hl.1 (Nat.le_of_ble_eq_true rfl) ⟨Nat.zero_le _, Nat.zero_le _⟩ h dX7_words_1 (fun t1 h => ?_)
  refine q_ifeq hx hb 14 h dX7_words_4 (by decide) (fun h => ?_) (fun h => ?_)
  · exact J14 m_newMany m_s m_errors m_newWord m_newOrigin m_named m_pile m_undoneBy _ _ _ (lv_sub hl [0] rfl) hP hD hS h
  · refine lv_iload_n hx hb dX7_words_7 rfl (lv_at hl 2 rfl) ?_
    refine q_callRS q_E0ok (rest := []) ⟨hx, hb, hml, hown, hts⟩ (fun r hr => c7_isWriter l D cI x2 r hr) (va_cwS 1 hts gX7_words_X7_isWriter rfl rfl rfl hdX7_isWriter (rmq_ok (Nat.le_of_ble_eq_true rfl) (Nat.le_of_ble_eq_true rfl))) hK hP hEv hS [] rfl rfl rfl hl.1 (Nat.le_of_ble_eq_true rfl) ⟨Nat.zero_le _, Nat.zero_le _⟩ h dX7_words_8 (fun t8 h => ?_)
    refine q_ifne hx hb 20 h dX7_words_11 (by decide) (fun h => ?_) (fun h => ?_)
    · refine lv_aload_n hx hb dX7_words_20 rfl (lv_at hl 0 rfl) ?_
      refine va_get (D := D) (ci := 7) (v := .ref (qm 21)) (C := RX7) (T := TX7) (N := 24) hx hb hts in7 hown hK hP 0 rfl rfl 20 (by decide) l43 (fun _ h9 => h9) rfl dX7_words_21 ?_
      refine lv_iload_n hx hb dX7_words_24 rfl (lv_at hl 1 rfl) ?_
      refine q_iald hx hb hK hP 8 0 rfl rfl h dX7_words_25 (fun t25 h => ?_)
      refine q_ifne hx hb 35 h dX7_words_26 (by decide) (fun h => ?_) (fun h => ?_)
      · refine lv_iconst (v := (0 : Int32)) hx hb dX7_words_35 (by decide) ?_
        refine lv_istore_n (lv' := [(3, .int ((0 : Int32))), (0, .ref (qm 0)), (1, .int x1), (2, .int x2)]) hx hb dX7_words_36 rfl hl (by decide) rfl (fun ls hl => ?_)
        refine lv_iconst (v := (1 : Int32)) hx hb dX7_words_37 (by decide) ?_
        refine lv_istore (lv' := [(4, .int ((1 : Int32))), (3, .int ((0 : Int32))), (0, .ref (qm 0)), (1, .int x1), (2, .int x2)]) hx hb dX7_words_38 hl (by decide) rfl (fun ls hl => ?_)
        refine lv_iconst (v := (0 : Int32)) hx hb dX7_words_40 (by decide) ?_
        refine lv_istore (lv' := [(5, .int ((0 : Int32))), (4, .int ((1 : Int32))), (3, .int ((0 : Int32))), (0, .ref (qm 0)), (1, .int x1), (2, .int x2)]) hx hb dX7_words_41 hl (by decide) rfl (fun ls hl => ?_)
        exact J43 n x1 x2 ((0 : Int32)) ((1 : Int32)) ((0 : Int32)) m_newMany m_s m_errors m_newWord m_newOrigin m_named m_pile m_undoneBy _ _ _ (lv_sub hl [3, 4, 5, 2, 1, 0] rfl) hP hD hS h
      · refine lv_aload_n hx hb dX7_words_29 rfl (lv_at hl 0 rfl) ?_
        refine lv_iconst (v := (2 : Int32)) hx hb dX7_words_30 (by decide) ?_
        refine q_callW2 q_E0ok (rest := []) (fun u => [(qm 0, .inr (7, oX7 qm m_images m_newMany m_at m_open m_steps m_use m_traced m_speaks m_isParted)), (qm 4, .inl (cI, 7, .inl u.2))]) (fun u => u.1) ⟨hx, hb, hml, hown, hts⟩ (fun u hu => c7_error l D cI qm m_images m_newMany m_at m_open m_steps m_use m_traced m_speaks m_isParted m_errors ((2 : Int32)) u hu) (cwV 1 hts gX7_words_X7_error rfl rfl rfl hdX7_error (rmq_ok (Nat.le_of_ble_eq_true rfl) (Nat.le_of_ble_eq_true rfl))) hK hEv hA hP hD hS [0, 2] (by decide) rfl (fun _ => rfl) (va_recv hK hP (ci := 7) (q0 := 0) rfl rfl) rfl rfl hl.1 (Nat.le_of_ble_eq_true rfl) ⟨Nat.zero_le _, Nat.zero_le _⟩ h dX7_words_31 (fun t31 m_errors_31 H locs h hP hD hS => ?_)
        have hP : va_P D vwCl [(qm 0, .inr (7, oX7 qm m_images m_newMany m_at m_open m_steps m_use m_traced m_speaks m_isParted)), (qm 1, .inl (cI, 3974, .inl m_s)), (qm 4, .inl (cI, 7, .inl m_errors_31)), (qm 5, .inl (cI, 40, .inl m_newWord)), (qm 6, .inl (cI, 40, .inl m_newOrigin)), (qm 13, .inl (cI, 128, .inl m_named)), (qm 14, .inl (cI, 64, .inl m_pile)), (qm 16, .inl (cI, 60, .inl m_undoneBy)), (qm 21, .inl (cI, 4, .inl m_bits)), (qm 22, .inl (cI, 4, .inl m_sizes)), (qm 23, .inl (cI, 96, .inl m_number))] H := hP
        have hD : va_D A [(qm 0, .inr (7, oX7 qm m_images m_newMany m_at m_open m_steps m_use m_traced m_speaks m_isParted)), (qm 1, .inl (cI, 3974, .inl m_s)), (qm 4, .inl (cI, 7, .inl m_errors_31)), (qm 5, .inl (cI, 40, .inl m_newWord)), (qm 6, .inl (cI, 40, .inl m_newOrigin)), (qm 13, .inl (cI, 128, .inl m_named)), (qm 14, .inl (cI, 64, .inl m_pile)), (qm 16, .inl (cI, 60, .inl m_undoneBy)), (qm 21, .inl (cI, 4, .inl m_bits)), (qm 22, .inl (cI, 4, .inl m_sizes)), (qm 23, .inl (cI, 96, .inl m_number))] := hD
        exact hret (t31, m_newMany, m_s, m_errors_31, m_newWord, m_newOrigin, m_named, m_pile, m_undoneBy) _ _ _ _ (vp_nar_int _) h hP hD hS dX7_words_34
    · exact J14 m_newMany m_s m_errors m_newWord m_newOrigin m_named m_pile m_undoneBy _ _ _ (lv_sub hl [0] rfl) hP hD hS h
set_option maxHeartbeats 4000000 in
set_option maxRecDepth 100000 in
theorem c7_image (l : Launch) (D : va_G) (cI : ClassId) (qm : Nat → Nat) (m_images m_newMany m_at m_open m_steps m_use m_traced m_speaks m_isParted : Int32) (m_s m_kept : Nat → Int32) (n : Nat) (u : Int32 × Int32 × (Nat → Int32)) (h : f7_image n m_images m_s m_kept = some u) : q_RW q_E0 l yX7_image wsX7_image (rmq (0)) D cI [.ref (qm 0)] [(qm 0, .inr (7, oX7 qm m_images m_newMany m_at m_open m_steps m_use m_traced m_speaks m_isParted)), (qm 1, .inl (cI, 3974, .inl m_s)), (qm 2, .inl (cI, 3974, .inl m_kept))] [(qm 0, .inr (7, oX7 qm u.2.1 m_newMany m_at m_open m_steps m_use m_traced m_speaks m_isParted)), (qm 1, .inl (cI, 3974, .inl m_s)), (qm 2, .inl (cI, 3974, .inl u.2.2))] u.1 := by
  refine q_startW (fun u : Int32 × Int32 × (Nat → Int32) => [(qm 0, .inr (7, oX7 qm u.2.1 m_newMany m_at m_open m_steps m_use m_traced m_speaks m_isParted)), (qm 1, .inl (cI, 3974, .inl m_s)), (qm 2, .inl (cI, 3974, .inl u.2.2))]) (fun u => u.1) (cc := cX7_image) (maxL := 2) (ty := .int) (own := RX7) (by decide) rfl rfl (Nat.le_of_ble_eq_true rfl) rfl (fun p e s m args below meth c Q A hx hb hml hown hts hK hEv hA hret hP hD hS ls hl => ?_)
  have in7 : ∀ w ∈ wsX70, w ∈ wsX7_image := fun w h => List.mem_cons_of_mem _ (List.mem_append_right _ (h))
  have l7 := hts (.fieldLink RX7 7 "PageWarsModel" "s" "[I") (List.mem_of_getElem? (i := 2) rfl)
  have l13 := hts (.fieldLink RX7 13 "PageWarsModel" "kept" "[I") (List.mem_of_getElem? (i := 1) rfl)
  have l283 := hts (.fieldLink RX7 283 "PageWarsModel" "images" "I") (List.mem_of_getElem? (i := 3) rfl)
  have J2 : ∀ (kk2 : Nat) (x1 : Int32) (m_images : Int32) (m_kept : (Nat → Int32)) (H : Heap) (locs : List Loc) (ls : Array Slot), lv_has ls 2 [(0, .ref (qm 0)), (1, .int x1)] → va_P D vwCl [(qm 0, .inr (7, oX7 qm m_images m_newMany m_at m_open m_steps m_use m_traced m_speaks m_isParted)), (qm 1, .inl (cI, 3974, .inl m_s)), (qm 2, .inl (cI, 3974, .inl m_kept))] H → va_D A [(qm 0, .inr (7, oX7 qm m_images m_newMany m_at m_open m_steps m_use m_traced m_speaks m_isParted)), (qm 1, .inl (cI, 3974, .inl m_s)), (qm 2, .inl (cI, 3974, .inl m_kept))] → va_S A s.heap H locs → f7_image_2 n m_s kk2 x1 m_images m_kept = some u → W p l e (rmq (0)) s m args below meth c H locs 0 0 Q (F0 m 2 ls []) := by
    intro kk2
    induction kk2 with
    | zero => intro x1 m_images m_kept H locs ls hl hP hD hS h; exact nomatch (show (none : Option (Int32 × Int32 × (Nat → Int32))) = some u from h)
    | succ kk2 ih2 =>
      intro x1 m_images m_kept H locs ls hl hP hD hS h
      rw [f7_image_2.eq_2] at h
      refine lv_iload_n hx hb dX7_image_2 rfl (lv_at hl 1 rfl) ?_
      refine lv_sipush (v := (3974 : Int32)) hx hb dX7_image_3 (by decide) ?_
      refine q_cge hx hb 27 h dX7_image_6 (by decide) (fun h => ?_) (fun h => ?_)
      · refine lv_aload_n hx hb dX7_image_27 rfl (lv_at hl 0 rfl) ?_
        refine lv_dup hx hb dX7_image_28 rfl ?_
        refine va_get (D := D) (ci := 7) (v := .int m_images) (C := RX7) (T := TX7) (N := 24) hx hb hts in7 hown hK hP 0 rfl rfl 2 (by decide) l283 (fun _ h9 => h9) rfl dX7_image_29 ?_
        refine lv_iconst (v := (1 : Int32)) hx hb dX7_image_32 (by decide) ?_
        refine lv_iadd hx hb dX7_image_33 ?_
        refine q_let h (fun m_images_34 h => ?_)
        refine va_put (D := D) (ci := 7) (v := .int m_images_34) (ty := .int) (C := RX7) (T := TX7) (N := 24) hx hb hts in7 tyX7 tyX7_ok nmX7 hown hK hP hD hS 0 rfl rfl 2 (by decide) l283 (fun _ h9 => h9) rfl (by decide +kernel) rfl rfl (Nat.le_of_ble_eq_true rfl) dX7_image_34 (fun H locs hP hD hS => ?_)
        have hP : va_P D vwCl [(qm 0, .inr (7, oX7 qm m_images_34 m_newMany m_at m_open m_steps m_use m_traced m_speaks m_isParted)), (qm 1, .inl (cI, 3974, .inl m_s)), (qm 2, .inl (cI, 3974, .inl m_kept))] H := hP
        have hD : va_D A [(qm 0, .inr (7, oX7 qm m_images_34 m_newMany m_at m_open m_steps m_use m_traced m_speaks m_isParted)), (qm 1, .inl (cI, 3974, .inl m_s)), (qm 2, .inl (cI, 3974, .inl m_kept))] := hD
        refine lv_aload_n hx hb dX7_image_37 rfl (lv_at hl 0 rfl) ?_
        refine va_get (D := D) (ci := 7) (v := .int m_images_34) (C := RX7) (T := TX7) (N := 24) hx hb hts in7 hown hK hP 0 rfl rfl 2 (by decide) l283 (fun _ h9 => h9) rfl dX7_image_38 ?_
        exact hret (m_images_34, m_images_34, m_kept) _ _ _ _ (vp_nar_int _) h hP hD hS dX7_image_41
      · refine lv_aload_n hx hb dX7_image_9 rfl (lv_at hl 0 rfl) ?_
        refine va_get (D := D) (ci := 7) (v := .ref (qm 2)) (C := RX7) (T := TX7) (N := 24) hx hb hts in7 hown hK hP 0 rfl rfl 1 (by decide) l13 (fun _ h9 => h9) rfl dX7_image_10 ?_
        refine lv_iload_n hx hb dX7_image_13 rfl (lv_at hl 1 rfl) ?_
        refine lv_aload_n hx hb dX7_image_14 rfl (lv_at hl 0 rfl) ?_
        refine va_get (D := D) (ci := 7) (v := .ref (qm 1)) (C := RX7) (T := TX7) (N := 24) hx hb hts in7 hown hK hP 0 rfl rfl 0 (by decide) l7 (fun _ h9 => h9) rfl dX7_image_15 ?_
        refine lv_iload_n hx hb dX7_image_18 rfl (lv_at hl 1 rfl) ?_
        refine q_iald hx hb hK hP 1 0 rfl rfl h dX7_image_19 (fun t19 h => ?_)
        refine q_iast hx hb hK hP hD hS 2 0 rfl rfl h dX7_image_20 (fun m_kept_20 H locs h hP hD hS => ?_)
        have hP : va_P D vwCl [(qm 0, .inr (7, oX7 qm m_images m_newMany m_at m_open m_steps m_use m_traced m_speaks m_isParted)), (qm 1, .inl (cI, 3974, .inl m_s)), (qm 2, .inl (cI, 3974, .inl m_kept_20))] H := hP
        have hD : va_D A [(qm 0, .inr (7, oX7 qm m_images m_newMany m_at m_open m_steps m_use m_traced m_speaks m_isParted)), (qm 1, .inl (cI, 3974, .inl m_s)), (qm 2, .inl (cI, 3974, .inl m_kept_20))] := hD
        refine q_iinc (fun v => [(1, .int v), (0, .ref (qm 0))]) hx hb h dX7_image_21 (by decide) hl (k := 1) rfl (by decide) (fun _ => rfl) (fun x1_21 ls h hl => ?_)
        refine lv_goto (tgt := 2) hx hb dX7_image_24 (by decide) ?_
        exact ih2 x1_21 m_images m_kept_20 _ _ _ (lv_sub hl [1, 0] rfl) hP hD hS h
  unfold f7_image at h
  refine lv_iconst (v := (0 : Int32)) hx hb dX7_image_0 (by decide) ?_
  refine lv_istore_n (lv' := [(1, .int ((0 : Int32))), (0, .ref (qm 0))]) hx hb dX7_image_1 rfl hl (by decide) rfl (fun ls hl => ?_)
  exact J2 n ((0 : Int32)) m_images m_kept _ _ _ (lv_sub hl [1, 0] rfl) hP hD hS h
set_option maxHeartbeats 4000000 in
set_option maxRecDepth 100000 in
theorem c7_restore (l : Launch) (D : va_G) (cI : ClassId) (qm : Nat → Nat) (m_images m_newMany m_at m_open m_steps m_use m_traced m_speaks m_isParted : Int32) (m_s m_kept m_errors : Nat → Int32) (n : Nat) (u : Int32 × (Nat → Int32) × (Nat → Int32)) (h : f7_restore n m_images m_s m_kept m_errors = some u) : q_RW q_E0 l yX7_restore wsX7_restore (rmq (1)) D cI [.ref (qm 0)] [(qm 0, .inr (7, oX7 qm m_images m_newMany m_at m_open m_steps m_use m_traced m_speaks m_isParted)), (qm 1, .inl (cI, 3974, .inl m_s)), (qm 2, .inl (cI, 3974, .inl m_kept)), (qm 4, .inl (cI, 7, .inl m_errors))] [(qm 0, .inr (7, oX7 qm m_images m_newMany m_at m_open m_steps m_use m_traced m_speaks m_isParted)), (qm 1, .inl (cI, 3974, .inl u.2.1)), (qm 2, .inl (cI, 3974, .inl m_kept)), (qm 4, .inl (cI, 7, .inl u.2.2))] u.1 := by
  refine q_startW (fun u : Int32 × (Nat → Int32) × (Nat → Int32) => [(qm 0, .inr (7, oX7 qm m_images m_newMany m_at m_open m_steps m_use m_traced m_speaks m_isParted)), (qm 1, .inl (cI, 3974, .inl u.2.1)), (qm 2, .inl (cI, 3974, .inl m_kept)), (qm 4, .inl (cI, 7, .inl u.2.2))]) (fun u => u.1) (cc := cX7_restore) (maxL := 2) (ty := .int) (own := RX7) (by decide) rfl rfl (Nat.le_of_ble_eq_true rfl) rfl (fun p e s m args below meth c Q A hx hb hml hown hts hK hEv hA hret hP hD hS ls hl => ?_)
  have in7 : ∀ w ∈ wsX70, w ∈ wsX7_restore := fun w h => List.mem_cons_of_mem _ (List.mem_append_right _ (h))
  have l7 := hts (.fieldLink RX7 7 "PageWarsModel" "s" "[I") (List.mem_of_getElem? (i := 2) rfl)
  have l13 := hts (.fieldLink RX7 13 "PageWarsModel" "kept" "[I") (List.mem_of_getElem? (i := 3) rfl)
  have l283 := hts (.fieldLink RX7 283 "PageWarsModel" "images" "I") (List.mem_of_getElem? (i := 1) rfl)
  have J15 : ∀ (kk15 : Nat) (x1 : Int32) (m_s : (Nat → Int32)) (m_errors : (Nat → Int32)) (H : Heap) (locs : List Loc) (ls : Array Slot), lv_has ls 2 [(0, .ref (qm 0)), (1, .int x1)] → va_P D vwCl [(qm 0, .inr (7, oX7 qm m_images m_newMany m_at m_open m_steps m_use m_traced m_speaks m_isParted)), (qm 1, .inl (cI, 3974, .inl m_s)), (qm 2, .inl (cI, 3974, .inl m_kept)), (qm 4, .inl (cI, 7, .inl m_errors))] H → va_D A [(qm 0, .inr (7, oX7 qm m_images m_newMany m_at m_open m_steps m_use m_traced m_speaks m_isParted)), (qm 1, .inl (cI, 3974, .inl m_s)), (qm 2, .inl (cI, 3974, .inl m_kept)), (qm 4, .inl (cI, 7, .inl m_errors))] → va_S A s.heap H locs → f7_restore_15 n m_images m_kept kk15 x1 m_s m_errors = some u → W p l e (rmq (1)) s m args below meth c H locs 0 0 Q (F0 m 15 ls []) := by
    intro kk15
    induction kk15 with
    | zero => intro x1 m_s m_errors H locs ls hl hP hD hS h; exact nomatch (show (none : Option (Int32 × (Nat → Int32) × (Nat → Int32))) = some u from h)
    | succ kk15 ih15 =>
      intro x1 m_s m_errors H locs ls hl hP hD hS h
      rw [f7_restore_15.eq_2] at h
      refine lv_iload_n hx hb dX7_restore_15 rfl (lv_at hl 1 rfl) ?_
      refine lv_sipush (v := (3974 : Int32)) hx hb dX7_restore_16 (by decide) ?_
      refine q_cge hx hb 40 h dX7_restore_19 (by decide) (fun h => ?_) (fun h => ?_)
      · refine lv_aload_n hx hb dX7_restore_40 rfl (lv_at hl 0 rfl) ?_
        refine va_get (D := D) (ci := 7) (v := .ref (qm 1)) (C := RX7) (T := TX7) (N := 24) hx hb hts in7 hown hK hP 0 rfl rfl 0 (by decide) l7 (fun _ h9 => h9) rfl dX7_restore_41 ?_
        refine lv_iconst (v := (0 : Int32)) hx hb dX7_restore_44 (by decide) ?_
        refine q_iald hx hb hK hP 1 0 rfl rfl h dX7_restore_45 (fun t45 h => ?_)
        exact hret (t45, m_s, m_errors) _ _ _ _ (vp_nar_int _) h hP hD hS dX7_restore_46
      · refine lv_aload_n hx hb dX7_restore_22 rfl (lv_at hl 0 rfl) ?_
        refine va_get (D := D) (ci := 7) (v := .ref (qm 1)) (C := RX7) (T := TX7) (N := 24) hx hb hts in7 hown hK hP 0 rfl rfl 0 (by decide) l7 (fun _ h9 => h9) rfl dX7_restore_23 ?_
        refine lv_iload_n hx hb dX7_restore_26 rfl (lv_at hl 1 rfl) ?_
        refine lv_aload_n hx hb dX7_restore_27 rfl (lv_at hl 0 rfl) ?_
        refine va_get (D := D) (ci := 7) (v := .ref (qm 2)) (C := RX7) (T := TX7) (N := 24) hx hb hts in7 hown hK hP 0 rfl rfl 1 (by decide) l13 (fun _ h9 => h9) rfl dX7_restore_28 ?_
        refine lv_iload_n hx hb dX7_restore_31 rfl (lv_at hl 1 rfl) ?_
        refine q_iald hx hb hK hP 2 0 rfl rfl h dX7_restore_32 (fun t32 h => ?_)
        refine q_iast hx hb hK hP hD hS 1 0 rfl rfl h dX7_restore_33 (fun m_s_33 H locs h hP hD hS => ?_)
        have hP : va_P D vwCl [(qm 0, .inr (7, oX7 qm m_images m_newMany m_at m_open m_steps m_use m_traced m_speaks m_isParted)), (qm 1, .inl (cI, 3974, .inl m_s_33)), (qm 2, .inl (cI, 3974, .inl m_kept)), (qm 4, .inl (cI, 7, .inl m_errors))] H := hP
        have hD : va_D A [(qm 0, .inr (7, oX7 qm m_images m_newMany m_at m_open m_steps m_use m_traced m_speaks m_isParted)), (qm 1, .inl (cI, 3974, .inl m_s_33)), (qm 2, .inl (cI, 3974, .inl m_kept)), (qm 4, .inl (cI, 7, .inl m_errors))] := hD
        refine q_iinc (fun v => [(1, .int v), (0, .ref (qm 0))]) hx hb h dX7_restore_34 (by decide) hl (k := 1) rfl (by decide) (fun _ => rfl) (fun x1_34 ls h hl => ?_)
        refine lv_goto (tgt := 15) hx hb dX7_restore_37 (by decide) ?_
        exact ih15 x1_34 m_s_33 m_errors _ _ _ (lv_sub hl [1, 0] rfl) hP hD hS h
  unfold f7_restore at h
  refine lv_aload_n hx hb dX7_restore_0 rfl (lv_at hl 0 rfl) ?_
  refine va_get (D := D) (ci := 7) (v := .int m_images) (C := RX7) (T := TX7) (N := 24) hx hb hts in7 hown hK hP 0 rfl rfl 2 (by decide) l283 (fun _ h9 => h9) rfl dX7_restore_1 ?_
  refine q_ifne hx hb 13 h dX7_restore_4 (by decide) (fun h => ?_) (fun h => ?_)
  · refine lv_iconst (v := (0 : Int32)) hx hb dX7_restore_13 (by decide) ?_
    refine lv_istore_n (lv' := [(1, .int ((0 : Int32))), (0, .ref (qm 0))]) hx hb dX7_restore_14 rfl hl (by decide) rfl (fun ls hl => ?_)
    exact J15 n ((0 : Int32)) m_s m_errors _ _ _ (lv_sub hl [1, 0] rfl) hP hD hS h
  · refine lv_aload_n hx hb dX7_restore_7 rfl (lv_at hl 0 rfl) ?_
    refine lv_iconst (v := (2 : Int32)) hx hb dX7_restore_8 (by decide) ?_
    refine q_callW2 q_E0ok (rest := []) (fun u => [(qm 0, .inr (7, oX7 qm m_images m_newMany m_at m_open m_steps m_use m_traced m_speaks m_isParted)), (qm 4, .inl (cI, 7, .inl u.2))]) (fun u => u.1) ⟨hx, hb, hml, hown, hts⟩ (fun u hu => c7_error l D cI qm m_images m_newMany m_at m_open m_steps m_use m_traced m_speaks m_isParted m_errors ((2 : Int32)) u hu) (cwV 1 hts gX7_restore_X7_error rfl rfl rfl hdX7_error (rmq_ok (Nat.le_of_ble_eq_true rfl) (Nat.le_of_ble_eq_true rfl))) hK hEv hA hP hD hS [0, 3] (by decide) rfl (fun _ => rfl) (va_recv hK hP (ci := 7) (q0 := 0) rfl rfl) rfl rfl hl.1 (Nat.le_of_ble_eq_true rfl) ⟨Nat.zero_le _, Nat.zero_le _⟩ h dX7_restore_9 (fun t9 m_errors_9 H locs h hP hD hS => ?_)
    have hP : va_P D vwCl [(qm 0, .inr (7, oX7 qm m_images m_newMany m_at m_open m_steps m_use m_traced m_speaks m_isParted)), (qm 1, .inl (cI, 3974, .inl m_s)), (qm 2, .inl (cI, 3974, .inl m_kept)), (qm 4, .inl (cI, 7, .inl m_errors_9))] H := hP
    have hD : va_D A [(qm 0, .inr (7, oX7 qm m_images m_newMany m_at m_open m_steps m_use m_traced m_speaks m_isParted)), (qm 1, .inl (cI, 3974, .inl m_s)), (qm 2, .inl (cI, 3974, .inl m_kept)), (qm 4, .inl (cI, 7, .inl m_errors_9))] := hD
    exact hret (t9, m_s, m_errors_9) _ _ _ _ (vp_nar_int _) h hP hD hS dX7_restore_12
set_option maxHeartbeats 4000000 in
set_option maxRecDepth 100000 in
theorem c7_tell (l : Launch) (D : va_G) (cI : ClassId) (qm : Nat → Nat) (m_images m_newMany m_at m_open m_steps m_use m_traced m_speaks m_isParted : Int32) (m_s m_errors : Nat → Int32) (x1 : Int32) (u : Int32 × (Nat → Int32) × (Nat → Int32)) (h : f7_tell x1 m_s m_errors = some u) : q_RW q_E0 l yX7_tell wsX7_tell (rmq (1)) D cI [.ref (qm 0), .int x1] [(qm 0, .inr (7, oX7 qm m_images m_newMany m_at m_open m_steps m_use m_traced m_speaks m_isParted)), (qm 1, .inl (cI, 3974, .inl m_s)), (qm 4, .inl (cI, 7, .inl m_errors))] [(qm 0, .inr (7, oX7 qm m_images m_newMany m_at m_open m_steps m_use m_traced m_speaks m_isParted)), (qm 1, .inl (cI, 3974, .inl u.2.1)), (qm 4, .inl (cI, 7, .inl u.2.2))] u.1 := by
  refine q_startW (fun u : Int32 × (Nat → Int32) × (Nat → Int32) => [(qm 0, .inr (7, oX7 qm m_images m_newMany m_at m_open m_steps m_use m_traced m_speaks m_isParted)), (qm 1, .inl (cI, 3974, .inl u.2.1)), (qm 4, .inl (cI, 7, .inl u.2.2))]) (fun u => u.1) (cc := cX7_tell) (maxL := 2) (ty := .int) (own := RX7) (by decide) rfl rfl (Nat.le_of_ble_eq_true rfl) rfl (fun p e s m args below meth c Q A hx hb hml hown hts hK hEv hA hret hP hD hS ls hl => ?_)
  have in7 : ∀ w ∈ wsX70, w ∈ wsX7_tell := fun w h => List.mem_cons_of_mem _ (List.mem_append_right _ (h))
  have l7 := hts (.fieldLink RX7 7 "PageWarsModel" "s" "[I") (List.mem_of_getElem? (i := 1) rfl)
  unfold f7_tell at h
  refine lv_aload_n hx hb dX7_tell_0 rfl (lv_at hl 0 rfl) ?_
  refine va_get (D := D) (ci := 7) (v := .ref (qm 1)) (C := RX7) (T := TX7) (N := 24) hx hb hts in7 hown hK hP 0 rfl rfl 0 (by decide) l7 (fun _ h9 => h9) rfl dX7_tell_1 ?_
  refine lv_iconst (v := (5 : Int32)) hx hb dX7_tell_4 (by decide) ?_
  refine q_iald hx hb hK hP 1 0 rfl rfl h dX7_tell_5 (fun t5 h => ?_)
  refine lv_bipush (v := (24 : Int32)) hx hb dX7_tell_6 (by decide) ?_
  refine q_cne hx hb 17 h dX7_tell_8 (by decide) (fun h => ?_) (fun h => ?_)
  · refine lv_aload_n hx hb dX7_tell_17 rfl (lv_at hl 0 rfl) ?_
    refine va_get (D := D) (ci := 7) (v := .ref (qm 1)) (C := RX7) (T := TX7) (N := 24) hx hb hts in7 hown hK hP 0 rfl rfl 0 (by decide) l7 (fun _ h9 => h9) rfl dX7_tell_18 ?_
    refine lv_sipush (v := (3950 : Int32)) hx hb dX7_tell_21 (by decide) ?_
    refine lv_aload_n hx hb dX7_tell_24 rfl (lv_at hl 0 rfl) ?_
    refine va_get (D := D) (ci := 7) (v := .ref (qm 1)) (C := RX7) (T := TX7) (N := 24) hx hb hts in7 hown hK hP 0 rfl rfl 0 (by decide) l7 (fun _ h9 => h9) rfl dX7_tell_25 ?_
    refine lv_iconst (v := (5 : Int32)) hx hb dX7_tell_28 (by decide) ?_
    refine q_iald hx hb hK hP 1 0 rfl rfl h dX7_tell_29 (fun t29 h => ?_)
    refine lv_iadd hx hb dX7_tell_30 ?_
    refine lv_iload_n hx hb dX7_tell_31 rfl (lv_at hl 1 rfl) ?_
    refine q_iast hx hb hK hP hD hS 1 0 rfl rfl h dX7_tell_32 (fun m_s_32 H locs h hP hD hS => ?_)
    have hP : va_P D vwCl [(qm 0, .inr (7, oX7 qm m_images m_newMany m_at m_open m_steps m_use m_traced m_speaks m_isParted)), (qm 1, .inl (cI, 3974, .inl m_s_32)), (qm 4, .inl (cI, 7, .inl m_errors))] H := hP
    have hD : va_D A [(qm 0, .inr (7, oX7 qm m_images m_newMany m_at m_open m_steps m_use m_traced m_speaks m_isParted)), (qm 1, .inl (cI, 3974, .inl m_s_32)), (qm 4, .inl (cI, 7, .inl m_errors))] := hD
    refine lv_aload_n hx hb dX7_tell_33 rfl (lv_at hl 0 rfl) ?_
    refine va_get (D := D) (ci := 7) (v := .ref (qm 1)) (C := RX7) (T := TX7) (N := 24) hx hb hts in7 hown hK hP 0 rfl rfl 0 (by decide) l7 (fun _ h9 => h9) rfl dX7_tell_34 ?_
    refine lv_iconst (v := (5 : Int32)) hx hb dX7_tell_37 (by decide) ?_
    refine lv_dup2_11 hx hb dX7_tell_38 rfl rfl ?_
    refine q_iald hx hb hK hP 1 0 rfl rfl h dX7_tell_39 (fun t39 h => ?_)
    refine lv_iconst (v := (1 : Int32)) hx hb dX7_tell_40 (by decide) ?_
    refine lv_iadd hx hb dX7_tell_41 ?_
    refine q_iast hx hb hK hP hD hS 1 0 rfl rfl h dX7_tell_42 (fun m_s_42 H locs h hP hD hS => ?_)
    have hP : va_P D vwCl [(qm 0, .inr (7, oX7 qm m_images m_newMany m_at m_open m_steps m_use m_traced m_speaks m_isParted)), (qm 1, .inl (cI, 3974, .inl m_s_42)), (qm 4, .inl (cI, 7, .inl m_errors))] H := hP
    have hD : va_D A [(qm 0, .inr (7, oX7 qm m_images m_newMany m_at m_open m_steps m_use m_traced m_speaks m_isParted)), (qm 1, .inl (cI, 3974, .inl m_s_42)), (qm 4, .inl (cI, 7, .inl m_errors))] := hD
    refine lv_aload_n hx hb dX7_tell_43 rfl (lv_at hl 0 rfl) ?_
    refine va_get (D := D) (ci := 7) (v := .ref (qm 1)) (C := RX7) (T := TX7) (N := 24) hx hb hts in7 hown hK hP 0 rfl rfl 0 (by decide) l7 (fun _ h9 => h9) rfl dX7_tell_44 ?_
    refine lv_iconst (v := (5 : Int32)) hx hb dX7_tell_47 (by decide) ?_
    refine q_iald hx hb hK hP 1 0 rfl rfl h dX7_tell_48 (fun t48 h => ?_)
    exact hret (t48, m_s_42, m_errors) _ _ _ _ (vp_nar_int _) h hP hD hS dX7_tell_49
  · refine lv_aload_n hx hb dX7_tell_11 rfl (lv_at hl 0 rfl) ?_
    refine lv_iconst (v := (4 : Int32)) hx hb dX7_tell_12 (by decide) ?_
    refine q_callW2 q_E0ok (rest := []) (fun u => [(qm 0, .inr (7, oX7 qm m_images m_newMany m_at m_open m_steps m_use m_traced m_speaks m_isParted)), (qm 4, .inl (cI, 7, .inl u.2))]) (fun u => u.1) ⟨hx, hb, hml, hown, hts⟩ (fun u hu => c7_error l D cI qm m_images m_newMany m_at m_open m_steps m_use m_traced m_speaks m_isParted m_errors ((4 : Int32)) u hu) (cwV 1 hts gX7_tell_X7_error rfl rfl rfl hdX7_error (rmq_ok (Nat.le_of_ble_eq_true rfl) (Nat.le_of_ble_eq_true rfl))) hK hEv hA hP hD hS [0, 2] (by decide) rfl (fun _ => rfl) (va_recv hK hP (ci := 7) (q0 := 0) rfl rfl) rfl rfl hl.1 (Nat.le_of_ble_eq_true rfl) ⟨Nat.zero_le _, Nat.zero_le _⟩ h dX7_tell_13 (fun t13 m_errors_13 H locs h hP hD hS => ?_)
    have hP : va_P D vwCl [(qm 0, .inr (7, oX7 qm m_images m_newMany m_at m_open m_steps m_use m_traced m_speaks m_isParted)), (qm 1, .inl (cI, 3974, .inl m_s)), (qm 4, .inl (cI, 7, .inl m_errors_13))] H := hP
    have hD : va_D A [(qm 0, .inr (7, oX7 qm m_images m_newMany m_at m_open m_steps m_use m_traced m_speaks m_isParted)), (qm 1, .inl (cI, 3974, .inl m_s)), (qm 4, .inl (cI, 7, .inl m_errors_13))] := hD
    exact hret (t13, m_s, m_errors_13) _ _ _ _ (vp_nar_int _) h hP hD hS dX7_tell_16
set_option maxHeartbeats 4000000 in
set_option maxRecDepth 100000 in
theorem c7_check (l : Launch) (D : va_G) (cI : ClassId) (qm : Nat → Nat) (m_images m_newMany m_at m_open m_steps m_use m_traced m_speaks m_isParted : Int32) (m_s m_errors : Nat → Int32) (x1 : Int32) (n : Nat) (u : Int32 × (Nat → Int32) × (Nat → Int32)) (h : f7_check n x1 m_s m_errors = some u) : q_RW q_E0 l yX7_check wsX7_check (rmq (2)) D cI [.ref (qm 0), .int x1] [(qm 0, .inr (7, oX7 qm m_images m_newMany m_at m_open m_steps m_use m_traced m_speaks m_isParted)), (qm 1, .inl (cI, 3974, .inl m_s)), (qm 4, .inl (cI, 7, .inl m_errors))] [(qm 0, .inr (7, oX7 qm m_images m_newMany m_at m_open m_steps m_use m_traced m_speaks m_isParted)), (qm 1, .inl (cI, 3974, .inl u.2.1)), (qm 4, .inl (cI, 7, .inl u.2.2))] u.1 := by
  refine q_startW (fun u : Int32 × (Nat → Int32) × (Nat → Int32) => [(qm 0, .inr (7, oX7 qm m_images m_newMany m_at m_open m_steps m_use m_traced m_speaks m_isParted)), (qm 1, .inl (cI, 3974, .inl u.2.1)), (qm 4, .inl (cI, 7, .inl u.2.2))]) (fun u => u.1) (cc := cX7_check) (maxL := 4) (ty := .int) (own := RX7) (by decide) rfl rfl (Nat.le_of_ble_eq_true rfl) rfl (fun p e s m args below meth c Q A hx hb hml hown hts hK hEv hA hret hP hD hS ls hl => ?_)
  have in7 : ∀ w ∈ wsX70, w ∈ wsX7_check := fun w h => List.mem_cons_of_mem _ (List.mem_append_right _ (h))
  have l7 := hts (.fieldLink RX7 7 "PageWarsModel" "s" "[I") (List.mem_of_getElem? (i := 1) rfl)
  have J90 : ∀ (s0 : Int32) (m_s : (Nat → Int32)) (m_errors : (Nat → Int32)) (H : Heap) (locs : List Loc) (ls : Array Slot), lv_has ls 4 [(0, .ref (qm 0))] → va_P D vwCl [(qm 0, .inr (7, oX7 qm m_images m_newMany m_at m_open m_steps m_use m_traced m_speaks m_isParted)), (qm 1, .inl (cI, 3974, .inl m_s)), (qm 4, .inl (cI, 7, .inl m_errors))] H → va_D A [(qm 0, .inr (7, oX7 qm m_images m_newMany m_at m_open m_steps m_use m_traced m_speaks m_isParted)), (qm 1, .inl (cI, 3974, .inl m_s)), (qm 4, .inl (cI, 7, .inl m_errors))] → va_S A s.heap H locs → f7_check_90 n s0 m_s m_errors = some u → W p l e (rmq (2)) s m args below meth c H locs 0 0 Q (F0 m 90 ls [.int s0]) := by
    intro s0 m_s m_errors H locs ls hl hP hD hS h
    unfold f7_check_90 at h
    exact hret (s0, m_s, m_errors) _ _ _ _ (vp_nar_int _) h hP hD hS dX7_check_90
  have J87 : ∀ (x3 : Int32) (m_s : (Nat → Int32)) (m_errors : (Nat → Int32)) (H : Heap) (locs : List Loc) (ls : Array Slot), lv_has ls 4 [(0, .ref (qm 0)), (3, .int x3)] → va_P D vwCl [(qm 0, .inr (7, oX7 qm m_images m_newMany m_at m_open m_steps m_use m_traced m_speaks m_isParted)), (qm 1, .inl (cI, 3974, .inl m_s)), (qm 4, .inl (cI, 7, .inl m_errors))] H → va_D A [(qm 0, .inr (7, oX7 qm m_images m_newMany m_at m_open m_steps m_use m_traced m_speaks m_isParted)), (qm 1, .inl (cI, 3974, .inl m_s)), (qm 4, .inl (cI, 7, .inl m_errors))] → va_S A s.heap H locs → f7_check_87 n x3 m_s m_errors = some u → W p l e (rmq (2)) s m args below meth c H locs 0 0 Q (F0 m 87 ls []) := by
    intro x3 m_s m_errors H locs ls hl hP hD hS h
    unfold f7_check_87 at h
    refine lv_iconst (v := (1 : Int32)) hx hb dX7_check_87 (by decide) ?_
    refine lv_iload_n hx hb dX7_check_88 rfl (lv_at hl 1 rfl) ?_
    refine lv_iadd hx hb dX7_check_89 ?_
    exact J90 (((1 : Int32)) + x3) m_s m_errors _ _ _ (lv_sub hl [0] rfl) hP hD hS h
  have J69 : ∀ (x1 : Int32) (x2 : Int32) (x3 : Int32) (m_s : (Nat → Int32)) (m_errors : (Nat → Int32)) (H : Heap) (locs : List Loc) (ls : Array Slot), lv_has ls 4 [(0, .ref (qm 0)), (1, .int x1), (2, .int x2), (3, .int x3)] → va_P D vwCl [(qm 0, .inr (7, oX7 qm m_images m_newMany m_at m_open m_steps m_use m_traced m_speaks m_isParted)), (qm 1, .inl (cI, 3974, .inl m_s)), (qm 4, .inl (cI, 7, .inl m_errors))] H → va_D A [(qm 0, .inr (7, oX7 qm m_images m_newMany m_at m_open m_steps m_use m_traced m_speaks m_isParted)), (qm 1, .inl (cI, 3974, .inl m_s)), (qm 4, .inl (cI, 7, .inl m_errors))] → va_S A s.heap H locs → f7_check_69 n x1 x2 x3 m_s m_errors = some u → W p l e (rmq (2)) s m args below meth c H locs 0 0 Q (F0 m 69 ls []) := by
    intro x1 x2 x3 m_s m_errors H locs ls hl hP hD hS h
    unfold f7_check_69 at h
    refine lv_iload_n hx hb dX7_check_69 rfl (lv_at hl 3 rfl) ?_
    refine lv_iload_n hx hb dX7_check_70 rfl (lv_at hl 2 rfl) ?_
    refine q_cne hx hb 87 h dX7_check_71 (by decide) (fun h => ?_) (fun h => ?_)
    · exact J87 x3 m_s m_errors _ _ _ (lv_sub hl [0, 3] rfl) hP hD hS h
    · refine lv_iload_n hx hb dX7_check_74 rfl (lv_at hl 3 rfl) ?_
      refine lv_aload_n hx hb dX7_check_75 rfl (lv_at hl 0 rfl) ?_
      refine lv_iload_n hx hb dX7_check_76 rfl (lv_at hl 1 rfl) ?_
      refine q_callR q_E0ok (rest := [.int x3]) ⟨hx, hb, hml, hown, hts⟩ (fun r hr => c7_sizeOf l D cI qm m_images m_newMany m_at m_open m_steps m_use m_traced m_speaks m_isParted m_s x1 r hr) (cwV 1 hts gX7_check_X7_sizeOf rfl rfl rfl hdX7_sizeOf (rmq_ok (Nat.le_of_ble_eq_true rfl) (Nat.le_of_ble_eq_true rfl))) hK hP hEv hS [0, 1] rfl (va_recv hK hP (ci := 7) (q0 := 0) rfl rfl) rfl rfl hl.1 (Nat.le_of_ble_eq_true rfl) ⟨Nat.zero_le _, Nat.zero_le _⟩ h dX7_check_77 (fun t77 h => ?_)
      refine q_cne hx hb 87 h dX7_check_80 (by decide) (fun h => ?_) (fun h => ?_)
      · exact J87 x3 m_s m_errors _ _ _ (lv_sub hl [0, 3] rfl) hP hD hS h
      · refine lv_iconst (v := (0 : Int32)) hx hb dX7_check_83 (by decide) ?_
        refine lv_goto (tgt := 90) hx hb dX7_check_84 (by decide) ?_
        exact J90 ((0 : Int32)) m_s m_errors _ _ _ (lv_sub hl [0] rfl) hP hD hS h
  have J30 : ∀ (kk30 : Nat) (x1 : Int32) (x2 : Int32) (x3 : Int32) (m_s : (Nat → Int32)) (m_errors : (Nat → Int32)) (H : Heap) (locs : List Loc) (ls : Array Slot), lv_has ls 4 [(0, .ref (qm 0)), (1, .int x1), (2, .int x2), (3, .int x3)] → va_P D vwCl [(qm 0, .inr (7, oX7 qm m_images m_newMany m_at m_open m_steps m_use m_traced m_speaks m_isParted)), (qm 1, .inl (cI, 3974, .inl m_s)), (qm 4, .inl (cI, 7, .inl m_errors))] H → va_D A [(qm 0, .inr (7, oX7 qm m_images m_newMany m_at m_open m_steps m_use m_traced m_speaks m_isParted)), (qm 1, .inl (cI, 3974, .inl m_s)), (qm 4, .inl (cI, 7, .inl m_errors))] → va_S A s.heap H locs → f7_check_30 n kk30 x1 x2 x3 m_s m_errors = some u → W p l e (rmq (2)) s m args below meth c H locs 0 0 Q (F0 m 30 ls []) := by
    intro kk30
    induction kk30 with
    | zero => intro x1 x2 x3 m_s m_errors H locs ls hl hP hD hS h; exact nomatch (show (none : Option (Int32 × (Nat → Int32) × (Nat → Int32))) = some u from h)
    | succ kk30 ih30 =>
      intro x1 x2 x3 m_s m_errors H locs ls hl hP hD hS h
      rw [f7_check_30.eq_2] at h
      refine lv_iload_n hx hb dX7_check_30 rfl (lv_at hl 3 rfl) ?_
      refine lv_iload_n hx hb dX7_check_31 rfl (lv_at hl 2 rfl) ?_
      refine q_cge hx hb 69 h dX7_check_32 (by decide) (fun h => ?_) (fun h => ?_)
      · exact J69 x1 x2 x3 m_s m_errors _ _ _ (lv_sub hl [0, 1, 2, 3] rfl) hP hD hS h
      · refine lv_iload_n hx hb dX7_check_35 rfl (lv_at hl 3 rfl) ?_
        refine lv_aload_n hx hb dX7_check_36 rfl (lv_at hl 0 rfl) ?_
        refine lv_iload_n hx hb dX7_check_37 rfl (lv_at hl 1 rfl) ?_
        refine q_callR q_E0ok (rest := [.int x3]) ⟨hx, hb, hml, hown, hts⟩ (fun r hr => c7_sizeOf l D cI qm m_images m_newMany m_at m_open m_steps m_use m_traced m_speaks m_isParted m_s x1 r hr) (cwV 1 hts gX7_check_X7_sizeOf rfl rfl rfl hdX7_sizeOf (rmq_ok (Nat.le_of_ble_eq_true rfl) (Nat.le_of_ble_eq_true rfl))) hK hP hEv hS [0, 1] rfl (va_recv hK hP (ci := 7) (q0 := 0) rfl rfl) rfl rfl hl.1 (Nat.le_of_ble_eq_true rfl) ⟨Nat.zero_le _, Nat.zero_le _⟩ h dX7_check_38 (fun t38 h => ?_)
        refine q_cge hx hb 69 h dX7_check_41 (by decide) (fun h => ?_) (fun h => ?_)
        · exact J69 x1 x2 x3 m_s m_errors _ _ _ (lv_sub hl [0, 1, 2, 3] rfl) hP hD hS h
        · refine lv_aload_n hx hb dX7_check_44 rfl (lv_at hl 0 rfl) ?_
          refine va_get (D := D) (ci := 7) (v := .ref (qm 1)) (C := RX7) (T := TX7) (N := 24) hx hb hts in7 hown hK hP 0 rfl rfl 0 (by decide) l7 (fun _ h9 => h9) rfl dX7_check_45 ?_
          refine lv_sipush (v := (3950 : Int32)) hx hb dX7_check_48 (by decide) ?_
          refine lv_iload_n hx hb dX7_check_51 rfl (lv_at hl 3 rfl) ?_
          refine lv_iadd hx hb dX7_check_52 ?_
          refine q_iald hx hb hK hP 1 0 rfl rfl h dX7_check_53 (fun t53 h => ?_)
          refine lv_aload_n hx hb dX7_check_54 rfl (lv_at hl 0 rfl) ?_
          refine lv_iload_n hx hb dX7_check_55 rfl (lv_at hl 1 rfl) ?_
          refine lv_iload_n hx hb dX7_check_56 rfl (lv_at hl 3 rfl) ?_
          refine q_callR q_E0ok (rest := [.int t53]) ⟨hx, hb, hml, hown, hts⟩ (fun r hr => c7_wordAt l D cI qm m_images m_newMany m_at m_open m_steps m_use m_traced m_speaks m_isParted m_s x1 x3 r hr) (cwV 2 hts gX7_check_X7_wordAt rfl rfl rfl hdX7_wordAt (rmq_ok (Nat.le_of_ble_eq_true rfl) (Nat.le_of_ble_eq_true rfl))) hK hP hEv hS [0, 1] rfl (va_recv hK hP (ci := 7) (q0 := 0) rfl rfl) rfl rfl hl.1 (Nat.le_of_ble_eq_true rfl) ⟨Nat.zero_le _, Nat.zero_le _⟩ h dX7_check_57 (fun t57 h => ?_)
          refine q_cne hx hb 69 h dX7_check_60 (by decide) (fun h => ?_) (fun h => ?_)
          · exact J69 x1 x2 x3 m_s m_errors _ _ _ (lv_sub hl [0, 1, 2, 3] rfl) hP hD hS h
          · refine q_iinc (fun v => [(3, .int v), (0, .ref (qm 0)), (1, .int x1), (2, .int x2)]) hx hb h dX7_check_63 (by decide) hl (k := 3) rfl (by decide) (fun _ => rfl) (fun x3_63 ls h hl => ?_)
            refine lv_goto (tgt := 30) hx hb dX7_check_66 (by decide) ?_
            exact ih30 x1 x2 x3_63 m_s m_errors _ _ _ (lv_sub hl [1, 2, 3, 0] rfl) hP hD hS h
  unfold f7_check at h
  refine lv_aload_n hx hb dX7_check_0 rfl (lv_at hl 0 rfl) ?_
  refine va_get (D := D) (ci := 7) (v := .ref (qm 1)) (C := RX7) (T := TX7) (N := 24) hx hb hts in7 hown hK hP 0 rfl rfl 0 (by decide) l7 (fun _ h9 => h9) rfl dX7_check_1 ?_
  refine lv_iconst (v := (5 : Int32)) hx hb dX7_check_4 (by decide) ?_
  refine q_iald hx hb hK hP 1 0 rfl rfl h dX7_check_5 (fun t5 h => ?_)
  refine lv_istore_n (lv' := [(2, .int t5), (0, .ref (qm 0)), (1, .int x1)]) hx hb dX7_check_6 rfl hl (by decide) rfl (fun ls hl => ?_)
  refine lv_aload_n hx hb dX7_check_7 rfl (lv_at hl 1 rfl) ?_
  refine va_get (D := D) (ci := 7) (v := .ref (qm 1)) (C := RX7) (T := TX7) (N := 24) hx hb hts in7 hown hK hP 0 rfl rfl 0 (by decide) l7 (fun _ h9 => h9) rfl dX7_check_8 ?_
  refine lv_iconst (v := (5 : Int32)) hx hb dX7_check_11 (by decide) ?_
  refine lv_iconst (v := (0 : Int32)) hx hb dX7_check_12 (by decide) ?_
  refine q_iast hx hb hK hP hD hS 1 0 rfl rfl h dX7_check_13 (fun m_s_13 H locs h hP hD hS => ?_)
  have hP : va_P D vwCl [(qm 0, .inr (7, oX7 qm m_images m_newMany m_at m_open m_steps m_use m_traced m_speaks m_isParted)), (qm 1, .inl (cI, 3974, .inl m_s_13)), (qm 4, .inl (cI, 7, .inl m_errors))] H := hP
  have hD : va_D A [(qm 0, .inr (7, oX7 qm m_images m_newMany m_at m_open m_steps m_use m_traced m_speaks m_isParted)), (qm 1, .inl (cI, 3974, .inl m_s_13)), (qm 4, .inl (cI, 7, .inl m_errors))] := hD
  refine lv_aload_n hx hb dX7_check_14 rfl (lv_at hl 1 rfl) ?_
  refine lv_iload_n hx hb dX7_check_15 rfl (lv_at hl 2 rfl) ?_
  refine q_callR q_E0ok (rest := []) ⟨hx, hb, hml, hown, hts⟩ (fun r hr => c7_isVersion l D cI qm m_images m_newMany m_at m_open m_steps m_use m_traced m_speaks m_isParted m_s_13 x1 r hr) (cwV 1 hts gX7_check_X7_isVersion rfl rfl rfl hdX7_isVersion (rmq_ok (Nat.le_of_ble_eq_true rfl) (Nat.le_of_ble_eq_true rfl))) hK hP hEv hS [0, 1] rfl (va_recv hK hP (ci := 7) (q0 := 0) rfl rfl) rfl rfl hl.1 (Nat.le_of_ble_eq_true rfl) ⟨Nat.zero_le _, Nat.zero_le _⟩ h dX7_check_16 (fun t16 h => ?_)
  refine q_ifne hx hb 28 h dX7_check_19 (by decide) (fun h => ?_) (fun h => ?_)
  · refine lv_iconst (v := (0 : Int32)) hx hb dX7_check_28 (by decide) ?_
    refine lv_istore_n (lv' := [(3, .int ((0 : Int32))), (2, .int t5), (0, .ref (qm 0)), (1, .int x1)]) hx hb dX7_check_29 rfl hl (by decide) rfl (fun ls hl => ?_)
    exact J30 n x1 t5 ((0 : Int32)) m_s_13 m_errors _ _ _ (lv_sub hl [2, 3, 1, 0] rfl) hP hD hS h
  · refine lv_aload_n hx hb dX7_check_22 rfl (lv_at hl 1 rfl) ?_
    refine lv_iconst (v := (1 : Int32)) hx hb dX7_check_23 (by decide) ?_
    refine q_callW2 q_E0ok (rest := []) (fun u => [(qm 0, .inr (7, oX7 qm m_images m_newMany m_at m_open m_steps m_use m_traced m_speaks m_isParted)), (qm 4, .inl (cI, 7, .inl u.2))]) (fun u => u.1) ⟨hx, hb, hml, hown, hts⟩ (fun u hu => c7_error l D cI qm m_images m_newMany m_at m_open m_steps m_use m_traced m_speaks m_isParted m_errors ((1 : Int32)) u hu) (cwV 1 hts gX7_check_X7_error rfl rfl rfl hdX7_error (rmq_ok (Nat.le_of_ble_eq_true rfl) (Nat.le_of_ble_eq_true rfl))) hK hEv hA hP hD hS [0, 2] (by decide) rfl (fun _ => rfl) (va_recv hK hP (ci := 7) (q0 := 0) rfl rfl) rfl rfl hl.1 (Nat.le_of_ble_eq_true rfl) ⟨Nat.zero_le _, Nat.zero_le _⟩ h dX7_check_24 (fun t24 m_errors_24 H locs h hP hD hS => ?_)
    have hP : va_P D vwCl [(qm 0, .inr (7, oX7 qm m_images m_newMany m_at m_open m_steps m_use m_traced m_speaks m_isParted)), (qm 1, .inl (cI, 3974, .inl m_s_13)), (qm 4, .inl (cI, 7, .inl m_errors_24))] H := hP
    have hD : va_D A [(qm 0, .inr (7, oX7 qm m_images m_newMany m_at m_open m_steps m_use m_traced m_speaks m_isParted)), (qm 1, .inl (cI, 3974, .inl m_s_13)), (qm 4, .inl (cI, 7, .inl m_errors_24))] := hD
    exact hret (t24, m_s_13, m_errors_24) _ _ _ _ (vp_nar_int _) h hP hD hS dX7_check_27
set_option maxHeartbeats 4000000 in
set_option maxRecDepth 100000 in
theorem c7_count (l : Launch) (D : va_G) (cI : ClassId) (qm : Nat → Nat) (m_images m_newMany m_at m_open m_steps m_use m_traced m_speaks m_isParted : Int32) (m_s m_errors : Nat → Int32) (x1 : Int32) (u : Int32 × (Nat → Int32)) (h : f7_count x1 m_traced m_s m_errors = some u) : q_RW q_E0 l yX7_count wsX7_count (rmq (2)) D cI [.ref (qm 0), .int x1] [(qm 0, .inr (7, oX7 qm m_images m_newMany m_at m_open m_steps m_use m_traced m_speaks m_isParted)), (qm 1, .inl (cI, 3974, .inl m_s)), (qm 4, .inl (cI, 7, .inl m_errors))] [(qm 0, .inr (7, oX7 qm m_images m_newMany m_at m_open m_steps m_use m_traced m_speaks m_isParted)), (qm 1, .inl (cI, 3974, .inl m_s)), (qm 4, .inl (cI, 7, .inl u.2))] u.1 := by
  refine q_startW (fun u : Int32 × (Nat → Int32) => [(qm 0, .inr (7, oX7 qm m_images m_newMany m_at m_open m_steps m_use m_traced m_speaks m_isParted)), (qm 1, .inl (cI, 3974, .inl m_s)), (qm 4, .inl (cI, 7, .inl u.2))]) (fun u => u.1) (cc := cX7_count) (maxL := 2) (ty := .int) (own := RX7) (by decide) rfl rfl (Nat.le_of_ble_eq_true rfl) rfl (fun p e s m args below meth c Q A hx hb hml hown hts hK hEv hA hret hP hD hS ls hl => ?_)
  have in7 : ∀ w ∈ wsX70, w ∈ wsX7_count := fun w h => List.mem_cons_of_mem _ (List.mem_append_right _ (h))
  have l7 := hts (.fieldLink RX7 7 "PageWarsModel" "s" "[I") (List.mem_of_getElem? (i := 1) rfl)
  have l246 := hts (.fieldLink RX7 246 "PageWarsModel" "traced" "I") (List.mem_of_getElem? (i := 2) rfl)
  unfold f7_count at h
  refine lv_iload_n hx hb dX7_count_0 rfl (lv_at hl 1 rfl) ?_
  rcases Decidable.em (x1 = (0 : Int32)) with w0 | w0
  · have h := q_t h w0
    refine lv_tableIn hx hb dX7_count_1 (off := 47) (tgt := 48) (by rw [w0]; decide) (by rw [w0]; decide) (by rw [w0]; rfl) (by decide) ?_
    refine lv_aload_n hx hb dX7_count_48 rfl (lv_at hl 0 rfl) ?_
    refine va_get (D := D) (ci := 7) (v := .ref (qm 1)) (C := RX7) (T := TX7) (N := 24) hx hb hts in7 hown hK hP 0 rfl rfl 0 (by decide) l7 (fun _ h9 => h9) rfl dX7_count_49 ?_
    refine lv_iconst (v := (0 : Int32)) hx hb dX7_count_52 (by decide) ?_
    refine q_iald hx hb hK hP 1 0 rfl rfl h dX7_count_53 (fun t53 h => ?_)
    exact hret (t53, m_errors) _ _ _ _ (vp_nar_int _) h hP hD hS dX7_count_54
  have h := q_f h w0
  rcases Decidable.em (x1 = (1 : Int32)) with w1 | w1
  · have h := q_t h w1
    refine lv_tableIn hx hb dX7_count_1 (off := 54) (tgt := 55) (by rw [w1]; decide) (by rw [w1]; decide) (by rw [w1]; rfl) (by decide) ?_
    refine lv_aload_n hx hb dX7_count_55 rfl (lv_at hl 0 rfl) ?_
    refine va_get (D := D) (ci := 7) (v := .ref (qm 1)) (C := RX7) (T := TX7) (N := 24) hx hb hts in7 hown hK hP 0 rfl rfl 0 (by decide) l7 (fun _ h9 => h9) rfl dX7_count_56 ?_
    refine lv_iconst (v := (1 : Int32)) hx hb dX7_count_59 (by decide) ?_
    refine q_iald hx hb hK hP 1 0 rfl rfl h dX7_count_60 (fun t60 h => ?_)
    exact hret (t60, m_errors) _ _ _ _ (vp_nar_int _) h hP hD hS dX7_count_61
  have h := q_f h w1
  rcases Decidable.em (x1 = (2 : Int32)) with w2 | w2
  · have h := q_t h w2
    refine lv_tableIn hx hb dX7_count_1 (off := 61) (tgt := 62) (by rw [w2]; decide) (by rw [w2]; decide) (by rw [w2]; rfl) (by decide) ?_
    refine lv_aload_n hx hb dX7_count_62 rfl (lv_at hl 0 rfl) ?_
    refine q_callR q_E0ok (rest := []) ⟨hx, hb, hml, hown, hts⟩ (fun r hr => c7_page l D cI qm m_images m_newMany m_at m_open m_steps m_use m_traced m_speaks m_isParted m_s r hr) (cwV 0 hts gX7_count_X7_page rfl rfl rfl hdX7_page (rmq_ok (Nat.le_of_ble_eq_true rfl) (Nat.le_of_ble_eq_true rfl))) hK hP hEv hS [0, 1] rfl (va_recv hK hP (ci := 7) (q0 := 0) rfl rfl) rfl rfl hl.1 (Nat.le_of_ble_eq_true rfl) ⟨Nat.zero_le _, Nat.zero_le _⟩ h dX7_count_63 (fun t63 h => ?_)
    exact hret (t63, m_errors) _ _ _ _ (vp_nar_int _) h hP hD hS dX7_count_66
  have h := q_f h w2
  rcases Decidable.em (x1 = (3 : Int32)) with w3 | w3
  · have h := q_t h w3
    refine lv_tableIn hx hb dX7_count_1 (off := 66) (tgt := 67) (by rw [w3]; decide) (by rw [w3]; decide) (by rw [w3]; rfl) (by decide) ?_
    refine lv_aload_n hx hb dX7_count_67 rfl (lv_at hl 0 rfl) ?_
    refine va_get (D := D) (ci := 7) (v := .ref (qm 1)) (C := RX7) (T := TX7) (N := 24) hx hb hts in7 hown hK hP 0 rfl rfl 0 (by decide) l7 (fun _ h9 => h9) rfl dX7_count_68 ?_
    refine lv_iconst (v := (2 : Int32)) hx hb dX7_count_71 (by decide) ?_
    refine q_iald hx hb hK hP 1 0 rfl rfl h dX7_count_72 (fun t72 h => ?_)
    exact hret (t72, m_errors) _ _ _ _ (vp_nar_int _) h hP hD hS dX7_count_73
  have h := q_f h w3
  rcases Decidable.em (x1 = (4 : Int32)) with w4 | w4
  · have h := q_t h w4
    refine lv_tableIn hx hb dX7_count_1 (off := 73) (tgt := 74) (by rw [w4]; decide) (by rw [w4]; decide) (by rw [w4]; rfl) (by decide) ?_
    refine lv_aload_n hx hb dX7_count_74 rfl (lv_at hl 0 rfl) ?_
    refine va_get (D := D) (ci := 7) (v := .ref (qm 1)) (C := RX7) (T := TX7) (N := 24) hx hb hts in7 hown hK hP 0 rfl rfl 0 (by decide) l7 (fun _ h9 => h9) rfl dX7_count_75 ?_
    refine lv_iconst (v := (4 : Int32)) hx hb dX7_count_78 (by decide) ?_
    refine q_iald hx hb hK hP 1 0 rfl rfl h dX7_count_79 (fun t79 h => ?_)
    exact hret (t79, m_errors) _ _ _ _ (vp_nar_int _) h hP hD hS dX7_count_80
  have h := q_f h w4
  rcases Decidable.em (x1 = (5 : Int32)) with w5 | w5
  · have h := q_t h w5
    refine lv_tableIn hx hb dX7_count_1 (off := 80) (tgt := 81) (by rw [w5]; decide) (by rw [w5]; decide) (by rw [w5]; rfl) (by decide) ?_
    refine lv_aload_n hx hb dX7_count_81 rfl (lv_at hl 0 rfl) ?_
    refine va_get (D := D) (ci := 7) (v := .ref (qm 1)) (C := RX7) (T := TX7) (N := 24) hx hb hts in7 hown hK hP 0 rfl rfl 0 (by decide) l7 (fun _ h9 => h9) rfl dX7_count_82 ?_
    refine lv_iconst (v := (5 : Int32)) hx hb dX7_count_85 (by decide) ?_
    refine q_iald hx hb hK hP 1 0 rfl rfl h dX7_count_86 (fun t86 h => ?_)
    exact hret (t86, m_errors) _ _ _ _ (vp_nar_int _) h hP hD hS dX7_count_87
  have h := q_f h w5
  rcases Decidable.em (x1 = (6 : Int32)) with w6 | w6
  · have h := q_t h w6
    refine lv_tableIn hx hb dX7_count_1 (off := 87) (tgt := 88) (by rw [w6]; decide) (by rw [w6]; decide) (by rw [w6]; rfl) (by decide) ?_
    refine lv_aload_n hx hb dX7_count_88 rfl (lv_at hl 0 rfl) ?_
    refine va_get (D := D) (ci := 7) (v := .int m_traced) (C := RX7) (T := TX7) (N := 24) hx hb hts in7 hown hK hP 0 rfl rfl 17 (by decide) l246 (fun _ h9 => h9) rfl dX7_count_89 ?_
    exact hret (m_traced, m_errors) _ _ _ _ (vp_nar_int _) h hP hD hS dX7_count_92
  have h := q_f h w6
  rcases Decidable.em (x1 = (7 : Int32)) with w7 | w7
  · have h := q_t h w7
    refine lv_tableIn hx hb dX7_count_1 (off := 92) (tgt := 93) (by rw [w7]; decide) (by rw [w7]; decide) (by rw [w7]; rfl) (by decide) ?_
    refine lv_aload_n hx hb dX7_count_93 rfl (lv_at hl 0 rfl) ?_
    refine va_get (D := D) (ci := 7) (v := .ref (qm 1)) (C := RX7) (T := TX7) (N := 24) hx hb hts in7 hown hK hP 0 rfl rfl 0 (by decide) l7 (fun _ h9 => h9) rfl dX7_count_94 ?_
    refine lv_bipush (v := (6 : Int32)) hx hb dX7_count_97 (by decide) ?_
    refine q_iald hx hb hK hP 1 0 rfl rfl h dX7_count_99 (fun t99 h => ?_)
    exact hret (t99, m_errors) _ _ _ _ (vp_nar_int _) h hP hD hS dX7_count_100
  have h := q_f h w7
  refine lv_tableOut hx hb dX7_count_1 (tgt := 101) (q_out (fun k hk e => ?_)) (by decide) ?_
  · rcases (show k = 0 ∨ k = 1 ∨ k = 2 ∨ k = 3 ∨ k = 4 ∨ k = 5 ∨ k = 6 ∨ k = 7 by omega) with rfl | rfl | rfl | rfl | rfl | rfl | rfl | rfl
    · exact w0 (Int32.toInt_inj.mp (e.trans (by decide)))
    · exact w1 (Int32.toInt_inj.mp (e.trans (by decide)))
    · exact w2 (Int32.toInt_inj.mp (e.trans (by decide)))
    · exact w3 (Int32.toInt_inj.mp (e.trans (by decide)))
    · exact w4 (Int32.toInt_inj.mp (e.trans (by decide)))
    · exact w5 (Int32.toInt_inj.mp (e.trans (by decide)))
    · exact w6 (Int32.toInt_inj.mp (e.trans (by decide)))
    · exact w7 (Int32.toInt_inj.mp (e.trans (by decide)))
  · refine lv_aload_n hx hb dX7_count_101 rfl (lv_at hl 0 rfl) ?_
    refine lv_iconst (v := (1 : Int32)) hx hb dX7_count_102 (by decide) ?_
    refine q_callW2 q_E0ok (rest := []) (fun u => [(qm 0, .inr (7, oX7 qm m_images m_newMany m_at m_open m_steps m_use m_traced m_speaks m_isParted)), (qm 4, .inl (cI, 7, .inl u.2))]) (fun u => u.1) ⟨hx, hb, hml, hown, hts⟩ (fun u hu => c7_error l D cI qm m_images m_newMany m_at m_open m_steps m_use m_traced m_speaks m_isParted m_errors ((1 : Int32)) u hu) (cwV 1 hts gX7_count_X7_error rfl rfl rfl hdX7_error (rmq_ok (Nat.le_of_ble_eq_true rfl) (Nat.le_of_ble_eq_true rfl))) hK hEv hA hP hD hS [0, 2] (by decide) rfl (fun _ => rfl) (va_recv hK hP (ci := 7) (q0 := 0) rfl rfl) rfl rfl hl.1 (Nat.le_of_ble_eq_true rfl) ⟨Nat.zero_le _, Nat.zero_le _⟩ h dX7_count_103 (fun t103 m_errors_103 H locs h hP hD hS => ?_)
    have hP : va_P D vwCl [(qm 0, .inr (7, oX7 qm m_images m_newMany m_at m_open m_steps m_use m_traced m_speaks m_isParted)), (qm 1, .inl (cI, 3974, .inl m_s)), (qm 4, .inl (cI, 7, .inl m_errors_103))] H := hP
    have hD : va_D A [(qm 0, .inr (7, oX7 qm m_images m_newMany m_at m_open m_steps m_use m_traced m_speaks m_isParted)), (qm 1, .inl (cI, 3974, .inl m_s)), (qm 4, .inl (cI, 7, .inl m_errors_103))] := hD
    exact hret (t103, m_errors_103) _ _ _ _ (vp_nar_int _) h hP hD hS dX7_count_106
set_option maxHeartbeats 4000000 in
set_option maxRecDepth 100000 in
theorem c7_told (l : Launch) (D : va_G) (cI : ClassId) (qm : Nat → Nat) (m_images m_newMany m_at m_open m_steps m_use m_traced m_speaks m_isParted : Int32) (m_errors : Nat → Int32) (x1 : Int32) (u : Int32 × (Nat → Int32)) (h : f7_told x1 m_errors = some u) : q_RW q_E0 l yX7_told wsX7_told (rmq (1)) D cI [.ref (qm 0), .int x1] [(qm 0, .inr (7, oX7 qm m_images m_newMany m_at m_open m_steps m_use m_traced m_speaks m_isParted)), (qm 4, .inl (cI, 7, .inl m_errors))] [(qm 0, .inr (7, oX7 qm m_images m_newMany m_at m_open m_steps m_use m_traced m_speaks m_isParted)), (qm 4, .inl (cI, 7, .inl u.2))] u.1 := by
  refine q_startW (fun u : Int32 × (Nat → Int32) => [(qm 0, .inr (7, oX7 qm m_images m_newMany m_at m_open m_steps m_use m_traced m_speaks m_isParted)), (qm 4, .inl (cI, 7, .inl u.2))]) (fun u => u.1) (cc := cX7_told) (maxL := 2) (ty := .int) (own := RX7) (by decide) rfl rfl (Nat.le_of_ble_eq_true rfl) rfl (fun p e s m args below meth c Q A hx hb hml hown hts hK hEv hA hret hP hD hS ls hl => ?_)
  have in7 : ∀ w ∈ wsX70, w ∈ wsX7_told := fun w h => List.mem_cons_of_mem _ (List.mem_append_right _ (h))
  have l16 := hts (.fieldLink RX7 16 "PageWarsModel" "errors" "[I") (List.mem_of_getElem? (i := 1) rfl)
  have J24 : ∀ (s0 : Int32) (m_errors : (Nat → Int32)) (H : Heap) (locs : List Loc) (ls : Array Slot), lv_has ls 2 [(0, .ref (qm 0))] → va_P D vwCl [(qm 0, .inr (7, oX7 qm m_images m_newMany m_at m_open m_steps m_use m_traced m_speaks m_isParted)), (qm 4, .inl (cI, 7, .inl m_errors))] H → va_D A [(qm 0, .inr (7, oX7 qm m_images m_newMany m_at m_open m_steps m_use m_traced m_speaks m_isParted)), (qm 4, .inl (cI, 7, .inl m_errors))] → va_S A s.heap H locs → f7_told_24  s0 m_errors = some u → W p l e (rmq (1)) s m args below meth c H locs 0 0 Q (F0 m 24 ls [.int s0]) := by
    intro s0 m_errors H locs ls hl hP hD hS h
    unfold f7_told_24 at h
    exact hret (s0, m_errors) _ _ _ _ (vp_nar_int _) h hP hD hS dX7_told_24
  unfold f7_told at h
  refine lv_iload_n hx hb dX7_told_0 rfl (lv_at hl 1 rfl) ?_
  refine lv_iconst (v := (1 : Int32)) hx hb dX7_told_1 (by decide) ?_
  refine lv_bipush (v := (6 : Int32)) hx hb dX7_told_2 (by decide) ?_
  refine q_callRS q_E0ok (rest := []) ⟨hx, hb, hml, hown, hts⟩ (fun r hr => c7_in l D cI x1 ((1 : Int32)) ((6 : Int32)) r hr) (va_cwS 3 hts gX7_told_X7_in rfl rfl rfl hdX7_in (rmq_ok (Nat.le_of_ble_eq_true rfl) (Nat.le_of_ble_eq_true rfl))) hK hP hEv hS [] rfl rfl rfl hl.1 (Nat.le_of_ble_eq_true rfl) ⟨Nat.zero_le _, Nat.zero_le _⟩ h dX7_told_4 (fun t4 h => ?_)
  refine q_ifeq hx hb 19 h dX7_told_7 (by decide) (fun h => ?_) (fun h => ?_)
  · refine lv_aload_n hx hb dX7_told_19 rfl (lv_at hl 0 rfl) ?_
    refine lv_iconst (v := (1 : Int32)) hx hb dX7_told_20 (by decide) ?_
    refine q_callW2 q_E0ok (rest := []) (fun u => [(qm 0, .inr (7, oX7 qm m_images m_newMany m_at m_open m_steps m_use m_traced m_speaks m_isParted)), (qm 4, .inl (cI, 7, .inl u.2))]) (fun u => u.1) ⟨hx, hb, hml, hown, hts⟩ (fun u hu => c7_error l D cI qm m_images m_newMany m_at m_open m_steps m_use m_traced m_speaks m_isParted m_errors ((1 : Int32)) u hu) (cwV 1 hts gX7_told_X7_error rfl rfl rfl hdX7_error (rmq_ok (Nat.le_of_ble_eq_true rfl) (Nat.le_of_ble_eq_true rfl))) hK hEv hA hP hD hS [0, 1] (by decide) rfl (fun _ => rfl) (va_recv hK hP (ci := 7) (q0 := 0) rfl rfl) rfl rfl hl.1 (Nat.le_of_ble_eq_true rfl) ⟨Nat.zero_le _, Nat.zero_le _⟩ h dX7_told_21 (fun t21 m_errors_21 H locs h hP hD hS => ?_)
    have hP : va_P D vwCl [(qm 0, .inr (7, oX7 qm m_images m_newMany m_at m_open m_steps m_use m_traced m_speaks m_isParted)), (qm 4, .inl (cI, 7, .inl m_errors_21))] H := hP
    have hD : va_D A [(qm 0, .inr (7, oX7 qm m_images m_newMany m_at m_open m_steps m_use m_traced m_speaks m_isParted)), (qm 4, .inl (cI, 7, .inl m_errors_21))] := hD
    exact J24 t21 m_errors_21 _ _ _ (lv_sub hl [0] rfl) hP hD hS h
  · refine lv_aload_n hx hb dX7_told_10 rfl (lv_at hl 0 rfl) ?_
    refine va_get (D := D) (ci := 7) (v := .ref (qm 4)) (C := RX7) (T := TX7) (N := 24) hx hb hts in7 hown hK hP 0 rfl rfl 3 (by decide) l16 (fun _ h9 => h9) rfl dX7_told_11 ?_
    refine lv_iload_n hx hb dX7_told_14 rfl (lv_at hl 1 rfl) ?_
    refine q_iald hx hb hK hP 1 0 rfl rfl h dX7_told_15 (fun t15 h => ?_)
    refine lv_goto (tgt := 24) hx hb dX7_told_16 (by decide) ?_
    exact J24 t15 m_errors _ _ _ (lv_sub hl [0] rfl) hP hD hS h
