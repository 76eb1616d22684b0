set_option maxHeartbeats 4000000 in
set_option maxRecDepth 100000 in
theorem c7_tells (l : Launch) (D : va_G) (cI : ClassId) (qm : Nat → Nat) : ∀ (d : Nat) (m_images m_newMany m_at m_open m_steps m_use m_traced m_speaks m_isParted : Int32) (m_s m_trace : Nat → Int32) (x1 : Int32) (x2 : Int32) (u : Int32 × Int32 × Int32 × (Nat → Int32)), f7_tells d x1 x2 m_traced m_speaks m_isParted m_s m_trace = some u → q_RW q_E0 l yX7_tells wsX7_tells (rmq (d + 29)) D cI [.ref (qm 0), .int x1, .int x2] [(qm 0, .inr (7, oX7 qm m_images m_newMany m_at m_open m_steps m_use m_traced m_speaks m_isParted)), (qm 1, .inl (cI, 3974, .inl m_s)), (qm 17, .inl (cI, 30, .inl m_trace))] [(qm 0, .inr (7, oX7 qm m_images m_newMany m_at m_open m_steps m_use u.2.1 m_speaks u.2.2.1)), (qm 1, .inl (cI, 3974, .inl m_s)), (qm 17, .inl (cI, 30, .inl u.2.2.2))] u.1 := by
  intro d
  induction d with
  | zero => intro m_images m_newMany m_at m_open m_steps m_use m_traced m_speaks m_isParted m_s m_trace x1 x2 u h; exact nomatch (show (none : Option (Int32 × Int32 × Int32 × (Nat → Int32))) = some u from h)
  | succ d ih =>
    intro m_images m_newMany m_at m_open m_steps m_use m_traced m_speaks m_isParted m_s m_trace x1 x2 u h
    refine q_startW (fun u : Int32 × Int32 × Int32 × (Nat → Int32) => [(qm 0, .inr (7, oX7 qm m_images m_newMany m_at m_open m_steps m_use u.2.1 m_speaks u.2.2.1)), (qm 1, .inl (cI, 3974, .inl m_s)), (qm 17, .inl (cI, 30, .inl u.2.2.2))]) (fun u => u.1) (cc := cX7_tells) (maxL := 5) (ty := .int) (own := RX7) (by decide) rfl rfl (Nat.le_of_ble_eq_true rfl) rfl (fun p e s m args below meth c Q A hx hb hml hown hts hK hEv hA hret hP hD hS ls hl => ?_)
    have in7 : ∀ w ∈ wsX70, w ∈ wsX7_tells := fun w h => List.mem_cons_of_mem _ (List.mem_append_right _ (h))
    have l249 := hts (.fieldLink RX7 249 "PageWarsModel" "speaks" "I") (List.mem_of_getElem? (i := 1) rfl)
    have l273 := hts (.fieldLink RX7 273 "PageWarsModel" "isParted" "Z") (List.mem_of_getElem? (i := 2) rfl)
    have J187 : ∀ (x1 : Int32) (x2 : Int32) (m_traced : Int32) (m_isParted : Int32) (m_trace : (Nat → Int32)) (H : Heap) (locs : List Loc) (ls : Array Slot), lv_has ls 5 [(0, .ref (qm 0)), (1, .int x1), (2, .int x2)] → va_P D vwCl [(qm 0, .inr (7, oX7 qm m_images m_newMany m_at m_open m_steps m_use m_traced m_speaks m_isParted)), (qm 1, .inl (cI, 3974, .inl m_s)), (qm 17, .inl (cI, 30, .inl m_trace))] H → va_D A [(qm 0, .inr (7, oX7 qm m_images m_newMany m_at m_open m_steps m_use m_traced m_speaks m_isParted)), (qm 1, .inl (cI, 3974, .inl m_s)), (qm 17, .inl (cI, 30, .inl m_trace))] → va_S A s.heap H locs → f7_tells_187 (f7_tells d) m_speaks m_s x1 x2 m_traced m_isParted m_trace = some u → W p l e (rmq (d + 1 + 29)) s m args below meth c H locs 0 0 Q (F0 m 187 ls []) := by
      intro x1 x2 m_traced m_isParted m_trace H locs ls hl hP hD hS h
      unfold f7_tells_187 at h
      refine lv_aload_n hx hb dX7_tells_187 rfl (lv_at hl 0 rfl) ?_
      refine lv_iload_n hx hb dX7_tells_188 rfl (lv_at hl 1 rfl) ?_
      refine q_callRS q_E0ok (rest := [.ref (qm 0)]) ⟨hx, hb, hml, hown, hts⟩ (fun r hr => c7_above l D cI x1 r hr) (va_cwS 1 hts gX7_tells_X7_above rfl rfl rfl hdX7_above (rmq_ok (by omega) (Nat.le_of_ble_eq_true rfl))) hK hP hEv hS [] rfl rfl rfl hl.1 (Nat.le_of_ble_eq_true rfl) ⟨Nat.zero_le _, Nat.zero_le _⟩ h dX7_tells_189 (fun t189 h => ?_)
      refine lv_iload_n hx hb dX7_tells_192 rfl (lv_at hl 2 rfl) ?_
      refine q_callW4 q_E0ok (rest := []) (fun u => [(qm 0, .inr (7, oX7 qm m_images m_newMany m_at m_open m_steps m_use u.2.1 m_speaks u.2.2.1)), (qm 1, .inl (cI, 3974, .inl m_s)), (qm 17, .inl (cI, 30, .inl u.2.2.2))]) (fun u => u.1) ⟨hx, hb, hml, hown, hts⟩ (fun u hu => ih m_images m_newMany m_at m_open m_steps m_use m_traced m_speaks m_isParted m_s m_trace t189 x2 u hu) (cwV 2 hts gX7_tells_X7_tells rfl rfl rfl hdX7_tells (rmq_ok (by omega) (Nat.le_of_ble_eq_true rfl))) hK hEv hA hP hD hS [0, 1, 2] (by decide) rfl (fun _ => rfl) (va_recv hK hP (ci := 7) (q0 := 0) rfl rfl) rfl rfl hl.1 (Nat.le_of_ble_eq_true rfl) ⟨Nat.zero_le _, Nat.zero_le _⟩ h dX7_tells_193 (fun t193 m_traced_193 m_isParted_193 m_trace_193 H locs h hP hD hS => ?_)
      have hP : va_P D vwCl [(qm 0, .inr (7, oX7 qm m_images m_newMany m_at m_open m_steps m_use m_traced_193 m_speaks m_isParted_193)), (qm 1, .inl (cI, 3974, .inl m_s)), (qm 17, .inl (cI, 30, .inl m_trace_193))] H := hP
      have hD : va_D A [(qm 0, .inr (7, oX7 qm m_images m_newMany m_at m_open m_steps m_use m_traced_193 m_speaks m_isParted_193)), (qm 1, .inl (cI, 3974, .inl m_s)), (qm 17, .inl (cI, 30, .inl m_trace_193))] := hD
      exact hret (t193, m_traced_193, m_isParted_193, m_trace_193) _ _ _ _ (vp_nar_int _) h hP hD hS dX7_tells_196
    have J139 : ∀ (s0 : Int32) (m_traced : Int32) (m_isParted : Int32) (m_trace : (Nat → Int32)) (H : Heap) (locs : List Loc) (ls : Array Slot), lv_has ls 5 [(0, .ref (qm 0))] → va_P D vwCl [(qm 0, .inr (7, oX7 qm m_images m_newMany m_at m_open m_steps m_use m_traced m_speaks m_isParted)), (qm 1, .inl (cI, 3974, .inl m_s)), (qm 17, .inl (cI, 30, .inl m_trace))] H → va_D A [(qm 0, .inr (7, oX7 qm m_images m_newMany m_at m_open m_steps m_use m_traced m_speaks m_isParted)), (qm 1, .inl (cI, 3974, .inl m_s)), (qm 17, .inl (cI, 30, .inl m_trace))] → va_S A s.heap H locs → f7_tells_139 (f7_tells d) m_speaks m_s s0 m_traced m_isParted m_trace = some u → W p l e (rmq (d + 1 + 29)) s m args below meth c H locs 0 0 Q (F0 m 139 ls [.int s0]) := by
      intro s0 m_traced m_isParted m_trace H locs ls hl hP hD hS h
      unfold f7_tells_139 at h
      exact hret (s0, m_traced, m_isParted, m_trace) _ _ _ _ (vp_nar_int _) h hP hD hS dX7_tells_139
    have J100 : ∀ (s0 : Int32) (m_traced : Int32) (m_isParted : Int32) (m_trace : (Nat → Int32)) (H : Heap) (locs : List Loc) (ls : Array Slot), lv_has ls 5 [(0, .ref (qm 0))] → va_P D vwCl [(qm 0, .inr (7, oX7 qm m_images m_newMany m_at m_open m_steps m_use m_traced m_speaks m_isParted)), (qm 1, .inl (cI, 3974, .inl m_s)), (qm 17, .inl (cI, 30, .inl m_trace))] H → va_D A [(qm 0, .inr (7, oX7 qm m_images m_newMany m_at m_open m_steps m_use m_traced m_speaks m_isParted)), (qm 1, .inl (cI, 3974, .inl m_s)), (qm 17, .inl (cI, 30, .inl m_trace))] → va_S A s.heap H locs → f7_tells_100 (f7_tells d) m_speaks m_s s0 m_traced m_isParted m_trace = some u → W p l e (rmq (d + 1 + 29)) s m args below meth c H locs 0 0 Q (F0 m 100 ls [.int s0]) := by
      intro s0 m_traced m_isParted m_trace H locs ls hl hP hD hS h
      unfold f7_tells_100 at h
      exact hret (s0, m_traced, m_isParted, m_trace) _ _ _ _ (vp_nar_int _) h hP hD hS dX7_tells_100
    have J73 : ∀ (x2 : Int32) (x4 : Int32) (s1 : Int32) (m_traced : Int32) (m_isParted : Int32) (m_trace : (Nat → Int32)) (H : Heap) (locs : List Loc) (ls : Array Slot), lv_has ls 5 [(0, .ref (qm 0)), (2, .int x2), (4, .int x4)] → va_P D vwCl [(qm 0, .inr (7, oX7 qm m_images m_newMany m_at m_open m_steps m_use m_traced m_speaks m_isParted)), (qm 1, .inl (cI, 3974, .inl m_s)), (qm 17, .inl (cI, 30, .inl m_trace))] H → va_D A [(qm 0, .inr (7, oX7 qm m_images m_newMany m_at m_open m_steps m_use m_traced m_speaks m_isParted)), (qm 1, .inl (cI, 3974, .inl m_s)), (qm 17, .inl (cI, 30, .inl m_trace))] → va_S A s.heap H locs → f7_tells_73 (f7_tells d) m_speaks m_s x2 x4 s1 m_traced m_isParted m_trace = some u → W p l e (rmq (d + 1 + 29)) s m args below meth c H locs 0 0 Q (F0 m 73 ls [.int s1, .ref (qm 0)]) := by
      intro x2 x4 s1 m_traced m_isParted m_trace H locs ls hl hP hD hS h
      unfold f7_tells_73 at h
      obtain ⟨hz, h⟩ := q_bz_of h
      refine va_put (D := D) (ci := 7) (v := .int s1) (ty := .boolean) (C := RX7) (T := TX7) (N := 24) hx hb hts in7 tyX7 tyX7_ok nmX7 hown hK hP hD hS 0 rfl rfl 19 (by decide) l273 (fun _ h9 => h9) rfl (by decide +kernel) (q_nz hz) (q_fz hz) (Nat.le_of_ble_eq_true rfl) dX7_tells_73 (fun H locs hP hD hS => ?_)
      have hP : va_P D vwCl [(qm 0, .inr (7, oX7 qm m_images m_newMany m_at m_open m_steps m_use m_traced m_speaks s1)), (qm 1, .inl (cI, 3974, .inl m_s)), (qm 17, .inl (cI, 30, .inl m_trace))] H := hP
      have hD : va_D A [(qm 0, .inr (7, oX7 qm m_images m_newMany m_at m_open m_steps m_use m_traced m_speaks s1)), (qm 1, .inl (cI, 3974, .inl m_s)), (qm 17, .inl (cI, 30, .inl m_trace))] := hD
      refine lv_iload hx hb dX7_tells_76 (lv_at hl 2 rfl) ?_
      refine q_ifne hx hb 85 h dX7_tells_78 (by decide) (fun h => ?_) (fun h => ?_)
      · refine lv_iload hx hb dX7_tells_85 (lv_at hl 2 rfl) ?_
        refine lv_iconst (v := (-1 : Int32)) hx hb dX7_tells_87 (by decide) ?_
        refine q_cne hx hb 96 h dX7_tells_88 (by decide) (fun h => ?_) (fun h => ?_)
        · refine lv_iload_n hx hb dX7_tells_96 rfl (lv_at hl 1 rfl) ?_
          refine lv_iload hx hb dX7_tells_97 (lv_at hl 2 rfl) ?_
          refine q_idiv hx hb h dX7_tells_99 (fun h => ?_)
          exact J100 (x2 / x4) m_traced s1 m_trace _ _ _ (lv_sub hl [0] rfl) hP hD hS h
        · refine lv_iload_n hx hb dX7_tells_91 rfl (lv_at hl 1 rfl) ?_
          refine lv_ineg hx hb dX7_tells_92 ?_
          refine lv_goto (tgt := 100) hx hb dX7_tells_93 (by decide) ?_
          exact J100 (-x2) m_traced s1 m_trace _ _ _ (lv_sub hl [0] rfl) hP hD hS h
      · refine lv_iconst (v := (0 : Int32)) hx hb dX7_tells_81 (by decide) ?_
        refine lv_goto (tgt := 100) hx hb dX7_tells_82 (by decide) ?_
        exact J100 ((0 : Int32)) m_traced s1 m_trace _ _ _ (lv_sub hl [0] rfl) hP hD hS h
    rw [f7_tells.eq_2] at h
    refine lv_iconst (v := (0 : Int32)) hx hb dX7_tells_0 (by decide) ?_
    refine lv_istore_n (lv' := [(3, .int ((0 : Int32))), (0, .ref (qm 0)), (1, .int x1), (2, .int x2)]) hx hb dX7_tells_1 rfl hl (by decide) rfl (fun ls hl => ?_)
    refine lv_iload_n hx hb dX7_tells_2 rfl (lv_at hl 2 rfl) ?_
    rcases Decidable.em (x1 = (0 : Int32)) with w0 | w0
    · have h := q_t h w0
      refine lv_tableIn hx hb dX7_tells_3 (off := 45) (tgt := 48) (by rw [w0]; decide) (by rw [w0]; decide) (by rw [w0]; rfl) (by decide) ?_
      refine lv_aload_n hx hb dX7_tells_48 rfl (lv_at hl 1 rfl) ?_
      refine lv_bipush (v := (13 : Int32)) hx hb dX7_tells_49 (by decide) ?_
      refine q_callV2 q_E0ok (rest := []) (fun u => [(qm 0, .inr (7, oX7 qm m_images m_newMany m_at m_open m_steps m_use u.1 m_speaks m_isParted)), (qm 17, .inl (cI, 30, .inl u.2))]) ⟨hx, hb, hml, hown, hts⟩ (fun u hu => c7_begins l D cI qm m_images m_newMany m_at m_open m_steps m_use m_traced m_speaks m_isParted m_trace ((13 : Int32)) u hu) (cwV 1 hts gX7_tells_X7_begins rfl rfl rfl hdX7_begins (rmq_ok (by omega) (Nat.le_of_ble_eq_true rfl))) hK hEv hA hP hD hS [0, 2] (by decide) rfl (fun _ => rfl) (va_recv hK hP (ci := 7) (q0 := 0) rfl rfl) rfl rfl hl.1 (Nat.le_of_ble_eq_true rfl) ⟨Nat.zero_le _, Nat.zero_le _⟩ h dX7_tells_51 (fun m_traced_51 m_trace_51 H locs h hP hD hS => ?_)
      have hP : va_P D vwCl [(qm 0, .inr (7, oX7 qm m_images m_newMany m_at m_open m_steps m_use m_traced_51 m_speaks m_isParted)), (qm 1, .inl (cI, 3974, .inl m_s)), (qm 17, .inl (cI, 30, .inl m_trace_51))] H := hP
      have hD : va_D A [(qm 0, .inr (7, oX7 qm m_images m_newMany m_at m_open m_steps m_use m_traced_51 m_speaks m_isParted)), (qm 1, .inl (cI, 3974, .inl m_s)), (qm 17, .inl (cI, 30, .inl m_trace_51))] := hD
      refine lv_aload_n hx hb dX7_tells_54 rfl (lv_at hl 1 rfl) ?_
      refine va_get (D := D) (ci := 7) (v := .int m_speaks) (C := RX7) (T := TX7) (N := 24) hx hb hts in7 hown hK hP 0 rfl rfl 18 (by decide) l249 (fun _ h9 => h9) rfl dX7_tells_55 ?_
      refine lv_iconst (v := (2 : Int32)) hx hb dX7_tells_58 (by decide) ?_
      refine lv_isub hx hb dX7_tells_59 ?_
      refine q_let h (fun x4_60 h => ?_)
      refine lv_istore (lv' := [(4, .int x4_60), (3, .int ((0 : Int32))), (0, .ref (qm 0)), (1, .int x1), (2, .int x2)]) hx hb dX7_tells_60 hl (by decide) rfl (fun ls hl => ?_)
      refine lv_aload_n hx hb dX7_tells_62 rfl (lv_at hl 2 rfl) ?_
      refine lv_iload hx hb dX7_tells_63 (lv_at hl 0 rfl) ?_
      refine q_ifne hx hb 72 h dX7_tells_65 (by decide) (fun h => ?_) (fun h => ?_)
      · refine lv_iconst (v := (0 : Int32)) hx hb dX7_tells_72 (by decide) ?_
        exact J73 x2 x4_60 ((0 : Int32)) m_traced_51 m_isParted m_trace_51 _ _ _ (lv_sub hl [2, 4, 0] rfl) hP hD hS h
      · refine lv_iconst (v := (1 : Int32)) hx hb dX7_tells_68 (by decide) ?_
        refine lv_goto (tgt := 73) hx hb dX7_tells_69 (by decide) ?_
        exact J73 x2 x4_60 ((1 : Int32)) m_traced_51 m_isParted m_trace_51 _ _ _ (lv_sub hl [2, 4, 0] rfl) hP hD hS h
    have h := q_f h w0
    rcases Decidable.em (x1 = (1 : Int32)) with w1 | w1
    · have h := q_t h w1
      refine lv_tableIn hx hb dX7_tells_3 (off := 184) (tgt := 187) (by rw [w1]; decide) (by rw [w1]; decide) (by rw [w1]; rfl) (by decide) ?_
      exact J187 x1 x2 m_traced m_isParted m_trace _ _ _ (lv_sub hl [1, 2, 3] rfl) hP hD hS h
    have h := q_f h w1
    rcases Decidable.em (x1 = (2 : Int32)) with w2 | w2
    · have h := q_t h w2
      refine lv_tableIn hx hb dX7_tells_3 (off := 98) (tgt := 101) (by rw [w2]; decide) (by rw [w2]; decide) (by rw [w2]; rfl) (by decide) ?_
      refine lv_aload_n hx hb dX7_tells_101 rfl (lv_at hl 1 rfl) ?_
      refine lv_bipush (v := (31 : Int32)) hx hb dX7_tells_102 (by decide) ?_
      refine q_callV2 q_E0ok (rest := []) (fun u => [(qm 0, .inr (7, oX7 qm m_images m_newMany m_at m_open m_steps m_use u.1 m_speaks m_isParted)), (qm 17, .inl (cI, 30, .inl u.2))]) ⟨hx, hb, hml, hown, hts⟩ (fun u hu => c7_begins l D cI qm m_images m_newMany m_at m_open m_steps m_use m_traced m_speaks m_isParted m_trace ((31 : Int32)) u hu) (cwV 1 hts gX7_tells_X7_begins rfl rfl rfl hdX7_begins (rmq_ok (by omega) (Nat.le_of_ble_eq_true rfl))) hK hEv hA hP hD hS [0, 2] (by decide) rfl (fun _ => rfl) (va_recv hK hP (ci := 7) (q0 := 0) rfl rfl) rfl rfl hl.1 (Nat.le_of_ble_eq_true rfl) ⟨Nat.zero_le _, Nat.zero_le _⟩ h dX7_tells_104 (fun m_traced_104 m_trace_104 H locs h hP hD hS => ?_)
      have hP : va_P D vwCl [(qm 0, .inr (7, oX7 qm m_images m_newMany m_at m_open m_steps m_use m_traced_104 m_speaks m_isParted)), (qm 1, .inl (cI, 3974, .inl m_s)), (qm 17, .inl (cI, 30, .inl m_trace_104))] H := hP
      have hD : va_D A [(qm 0, .inr (7, oX7 qm m_images m_newMany m_at m_open m_steps m_use m_traced_104 m_speaks m_isParted)), (qm 1, .inl (cI, 3974, .inl m_s)), (qm 17, .inl (cI, 30, .inl m_trace_104))] := hD
      refine lv_aload_n hx hb dX7_tells_107 rfl (lv_at hl 1 rfl) ?_
      refine lv_iconst (v := (2 : Int32)) hx hb dX7_tells_108 (by decide) ?_
      refine q_callRS q_E0ok (rest := [.ref (qm 0)]) ⟨hx, hb, hml, hown, hts⟩ (fun r hr => c7_above l D cI ((2 : Int32)) r hr) (va_cwS 1 hts gX7_tells_X7_above rfl rfl rfl hdX7_above (rmq_ok (by omega) (Nat.le_of_ble_eq_true rfl))) hK hP hEv hS [] rfl rfl rfl hl.1 (Nat.le_of_ble_eq_true rfl) ⟨Nat.zero_le _, Nat.zero_le _⟩ h dX7_tells_109 (fun t109 h => ?_)
      refine lv_iload_n hx hb dX7_tells_112 rfl (lv_at hl 3 rfl) ?_
      refine q_callW4 q_E0ok (rest := []) (fun u => [(qm 0, .inr (7, oX7 qm m_images m_newMany m_at m_open m_steps m_use u.2.1 m_speaks u.2.2.1)), (qm 1, .inl (cI, 3974, .inl m_s)), (qm 17, .inl (cI, 30, .inl u.2.2.2))]) (fun u => u.1) ⟨hx, hb, hml, hown, hts⟩ (fun u hu => ih m_images m_newMany m_at m_open m_steps m_use m_traced_104 m_speaks m_isParted m_s m_trace_104 t109 x2 u hu) (cwV 2 hts gX7_tells_X7_tells rfl rfl rfl hdX7_tells (rmq_ok (by omega) (Nat.le_of_ble_eq_true rfl))) hK hEv hA hP hD hS [0, 1, 2] (by decide) rfl (fun _ => rfl) (va_recv hK hP (ci := 7) (q0 := 0) rfl rfl) rfl rfl hl.1 (Nat.le_of_ble_eq_true rfl) ⟨Nat.zero_le _, Nat.zero_le _⟩ h dX7_tells_113 (fun t113 m_traced_113 m_isParted_113 m_trace_113 H locs h hP hD hS => ?_)
      have hP : va_P D vwCl [(qm 0, .inr (7, oX7 qm m_images m_newMany m_at m_open m_steps m_use m_traced_113 m_speaks m_isParted_113)), (qm 1, .inl (cI, 3974, .inl m_s)), (qm 17, .inl (cI, 30, .inl m_trace_113))] H := hP
      have hD : va_D A [(qm 0, .inr (7, oX7 qm m_images m_newMany m_at m_open m_steps m_use m_traced_113 m_speaks m_isParted_113)), (qm 1, .inl (cI, 3974, .inl m_s)), (qm 17, .inl (cI, 30, .inl m_trace_113))] := hD
      refine lv_istore_n (lv' := [(3, .int t113), (0, .ref (qm 0)), (1, .int x1), (2, .int x2)]) hx hb dX7_tells_116 rfl hl (by decide) rfl (fun ls hl => ?_)
      refine lv_aload_n hx hb dX7_tells_117 rfl (lv_at hl 1 rfl) ?_
      refine va_get (D := D) (ci := 7) (v := .int m_isParted_113) (C := RX7) (T := TX7) (N := 24) hx hb hts in7 hown hK hP 0 rfl rfl 19 (by decide) l273 (fun _ h9 => h9) rfl dX7_tells_118 ?_
      refine q_ifeq hx hb 128 h dX7_tells_121 (by decide) (fun h => ?_) (fun h => ?_)
      · refine lv_iload_n hx hb dX7_tells_128 rfl (lv_at hl 0 rfl) ?_
        refine lv_aload_n hx hb dX7_tells_129 rfl (lv_at hl 1 rfl) ?_
        refine lv_aload_n hx hb dX7_tells_130 rfl (lv_at hl 1 rfl) ?_
        refine q_callR q_E0ok (rest := [.ref (qm 0), .int t113]) ⟨hx, hb, hml, hown, hts⟩ (fun r hr => c7_kindNow l D cI qm m_images m_newMany m_at m_open m_steps m_use m_traced_113 m_speaks m_isParted_113 m_s r hr) (cwV 0 hts gX7_tells_X7_kindNow rfl rfl rfl hdX7_kindNow (rmq_ok (by omega) (Nat.le_of_ble_eq_true rfl))) hK hP hEv hS [0, 1] rfl (va_recv hK hP (ci := 7) (q0 := 0) rfl rfl) rfl rfl hl.1 (Nat.le_of_ble_eq_true rfl) ⟨Nat.zero_le _, Nat.zero_le _⟩ h dX7_tells_131 (fun t131 h => ?_)
        refine lv_iconst (v := (1 : Int32)) hx hb dX7_tells_134 (by decide) ?_
        refine q_callW3 q_E0ok (rest := [.int t113]) (fun u => [(qm 0, .inr (7, oX7 qm m_images m_newMany m_at m_open m_steps m_use u.2.1 m_speaks m_isParted_113)), (qm 1, .inl (cI, 3974, .inl m_s)), (qm 17, .inl (cI, 30, .inl u.2.2))]) (fun u => u.1) ⟨hx, hb, hml, hown, hts⟩ (fun u hu => c7_does l D cI qm 8 m_images m_newMany m_at m_open m_steps m_use m_traced_113 m_speaks m_isParted_113 m_s m_trace_113 t131 ((1 : Int32)) u hu) (cwV 2 hts gX7_tells_X7_does rfl rfl rfl hdX7_does (rmq_ok (by omega) (Nat.le_of_ble_eq_true rfl))) hK hEv hA hP hD hS [0, 1, 2] (by decide) rfl (fun _ => rfl) (va_recv hK hP (ci := 7) (q0 := 0) rfl rfl) rfl rfl hl.1 (Nat.le_of_ble_eq_true rfl) ⟨Nat.zero_le _, Nat.zero_le _⟩ h dX7_tells_135 (fun t135 m_traced_135 m_trace_135 H locs h hP hD hS => ?_)
        have hP : va_P D vwCl [(qm 0, .inr (7, oX7 qm m_images m_newMany m_at m_open m_steps m_use m_traced_135 m_speaks m_isParted_113)), (qm 1, .inl (cI, 3974, .inl m_s)), (qm 17, .inl (cI, 30, .inl m_trace_135))] H := hP
        have hD : va_D A [(qm 0, .inr (7, oX7 qm m_images m_newMany m_at m_open m_steps m_use m_traced_135 m_speaks m_isParted_113)), (qm 1, .inl (cI, 3974, .inl m_s)), (qm 17, .inl (cI, 30, .inl m_trace_135))] := hD
        refine lv_iadd hx hb dX7_tells_138 ?_
        exact J139 (t113 + t135) m_traced_135 m_isParted_113 m_trace_135 _ _ _ (lv_sub hl [1] rfl) hP hD hS h
      · refine lv_iconst (v := (0 : Int32)) hx hb dX7_tells_124 (by decide) ?_
        refine lv_goto (tgt := 139) hx hb dX7_tells_125 (by decide) ?_
        exact J139 ((0 : Int32)) m_traced_113 m_isParted_113 m_trace_113 _ _ _ (lv_sub hl [1] rfl) hP hD hS h
    have h := q_f h w2
    rcases Decidable.em (x1 = (3 : Int32)) with w3 | w3
    · have h := q_t h w3
      refine lv_tableIn hx hb dX7_tells_3 (off := 184) (tgt := 187) (by rw [w3]; decide) (by rw [w3]; decide) (by rw [w3]; rfl) (by decide) ?_
      exact J187 x1 x2 m_traced m_isParted m_trace _ _ _ (lv_sub hl [1, 2, 3] rfl) hP hD hS h
    have h := q_f h w3
    rcases Decidable.em (x1 = (4 : Int32)) with w4 | w4
    · have h := q_t h w4
      refine lv_tableIn hx hb dX7_tells_3 (off := 184) (tgt := 187) (by rw [w4]; decide) (by rw [w4]; decide) (by rw [w4]; rfl) (by decide) ?_
      exact J187 x1 x2 m_traced m_isParted m_trace _ _ _ (lv_sub hl [1, 2, 3] rfl) hP hD hS h
    have h := q_f h w4
    rcases Decidable.em (x1 = (5 : Int32)) with w5 | w5
    · have h := q_t h w5
      refine lv_tableIn hx hb dX7_tells_3 (off := 137) (tgt := 140) (by rw [w5]; decide) (by rw [w5]; decide) (by rw [w5]; rfl) (by decide) ?_
      refine lv_aload_n hx hb dX7_tells_140 rfl (lv_at hl 1 rfl) ?_
      refine lv_bipush (v := (61 : Int32)) hx hb dX7_tells_141 (by decide) ?_
      refine q_callV2 q_E0ok (rest := []) (fun u => [(qm 0, .inr (7, oX7 qm m_images m_newMany m_at m_open m_steps m_use u.1 m_speaks m_isParted)), (qm 17, .inl (cI, 30, .inl u.2))]) ⟨hx, hb, hml, hown, hts⟩ (fun u hu => c7_begins l D cI qm m_images m_newMany m_at m_open m_steps m_use m_traced m_speaks m_isParted m_trace ((61 : Int32)) u hu) (cwV 1 hts gX7_tells_X7_begins rfl rfl rfl hdX7_begins (rmq_ok (by omega) (Nat.le_of_ble_eq_true rfl))) hK hEv hA hP hD hS [0, 2] (by decide) rfl (fun _ => rfl) (va_recv hK hP (ci := 7) (q0 := 0) rfl rfl) rfl rfl hl.1 (Nat.le_of_ble_eq_true rfl) ⟨Nat.zero_le _, Nat.zero_le _⟩ h dX7_tells_143 (fun m_traced_143 m_trace_143 H locs h hP hD hS => ?_)
      have hP : va_P D vwCl [(qm 0, .inr (7, oX7 qm m_images m_newMany m_at m_open m_steps m_use m_traced_143 m_speaks m_isParted)), (qm 1, .inl (cI, 3974, .inl m_s)), (qm 17, .inl (cI, 30, .inl m_trace_143))] H := hP
      have hD : va_D A [(qm 0, .inr (7, oX7 qm m_images m_newMany m_at m_open m_steps m_use m_traced_143 m_speaks m_isParted)), (qm 1, .inl (cI, 3974, .inl m_s)), (qm 17, .inl (cI, 30, .inl m_trace_143))] := hD
      refine lv_aload_n hx hb dX7_tells_146 rfl (lv_at hl 1 rfl) ?_
      refine lv_aload_n hx hb dX7_tells_147 rfl (lv_at hl 1 rfl) ?_
      refine q_callR q_E0ok (rest := [.ref (qm 0)]) ⟨hx, hb, hml, hown, hts⟩ (fun r hr => c7_kindNow l D cI qm m_images m_newMany m_at m_open m_steps m_use m_traced_143 m_speaks m_isParted m_s r hr) (cwV 0 hts gX7_tells_X7_kindNow rfl rfl rfl hdX7_kindNow (rmq_ok (by omega) (Nat.le_of_ble_eq_true rfl))) hK hP hEv hS [0, 1] rfl (va_recv hK hP (ci := 7) (q0 := 0) rfl rfl) rfl rfl hl.1 (Nat.le_of_ble_eq_true rfl) ⟨Nat.zero_le _, Nat.zero_le _⟩ h dX7_tells_148 (fun t148 h => ?_)
      refine lv_iload_n hx hb dX7_tells_151 rfl (lv_at hl 3 rfl) ?_
      refine q_callW3 q_E0ok (rest := []) (fun u => [(qm 0, .inr (7, oX7 qm m_images m_newMany m_at m_open m_steps m_use u.2.1 m_speaks m_isParted)), (qm 1, .inl (cI, 3974, .inl m_s)), (qm 17, .inl (cI, 30, .inl u.2.2))]) (fun u => u.1) ⟨hx, hb, hml, hown, hts⟩ (fun u hu => c7_lasts l D cI qm 8 m_images m_newMany m_at m_open m_steps m_use m_traced_143 m_speaks m_isParted m_s m_trace_143 t148 x2 u hu) (cwV 2 hts gX7_tells_X7_lasts rfl rfl rfl hdX7_lasts (rmq_ok (by omega) (Nat.le_of_ble_eq_true rfl))) hK hEv hA hP hD hS [0, 1, 2] (by decide) rfl (fun _ => rfl) (va_recv hK hP (ci := 7) (q0 := 0) rfl rfl) rfl rfl hl.1 (Nat.le_of_ble_eq_true rfl) ⟨Nat.zero_le _, Nat.zero_le _⟩ h dX7_tells_152 (fun t152 m_traced_152 m_trace_152 H locs h hP hD hS => ?_)
      have hP : va_P D vwCl [(qm 0, .inr (7, oX7 qm m_images m_newMany m_at m_open m_steps m_use m_traced_152 m_speaks m_isParted)), (qm 1, .inl (cI, 3974, .inl m_s)), (qm 17, .inl (cI, 30, .inl m_trace_152))] H := hP
      have hD : va_D A [(qm 0, .inr (7, oX7 qm m_images m_newMany m_at m_open m_steps m_use m_traced_152 m_speaks m_isParted)), (qm 1, .inl (cI, 3974, .inl m_s)), (qm 17, .inl (cI, 30, .inl m_trace_152))] := hD
      refine lv_istore_n (lv' := [(3, .int t152), (0, .ref (qm 0)), (1, .int x1), (2, .int x2)]) hx hb dX7_tells_155 rfl hl (by decide) rfl (fun ls hl => ?_)
      refine lv_iload_n hx hb dX7_tells_156 rfl (lv_at hl 0 rfl) ?_
      refine lv_aload_n hx hb dX7_tells_157 rfl (lv_at hl 1 rfl) ?_
      refine lv_iconst (v := (5 : Int32)) hx hb dX7_tells_158 (by decide) ?_
      refine q_callRS q_E0ok (rest := [.ref (qm 0), .int t152]) ⟨hx, hb, hml, hown, hts⟩ (fun r hr => c7_above l D cI ((5 : Int32)) r hr) (va_cwS 1 hts gX7_tells_X7_above rfl rfl rfl hdX7_above (rmq_ok (by omega) (Nat.le_of_ble_eq_true rfl))) hK hP hEv hS [] rfl rfl rfl hl.1 (Nat.le_of_ble_eq_true rfl) ⟨Nat.zero_le _, Nat.zero_le _⟩ h dX7_tells_159 (fun t159 h => ?_)
      refine lv_iload_n hx hb dX7_tells_162 rfl (lv_at hl 3 rfl) ?_
      refine q_callW4 q_E0ok (rest := [.int t152]) (fun u => [(qm 0, .inr (7, oX7 qm m_images m_newMany m_at m_open m_steps m_use u.2.1 m_speaks u.2.2.1)), (qm 1, .inl (cI, 3974, .inl m_s)), (qm 17, .inl (cI, 30, .inl u.2.2.2))]) (fun u => u.1) ⟨hx, hb, hml, hown, hts⟩ (fun u hu => ih m_images m_newMany m_at m_open m_steps m_use m_traced_152 m_speaks m_isParted m_s m_trace_152 t159 x2 u hu) (cwV 2 hts gX7_tells_X7_tells rfl rfl rfl hdX7_tells (rmq_ok (by omega) (Nat.le_of_ble_eq_true rfl))) hK hEv hA hP hD hS [0, 1, 2] (by decide) rfl (fun _ => rfl) (va_recv hK hP (ci := 7) (q0 := 0) rfl rfl) rfl rfl hl.1 (Nat.le_of_ble_eq_true rfl) ⟨Nat.zero_le _, Nat.zero_le _⟩ h dX7_tells_163 (fun t163 m_traced_163 m_isParted_163 m_trace_163 H locs h hP hD hS => ?_)
      have hP : va_P D vwCl [(qm 0, .inr (7, oX7 qm m_images m_newMany m_at m_open m_steps m_use m_traced_163 m_speaks m_isParted_163)), (qm 1, .inl (cI, 3974, .inl m_s)), (qm 17, .inl (cI, 30, .inl m_trace_163))] H := hP
      have hD : va_D A [(qm 0, .inr (7, oX7 qm m_images m_newMany m_at m_open m_steps m_use m_traced_163 m_speaks m_isParted_163)), (qm 1, .inl (cI, 3974, .inl m_s)), (qm 17, .inl (cI, 30, .inl m_trace_163))] := hD
      refine lv_isub hx hb dX7_tells_166 ?_
      exact hret (t152 - t163, m_traced_163, m_isParted_163, m_trace_163) _ _ _ _ (vp_nar_int _) h hP hD hS dX7_tells_167
    have h := q_f h w5
    rcases Decidable.em (x1 = (6 : Int32)) with w6 | w6
    · have h := q_t h w6
      refine lv_tableIn hx hb dX7_tells_3 (off := 184) (tgt := 187) (by rw [w6]; decide) (by rw [w6]; decide) (by rw [w6]; rfl) (by decide) ?_
      exact J187 x1 x2 m_traced m_isParted m_trace _ _ _ (lv_sub hl [1, 2, 3] rfl) hP hD hS h
    have h := q_f h w6
    rcases Decidable.em (x1 = (7 : Int32)) with w7 | w7
    · have h := q_t h w7
      refine lv_tableIn hx hb dX7_tells_3 (off := 165) (tgt := 168) (by rw [w7]; decide) (by rw [w7]; decide) (by rw [w7]; rfl) (by decide) ?_
      refine lv_aload_n hx hb dX7_tells_168 rfl (lv_at hl 1 rfl) ?_
      refine lv_bipush (v := (81 : Int32)) hx hb dX7_tells_169 (by decide) ?_
      refine q_callV2 q_E0ok (rest := []) (fun u => [(qm 0, .inr (7, oX7 qm m_images m_newMany m_at m_open m_steps m_use u.1 m_speaks m_isParted)), (qm 17, .inl (cI, 30, .inl u.2))]) ⟨hx, hb, hml, hown, hts⟩ (fun u hu => c7_begins l D cI qm m_images m_newMany m_at m_open m_steps m_use m_traced m_speaks m_isParted m_trace ((81 : Int32)) u hu) (cwV 1 hts gX7_tells_X7_begins rfl rfl rfl hdX7_begins (rmq_ok (by omega) (Nat.le_of_ble_eq_true rfl))) hK hEv hA hP hD hS [0, 2] (by decide) rfl (fun _ => rfl) (va_recv hK hP (ci := 7) (q0 := 0) rfl rfl) rfl rfl hl.1 (Nat.le_of_ble_eq_true rfl) ⟨Nat.zero_le _, Nat.zero_le _⟩ h dX7_tells_171 (fun m_traced_171 m_trace_171 H locs h hP hD hS => ?_)
      have hP : va_P D vwCl [(qm 0, .inr (7, oX7 qm m_images m_newMany m_at m_open m_steps m_use m_traced_171 m_speaks m_isParted)), (qm 1, .inl (cI, 3974, .inl m_s)), (qm 17, .inl (cI, 30, .inl m_trace_171))] H := hP
      have hD : va_D A [(qm 0, .inr (7, oX7 qm m_images m_newMany m_at m_open m_steps m_use m_traced_171 m_speaks m_isParted)), (qm 1, .inl (cI, 3974, .inl m_s)), (qm 17, .inl (cI, 30, .inl m_trace_171))] := hD
      refine lv_aload_n hx hb dX7_tells_174 rfl (lv_at hl 1 rfl) ?_
      refine lv_bipush (v := (7 : Int32)) hx hb dX7_tells_175 (by decide) ?_
      refine q_callRS q_E0ok (rest := [.ref (qm 0)]) ⟨hx, hb, hml, hown, hts⟩ (fun r hr => c7_above l D cI ((7 : Int32)) r hr) (va_cwS 1 hts gX7_tells_X7_above rfl rfl rfl hdX7_above (rmq_ok (by omega) (Nat.le_of_ble_eq_true rfl))) hK hP hEv hS [] rfl rfl rfl hl.1 (Nat.le_of_ble_eq_true rfl) ⟨Nat.zero_le _, Nat.zero_le _⟩ h dX7_tells_177 (fun t177 h => ?_)
      refine lv_iload_n hx hb dX7_tells_180 rfl (lv_at hl 3 rfl) ?_
      refine q_callW4 q_E0ok (rest := []) (fun u => [(qm 0, .inr (7, oX7 qm m_images m_newMany m_at m_open m_steps m_use u.2.1 m_speaks u.2.2.1)), (qm 1, .inl (cI, 3974, .inl m_s)), (qm 17, .inl (cI, 30, .inl u.2.2.2))]) (fun u => u.1) ⟨hx, hb, hml, hown, hts⟩ (fun u hu => ih m_images m_newMany m_at m_open m_steps m_use m_traced_171 m_speaks m_isParted m_s m_trace_171 t177 x2 u hu) (cwV 2 hts gX7_tells_X7_tells rfl rfl rfl hdX7_tells (rmq_ok (by omega) (Nat.le_of_ble_eq_true rfl))) hK hEv hA hP hD hS [0, 1, 2] (by decide) rfl (fun _ => rfl) (va_recv hK hP (ci := 7) (q0 := 0) rfl rfl) rfl rfl hl.1 (Nat.le_of_ble_eq_true rfl) ⟨Nat.zero_le _, Nat.zero_le _⟩ h dX7_tells_181 (fun t181 m_traced_181 m_isParted_181 m_trace_181 H locs h hP hD hS => ?_)
      have hP : va_P D vwCl [(qm 0, .inr (7, oX7 qm m_images m_newMany m_at m_open m_steps m_use m_traced_181 m_speaks m_isParted_181)), (qm 1, .inl (cI, 3974, .inl m_s)), (qm 17, .inl (cI, 30, .inl m_trace_181))] H := hP
      have hD : va_D A [(qm 0, .inr (7, oX7 qm m_images m_newMany m_at m_open m_steps m_use m_traced_181 m_speaks m_isParted_181)), (qm 1, .inl (cI, 3974, .inl m_s)), (qm 17, .inl (cI, 30, .inl m_trace_181))] := hD
      refine lv_iconst (v := (5 : Int32)) hx hb dX7_tells_184 (by decide) ?_
      refine lv_ixor hx hb dX7_tells_185 ?_
      exact hret (t181 ^^^ ((5 : Int32)), m_traced_181, m_isParted_181, m_trace_181) _ _ _ _ (vp_nar_int _) h hP hD hS dX7_tells_186
    have h := q_f h w7
    refine lv_tableOut hx hb dX7_tells_3 (tgt := 187) (q_out (fun k hk e => ?_)) (by decide) ?_
    · rcases (show k = 0 ∨ k = 1 ∨ k = 2 ∨ k = 3 ∨ k = 4 ∨ k = 5 ∨ k = 6 ∨ k = 7 by omega) with rfl | rfl | rfl | rfl | rfl | rfl | rfl | rfl
      · exact w0 (Int32.toInt_inj.mp (e.trans (by decide)))
      · exact w1 (Int32.toInt_inj.mp (e.trans (by decide)))
      · exact w2 (Int32.toInt_inj.mp (e.trans (by decide)))
      · exact w3 (Int32.toInt_inj.mp (e.trans (by decide)))
      · exact w4 (Int32.toInt_inj.mp (e.trans (by decide)))
      · exact w5 (Int32.toInt_inj.mp (e.trans (by decide)))
      · exact w6 (Int32.toInt_inj.mp (e.trans (by decide)))
      · exact w7 (Int32.toInt_inj.mp (e.trans (by decide)))
    · exact J187 x1 x2 m_traced m_isParted m_trace _ _ _ (lv_sub hl [1, 2, 3] rfl) hP hD hS h
set_option maxHeartbeats 4000000 in
set_option maxRecDepth 100000 in
theorem c7_voice (l : Launch) (D : va_G) (cI : ClassId) (qm : Nat → Nat) (m_images m_newMany m_at m_open m_steps m_use m_traced m_speaks m_isParted : Int32) (m_s m_errors m_trace : Nat → Int32) (x1 : Int32) (x2 : Int32) (x3 : Int32) (u : Int32 × Int32 × Int32 × Int32 × (Nat → Int32) × (Nat → Int32)) (h : f7_voice x1 x2 x3 m_traced m_speaks m_isParted m_s m_errors m_trace = some u) : q_RW q_E0 l yX7_voice wsX7_voice (rmq (38)) D cI [.ref (qm 0), .int x1, .int x2, .int x3] [(qm 0, .inr (7, oX7 qm m_images m_newMany m_at m_open m_steps m_use m_traced m_speaks m_isParted)), (qm 1, .inl (cI, 3974, .inl m_s)), (qm 4, .inl (cI, 7, .inl m_errors)), (qm 17, .inl (cI, 30, .inl m_trace))] [(qm 0, .inr (7, oX7 qm m_images m_newMany m_at m_open m_steps m_use u.2.1 u.2.2.1 u.2.2.2.1)), (qm 1, .inl (cI, 3974, .inl m_s)), (qm 4, .inl (cI, 7, .inl u.2.2.2.2.1)), (qm 17, .inl (cI, 30, .inl u.2.2.2.2.2))] u.1 := by
  refine q_startW (fun u : Int32 × Int32 × Int32 × Int32 × (Nat → Int32) × (Nat → Int32) => [(qm 0, .inr (7, oX7 qm m_images m_newMany m_at m_open m_steps m_use u.2.1 u.2.2.1 u.2.2.2.1)), (qm 1, .inl (cI, 3974, .inl m_s)), (qm 4, .inl (cI, 7, .inl u.2.2.2.2.1)), (qm 17, .inl (cI, 30, .inl u.2.2.2.2.2))]) (fun u => u.1) (cc := cX7_voice) (maxL := 6) (ty := .int) (own := RX7) (by decide) rfl rfl (Nat.le_of_ble_eq_true rfl) rfl (fun p e s m args below meth c Q A hx hb hml hown hts hK hEv hA hret hP hD hS ls hl => ?_)
  have in7 : ∀ w ∈ wsX70, w ∈ wsX7_voice := fun w h => List.mem_cons_of_mem _ (List.mem_append_right _ (h))
  have l246 := hts (.fieldLink RX7 246 "PageWarsModel" "traced" "I") (List.mem_of_getElem? (i := 1) rfl)
  have l249 := hts (.fieldLink RX7 249 "PageWarsModel" "speaks" "I") (List.mem_of_getElem? (i := 2) rfl)
  have l273 := hts (.fieldLink RX7 273 "PageWarsModel" "isParted" "Z") (List.mem_of_getElem? (i := 3) rfl)
  have J115 : ∀ (s0 : Int32) (m_traced : Int32) (m_speaks : Int32) (m_isParted : Int32) (m_errors : (Nat → Int32)) (m_trace : (Nat → Int32)) (H : Heap) (locs : List Loc) (ls : Array Slot), lv_has ls 6 [(0, .ref (qm 0))] → va_P D vwCl [(qm 0, .inr (7, oX7 qm m_images m_newMany m_at m_open m_steps m_use m_traced m_speaks m_isParted)), (qm 1, .inl (cI, 3974, .inl m_s)), (qm 4, .inl (cI, 7, .inl m_errors)), (qm 17, .inl (cI, 30, .inl m_trace))] H → va_D A [(qm 0, .inr (7, oX7 qm m_images m_newMany m_at m_open m_steps m_use m_traced m_speaks m_isParted)), (qm 1, .inl (cI, 3974, .inl m_s)), (qm 4, .inl (cI, 7, .inl m_errors)), (qm 17, .inl (cI, 30, .inl m_trace))] → va_S A s.heap H locs → f7_voice_115 m_s s0 m_traced m_speaks m_isParted m_errors m_trace = some u → W p l e (rmq (38)) s m args below meth c H locs 0 0 Q (F0 m 115 ls [.int s0]) := by
    intro s0 m_traced m_speaks m_isParted m_errors m_trace H locs ls hl hP hD hS h
    unfold f7_voice_115 at h
    exact hret (s0, m_traced, m_speaks, m_isParted, m_errors, m_trace) _ _ _ _ (vp_nar_int _) h hP hD hS dX7_voice_115
  have J95 : ∀ (s0 : Int32) (m_traced : Int32) (m_speaks : Int32) (m_isParted : Int32) (m_errors : (Nat → Int32)) (m_trace : (Nat → Int32)) (H : Heap) (locs : List Loc) (ls : Array Slot), lv_has ls 6 [(0, .ref (qm 0))] → va_P D vwCl [(qm 0, .inr (7, oX7 qm m_images m_newMany m_at m_open m_steps m_use m_traced m_speaks m_isParted)), (qm 1, .inl (cI, 3974, .inl m_s)), (qm 4, .inl (cI, 7, .inl m_errors)), (qm 17, .inl (cI, 30, .inl m_trace))] H → va_D A [(qm 0, .inr (7, oX7 qm m_images m_newMany m_at m_open m_steps m_use m_traced m_speaks m_isParted)), (qm 1, .inl (cI, 3974, .inl m_s)), (qm 4, .inl (cI, 7, .inl m_errors)), (qm 17, .inl (cI, 30, .inl m_trace))] → va_S A s.heap H locs → f7_voice_95 m_s s0 m_traced m_speaks m_isParted m_errors m_trace = some u → W p l e (rmq (38)) s m args below meth c H locs 0 0 Q (F0 m 95 ls [.int s0]) := by
    intro s0 m_traced m_speaks m_isParted m_errors m_trace H locs ls hl hP hD hS h
    unfold f7_voice_95 at h
    refine lv_istore (lv' := [(5, .int s0), (0, .ref (qm 0))]) hx hb dX7_voice_95 hl (by decide) rfl (fun ls hl => ?_)
    refine lv_aload_n hx hb dX7_voice_97 rfl (lv_at hl 1 rfl) ?_
    refine va_get (D := D) (ci := 7) (v := .int m_isParted) (C := RX7) (T := TX7) (N := 24) hx hb hts in7 hown hK hP 0 rfl rfl 19 (by decide) l273 (fun _ h9 => h9) rfl dX7_voice_98 ?_
    refine q_ifeq hx hb 113 h dX7_voice_101 (by decide) (fun h => ?_) (fun h => ?_)
    · refine lv_iload hx hb dX7_voice_113 (lv_at hl 0 rfl) ?_
      exact J115 s0 m_traced m_speaks m_isParted m_errors m_trace _ _ _ (lv_sub hl [1] rfl) hP hD hS h
    · refine lv_aload_n hx hb dX7_voice_104 rfl (lv_at hl 1 rfl) ?_
      refine lv_bipush (v := (6 : Int32)) hx hb dX7_voice_105 (by decide) ?_
      refine q_callW2 q_E0ok (rest := []) (fun u => [(qm 0, .inr (7, oX7 qm m_images m_newMany m_at m_open m_steps m_use m_traced m_speaks m_isParted)), (qm 4, .inl (cI, 7, .inl u.2))]) (fun u => u.1) ⟨hx, hb, hml, hown, hts⟩ (fun u hu => c7_error l D cI qm m_images m_newMany m_at m_open m_steps m_use m_traced m_speaks m_isParted m_errors ((6 : Int32)) u hu) (cwV 1 hts gX7_voice_X7_error rfl rfl rfl hdX7_error (rmq_ok (Nat.le_of_ble_eq_true rfl) (Nat.le_of_ble_eq_true rfl))) hK hEv hA hP hD hS [0, 2] (by decide) rfl (fun _ => rfl) (va_recv hK hP (ci := 7) (q0 := 0) rfl rfl) rfl rfl hl.1 (Nat.le_of_ble_eq_true rfl) ⟨Nat.zero_le _, Nat.zero_le _⟩ h dX7_voice_107 (fun t107 m_errors_107 H locs h hP hD hS => ?_)
      have hP : va_P D vwCl [(qm 0, .inr (7, oX7 qm m_images m_newMany m_at m_open m_steps m_use m_traced m_speaks m_isParted)), (qm 1, .inl (cI, 3974, .inl m_s)), (qm 4, .inl (cI, 7, .inl m_errors_107)), (qm 17, .inl (cI, 30, .inl m_trace))] H := hP
      have hD : va_D A [(qm 0, .inr (7, oX7 qm m_images m_newMany m_at m_open m_steps m_use m_traced m_speaks m_isParted)), (qm 1, .inl (cI, 3974, .inl m_s)), (qm 4, .inl (cI, 7, .inl m_errors_107)), (qm 17, .inl (cI, 30, .inl m_trace))] := hD
      refine lv_goto (tgt := 115) hx hb dX7_voice_110 (by decide) ?_
      exact J115 t107 m_traced m_speaks m_isParted m_errors_107 m_trace _ _ _ (lv_sub hl [1] rfl) hP hD hS h
  have J17 : ∀ (m_traced : Int32) (m_speaks : Int32) (m_isParted : Int32) (m_errors : (Nat → Int32)) (m_trace : (Nat → Int32)) (H : Heap) (locs : List Loc) (ls : Array Slot), lv_has ls 6 [(0, .ref (qm 0))] → va_P D vwCl [(qm 0, .inr (7, oX7 qm m_images m_newMany m_at m_open m_steps m_use m_traced m_speaks m_isParted)), (qm 1, .inl (cI, 3974, .inl m_s)), (qm 4, .inl (cI, 7, .inl m_errors)), (qm 17, .inl (cI, 30, .inl m_trace))] H → va_D A [(qm 0, .inr (7, oX7 qm m_images m_newMany m_at m_open m_steps m_use m_traced m_speaks m_isParted)), (qm 1, .inl (cI, 3974, .inl m_s)), (qm 4, .inl (cI, 7, .inl m_errors)), (qm 17, .inl (cI, 30, .inl m_trace))] → va_S A s.heap H locs → f7_voice_17 m_s m_traced m_speaks m_isParted m_errors m_trace = some u → W p l e (rmq (38)) s m args below meth c H locs 0 0 Q (F0 m 17 ls []) := by
    intro m_traced m_speaks m_isParted m_errors m_trace H locs ls hl hP hD hS h
    unfold f7_voice_17 at h
    refine lv_aload_n hx hb dX7_voice_17 rfl (lv_at hl 0 rfl) ?_
    refine lv_iconst (v := (1 : Int32)) hx hb dX7_voice_18 (by decide) ?_
    refine q_callW2 q_E0ok (rest := []) (fun u => [(qm 0, .inr (7, oX7 qm m_images m_newMany m_at m_open m_steps m_use m_traced m_speaks m_isParted)), (qm 4, .inl (cI, 7, .inl u.2))]) (fun u => u.1) ⟨hx, hb, hml, hown, hts⟩ (fun u hu => c7_error l D cI qm m_images m_newMany m_at m_open m_steps m_use m_traced m_speaks m_isParted m_errors ((1 : Int32)) u hu) (cwV 1 hts gX7_voice_X7_error rfl rfl rfl hdX7_error (rmq_ok (Nat.le_of_ble_eq_true rfl) (Nat.le_of_ble_eq_true rfl))) hK hEv hA hP hD hS [0, 2] (by decide) rfl (fun _ => rfl) (va_recv hK hP (ci := 7) (q0 := 0) rfl rfl) rfl rfl hl.1 (Nat.le_of_ble_eq_true rfl) ⟨Nat.zero_le _, Nat.zero_le _⟩ h dX7_voice_19 (fun t19 m_errors_19 H locs h hP hD hS => ?_)
    have hP : va_P D vwCl [(qm 0, .inr (7, oX7 qm m_images m_newMany m_at m_open m_steps m_use m_traced m_speaks m_isParted)), (qm 1, .inl (cI, 3974, .inl m_s)), (qm 4, .inl (cI, 7, .inl m_errors_19)), (qm 17, .inl (cI, 30, .inl m_trace))] H := hP
    have hD : va_D A [(qm 0, .inr (7, oX7 qm m_images m_newMany m_at m_open m_steps m_use m_traced m_speaks m_isParted)), (qm 1, .inl (cI, 3974, .inl m_s)), (qm 4, .inl (cI, 7, .inl m_errors_19)), (qm 17, .inl (cI, 30, .inl m_trace))] := hD
    exact hret (t19, m_traced, m_speaks, m_isParted, m_errors_19, m_trace) _ _ _ _ (vp_nar_int _) h hP hD hS dX7_voice_22
  unfold f7_voice at h
  refine lv_aload_n hx hb dX7_voice_0 rfl (lv_at hl 0 rfl) ?_
  refine lv_iload_n hx hb dX7_voice_1 rfl (lv_at hl 1 rfl) ?_
  refine q_callR q_E0ok (rest := []) ⟨hx, hb, hml, hown, hts⟩ (fun r hr => c7_isAct l D cI qm m_images m_newMany m_at m_open m_steps m_use m_traced m_speaks m_isParted m_s x1 r hr) (cwV 1 hts gX7_voice_X7_isAct rfl rfl rfl hdX7_isAct (rmq_ok (Nat.le_of_ble_eq_true rfl) (Nat.le_of_ble_eq_true rfl))) hK hP hEv hS [0, 1] rfl (va_recv hK hP (ci := 7) (q0 := 0) rfl rfl) rfl rfl hl.1 (Nat.le_of_ble_eq_true rfl) ⟨Nat.zero_le _, Nat.zero_le _⟩ h dX7_voice_2 (fun t2 h => ?_)
  refine q_ifeq hx hb 17 h dX7_voice_5 (by decide) (fun h => ?_) (fun h => ?_)
  · exact J17 m_traced m_speaks m_isParted m_errors m_trace _ _ _ (lv_sub hl [0] rfl) hP hD hS h
  · refine lv_iload_n hx hb dX7_voice_8 rfl (lv_at hl 2 rfl) ?_
    refine lv_iconst (v := (0 : Int32)) hx hb dX7_voice_9 (by decide) ?_
    refine lv_iconst (v := (3 : Int32)) hx hb dX7_voice_10 (by decide) ?_
    refine q_callRS q_E0ok (rest := []) ⟨hx, hb, hml, hown, hts⟩ (fun r hr => c7_in l D cI x2 ((0 : Int32)) ((3 : Int32)) r hr) (va_cwS 3 hts gX7_voice_X7_in rfl rfl rfl hdX7_in (rmq_ok (Nat.le_of_ble_eq_true rfl) (Nat.le_of_ble_eq_true rfl))) hK hP hEv hS [] rfl rfl rfl hl.1 (Nat.le_of_ble_eq_true rfl) ⟨Nat.zero_le _, Nat.zero_le _⟩ h dX7_voice_11 (fun t11 h => ?_)
    refine q_ifne hx hb 23 h dX7_voice_14 (by decide) (fun h => ?_) (fun h => ?_)
    · refine lv_aload_n hx hb dX7_voice_23 rfl (lv_at hl 0 rfl) ?_
      refine lv_iconst (v := (0 : Int32)) hx hb dX7_voice_24 (by decide) ?_
      refine va_put (D := D) (ci := 7) (v := .int ((0 : Int32))) (ty := .int) (C := RX7) (T := TX7) (N := 24) hx hb hts in7 tyX7 tyX7_ok nmX7 hown hK hP hD hS 0 rfl rfl 17 (by decide) l246 (fun _ h9 => h9) rfl (by decide +kernel) rfl rfl (Nat.le_of_ble_eq_true rfl) dX7_voice_25 (fun H locs hP hD hS => ?_)
      have hP : va_P D vwCl [(qm 0, .inr (7, oX7 qm m_images m_newMany m_at m_open m_steps m_use ((0 : Int32)) m_speaks m_isParted)), (qm 1, .inl (cI, 3974, .inl m_s)), (qm 4, .inl (cI, 7, .inl m_errors)), (qm 17, .inl (cI, 30, .inl m_trace))] H := hP
      have hD : va_D A [(qm 0, .inr (7, oX7 qm m_images m_newMany m_at m_open m_steps m_use ((0 : Int32)) m_speaks m_isParted)), (qm 1, .inl (cI, 3974, .inl m_s)), (qm 4, .inl (cI, 7, .inl m_errors)), (qm 17, .inl (cI, 30, .inl m_trace))] := hD
      refine lv_aload_n hx hb dX7_voice_28 rfl (lv_at hl 0 rfl) ?_
      refine lv_iload_n hx hb dX7_voice_29 rfl (lv_at hl 1 rfl) ?_
      refine va_put (D := D) (ci := 7) (v := .int x1) (ty := .int) (C := RX7) (T := TX7) (N := 24) hx hb hts in7 tyX7 tyX7_ok nmX7 hown hK hP hD hS 0 rfl rfl 18 (by decide) l249 (fun _ h9 => h9) rfl (by decide +kernel) rfl rfl (Nat.le_of_ble_eq_true rfl) dX7_voice_30 (fun H locs hP hD hS => ?_)
      have hP : va_P D vwCl [(qm 0, .inr (7, oX7 qm m_images m_newMany m_at m_open m_steps m_use ((0 : Int32)) x1 m_isParted)), (qm 1, .inl (cI, 3974, .inl m_s)), (qm 4, .inl (cI, 7, .inl m_errors)), (qm 17, .inl (cI, 30, .inl m_trace))] H := hP
      have hD : va_D A [(qm 0, .inr (7, oX7 qm m_images m_newMany m_at m_open m_steps m_use ((0 : Int32)) x1 m_isParted)), (qm 1, .inl (cI, 3974, .inl m_s)), (qm 4, .inl (cI, 7, .inl m_errors)), (qm 17, .inl (cI, 30, .inl m_trace))] := hD
      refine lv_aload_n hx hb dX7_voice_33 rfl (lv_at hl 0 rfl) ?_
      refine lv_iconst (v := (0 : Int32)) hx hb dX7_voice_34 (by decide) ?_
      obtain ⟨hz, h⟩ := q_bz_of h
      refine va_put (D := D) (ci := 7) (v := .int ((0 : Int32))) (ty := .boolean) (C := RX7) (T := TX7) (N := 24) hx hb hts in7 tyX7 tyX7_ok nmX7 hown hK hP hD hS 0 rfl rfl 19 (by decide) l273 (fun _ h9 => h9) rfl (by decide +kernel) (q_nz hz) (q_fz hz) (Nat.le_of_ble_eq_true rfl) dX7_voice_35 (fun H locs hP hD hS => ?_)
      have hP : va_P D vwCl [(qm 0, .inr (7, oX7 qm m_images m_newMany m_at m_open m_steps m_use ((0 : Int32)) x1 ((0 : Int32)))), (qm 1, .inl (cI, 3974, .inl m_s)), (qm 4, .inl (cI, 7, .inl m_errors)), (qm 17, .inl (cI, 30, .inl m_trace))] H := hP
      have hD : va_D A [(qm 0, .inr (7, oX7 qm m_images m_newMany m_at m_open m_steps m_use ((0 : Int32)) x1 ((0 : Int32)))), (qm 1, .inl (cI, 3974, .inl m_s)), (qm 4, .inl (cI, 7, .inl m_errors)), (qm 17, .inl (cI, 30, .inl m_trace))] := hD
      refine lv_aload_n hx hb dX7_voice_38 rfl (lv_at hl 0 rfl) ?_
      refine q_callR q_E0ok (rest := []) ⟨hx, hb, hml, hown, hts⟩ (fun r hr => c7_kindNow l D cI qm m_images m_newMany m_at m_open m_steps m_use ((0 : Int32)) x1 ((0 : Int32)) m_s r hr) (cwV 0 hts gX7_voice_X7_kindNow rfl rfl rfl hdX7_kindNow (rmq_ok (Nat.le_of_ble_eq_true rfl) (Nat.le_of_ble_eq_true rfl))) hK hP hEv hS [0, 1] rfl (va_recv hK hP (ci := 7) (q0 := 0) rfl rfl) rfl rfl hl.1 (Nat.le_of_ble_eq_true rfl) ⟨Nat.zero_le _, Nat.zero_le _⟩ h dX7_voice_39 (fun t39 h => ?_)
      refine lv_istore (lv' := [(4, .int t39), (0, .ref (qm 0)), (1, .int x1), (2, .int x2), (3, .int x3)]) hx hb dX7_voice_42 hl (by decide) rfl (fun ls hl => ?_)
      refine lv_iload_n hx hb dX7_voice_44 rfl (lv_at hl 3 rfl) ?_
      refine q_ifne hx hb 58 h dX7_voice_45 (by decide) (fun h => ?_) (fun h => ?_)
      · refine lv_iload_n hx hb dX7_voice_58 rfl (lv_at hl 3 rfl) ?_
        refine lv_iconst (v := (1 : Int32)) hx hb dX7_voice_59 (by decide) ?_
        refine q_cne hx hb 73 h dX7_voice_60 (by decide) (fun h => ?_) (fun h => ?_)
        · refine lv_iload_n hx hb dX7_voice_73 rfl (lv_at hl 3 rfl) ?_
          refine lv_iconst (v := (2 : Int32)) hx hb dX7_voice_74 (by decide) ?_
          refine q_cne hx hb 88 h dX7_voice_75 (by decide) (fun h => ?_) (fun h => ?_)
          · refine lv_aload_n hx hb dX7_voice_88 rfl (lv_at hl 1 rfl) ?_
            refine lv_iload hx hb dX7_voice_89 (lv_at hl 0 rfl) ?_
            refine lv_iload_n hx hb dX7_voice_91 rfl (lv_at hl 4 rfl) ?_
            refine q_callW4 q_E0ok (rest := []) (fun u => [(qm 0, .inr (7, oX7 qm m_images m_newMany m_at m_open m_steps m_use u.2.1 x1 u.2.2.1)), (qm 1, .inl (cI, 3974, .inl m_s)), (qm 17, .inl (cI, 30, .inl u.2.2.2))]) (fun u => u.1) ⟨hx, hb, hml, hown, hts⟩ (fun u hu => c7_tells l D cI qm 8 m_images m_newMany m_at m_open m_steps m_use ((0 : Int32)) x1 ((0 : Int32)) m_s m_trace t39 x3 u hu) (cwV 2 hts gX7_voice_X7_tells rfl rfl rfl hdX7_tells (rmq_ok (Nat.le_of_ble_eq_true rfl) (Nat.le_of_ble_eq_true rfl))) hK hEv hA hP hD hS [0, 1, 3] (by decide) rfl (fun _ => rfl) (va_recv hK hP (ci := 7) (q0 := 0) rfl rfl) rfl rfl hl.1 (Nat.le_of_ble_eq_true rfl) ⟨Nat.zero_le _, Nat.zero_le _⟩ h dX7_voice_92 (fun t92 m_traced_92 m_isParted_92 m_trace_92 H locs h hP hD hS => ?_)
            have hP : va_P D vwCl [(qm 0, .inr (7, oX7 qm m_images m_newMany m_at m_open m_steps m_use m_traced_92 x1 m_isParted_92)), (qm 1, .inl (cI, 3974, .inl m_s)), (qm 4, .inl (cI, 7, .inl m_errors)), (qm 17, .inl (cI, 30, .inl m_trace_92))] H := hP
            have hD : va_D A [(qm 0, .inr (7, oX7 qm m_images m_newMany m_at m_open m_steps m_use m_traced_92 x1 m_isParted_92)), (qm 1, .inl (cI, 3974, .inl m_s)), (qm 4, .inl (cI, 7, .inl m_errors)), (qm 17, .inl (cI, 30, .inl m_trace_92))] := hD
            exact J95 t92 m_traced_92 x1 m_isParted_92 m_errors m_trace_92 _ _ _ (lv_sub hl [1] rfl) hP hD hS h
          · refine lv_aload_n hx hb dX7_voice_78 rfl (lv_at hl 1 rfl) ?_
            refine lv_iload hx hb dX7_voice_79 (lv_at hl 0 rfl) ?_
            refine lv_iload_n hx hb dX7_voice_81 rfl (lv_at hl 4 rfl) ?_
            refine q_callW3 q_E0ok (rest := []) (fun u => [(qm 0, .inr (7, oX7 qm m_images m_newMany m_at m_open m_steps m_use u.2.1 x1 ((0 : Int32)))), (qm 1, .inl (cI, 3974, .inl m_s)), (qm 17, .inl (cI, 30, .inl u.2.2))]) (fun u => u.1) ⟨hx, hb, hml, hown, hts⟩ (fun u hu => c7_lasts l D cI qm 8 m_images m_newMany m_at m_open m_steps m_use ((0 : Int32)) x1 ((0 : Int32)) m_s m_trace t39 x3 u hu) (cwV 2 hts gX7_voice_X7_lasts rfl rfl rfl hdX7_lasts (rmq_ok (Nat.le_of_ble_eq_true rfl) (Nat.le_of_ble_eq_true rfl))) hK hEv hA hP hD hS [0, 1, 3] (by decide) rfl (fun _ => rfl) (va_recv hK hP (ci := 7) (q0 := 0) rfl rfl) rfl rfl hl.1 (Nat.le_of_ble_eq_true rfl) ⟨Nat.zero_le _, Nat.zero_le _⟩ h dX7_voice_82 (fun t82 m_traced_82 m_trace_82 H locs h hP hD hS => ?_)
            have hP : va_P D vwCl [(qm 0, .inr (7, oX7 qm m_images m_newMany m_at m_open m_steps m_use m_traced_82 x1 ((0 : Int32)))), (qm 1, .inl (cI, 3974, .inl m_s)), (qm 4, .inl (cI, 7, .inl m_errors)), (qm 17, .inl (cI, 30, .inl m_trace_82))] H := hP
            have hD : va_D A [(qm 0, .inr (7, oX7 qm m_images m_newMany m_at m_open m_steps m_use m_traced_82 x1 ((0 : Int32)))), (qm 1, .inl (cI, 3974, .inl m_s)), (qm 4, .inl (cI, 7, .inl m_errors)), (qm 17, .inl (cI, 30, .inl m_trace_82))] := hD
            refine lv_goto (tgt := 95) hx hb dX7_voice_85 (by decide) ?_
            exact J95 t82 m_traced_82 x1 ((0 : Int32)) m_errors m_trace_82 _ _ _ (lv_sub hl [1] rfl) hP hD hS h
        · refine lv_aload_n hx hb dX7_voice_63 rfl (lv_at hl 1 rfl) ?_
          refine lv_iload hx hb dX7_voice_64 (lv_at hl 0 rfl) ?_
          refine lv_iload_n hx hb dX7_voice_66 rfl (lv_at hl 4 rfl) ?_
          refine q_callW3 q_E0ok (rest := []) (fun u => [(qm 0, .inr (7, oX7 qm m_images m_newMany m_at m_open m_steps m_use u.2.1 x1 ((0 : Int32)))), (qm 1, .inl (cI, 3974, .inl m_s)), (qm 17, .inl (cI, 30, .inl u.2.2))]) (fun u => u.1) ⟨hx, hb, hml, hown, hts⟩ (fun u hu => c7_undoes l D cI qm 8 m_images m_newMany m_at m_open m_steps m_use ((0 : Int32)) x1 ((0 : Int32)) m_s m_trace t39 x3 u hu) (cwV 2 hts gX7_voice_X7_undoes rfl rfl rfl hdX7_undoes (rmq_ok (Nat.le_of_ble_eq_true rfl) (Nat.le_of_ble_eq_true rfl))) hK hEv hA hP hD hS [0, 1, 3] (by decide) rfl (fun _ => rfl) (va_recv hK hP (ci := 7) (q0 := 0) rfl rfl) rfl rfl hl.1 (Nat.le_of_ble_eq_true rfl) ⟨Nat.zero_le _, Nat.zero_le _⟩ h dX7_voice_67 (fun t67 m_traced_67 m_trace_67 H locs h hP hD hS => ?_)
          have hP : va_P D vwCl [(qm 0, .inr (7, oX7 qm m_images m_newMany m_at m_open m_steps m_use m_traced_67 x1 ((0 : Int32)))), (qm 1, .inl (cI, 3974, .inl m_s)), (qm 4, .inl (cI, 7, .inl m_errors)), (qm 17, .inl (cI, 30, .inl m_trace_67))] H := hP
          have hD : va_D A [(qm 0, .inr (7, oX7 qm m_images m_newMany m_at m_open m_steps m_use m_traced_67 x1 ((0 : Int32)))), (qm 1, .inl (cI, 3974, .inl m_s)), (qm 4, .inl (cI, 7, .inl m_errors)), (qm 17, .inl (cI, 30, .inl m_trace_67))] := hD
          refine lv_goto (tgt := 95) hx hb dX7_voice_70 (by decide) ?_
          exact J95 t67 m_traced_67 x1 ((0 : Int32)) m_errors m_trace_67 _ _ _ (lv_sub hl [1] rfl) hP hD hS h
      · refine lv_aload_n hx hb dX7_voice_48 rfl (lv_at hl 1 rfl) ?_
        refine lv_iload hx hb dX7_voice_49 (lv_at hl 0 rfl) ?_
        refine lv_iload_n hx hb dX7_voice_51 rfl (lv_at hl 4 rfl) ?_
        refine q_callW3 q_E0ok (rest := []) (fun u => [(qm 0, .inr (7, oX7 qm m_images m_newMany m_at m_open m_steps m_use u.2.1 x1 ((0 : Int32)))), (qm 1, .inl (cI, 3974, .inl m_s)), (qm 17, .inl (cI, 30, .inl u.2.2))]) (fun u => u.1) ⟨hx, hb, hml, hown, hts⟩ (fun u hu => c7_does l D cI qm 8 m_images m_newMany m_at m_open m_steps m_use ((0 : Int32)) x1 ((0 : Int32)) m_s m_trace t39 x3 u hu) (cwV 2 hts gX7_voice_X7_does rfl rfl rfl hdX7_does (rmq_ok (Nat.le_of_ble_eq_true rfl) (Nat.le_of_ble_eq_true rfl))) hK hEv hA hP hD hS [0, 1, 3] (by decide) rfl (fun _ => rfl) (va_recv hK hP (ci := 7) (q0 := 0) rfl rfl) rfl rfl hl.1 (Nat.le_of_ble_eq_true rfl) ⟨Nat.zero_le _, Nat.zero_le _⟩ h dX7_voice_52 (fun t52 m_traced_52 m_trace_52 H locs h hP hD hS => ?_)
        have hP : va_P D vwCl [(qm 0, .inr (7, oX7 qm m_images m_newMany m_at m_open m_steps m_use m_traced_52 x1 ((0 : Int32)))), (qm 1, .inl (cI, 3974, .inl m_s)), (qm 4, .inl (cI, 7, .inl m_errors)), (qm 17, .inl (cI, 30, .inl m_trace_52))] H := hP
        have hD : va_D A [(qm 0, .inr (7, oX7 qm m_images m_newMany m_at m_open m_steps m_use m_traced_52 x1 ((0 : Int32)))), (qm 1, .inl (cI, 3974, .inl m_s)), (qm 4, .inl (cI, 7, .inl m_errors)), (qm 17, .inl (cI, 30, .inl m_trace_52))] := hD
        refine lv_goto (tgt := 95) hx hb dX7_voice_55 (by decide) ?_
        exact J95 t52 m_traced_52 x1 ((0 : Int32)) m_errors m_trace_52 _ _ _ (lv_sub hl [1] rfl) hP hD hS h
    · exact J17 m_traced m_speaks m_isParted m_errors m_trace _ _ _ (lv_sub hl [0] rfl) hP hD hS h
set_option maxHeartbeats 4000000 in
set_option maxRecDepth 100000 in
theorem c7_body (l : Launch) (D : va_G) (cI : ClassId) (qm : Nat → Nat) (m_images m_newMany m_at m_open m_steps m_use m_traced m_speaks m_isParted : Int32) (m_errors m_trace : Nat → Int32) (x1 : Int32) (u : Int32 × (Nat → Int32)) (h : f7_body x1 m_traced m_errors m_trace = some u) : q_RW q_E0 l yX7_body wsX7_body (rmq (1)) D cI [.ref (qm 0), .int x1] [(qm 0, .inr (7, oX7 qm m_images m_newMany m_at m_open m_steps m_use m_traced m_speaks m_isParted)), (qm 4, .inl (cI, 7, .inl m_errors)), (qm 17, .inl (cI, 30, .inl m_trace))] [(qm 0, .inr (7, oX7 qm m_images m_newMany m_at m_open m_steps m_use m_traced m_speaks m_isParted)), (qm 4, .inl (cI, 7, .inl u.2)), (qm 17, .inl (cI, 30, .inl m_trace))] u.1 := by
  refine q_startW (fun u : Int32 × (Nat → Int32) => [(qm 0, .inr (7, oX7 qm m_images m_newMany m_at m_open m_steps m_use m_traced m_speaks m_isParted)), (qm 4, .inl (cI, 7, .inl u.2)), (qm 17, .inl (cI, 30, .inl m_trace))]) (fun u => u.1) (cc := cX7_body) (maxL := 2) (ty := .int) (own := RX7) (by decide) rfl rfl (Nat.le_of_ble_eq_true rfl) rfl (fun p e s m args below meth c Q A hx hb hml hown hts hK hEv hA hret hP hD hS ls hl => ?_)
  have in7 : ∀ w ∈ wsX70, w ∈ wsX7_body := fun w h => List.mem_cons_of_mem _ (List.mem_append_right _ (h))
  have l40 := hts (.fieldLink RX7 40 "PageWarsModel" "trace" "[I") (List.mem_of_getElem? (i := 2) rfl)
  have l246 := hts (.fieldLink RX7 246 "PageWarsModel" "traced" "I") (List.mem_of_getElem? (i := 1) rfl)
  have J28 : ∀ (s0 : Int32) (m_errors : (Nat → Int32)) (H : Heap) (locs : List Loc) (ls : Array Slot), lv_has ls 2 [(0, .ref (qm 0))] → va_P D vwCl [(qm 0, .inr (7, oX7 qm m_images m_newMany m_at m_open m_steps m_use m_traced m_speaks m_isParted)), (qm 4, .inl (cI, 7, .inl m_errors)), (qm 17, .inl (cI, 30, .inl m_trace))] H → va_D A [(qm 0, .inr (7, oX7 qm m_images m_newMany m_at m_open m_steps m_use m_traced m_speaks m_isParted)), (qm 4, .inl (cI, 7, .inl m_errors)), (qm 17, .inl (cI, 30, .inl m_trace))] → va_S A s.heap H locs → f7_body_28 m_traced m_trace s0 m_errors = some u → W p l e (rmq (1)) s m args below meth c H locs 0 0 Q (F0 m 28 ls [.int s0]) := by
    intro s0 m_errors H locs ls hl hP hD hS h
    unfold f7_body_28 at h
    exact hret (s0, m_errors) _ _ _ _ (vp_nar_int _) h hP hD hS dX7_body_28
  unfold f7_body at h
  refine lv_iload_n hx hb dX7_body_0 rfl (lv_at hl 1 rfl) ?_
  refine lv_iconst (v := (0 : Int32)) hx hb dX7_body_1 (by decide) ?_
  refine lv_aload_n hx hb dX7_body_2 rfl (lv_at hl 0 rfl) ?_
  refine va_get (D := D) (ci := 7) (v := .int m_traced) (C := RX7) (T := TX7) (N := 24) hx hb hts in7 hown hK hP 0 rfl rfl 17 (by decide) l246 (fun _ h9 => h9) rfl dX7_body_3 ?_
  refine lv_iconst (v := (1 : Int32)) hx hb dX7_body_6 (by decide) ?_
  refine lv_isub hx hb dX7_body_7 ?_
  refine q_callRS q_E0ok (rest := []) ⟨hx, hb, hml, hown, hts⟩ (fun r hr => c7_in l D cI x1 ((0 : Int32)) (m_traced - ((1 : Int32))) r hr) (va_cwS 3 hts gX7_body_X7_in rfl rfl rfl hdX7_in (rmq_ok (Nat.le_of_ble_eq_true rfl) (Nat.le_of_ble_eq_true rfl))) hK hP hEv hS [] rfl rfl rfl hl.1 (Nat.le_of_ble_eq_true rfl) ⟨Nat.zero_le _, Nat.zero_le _⟩ h dX7_body_8 (fun t8 h => ?_)
  refine q_ifeq hx hb 23 h dX7_body_11 (by decide) (fun h => ?_) (fun h => ?_)
  · refine lv_aload_n hx hb dX7_body_23 rfl (lv_at hl 0 rfl) ?_
    refine lv_iconst (v := (2 : Int32)) hx hb dX7_body_24 (by decide) ?_
    refine q_callW2 q_E0ok (rest := []) (fun u => [(qm 0, .inr (7, oX7 qm m_images m_newMany m_at m_open m_steps m_use m_traced m_speaks m_isParted)), (qm 4, .inl (cI, 7, .inl u.2))]) (fun u => u.1) ⟨hx, hb, hml, hown, hts⟩ (fun u hu => c7_error l D cI qm m_images m_newMany m_at m_open m_steps m_use m_traced m_speaks m_isParted m_errors ((2 : Int32)) u hu) (cwV 1 hts gX7_body_X7_error rfl rfl rfl hdX7_error (rmq_ok (Nat.le_of_ble_eq_true rfl) (Nat.le_of_ble_eq_true rfl))) hK hEv hA hP hD hS [0, 1] (by decide) rfl (fun _ => rfl) (va_recv hK hP (ci := 7) (q0 := 0) rfl rfl) rfl rfl hl.1 (Nat.le_of_ble_eq_true rfl) ⟨Nat.zero_le _, Nat.zero_le _⟩ h dX7_body_25 (fun t25 m_errors_25 H locs h hP hD hS => ?_)
    have hP : va_P D vwCl [(qm 0, .inr (7, oX7 qm m_images m_newMany m_at m_open m_steps m_use m_traced m_speaks m_isParted)), (qm 4, .inl (cI, 7, .inl m_errors_25)), (qm 17, .inl (cI, 30, .inl m_trace))] H := hP
    have hD : va_D A [(qm 0, .inr (7, oX7 qm m_images m_newMany m_at m_open m_steps m_use m_traced m_speaks m_isParted)), (qm 4, .inl (cI, 7, .inl m_errors_25)), (qm 17, .inl (cI, 30, .inl m_trace))] := hD
    exact J28 t25 m_errors_25 _ _ _ (lv_sub hl [0] rfl) hP hD hS h
  · refine lv_aload_n hx hb dX7_body_14 rfl (lv_at hl 0 rfl) ?_
    refine va_get (D := D) (ci := 7) (v := .ref (qm 17)) (C := RX7) (T := TX7) (N := 24) hx hb hts in7 hown hK hP 0 rfl rfl 16 (by decide) l40 (fun _ h9 => h9) rfl dX7_body_15 ?_
    refine lv_iload_n hx hb dX7_body_18 rfl (lv_at hl 1 rfl) ?_
    refine q_iald hx hb hK hP 2 0 rfl rfl h dX7_body_19 (fun t19 h => ?_)
    refine lv_goto (tgt := 28) hx hb dX7_body_20 (by decide) ?_
    exact J28 t19 m_errors _ _ _ (lv_sub hl [0] rfl) hP hD hS h
set_option maxHeartbeats 4000000 in
set_option maxRecDepth 100000 in
theorem c7_isSheet (l : Launch) (D : va_G) (cI : ClassId) (x0 : Int32) (u : Int32) (h : f7_isSheet x0 = some u) : q_RO q_E0 l yX7_isSheet wsX7_isSheet (rmq (1)) D cI [.int x0] [] u := by
  refine q_startR (cc := cX7_isSheet) (maxL := 1) (ty := .boolean) (own := RX7) (by decide) rfl rfl (Nat.le_of_ble_eq_true rfl) rfl (fun p e s m args below meth c Q hx hb hml hown hts hP hK hEv hret ls hl => ?_)
  unfold f7_isSheet at h
  refine lv_iload_n hx hb dX7_isSheet_0 rfl (lv_at hl 0 rfl) ?_
  refine lv_iconst (v := (0 : Int32)) hx hb dX7_isSheet_1 (by decide) ?_
  refine lv_iconst (v := (3 : Int32)) hx hb dX7_isSheet_2 (by decide) ?_
  refine q_callRS q_E0ok (rest := []) ⟨hx, hb, hml, hown, hts⟩ (fun r hr => c7_in l D cI x0 ((0 : Int32)) ((3 : Int32)) r hr) (va_cwS 3 hts gX7_isSheet_X7_in rfl rfl rfl hdX7_in (rmq_ok (Nat.le_of_ble_eq_true rfl) (Nat.le_of_ble_eq_true rfl))) hK hP hEv va_S.rf [] rfl rfl rfl hl.1 (Nat.le_of_ble_eq_true rfl) ⟨Nat.zero_le _, Nat.zero_le _⟩ h dX7_isSheet_3 (fun t3 h => ?_)
  obtain ⟨hz, h⟩ := q_bz_of h
  exact hret _ _ _ (q_nz hz) h dX7_isSheet_6
set_option maxHeartbeats 4000000 in
set_option maxRecDepth 100000 in
theorem c7_sheet (l : Launch) (D : va_G) (cI : ClassId) (qm : Nat → Nat) (m_images m_newMany m_at m_open m_steps m_use m_traced m_speaks m_isParted : Int32) (m_errors m_bits m_sizes m_number : Nat → Int32) (x1 : Int32) (x2 : Int32) (x3 : Int32) (n : Nat) (u : Int32 × (Nat → Int32) × (Nat → Int32) × (Nat → Int32) × (Nat → Int32)) (h : f7_sheet n x1 x2 x3 m_errors m_bits m_sizes m_number = some u) : q_RW q_E0 l yX7_sheet wsX7_sheet (rmq (2)) D cI [.ref (qm 0), .int x1, .int x2, .int x3] [(qm 0, .inr (7, oX7 qm m_images m_newMany m_at m_open m_steps m_use m_traced m_speaks m_isParted)), (qm 4, .inl (cI, 7, .inl m_errors)), (qm 21, .inl (cI, 4, .inl m_bits)), (qm 22, .inl (cI, 4, .inl m_sizes)), (qm 23, .inl (cI, 96, .inl m_number))] [(qm 0, .inr (7, oX7 qm m_images m_newMany m_at m_open m_steps m_use m_traced m_speaks m_isParted)), (qm 4, .inl (cI, 7, .inl u.2.1)), (qm 21, .inl (cI, 4, .inl u.2.2.1)), (qm 22, .inl (cI, 4, .inl u.2.2.2.1)), (qm 23, .inl (cI, 96, .inl u.2.2.2.2))] u.1 := by
  refine q_startW (fun u : Int32 × (Nat → Int32) × (Nat → Int32) × (Nat → Int32) × (Nat → Int32) => [(qm 0, .inr (7, oX7 qm m_images m_newMany m_at m_open m_steps m_use m_traced m_speaks m_isParted)), (qm 4, .inl (cI, 7, .inl u.2.1)), (qm 21, .inl (cI, 4, .inl u.2.2.1)), (qm 22, .inl (cI, 4, .inl u.2.2.2.1)), (qm 23, .inl (cI, 96, .inl u.2.2.2.2))]) (fun u => u.1) (cc := cX7_sheet) (maxL := 5) (ty := .int) (own := RX7) (by decide) rfl rfl (Nat.le_of_ble_eq_true rfl) rfl (fun p e s m args below meth c Q A hx hb hml hown hts hK hEv hA hret hP hD hS ls hl => ?_)
  have in7 : ∀ w ∈ wsX70, w ∈ wsX7_sheet := fun w h => List.mem_cons_of_mem _ (List.mem_append_right _ (h))
  have l43 := hts (.fieldLink RX7 43 "PageWarsModel" "bits" "[I") (List.mem_of_getElem? (i := 1) rfl)
  have l46 := hts (.fieldLink RX7 46 "PageWarsModel" "sizes" "[I") (List.mem_of_getElem? (i := 2) rfl)
  have l49 := hts (.fieldLink RX7 49 "PageWarsModel" "number" "[I") (List.mem_of_getElem? (i := 3) rfl)
  have J90 : ∀ (kk90 : Nat) (x1 : Int32) (x4 : Int32) (m_errors : (Nat → Int32)) (m_bits : (Nat → Int32)) (m_sizes : (Nat → Int32)) (m_number : (Nat → Int32)) (H : Heap) (locs : List Loc) (ls : Array Slot), lv_has ls 5 [(0, .ref (qm 0)), (1, .int x1), (4, .int x4)] → va_P D vwCl [(qm 0, .inr (7, oX7 qm m_images m_newMany m_at m_open m_steps m_use m_traced m_speaks m_isParted)), (qm 4, .inl (cI, 7, .inl m_errors)), (qm 21, .inl (cI, 4, .inl m_bits)), (qm 22, .inl (cI, 4, .inl m_sizes)), (qm 23, .inl (cI, 96, .inl m_number))] H → va_D A [(qm 0, .inr (7, oX7 qm m_images m_newMany m_at m_open m_steps m_use m_traced m_speaks m_isParted)), (qm 4, .inl (cI, 7, .inl m_errors)), (qm 21, .inl (cI, 4, .inl m_bits)), (qm 22, .inl (cI, 4, .inl m_sizes)), (qm 23, .inl (cI, 96, .inl m_number))] → va_S A s.heap H locs → f7_sheet_90 n kk90 x1 x4 m_errors m_bits m_sizes m_number = some u → W p l e (rmq (2)) s m args below meth c H locs 0 0 Q (F0 m 90 ls []) := by
    intro kk90
    induction kk90 with
    | zero => intro x1 x4 m_errors m_bits m_sizes m_number H locs ls hl hP hD hS h; exact nomatch (show (none : Option (Int32 × (Nat → Int32) × (Nat → Int32) × (Nat → Int32) × (Nat → Int32))) = some u from h)
    | succ kk90 ih90 =>
      intro x1 x4 m_errors m_bits m_sizes m_number H locs ls hl hP hD hS h
      rw [f7_sheet_90.eq_2] at h
      refine lv_iload hx hb dX7_sheet_90 (lv_at hl 2 rfl) ?_
      refine lv_bipush (v := (24 : Int32)) hx hb dX7_sheet_92 (by decide) ?_
      refine q_cge hx hb 116 h dX7_sheet_94 (by decide) (fun h => ?_) (fun h => ?_)
      · refine lv_iconst (v := (1 : Int32)) hx hb dX7_sheet_116 (by decide) ?_
        exact hret ((1 : Int32), m_errors, m_bits, m_sizes, m_number) _ _ _ _ (vp_nar_int _) h hP hD hS dX7_sheet_117
      · refine lv_aload_n hx hb dX7_sheet_97 rfl (lv_at hl 0 rfl) ?_
        refine va_get (D := D) (ci := 7) (v := .ref (qm 23)) (C := RX7) (T := TX7) (N := 24) hx hb hts in7 hown hK hP 0 rfl rfl 22 (by decide) l49 (fun _ h9 => h9) rfl dX7_sheet_98 ?_
        refine lv_bipush (v := (24 : Int32)) hx hb dX7_sheet_101 (by decide) ?_
        refine lv_iload_n hx hb dX7_sheet_103 rfl (lv_at hl 1 rfl) ?_
        refine lv_imul hx hb dX7_sheet_104 ?_
        refine lv_iload hx hb dX7_sheet_105 (lv_at hl 2 rfl) ?_
        refine lv_iadd hx hb dX7_sheet_107 ?_
        refine lv_iconst (v := (0 : Int32)) hx hb dX7_sheet_108 (by decide) ?_
        refine q_iast hx hb hK hP hD hS 4 0 rfl rfl h dX7_sheet_109 (fun m_number_109 H locs h hP hD hS => ?_)
        have hP : va_P D vwCl [(qm 0, .inr (7, oX7 qm m_images m_newMany m_at m_open m_steps m_use m_traced m_speaks m_isParted)), (qm 4, .inl (cI, 7, .inl m_errors)), (qm 21, .inl (cI, 4, .inl m_bits)), (qm 22, .inl (cI, 4, .inl m_sizes)), (qm 23, .inl (cI, 96, .inl m_number_109))] H := hP
        have hD : va_D A [(qm 0, .inr (7, oX7 qm m_images m_newMany m_at m_open m_steps m_use m_traced m_speaks m_isParted)), (qm 4, .inl (cI, 7, .inl m_errors)), (qm 21, .inl (cI, 4, .inl m_bits)), (qm 22, .inl (cI, 4, .inl m_sizes)), (qm 23, .inl (cI, 96, .inl m_number_109))] := hD
        refine q_iinc (fun v => [(4, .int v), (0, .ref (qm 0)), (1, .int x1)]) hx hb h dX7_sheet_110 (by decide) hl (k := 2) rfl (by decide) (fun _ => rfl) (fun x4_110 ls h hl => ?_)
        refine lv_goto (tgt := 90) hx hb dX7_sheet_113 (by decide) ?_
        exact ih90 x1 x4_110 m_errors m_bits m_sizes m_number_109 _ _ _ (lv_sub hl [1, 2, 0] rfl) hP hD hS h
  have J86 : ∀ (x1 : Int32) (s1 : Int32) (s2 : Int32) (m_errors : (Nat → Int32)) (m_bits : (Nat → Int32)) (m_sizes : (Nat → Int32)) (m_number : (Nat → Int32)) (H : Heap) (locs : List Loc) (ls : Array Slot), lv_has ls 5 [(0, .ref (qm 0)), (1, .int x1)] → va_P D vwCl [(qm 0, .inr (7, oX7 qm m_images m_newMany m_at m_open m_steps m_use m_traced m_speaks m_isParted)), (qm 4, .inl (cI, 7, .inl m_errors)), (qm 21, .inl (cI, 4, .inl m_bits)), (qm 22, .inl (cI, 4, .inl m_sizes)), (qm 23, .inl (cI, 96, .inl m_number))] H → va_D A [(qm 0, .inr (7, oX7 qm m_images m_newMany m_at m_open m_steps m_use m_traced m_speaks m_isParted)), (qm 4, .inl (cI, 7, .inl m_errors)), (qm 21, .inl (cI, 4, .inl m_bits)), (qm 22, .inl (cI, 4, .inl m_sizes)), (qm 23, .inl (cI, 96, .inl m_number))] → va_S A s.heap H locs → f7_sheet_86 n x1 s1 s2 m_errors m_bits m_sizes m_number = some u → W p l e (rmq (2)) s m args below meth c H locs 0 0 Q (F0 m 86 ls [.int s2, .int s1, .ref (qm 22)]) := by
    intro x1 s1 s2 m_errors m_bits m_sizes m_number H locs ls hl hP hD hS h
    unfold f7_sheet_86 at h
    refine q_iast hx hb hK hP hD hS 3 0 rfl rfl h dX7_sheet_86 (fun m_sizes_86 H locs h hP hD hS => ?_)
    have hP : va_P D vwCl [(qm 0, .inr (7, oX7 qm m_images m_newMany m_at m_open m_steps m_use m_traced m_speaks m_isParted)), (qm 4, .inl (cI, 7, .inl m_errors)), (qm 21, .inl (cI, 4, .inl m_bits)), (qm 22, .inl (cI, 4, .inl m_sizes_86)), (qm 23, .inl (cI, 96, .inl m_number))] H := hP
    have hD : va_D A [(qm 0, .inr (7, oX7 qm m_images m_newMany m_at m_open m_steps m_use m_traced m_speaks m_isParted)), (qm 4, .inl (cI, 7, .inl m_errors)), (qm 21, .inl (cI, 4, .inl m_bits)), (qm 22, .inl (cI, 4, .inl m_sizes_86)), (qm 23, .inl (cI, 96, .inl m_number))] := hD
    refine lv_iconst (v := (0 : Int32)) hx hb dX7_sheet_87 (by decide) ?_
    refine lv_istore (lv' := [(4, .int ((0 : Int32))), (0, .ref (qm 0)), (1, .int x1)]) hx hb dX7_sheet_88 hl (by decide) rfl (fun ls hl => ?_)
    exact J90 n x1 ((0 : Int32)) m_errors m_bits m_sizes_86 m_number _ _ _ (lv_sub hl [1, 2, 0] rfl) hP hD hS h
  have J65 : ∀ (x1 : Int32) (x2 : Int32) (x3 : Int32) (m_errors : (Nat → Int32)) (m_bits : (Nat → Int32)) (m_sizes : (Nat → Int32)) (m_number : (Nat → Int32)) (H : Heap) (locs : List Loc) (ls : Array Slot), lv_has ls 5 [(0, .ref (qm 0)), (1, .int x1), (2, .int x2), (3, .int x3)] → va_P D vwCl [(qm 0, .inr (7, oX7 qm m_images m_newMany m_at m_open m_steps m_use m_traced m_speaks m_isParted)), (qm 4, .inl (cI, 7, .inl m_errors)), (qm 21, .inl (cI, 4, .inl m_bits)), (qm 22, .inl (cI, 4, .inl m_sizes)), (qm 23, .inl (cI, 96, .inl m_number))] H → va_D A [(qm 0, .inr (7, oX7 qm m_images m_newMany m_at m_open m_steps m_use m_traced m_speaks m_isParted)), (qm 4, .inl (cI, 7, .inl m_errors)), (qm 21, .inl (cI, 4, .inl m_bits)), (qm 22, .inl (cI, 4, .inl m_sizes)), (qm 23, .inl (cI, 96, .inl m_number))] → va_S A s.heap H locs → f7_sheet_65 n x1 x2 x3 m_errors m_bits m_sizes m_number = some u → W p l e (rmq (2)) s m args below meth c H locs 0 0 Q (F0 m 65 ls []) := by
    intro x1 x2 x3 m_errors m_bits m_sizes m_number H locs ls hl hP hD hS h
    unfold f7_sheet_65 at h
    refine lv_aload_n hx hb dX7_sheet_65 rfl (lv_at hl 0 rfl) ?_
    refine va_get (D := D) (ci := 7) (v := .ref (qm 21)) (C := RX7) (T := TX7) (N := 24) hx hb hts in7 hown hK hP 0 rfl rfl 20 (by decide) l43 (fun _ h9 => h9) rfl dX7_sheet_66 ?_
    refine lv_iload_n hx hb dX7_sheet_69 rfl (lv_at hl 1 rfl) ?_
    refine lv_iload_n hx hb dX7_sheet_70 rfl (lv_at hl 2 rfl) ?_
    refine q_iast hx hb hK hP hD hS 2 0 rfl rfl h dX7_sheet_71 (fun m_bits_71 H locs h hP hD hS => ?_)
    have hP : va_P D vwCl [(qm 0, .inr (7, oX7 qm m_images m_newMany m_at m_open m_steps m_use m_traced m_speaks m_isParted)), (qm 4, .inl (cI, 7, .inl m_errors)), (qm 21, .inl (cI, 4, .inl m_bits_71)), (qm 22, .inl (cI, 4, .inl m_sizes)), (qm 23, .inl (cI, 96, .inl m_number))] H := hP
    have hD : va_D A [(qm 0, .inr (7, oX7 qm m_images m_newMany m_at m_open m_steps m_use m_traced m_speaks m_isParted)), (qm 4, .inl (cI, 7, .inl m_errors)), (qm 21, .inl (cI, 4, .inl m_bits_71)), (qm 22, .inl (cI, 4, .inl m_sizes)), (qm 23, .inl (cI, 96, .inl m_number))] := hD
    refine lv_aload_n hx hb dX7_sheet_72 rfl (lv_at hl 0 rfl) ?_
    refine va_get (D := D) (ci := 7) (v := .ref (qm 22)) (C := RX7) (T := TX7) (N := 24) hx hb hts in7 hown hK hP 0 rfl rfl 21 (by decide) l46 (fun _ h9 => h9) rfl dX7_sheet_73 ?_
    refine lv_iload_n hx hb dX7_sheet_76 rfl (lv_at hl 1 rfl) ?_
    refine lv_iload_n hx hb dX7_sheet_77 rfl (lv_at hl 2 rfl) ?_
    refine q_ifne hx hb 85 h dX7_sheet_78 (by decide) (fun h => ?_) (fun h => ?_)
    · refine lv_iload_n hx hb dX7_sheet_85 rfl (lv_at hl 3 rfl) ?_
      exact J86 x1 x1 x3 m_errors m_bits_71 m_sizes m_number _ _ _ (lv_sub hl [0, 1] rfl) hP hD hS h
    · refine lv_iconst (v := (0 : Int32)) hx hb dX7_sheet_81 (by decide) ?_
      refine lv_goto (tgt := 86) hx hb dX7_sheet_82 (by decide) ?_
      exact J86 x1 x1 ((0 : Int32)) m_errors m_bits_71 m_sizes m_number _ _ _ (lv_sub hl [0, 1] rfl) hP hD hS h
  have J49 : ∀ (x1 : Int32) (x2 : Int32) (x3 : Int32) (m_errors : (Nat → Int32)) (m_bits : (Nat → Int32)) (m_sizes : (Nat → Int32)) (m_number : (Nat → Int32)) (H : Heap) (locs : List Loc) (ls : Array Slot), lv_has ls 5 [(0, .ref (qm 0)), (1, .int x1), (2, .int x2), (3, .int x3)] → va_P D vwCl [(qm 0, .inr (7, oX7 qm m_images m_newMany m_at m_open m_steps m_use m_traced m_speaks m_isParted)), (qm 4, .inl (cI, 7, .inl m_errors)), (qm 21, .inl (cI, 4, .inl m_bits)), (qm 22, .inl (cI, 4, .inl m_sizes)), (qm 23, .inl (cI, 96, .inl m_number))] H → va_D A [(qm 0, .inr (7, oX7 qm m_images m_newMany m_at m_open m_steps m_use m_traced m_speaks m_isParted)), (qm 4, .inl (cI, 7, .inl m_errors)), (qm 21, .inl (cI, 4, .inl m_bits)), (qm 22, .inl (cI, 4, .inl m_sizes)), (qm 23, .inl (cI, 96, .inl m_number))] → va_S A s.heap H locs → f7_sheet_49 n x1 x2 x3 m_errors m_bits m_sizes m_number = some u → W p l e (rmq (2)) s m args below meth c H locs 0 0 Q (F0 m 49 ls []) := by
    intro x1 x2 x3 m_errors m_bits m_sizes m_number H locs ls hl hP hD hS h
    unfold f7_sheet_49 at h
    refine lv_iload_n hx hb dX7_sheet_49 rfl (lv_at hl 2 rfl) ?_
    refine q_ifeq hx hb 65 h dX7_sheet_50 (by decide) (fun h => ?_) (fun h => ?_)
    · exact J65 x1 x2 x3 m_errors m_bits m_sizes m_number _ _ _ (lv_sub hl [0, 1, 2, 3] rfl) hP hD hS h
    · refine lv_iload_n hx hb dX7_sheet_53 rfl (lv_at hl 3 rfl) ?_
      refine lv_bipush (v := (24 : Int32)) hx hb dX7_sheet_54 (by decide) ?_
      refine q_cle hx hb 65 h dX7_sheet_56 (by decide) (fun h => ?_) (fun h => ?_)
      · exact J65 x1 x2 x3 m_errors m_bits m_sizes m_number _ _ _ (lv_sub hl [0, 1, 2, 3] rfl) hP hD hS h
      · refine lv_aload_n hx hb dX7_sheet_59 rfl (lv_at hl 0 rfl) ?_
        refine lv_iconst (v := (1 : Int32)) hx hb dX7_sheet_60 (by decide) ?_
        refine q_callW2 q_E0ok (rest := []) (fun u => [(qm 0, .inr (7, oX7 qm m_images m_newMany m_at m_open m_steps m_use m_traced m_speaks m_isParted)), (qm 4, .inl (cI, 7, .inl u.2))]) (fun u => u.1) ⟨hx, hb, hml, hown, hts⟩ (fun u hu => c7_error l D cI qm m_images m_newMany m_at m_open m_steps m_use m_traced m_speaks m_isParted m_errors ((1 : Int32)) u hu) (cwV 1 hts gX7_sheet_X7_error rfl rfl rfl hdX7_error (rmq_ok (Nat.le_of_ble_eq_true rfl) (Nat.le_of_ble_eq_true rfl))) hK hEv hA hP hD hS [0, 1] (by decide) rfl (fun _ => rfl) (va_recv hK hP (ci := 7) (q0 := 0) rfl rfl) rfl rfl hl.1 (Nat.le_of_ble_eq_true rfl) ⟨Nat.zero_le _, Nat.zero_le _⟩ h dX7_sheet_61 (fun t61 m_errors_61 H locs h hP hD hS => ?_)
        have hP : va_P D vwCl [(qm 0, .inr (7, oX7 qm m_images m_newMany m_at m_open m_steps m_use m_traced m_speaks m_isParted)), (qm 4, .inl (cI, 7, .inl m_errors_61)), (qm 21, .inl (cI, 4, .inl m_bits)), (qm 22, .inl (cI, 4, .inl m_sizes)), (qm 23, .inl (cI, 96, .inl m_number))] H := hP
        have hD : va_D A [(qm 0, .inr (7, oX7 qm m_images m_newMany m_at m_open m_steps m_use m_traced m_speaks m_isParted)), (qm 4, .inl (cI, 7, .inl m_errors_61)), (qm 21, .inl (cI, 4, .inl m_bits)), (qm 22, .inl (cI, 4, .inl m_sizes)), (qm 23, .inl (cI, 96, .inl m_number))] := hD
        exact hret (t61, m_errors_61, m_bits, m_sizes, m_number) _ _ _ _ (vp_nar_int _) h hP hD hS dX7_sheet_64
  have J35 : ∀ (x1 : Int32) (x2 : Int32) (x3 : Int32) (m_errors : (Nat → Int32)) (m_bits : (Nat → Int32)) (m_sizes : (Nat → Int32)) (m_number : (Nat → Int32)) (H : Heap) (locs : List Loc) (ls : Array Slot), lv_has ls 5 [(0, .ref (qm 0)), (1, .int x1), (2, .int x2), (3, .int x3)] → va_P D vwCl [(qm 0, .inr (7, oX7 qm m_images m_newMany m_at m_open m_steps m_use m_traced m_speaks m_isParted)), (qm 4, .inl (cI, 7, .inl m_errors)), (qm 21, .inl (cI, 4, .inl m_bits)), (qm 22, .inl (cI, 4, .inl m_sizes)), (qm 23, .inl (cI, 96, .inl m_number))] H → va_D A [(qm 0, .inr (7, oX7 qm m_images m_newMany m_at m_open m_steps m_use m_traced m_speaks m_isParted)), (qm 4, .inl (cI, 7, .inl m_errors)), (qm 21, .inl (cI, 4, .inl m_bits)), (qm 22, .inl (cI, 4, .inl m_sizes)), (qm 23, .inl (cI, 96, .inl m_number))] → va_S A s.heap H locs → f7_sheet_35 n x1 x2 x3 m_errors m_bits m_sizes m_number = some u → W p l e (rmq (2)) s m args below meth c H locs 0 0 Q (F0 m 35 ls []) := by
    intro x1 x2 x3 m_errors m_bits m_sizes m_number H locs ls hl hP hD hS h
    unfold f7_sheet_35 at h
    refine lv_iload_n hx hb dX7_sheet_35 rfl (lv_at hl 2 rfl) ?_
    refine q_ifeq hx hb 49 h dX7_sheet_36 (by decide) (fun h => ?_) (fun h => ?_)
    · exact J49 x1 x2 x3 m_errors m_bits m_sizes m_number _ _ _ (lv_sub hl [0, 1, 2, 3] rfl) hP hD hS h
    · refine lv_iload_n hx hb dX7_sheet_39 rfl (lv_at hl 3 rfl) ?_
      refine q_ifge hx hb 49 h dX7_sheet_40 (by decide) (fun h => ?_) (fun h => ?_)
      · exact J49 x1 x2 x3 m_errors m_bits m_sizes m_number _ _ _ (lv_sub hl [0, 1, 2, 3] rfl) hP hD hS h
      · refine lv_aload_n hx hb dX7_sheet_43 rfl (lv_at hl 0 rfl) ?_
        refine lv_iconst (v := (3 : Int32)) hx hb dX7_sheet_44 (by decide) ?_
        refine q_callW2 q_E0ok (rest := []) (fun u => [(qm 0, .inr (7, oX7 qm m_images m_newMany m_at m_open m_steps m_use m_traced m_speaks m_isParted)), (qm 4, .inl (cI, 7, .inl u.2))]) (fun u => u.1) ⟨hx, hb, hml, hown, hts⟩ (fun u hu => c7_error l D cI qm m_images m_newMany m_at m_open m_steps m_use m_traced m_speaks m_isParted m_errors ((3 : Int32)) u hu) (cwV 1 hts gX7_sheet_X7_error rfl rfl rfl hdX7_error (rmq_ok (Nat.le_of_ble_eq_true rfl) (Nat.le_of_ble_eq_true rfl))) hK hEv hA hP hD hS [0, 1] (by decide) rfl (fun _ => rfl) (va_recv hK hP (ci := 7) (q0 := 0) rfl rfl) rfl rfl hl.1 (Nat.le_of_ble_eq_true rfl) ⟨Nat.zero_le _, Nat.zero_le _⟩ h dX7_sheet_45 (fun t45 m_errors_45 H locs h hP hD hS => ?_)
        have hP : va_P D vwCl [(qm 0, .inr (7, oX7 qm m_images m_newMany m_at m_open m_steps m_use m_traced m_speaks m_isParted)), (qm 4, .inl (cI, 7, .inl m_errors_45)), (qm 21, .inl (cI, 4, .inl m_bits)), (qm 22, .inl (cI, 4, .inl m_sizes)), (qm 23, .inl (cI, 96, .inl m_number))] H := hP
        have hD : va_D A [(qm 0, .inr (7, oX7 qm m_images m_newMany m_at m_open m_steps m_use m_traced m_speaks m_isParted)), (qm 4, .inl (cI, 7, .inl m_errors_45)), (qm 21, .inl (cI, 4, .inl m_bits)), (qm 22, .inl (cI, 4, .inl m_sizes)), (qm 23, .inl (cI, 96, .inl m_number))] := hD
        exact hret (t45, m_errors_45, m_bits, m_sizes, m_number) _ _ _ _ (vp_nar_int _) h hP hD hS dX7_sheet_48
  have J29 : ∀ (m_errors : (Nat → Int32)) (m_bits : (Nat → Int32)) (m_sizes : (Nat → Int32)) (m_number : (Nat → Int32)) (H : Heap) (locs : List Loc) (ls : Array Slot), lv_has ls 5 [(0, .ref (qm 0))] → va_P D vwCl [(qm 0, .inr (7, oX7 qm m_images m_newMany m_at m_open m_steps m_use m_traced m_speaks m_isParted)), (qm 4, .inl (cI, 7, .inl m_errors)), (qm 21, .inl (cI, 4, .inl m_bits)), (qm 22, .inl (cI, 4, .inl m_sizes)), (qm 23, .inl (cI, 96, .inl m_number))] H → va_D A [(qm 0, .inr (7, oX7 qm m_images m_newMany m_at m_open m_steps m_use m_traced m_speaks m_isParted)), (qm 4, .inl (cI, 7, .inl m_errors)), (qm 21, .inl (cI, 4, .inl m_bits)), (qm 22, .inl (cI, 4, .inl m_sizes)), (qm 23, .inl (cI, 96, .inl m_number))] → va_S A s.heap H locs → f7_sheet_29 n m_errors m_bits m_sizes m_number = some u → W p l e (rmq (2)) s m args below meth c H locs 0 0 Q (F0 m 29 ls []) := by
    intro m_errors m_bits m_sizes m_number H locs ls hl hP hD hS h
    unfold f7_sheet_29 at h
    refine lv_aload_n hx hb dX7_sheet_29 rfl (lv_at hl 0 rfl) ?_
    refine lv_iconst (v := (1 : Int32)) hx hb dX7_sheet_30 (by decide) ?_
    refine q_callW2 q_E0ok (rest := []) (fun u => [(qm 0, .inr (7, oX7 qm m_images m_newMany m_at m_open m_steps m_use m_traced m_speaks m_isParted)), (qm 4, .inl (cI, 7, .inl u.2))]) (fun u => u.1) ⟨hx, hb, hml, hown, hts⟩ (fun u hu => c7_error l D cI qm m_images m_newMany m_at m_open m_steps m_use m_traced m_speaks m_isParted m_errors ((1 : Int32)) u hu) (cwV 1 hts gX7_sheet_X7_error rfl rfl rfl hdX7_error (rmq_ok (Nat.le_of_ble_eq_true rfl) (Nat.le_of_ble_eq_true rfl))) hK hEv hA hP hD hS [0, 1] (by decide) rfl (fun _ => rfl) (va_recv hK hP (ci := 7) (q0 := 0) rfl rfl) rfl rfl hl.1 (Nat.le_of_ble_eq_true rfl) ⟨Nat.zero_le _, Nat.zero_le _⟩ h dX7_sheet_31 (fun t31 m_errors_31 H locs h hP hD hS => ?_)
    have hP : va_P D vwCl [(qm 0, .inr (7, oX7 qm m_images m_newMany m_at m_open m_steps m_use m_traced m_speaks m_isParted)), (qm 4, .inl (cI, 7, .inl m_errors_31)), (qm 21, .inl (cI, 4, .inl m_bits)), (qm 22, .inl (cI, 4, .inl m_sizes)), (qm 23, .inl (cI, 96, .inl m_number))] H := hP
    have hD : va_D A [(qm 0, .inr (7, oX7 qm m_images m_newMany m_at m_open m_steps m_use m_traced m_speaks m_isParted)), (qm 4, .inl (cI, 7, .inl m_errors_31)), (qm 21, .inl (cI, 4, .inl m_bits)), (qm 22, .inl (cI, 4, .inl m_sizes)), (qm 23, .inl (cI, 96, .inl m_number))] := hD
    exact hret (t31, m_errors_31, m_bits, m_sizes, m_number) _ _ _ _ (vp_nar_int _) h hP hD hS dX7_sheet_34
  unfold f7_sheet at h
  refine lv_iload_n hx hb dX7_sheet_0 rfl (lv_at hl 1 rfl) ?_
  refine q_callRS q_E0ok (rest := []) ⟨hx, hb, hml, hown, hts⟩ (fun r hr => c7_isSheet l D cI x1 r hr) (va_cwS 1 hts gX7_sheet_X7_isSheet rfl rfl rfl hdX7_isSheet (rmq_ok (Nat.le_of_ble_eq_true rfl) (Nat.le_of_ble_eq_true rfl))) hK hP hEv hS [] rfl rfl rfl hl.1 (Nat.le_of_ble_eq_true rfl) ⟨Nat.zero_le _, Nat.zero_le _⟩ h dX7_sheet_1 (fun t1 h => ?_)
  refine q_ifeq hx hb 29 h dX7_sheet_4 (by decide) (fun h => ?_) (fun h => ?_)
  · exact J29 m_errors m_bits m_sizes m_number _ _ _ (lv_sub hl [0] rfl) hP hD hS h
  · refine lv_iload_n hx hb dX7_sheet_7 rfl (lv_at hl 2 rfl) ?_
    refine q_ifeq hx hb 35 h dX7_sheet_8 (by decide) (fun h => ?_) (fun h => ?_)
    · exact J35 x1 x2 x3 m_errors m_bits m_sizes m_number _ _ _ (lv_sub hl [0, 1, 2, 3] rfl) hP hD hS h
    · refine lv_iload_n hx hb dX7_sheet_11 rfl (lv_at hl 2 rfl) ?_
      refine lv_bipush (v := (8 : Int32)) hx hb dX7_sheet_12 (by decide) ?_
      refine q_ceq hx hb 35 h dX7_sheet_14 (by decide) (fun h => ?_) (fun h => ?_)
      · exact J35 x1 x2 x3 m_errors m_bits m_sizes m_number _ _ _ (lv_sub hl [0, 1, 2, 3] rfl) hP hD hS h
      · refine lv_iload_n hx hb dX7_sheet_17 rfl (lv_at hl 2 rfl) ?_
        refine lv_bipush (v := (16 : Int32)) hx hb dX7_sheet_18 (by decide) ?_
        refine q_ceq hx hb 35 h dX7_sheet_20 (by decide) (fun h => ?_) (fun h => ?_)
        · exact J35 x1 x2 x3 m_errors m_bits m_sizes m_number _ _ _ (lv_sub hl [0, 1, 2, 3] rfl) hP hD hS h
        · refine lv_iload_n hx hb dX7_sheet_23 rfl (lv_at hl 2 rfl) ?_
          refine lv_bipush (v := (32 : Int32)) hx hb dX7_sheet_24 (by decide) ?_
          refine q_ceq hx hb 35 h dX7_sheet_26 (by decide) (fun h => ?_) (fun h => ?_)
          · exact J35 x1 x2 x3 m_errors m_bits m_sizes m_number _ _ _ (lv_sub hl [0, 1, 2, 3] rfl) hP hD hS h
          · exact J29 m_errors m_bits m_sizes m_number _ _ _ (lv_sub hl [0] rfl) hP hD hS h
set_option maxHeartbeats 4000000 in
set_option maxRecDepth 100000 in
theorem c7_put (l : Launch) (D : va_G) (cI : ClassId) (qm : Nat → Nat) (m_images m_newMany m_at m_open m_steps m_use m_traced m_speaks m_isParted : Int32) (m_errors m_bits m_sizes m_number : Nat → Int32) (x1 : Int32) (x2 : Int32) (x3 : Int32) (u : Int32 × (Nat → Int32) × (Nat → Int32)) (h : f7_put x1 x2 x3 m_errors m_bits m_sizes m_number = some u) : q_RW q_E0 l yX7_put wsX7_put (rmq (2)) D cI [.ref (qm 0), .int x1, .int x2, .int x3] [(qm 0, .inr (7, oX7 qm m_images m_newMany m_at m_open m_steps m_use m_traced m_speaks m_isParted)), (qm 4, .inl (cI, 7, .inl m_errors)), (qm 21, .inl (cI, 4, .inl m_bits)), (qm 22, .inl (cI, 4, .inl m_sizes)), (qm 23, .inl (cI, 96, .inl m_number))] [(qm 0, .inr (7, oX7 qm m_images m_newMany m_at m_open m_steps m_use m_traced m_speaks m_isParted)), (qm 4, .inl (cI, 7, .inl u.2.1)), (qm 21, .inl (cI, 4, .inl m_bits)), (qm 22, .inl (cI, 4, .inl m_sizes)), (qm 23, .inl (cI, 96, .inl u.2.2))] u.1 := by
  refine q_startW (fun u : Int32 × (Nat → Int32) × (Nat → Int32) => [(qm 0, .inr (7, oX7 qm m_images m_newMany m_at m_open m_steps m_use m_traced m_speaks m_isParted)), (qm 4, .inl (cI, 7, .inl u.2.1)), (qm 21, .inl (cI, 4, .inl m_bits)), (qm 22, .inl (cI, 4, .inl m_sizes)), (qm 23, .inl (cI, 96, .inl u.2.2))]) (fun u => u.1) (cc := cX7_put) (maxL := 5) (ty := .int) (own := RX7) (by decide) rfl rfl (Nat.le_of_ble_eq_true rfl) rfl (fun p e s m args below meth c Q A hx hb hml hown hts hK hEv hA hret hP hD hS ls hl => ?_)
  have in7 : ∀ w ∈ wsX70, w ∈ wsX7_put := fun w h => List.mem_cons_of_mem _ (List.mem_append_right _ (h))
  have l43 := hts (.fieldLink RX7 43 "PageWarsModel" "bits" "[I") (List.mem_of_getElem? (i := 1) rfl)
  have l46 := hts (.fieldLink RX7 46 "PageWarsModel" "sizes" "[I") (List.mem_of_getElem? (i := 2) rfl)
  have l49 := hts (.fieldLink RX7 49 "PageWarsModel" "number" "[I") (List.mem_of_getElem? (i := 3) rfl)
  unfold f7_put at h
  refine lv_iload_n hx hb dX7_put_0 rfl (lv_at hl 1 rfl) ?_
  refine q_callRS q_E0ok (rest := []) ⟨hx, hb, hml, hown, hts⟩ (fun r hr => c7_isSheet l D cI x1 r hr) (va_cwS 1 hts gX7_put_X7_isSheet rfl rfl rfl hdX7_isSheet (rmq_ok (Nat.le_of_ble_eq_true rfl) (Nat.le_of_ble_eq_true rfl))) hK hP hEv hS [] rfl rfl rfl hl.1 (Nat.le_of_ble_eq_true rfl) ⟨Nat.zero_le _, Nat.zero_le _⟩ h dX7_put_1 (fun t1 h => ?_)
  refine q_ifne hx hb 13 h dX7_put_4 (by decide) (fun h => ?_) (fun h => ?_)
  · refine lv_aload_n hx hb dX7_put_13 rfl (lv_at hl 0 rfl) ?_
    refine va_get (D := D) (ci := 7) (v := .ref (qm 21)) (C := RX7) (T := TX7) (N := 24) hx hb hts in7 hown hK hP 0 rfl rfl 20 (by decide) l43 (fun _ h9 => h9) rfl dX7_put_14 ?_
    refine lv_iload_n hx hb dX7_put_17 rfl (lv_at hl 1 rfl) ?_
    refine q_iald hx hb hK hP 2 0 rfl rfl h dX7_put_18 (fun t18 h => ?_)
    refine q_ifne hx hb 28 h dX7_put_19 (by decide) (fun h => ?_) (fun h => ?_)
    · refine lv_iload_n hx hb dX7_put_28 rfl (lv_at hl 2 rfl) ?_
      refine lv_iconst (v := (0 : Int32)) hx hb dX7_put_29 (by decide) ?_
      refine lv_aload_n hx hb dX7_put_30 rfl (lv_at hl 0 rfl) ?_
      refine va_get (D := D) (ci := 7) (v := .ref (qm 22)) (C := RX7) (T := TX7) (N := 24) hx hb hts in7 hown hK hP 0 rfl rfl 21 (by decide) l46 (fun _ h9 => h9) rfl dX7_put_31 ?_
      refine lv_iload_n hx hb dX7_put_34 rfl (lv_at hl 1 rfl) ?_
      refine q_iald hx hb hK hP 3 0 rfl rfl h dX7_put_35 (fun t35 h => ?_)
      refine lv_iconst (v := (1 : Int32)) hx hb dX7_put_36 (by decide) ?_
      refine lv_isub hx hb dX7_put_37 ?_
      refine q_callRS q_E0ok (rest := []) ⟨hx, hb, hml, hown, hts⟩ (fun r hr => c7_in l D cI x2 ((0 : Int32)) (t35 - ((1 : Int32))) r hr) (va_cwS 3 hts gX7_put_X7_in rfl rfl rfl hdX7_in (rmq_ok (Nat.le_of_ble_eq_true rfl) (Nat.le_of_ble_eq_true rfl))) hK hP hEv hS [] rfl rfl rfl hl.1 (Nat.le_of_ble_eq_true rfl) ⟨Nat.zero_le _, Nat.zero_le _⟩ h dX7_put_38 (fun t38 h => ?_)
      refine q_ifne hx hb 50 h dX7_put_41 (by decide) (fun h => ?_) (fun h => ?_)
      · refine lv_bipush (v := (32 : Int32)) hx hb dX7_put_50 (by decide) ?_
        refine lv_aload_n hx hb dX7_put_52 rfl (lv_at hl 0 rfl) ?_
        refine va_get (D := D) (ci := 7) (v := .ref (qm 21)) (C := RX7) (T := TX7) (N := 24) hx hb hts in7 hown hK hP 0 rfl rfl 20 (by decide) l43 (fun _ h9 => h9) rfl dX7_put_53 ?_
        refine lv_iload_n hx hb dX7_put_56 rfl (lv_at hl 1 rfl) ?_
        refine q_iald hx hb hK hP 2 0 rfl rfl h dX7_put_57 (fun t57 h => ?_)
        refine lv_isub hx hb dX7_put_58 ?_
        refine q_let h (fun x4_59 h => ?_)
        refine lv_istore (lv' := [(4, .int x4_59), (0, .ref (qm 0)), (1, .int x1), (2, .int x2), (3, .int x3)]) hx hb dX7_put_59 hl (by decide) rfl (fun ls hl => ?_)
        refine lv_aload_n hx hb dX7_put_61 rfl (lv_at hl 1 rfl) ?_
        refine va_get (D := D) (ci := 7) (v := .ref (qm 23)) (C := RX7) (T := TX7) (N := 24) hx hb hts in7 hown hK hP 0 rfl rfl 22 (by decide) l49 (fun _ h9 => h9) rfl dX7_put_62 ?_
        refine lv_bipush (v := (24 : Int32)) hx hb dX7_put_65 (by decide) ?_
        refine lv_iload_n hx hb dX7_put_67 rfl (lv_at hl 2 rfl) ?_
        refine lv_imul hx hb dX7_put_68 ?_
        refine lv_iload_n hx hb dX7_put_69 rfl (lv_at hl 3 rfl) ?_
        refine lv_iadd hx hb dX7_put_70 ?_
        refine lv_iload_n hx hb dX7_put_71 rfl (lv_at hl 4 rfl) ?_
        refine lv_iload hx hb dX7_put_72 (lv_at hl 0 rfl) ?_
        refine lv_ishl hx hb dX7_put_74 ?_
        refine lv_iload hx hb dX7_put_75 (lv_at hl 0 rfl) ?_
        refine lv_ishr hx hb dX7_put_77 ?_
        refine q_iast hx hb hK hP hD hS 4 0 rfl rfl h dX7_put_78 (fun m_number_78 H locs h hP hD hS => ?_)
        have hP : va_P D vwCl [(qm 0, .inr (7, oX7 qm m_images m_newMany m_at m_open m_steps m_use m_traced m_speaks m_isParted)), (qm 4, .inl (cI, 7, .inl m_errors)), (qm 21, .inl (cI, 4, .inl m_bits)), (qm 22, .inl (cI, 4, .inl m_sizes)), (qm 23, .inl (cI, 96, .inl m_number_78))] H := hP
        have hD : va_D A [(qm 0, .inr (7, oX7 qm m_images m_newMany m_at m_open m_steps m_use m_traced m_speaks m_isParted)), (qm 4, .inl (cI, 7, .inl m_errors)), (qm 21, .inl (cI, 4, .inl m_bits)), (qm 22, .inl (cI, 4, .inl m_sizes)), (qm 23, .inl (cI, 96, .inl m_number_78))] := hD
        refine lv_iconst (v := (1 : Int32)) hx hb dX7_put_79 (by decide) ?_
        exact hret ((1 : Int32), m_errors, m_number_78) _ _ _ _ (vp_nar_int _) h hP hD hS dX7_put_80
      · refine lv_aload_n hx hb dX7_put_44 rfl (lv_at hl 0 rfl) ?_
        refine lv_iconst (v := (1 : Int32)) hx hb dX7_put_45 (by decide) ?_
        refine q_callW2 q_E0ok (rest := []) (fun u => [(qm 0, .inr (7, oX7 qm m_images m_newMany m_at m_open m_steps m_use m_traced m_speaks m_isParted)), (qm 4, .inl (cI, 7, .inl u.2))]) (fun u => u.1) ⟨hx, hb, hml, hown, hts⟩ (fun u hu => c7_error l D cI qm m_images m_newMany m_at m_open m_steps m_use m_traced m_speaks m_isParted m_errors ((1 : Int32)) u hu) (cwV 1 hts gX7_put_X7_error rfl rfl rfl hdX7_error (rmq_ok (Nat.le_of_ble_eq_true rfl) (Nat.le_of_ble_eq_true rfl))) hK hEv hA hP hD hS [0, 1] (by decide) rfl (fun _ => rfl) (va_recv hK hP (ci := 7) (q0 := 0) rfl rfl) rfl rfl hl.1 (Nat.le_of_ble_eq_true rfl) ⟨Nat.zero_le _, Nat.zero_le _⟩ h dX7_put_46 (fun t46 m_errors_46 H locs h hP hD hS => ?_)
        have hP : va_P D vwCl [(qm 0, .inr (7, oX7 qm m_images m_newMany m_at m_open m_steps m_use m_traced m_speaks m_isParted)), (qm 4, .inl (cI, 7, .inl m_errors_46)), (qm 21, .inl (cI, 4, .inl m_bits)), (qm 22, .inl (cI, 4, .inl m_sizes)), (qm 23, .inl (cI, 96, .inl m_number))] H := hP
        have hD : va_D A [(qm 0, .inr (7, oX7 qm m_images m_newMany m_at m_open m_steps m_use m_traced m_speaks m_isParted)), (qm 4, .inl (cI, 7, .inl m_errors_46)), (qm 21, .inl (cI, 4, .inl m_bits)), (qm 22, .inl (cI, 4, .inl m_sizes)), (qm 23, .inl (cI, 96, .inl m_number))] := hD
        exact hret (t46, m_errors_46, m_number) _ _ _ _ (vp_nar_int _) h hP hD hS dX7_put_49
    · refine lv_aload_n hx hb dX7_put_22 rfl (lv_at hl 0 rfl) ?_
      refine lv_iconst (v := (2 : Int32)) hx hb dX7_put_23 (by decide) ?_
      refine q_callW2 q_E0ok (rest := []) (fun u => [(qm 0, .inr (7, oX7 qm m_images m_newMany m_at m_open m_steps m_use m_traced m_speaks m_isParted)), (qm 4, .inl (cI, 7, .inl u.2))]) (fun u => u.1) ⟨hx, hb, hml, hown, hts⟩ (fun u hu => c7_error l D cI qm m_images m_newMany m_at m_open m_steps m_use m_traced m_speaks m_isParted m_errors ((2 : Int32)) u hu) (cwV 1 hts gX7_put_X7_error rfl rfl rfl hdX7_error (rmq_ok (Nat.le_of_ble_eq_true rfl) (Nat.le_of_ble_eq_true rfl))) hK hEv hA hP hD hS [0, 1] (by decide) rfl (fun _ => rfl) (va_recv hK hP (ci := 7) (q0 := 0) rfl rfl) rfl rfl hl.1 (Nat.le_of_ble_eq_true rfl) ⟨Nat.zero_le _, Nat.zero_le _⟩ h dX7_put_24 (fun t24 m_errors_24 H locs h hP hD hS => ?_)
      have hP : va_P D vwCl [(qm 0, .inr (7, oX7 qm m_images m_newMany m_at m_open m_steps m_use m_traced m_speaks m_isParted)), (qm 4, .inl (cI, 7, .inl m_errors_24)), (qm 21, .inl (cI, 4, .inl m_bits)), (qm 22, .inl (cI, 4, .inl m_sizes)), (qm 23, .inl (cI, 96, .inl m_number))] H := hP
      have hD : va_D A [(qm 0, .inr (7, oX7 qm m_images m_newMany m_at m_open m_steps m_use m_traced m_speaks m_isParted)), (qm 4, .inl (cI, 7, .inl m_errors_24)), (qm 21, .inl (cI, 4, .inl m_bits)), (qm 22, .inl (cI, 4, .inl m_sizes)), (qm 23, .inl (cI, 96, .inl m_number))] := hD
      exact hret (t24, m_errors_24, m_number) _ _ _ _ (vp_nar_int _) h hP hD hS dX7_put_27
  · refine lv_aload_n hx hb dX7_put_7 rfl (lv_at hl 0 rfl) ?_
    refine lv_iconst (v := (1 : Int32)) hx hb dX7_put_8 (by decide) ?_
    refine q_callW2 q_E0ok (rest := []) (fun u => [(qm 0, .inr (7, oX7 qm m_images m_newMany m_at m_open m_steps m_use m_traced m_speaks m_isParted)), (qm 4, .inl (cI, 7, .inl u.2))]) (fun u => u.1) ⟨hx, hb, hml, hown, hts⟩ (fun u hu => c7_error l D cI qm m_images m_newMany m_at m_open m_steps m_use m_traced m_speaks m_isParted m_errors ((1 : Int32)) u hu) (cwV 1 hts gX7_put_X7_error rfl rfl rfl hdX7_error (rmq_ok (Nat.le_of_ble_eq_true rfl) (Nat.le_of_ble_eq_true rfl))) hK hEv hA hP hD hS [0, 1] (by decide) rfl (fun _ => rfl) (va_recv hK hP (ci := 7) (q0 := 0) rfl rfl) rfl rfl hl.1 (Nat.le_of_ble_eq_true rfl) ⟨Nat.zero_le _, Nat.zero_le _⟩ h dX7_put_9 (fun t9 m_errors_9 H locs h hP hD hS => ?_)
    have hP : va_P D vwCl [(qm 0, .inr (7, oX7 qm m_images m_newMany m_at m_open m_steps m_use m_traced m_speaks m_isParted)), (qm 4, .inl (cI, 7, .inl m_errors_9)), (qm 21, .inl (cI, 4, .inl m_bits)), (qm 22, .inl (cI, 4, .inl m_sizes)), (qm 23, .inl (cI, 96, .inl m_number))] H := hP
    have hD : va_D A [(qm 0, .inr (7, oX7 qm m_images m_newMany m_at m_open m_steps m_use m_traced m_speaks m_isParted)), (qm 4, .inl (cI, 7, .inl m_errors_9)), (qm 21, .inl (cI, 4, .inl m_bits)), (qm 22, .inl (cI, 4, .inl m_sizes)), (qm 23, .inl (cI, 96, .inl m_number))] := hD
    exact hret (t9, m_errors_9, m_number) _ _ _ _ (vp_nar_int _) h hP hD hS dX7_put_12
set_option maxHeartbeats 4000000 in
set_option maxRecDepth 100000 in
theorem c7_move (l : Launch) (D : va_G) (cI : ClassId) (qm : Nat → Nat) (m_images m_newMany m_at m_open m_steps m_use m_traced m_speaks m_isParted : Int32) (m_errors m_bits m_sizes m_number m_aside : Nat → Int32) (x1 : Int32) (x2 : Int32) (x3 : Int32) (x4 : Int32) (x5 : Int32) (n : Nat) (u : Int32 × (Nat → Int32) × (Nat → Int32) × (Nat → Int32)) (h : f7_move n x1 x2 x3 x4 x5 m_errors m_bits m_sizes m_number m_aside = some u) : q_RW q_E0 l yX7_move wsX7_move (rmq (2)) D cI [.ref (qm 0), .int x1, .int x2, .int x3, .int x4, .int x5] [(qm 0, .inr (7, oX7 qm m_images m_newMany m_at m_open m_steps m_use m_traced m_speaks m_isParted)), (qm 4, .inl (cI, 7, .inl m_errors)), (qm 21, .inl (cI, 4, .inl m_bits)), (qm 22, .inl (cI, 4, .inl m_sizes)), (qm 23, .inl (cI, 96, .inl m_number)), (qm 24, .inl (cI, 24, .inl m_aside))] [(qm 0, .inr (7, oX7 qm m_images m_newMany m_at m_open m_steps m_use m_traced m_speaks m_isParted)), (qm 4, .inl (cI, 7, .inl u.2.1)), (qm 21, .inl (cI, 4, .inl m_bits)), (qm 22, .inl (cI, 4, .inl m_sizes)), (qm 23, .inl (cI, 96, .inl u.2.2.1)), (qm 24, .inl (cI, 24, .inl u.2.2.2))] u.1 := by
  refine q_startW (fun u : Int32 × (Nat → Int32) × (Nat → Int32) × (Nat → Int32) => [(qm 0, .inr (7, oX7 qm m_images m_newMany m_at m_open m_steps m_use m_traced m_speaks m_isParted)), (qm 4, .inl (cI, 7, .inl u.2.1)), (qm 21, .inl (cI, 4, .inl m_bits)), (qm 22, .inl (cI, 4, .inl m_sizes)), (qm 23, .inl (cI, 96, .inl u.2.2.1)), (qm 24, .inl (cI, 24, .inl u.2.2.2))]) (fun u => u.1) (cc := cX7_move) (maxL := 7) (ty := .int) (own := RX7) (by decide) rfl rfl (Nat.le_of_ble_eq_true rfl) rfl (fun p e s m args below meth c Q A hx hb hml hown hts hK hEv hA hret hP hD hS ls hl => ?_)
  have in7 : ∀ w ∈ wsX70, w ∈ wsX7_move := fun w h => List.mem_cons_of_mem _ (List.mem_append_right _ (h))
  have l43 := hts (.fieldLink RX7 43 "PageWarsModel" "bits" "[I") (List.mem_of_getElem? (i := 1) rfl)
  have l46 := hts (.fieldLink RX7 46 "PageWarsModel" "sizes" "[I") (List.mem_of_getElem? (i := 2) rfl)
  have l49 := hts (.fieldLink RX7 49 "PageWarsModel" "number" "[I") (List.mem_of_getElem? (i := 4) rfl)
  have l52 := hts (.fieldLink RX7 52 "PageWarsModel" "aside" "[I") (List.mem_of_getElem? (i := 3) rfl)
  have J152 : ∀ (kk152 : Nat) (x3 : Int32) (x4 : Int32) (x5 : Int32) (x6 : Int32) (m_errors : (Nat → Int32)) (m_number : (Nat → Int32)) (m_aside : (Nat → Int32)) (H : Heap) (locs : List Loc) (ls : Array Slot), lv_has ls 7 [(0, .ref (qm 0)), (3, .int x3), (4, .int x4), (5, .int x5), (6, .int x6)] → va_P D vwCl [(qm 0, .inr (7, oX7 qm m_images m_newMany m_at m_open m_steps m_use m_traced m_speaks m_isParted)), (qm 4, .inl (cI, 7, .inl m_errors)), (qm 21, .inl (cI, 4, .inl m_bits)), (qm 22, .inl (cI, 4, .inl m_sizes)), (qm 23, .inl (cI, 96, .inl m_number)), (qm 24, .inl (cI, 24, .inl m_aside))] H → va_D A [(qm 0, .inr (7, oX7 qm m_images m_newMany m_at m_open m_steps m_use m_traced m_speaks m_isParted)), (qm 4, .inl (cI, 7, .inl m_errors)), (qm 21, .inl (cI, 4, .inl m_bits)), (qm 22, .inl (cI, 4, .inl m_sizes)), (qm 23, .inl (cI, 96, .inl m_number)), (qm 24, .inl (cI, 24, .inl m_aside))] → va_S A s.heap H locs → f7_move_152 n m_bits m_sizes kk152 x3 x4 x5 x6 m_errors m_number m_aside = some u → W p l e (rmq (2)) s m args below meth c H locs 0 0 Q (F0 m 152 ls []) := by
    intro kk152
    induction kk152 with
    | zero => intro x3 x4 x5 x6 m_errors m_number m_aside H locs ls hl hP hD hS h; exact nomatch (show (none : Option (Int32 × (Nat → Int32) × (Nat → Int32) × (Nat → Int32))) = some u from h)
    | succ kk152 ih152 =>
      intro x3 x4 x5 x6 m_errors m_number m_aside H locs ls hl hP hD hS h
      rw [f7_move_152.eq_2] at h
      refine lv_iload hx hb dX7_move_152 (lv_at hl 4 rfl) ?_
      refine lv_iload hx hb dX7_move_154 (lv_at hl 3 rfl) ?_
      refine q_cge hx hb 187 h dX7_move_156 (by decide) (fun h => ?_) (fun h => ?_)
      · refine lv_iload hx hb dX7_move_187 (lv_at hl 3 rfl) ?_
        exact hret (x5, m_errors, m_number, m_aside) _ _ _ _ (vp_nar_int _) h hP hD hS dX7_move_189
      · refine lv_aload_n hx hb dX7_move_159 rfl (lv_at hl 0 rfl) ?_
        refine va_get (D := D) (ci := 7) (v := .ref (qm 23)) (C := RX7) (T := TX7) (N := 24) hx hb hts in7 hown hK hP 0 rfl rfl 22 (by decide) l49 (fun _ h9 => h9) rfl dX7_move_160 ?_
        refine lv_bipush (v := (24 : Int32)) hx hb dX7_move_163 (by decide) ?_
        refine lv_iload_n hx hb dX7_move_165 rfl (lv_at hl 1 rfl) ?_
        refine lv_imul hx hb dX7_move_166 ?_
        refine lv_iload hx hb dX7_move_167 (lv_at hl 2 rfl) ?_
        refine lv_iadd hx hb dX7_move_169 ?_
        refine lv_iload hx hb dX7_move_170 (lv_at hl 4 rfl) ?_
        refine lv_iadd hx hb dX7_move_172 ?_
        refine lv_aload_n hx hb dX7_move_173 rfl (lv_at hl 0 rfl) ?_
        refine va_get (D := D) (ci := 7) (v := .ref (qm 24)) (C := RX7) (T := TX7) (N := 24) hx hb hts in7 hown hK hP 0 rfl rfl 23 (by decide) l52 (fun _ h9 => h9) rfl dX7_move_174 ?_
        refine lv_iload hx hb dX7_move_177 (lv_at hl 4 rfl) ?_
        refine q_iald hx hb hK hP 5 0 rfl rfl h dX7_move_179 (fun t179 h => ?_)
        refine q_iast hx hb hK hP hD hS 4 0 rfl rfl h dX7_move_180 (fun m_number_180 H locs h hP hD hS => ?_)
        have hP : va_P D vwCl [(qm 0, .inr (7, oX7 qm m_images m_newMany m_at m_open m_steps m_use m_traced m_speaks m_isParted)), (qm 4, .inl (cI, 7, .inl m_errors)), (qm 21, .inl (cI, 4, .inl m_bits)), (qm 22, .inl (cI, 4, .inl m_sizes)), (qm 23, .inl (cI, 96, .inl m_number_180)), (qm 24, .inl (cI, 24, .inl m_aside))] H := hP
        have hD : va_D A [(qm 0, .inr (7, oX7 qm m_images m_newMany m_at m_open m_steps m_use m_traced m_speaks m_isParted)), (qm 4, .inl (cI, 7, .inl m_errors)), (qm 21, .inl (cI, 4, .inl m_bits)), (qm 22, .inl (cI, 4, .inl m_sizes)), (qm 23, .inl (cI, 96, .inl m_number_180)), (qm 24, .inl (cI, 24, .inl m_aside))] := hD
        refine q_iinc (fun v => [(6, .int v), (0, .ref (qm 0)), (3, .int x3), (4, .int x4), (5, .int x5)]) hx hb h dX7_move_181 (by decide) hl (k := 4) rfl (by decide) (fun _ => rfl) (fun x6_181 ls h hl => ?_)
        refine lv_goto (tgt := 152) hx hb dX7_move_184 (by decide) ?_
        exact ih152 x3 x4 x5 x6_181 m_errors m_number_180 m_aside _ _ _ (lv_sub hl [1, 2, 3, 4, 0] rfl) hP hD hS h
  have J115 : ∀ (kk115 : Nat) (x1 : Int32) (x2 : Int32) (x3 : Int32) (x4 : Int32) (x5 : Int32) (x6 : Int32) (m_errors : (Nat → Int32)) (m_number : (Nat → Int32)) (m_aside : (Nat → Int32)) (H : Heap) (locs : List Loc) (ls : Array Slot), lv_has ls 7 [(0, .ref (qm 0)), (1, .int x1), (2, .int x2), (3, .int x3), (4, .int x4), (5, .int x5), (6, .int x6)] → va_P D vwCl [(qm 0, .inr (7, oX7 qm m_images m_newMany m_at m_open m_steps m_use m_traced m_speaks m_isParted)), (qm 4, .inl (cI, 7, .inl m_errors)), (qm 21, .inl (cI, 4, .inl m_bits)), (qm 22, .inl (cI, 4, .inl m_sizes)), (qm 23, .inl (cI, 96, .inl m_number)), (qm 24, .inl (cI, 24, .inl m_aside))] H → va_D A [(qm 0, .inr (7, oX7 qm m_images m_newMany m_at m_open m_steps m_use m_traced m_speaks m_isParted)), (qm 4, .inl (cI, 7, .inl m_errors)), (qm 21, .inl (cI, 4, .inl m_bits)), (qm 22, .inl (cI, 4, .inl m_sizes)), (qm 23, .inl (cI, 96, .inl m_number)), (qm 24, .inl (cI, 24, .inl m_aside))] → va_S A s.heap H locs → f7_move_115 n m_bits m_sizes kk115 x1 x2 x3 x4 x5 x6 m_errors m_number m_aside = some u → W p l e (rmq (2)) s m args below meth c H locs 0 0 Q (F0 m 115 ls []) := by
    intro kk115
    induction kk115 with
    | zero => intro x1 x2 x3 x4 x5 x6 m_errors m_number m_aside H locs ls hl hP hD hS h; exact nomatch (show (none : Option (Int32 × (Nat → Int32) × (Nat → Int32) × (Nat → Int32))) = some u from h)
    | succ kk115 ih115 =>
      intro x1 x2 x3 x4 x5 x6 m_errors m_number m_aside H locs ls hl hP hD hS h
      rw [f7_move_115.eq_2] at h
      refine lv_iload hx hb dX7_move_115 (lv_at hl 6 rfl) ?_
      refine lv_iload hx hb dX7_move_117 (lv_at hl 5 rfl) ?_
      refine q_cge hx hb 149 h dX7_move_119 (by decide) (fun h => ?_) (fun h => ?_)
      · refine lv_iconst (v := (0 : Int32)) hx hb dX7_move_149 (by decide) ?_
        refine lv_istore (lv' := [(6, .int ((0 : Int32))), (0, .ref (qm 0)), (1, .int x1), (2, .int x2), (3, .int x3), (4, .int x4), (5, .int x5)]) hx hb dX7_move_150 hl (by decide) rfl (fun ls hl => ?_)
        exact J152 n x3 x4 x5 ((0 : Int32)) m_errors m_number m_aside _ _ _ (lv_sub hl [1, 4, 5, 6, 0] rfl) hP hD hS h
      · refine lv_aload_n hx hb dX7_move_122 rfl (lv_at hl 0 rfl) ?_
        refine va_get (D := D) (ci := 7) (v := .ref (qm 24)) (C := RX7) (T := TX7) (N := 24) hx hb hts in7 hown hK hP 0 rfl rfl 23 (by decide) l52 (fun _ h9 => h9) rfl dX7_move_123 ?_
        refine lv_iload hx hb dX7_move_126 (lv_at hl 6 rfl) ?_
        refine lv_aload_n hx hb dX7_move_128 rfl (lv_at hl 0 rfl) ?_
        refine va_get (D := D) (ci := 7) (v := .ref (qm 23)) (C := RX7) (T := TX7) (N := 24) hx hb hts in7 hown hK hP 0 rfl rfl 22 (by decide) l49 (fun _ h9 => h9) rfl dX7_move_129 ?_
        refine lv_bipush (v := (24 : Int32)) hx hb dX7_move_132 (by decide) ?_
        refine lv_iload_n hx hb dX7_move_134 rfl (lv_at hl 1 rfl) ?_
        refine lv_imul hx hb dX7_move_135 ?_
        refine lv_iload_n hx hb dX7_move_136 rfl (lv_at hl 2 rfl) ?_
        refine lv_iadd hx hb dX7_move_137 ?_
        refine lv_iload hx hb dX7_move_138 (lv_at hl 6 rfl) ?_
        refine lv_iadd hx hb dX7_move_140 ?_
        refine q_iald hx hb hK hP 4 0 rfl rfl h dX7_move_141 (fun t141 h => ?_)
        refine q_iast hx hb hK hP hD hS 5 0 rfl rfl h dX7_move_142 (fun m_aside_142 H locs h hP hD hS => ?_)
        have hP : va_P D vwCl [(qm 0, .inr (7, oX7 qm m_images m_newMany m_at m_open m_steps m_use m_traced m_speaks m_isParted)), (qm 4, .inl (cI, 7, .inl m_errors)), (qm 21, .inl (cI, 4, .inl m_bits)), (qm 22, .inl (cI, 4, .inl m_sizes)), (qm 23, .inl (cI, 96, .inl m_number)), (qm 24, .inl (cI, 24, .inl m_aside_142))] H := hP
        have hD : va_D A [(qm 0, .inr (7, oX7 qm m_images m_newMany m_at m_open m_steps m_use m_traced m_speaks m_isParted)), (qm 4, .inl (cI, 7, .inl m_errors)), (qm 21, .inl (cI, 4, .inl m_bits)), (qm 22, .inl (cI, 4, .inl m_sizes)), (qm 23, .inl (cI, 96, .inl m_number)), (qm 24, .inl (cI, 24, .inl m_aside_142))] := hD
        refine q_iinc (fun v => [(6, .int v), (0, .ref (qm 0)), (1, .int x1), (2, .int x2), (3, .int x3), (4, .int x4), (5, .int x5)]) hx hb h dX7_move_143 (by decide) hl (k := 6) rfl (by decide) (fun _ => rfl) (fun x6_143 ls h hl => ?_)
        refine lv_goto (tgt := 115) hx hb dX7_move_146 (by decide) ?_
        exact ih115 x1 x2 x3 x4 x5 x6_143 m_errors m_number m_aside_142 _ _ _ (lv_sub hl [1, 2, 3, 4, 5, 6, 0] rfl) hP hD hS h
  have J106 : ∀ (m_errors : (Nat → Int32)) (m_number : (Nat → Int32)) (m_aside : (Nat → Int32)) (H : Heap) (locs : List Loc) (ls : Array Slot), lv_has ls 7 [(0, .ref (qm 0))] → va_P D vwCl [(qm 0, .inr (7, oX7 qm m_images m_newMany m_at m_open m_steps m_use m_traced m_speaks m_isParted)), (qm 4, .inl (cI, 7, .inl m_errors)), (qm 21, .inl (cI, 4, .inl m_bits)), (qm 22, .inl (cI, 4, .inl m_sizes)), (qm 23, .inl (cI, 96, .inl m_number)), (qm 24, .inl (cI, 24, .inl m_aside))] H → va_D A [(qm 0, .inr (7, oX7 qm m_images m_newMany m_at m_open m_steps m_use m_traced m_speaks m_isParted)), (qm 4, .inl (cI, 7, .inl m_errors)), (qm 21, .inl (cI, 4, .inl m_bits)), (qm 22, .inl (cI, 4, .inl m_sizes)), (qm 23, .inl (cI, 96, .inl m_number)), (qm 24, .inl (cI, 24, .inl m_aside))] → va_S A s.heap H locs → f7_move_106 n m_bits m_sizes m_errors m_number m_aside = some u → W p l e (rmq (2)) s m args below meth c H locs 0 0 Q (F0 m 106 ls []) := by
    intro m_errors m_number m_aside H locs ls hl hP hD hS h
    unfold f7_move_106 at h
    refine lv_aload_n hx hb dX7_move_106 rfl (lv_at hl 0 rfl) ?_
    refine lv_iconst (v := (1 : Int32)) hx hb dX7_move_107 (by decide) ?_
    refine q_callW2 q_E0ok (rest := []) (fun u => [(qm 0, .inr (7, oX7 qm m_images m_newMany m_at m_open m_steps m_use m_traced m_speaks m_isParted)), (qm 4, .inl (cI, 7, .inl u.2))]) (fun u => u.1) ⟨hx, hb, hml, hown, hts⟩ (fun u hu => c7_error l D cI qm m_images m_newMany m_at m_open m_steps m_use m_traced m_speaks m_isParted m_errors ((1 : Int32)) u hu) (cwV 1 hts gX7_move_X7_error rfl rfl rfl hdX7_error (rmq_ok (Nat.le_of_ble_eq_true rfl) (Nat.le_of_ble_eq_true rfl))) hK hEv hA hP hD hS [0, 1] (by decide) rfl (fun _ => rfl) (va_recv hK hP (ci := 7) (q0 := 0) rfl rfl) rfl rfl hl.1 (Nat.le_of_ble_eq_true rfl) ⟨Nat.zero_le _, Nat.zero_le _⟩ h dX7_move_108 (fun t108 m_errors_108 H locs h hP hD hS => ?_)
    have hP : va_P D vwCl [(qm 0, .inr (7, oX7 qm m_images m_newMany m_at m_open m_steps m_use m_traced m_speaks m_isParted)), (qm 4, .inl (cI, 7, .inl m_errors_108)), (qm 21, .inl (cI, 4, .inl m_bits)), (qm 22, .inl (cI, 4, .inl m_sizes)), (qm 23, .inl (cI, 96, .inl m_number)), (qm 24, .inl (cI, 24, .inl m_aside))] H := hP
    have hD : va_D A [(qm 0, .inr (7, oX7 qm m_images m_newMany m_at m_open m_steps m_use m_traced m_speaks m_isParted)), (qm 4, .inl (cI, 7, .inl m_errors_108)), (qm 21, .inl (cI, 4, .inl m_bits)), (qm 22, .inl (cI, 4, .inl m_sizes)), (qm 23, .inl (cI, 96, .inl m_number)), (qm 24, .inl (cI, 24, .inl m_aside))] := hD
    exact hret (t108, m_errors_108, m_number, m_aside) _ _ _ _ (vp_nar_int _) h hP hD hS dX7_move_111
  have J38 : ∀ (m_errors : (Nat → Int32)) (m_number : (Nat → Int32)) (m_aside : (Nat → Int32)) (H : Heap) (locs : List Loc) (ls : Array Slot), lv_has ls 7 [(0, .ref (qm 0))] → va_P D vwCl [(qm 0, .inr (7, oX7 qm m_images m_newMany m_at m_open m_steps m_use m_traced m_speaks m_isParted)), (qm 4, .inl (cI, 7, .inl m_errors)), (qm 21, .inl (cI, 4, .inl m_bits)), (qm 22, .inl (cI, 4, .inl m_sizes)), (qm 23, .inl (cI, 96, .inl m_number)), (qm 24, .inl (cI, 24, .inl m_aside))] H → va_D A [(qm 0, .inr (7, oX7 qm m_images m_newMany m_at m_open m_steps m_use m_traced m_speaks m_isParted)), (qm 4, .inl (cI, 7, .inl m_errors)), (qm 21, .inl (cI, 4, .inl m_bits)), (qm 22, .inl (cI, 4, .inl m_sizes)), (qm 23, .inl (cI, 96, .inl m_number)), (qm 24, .inl (cI, 24, .inl m_aside))] → va_S A s.heap H locs → f7_move_38 n m_bits m_sizes m_errors m_number m_aside = some u → W p l e (rmq (2)) s m args below meth c H locs 0 0 Q (F0 m 38 ls []) := by
    intro m_errors m_number m_aside H locs ls hl hP hD hS h
    unfold f7_move_38 at h
    refine lv_aload_n hx hb dX7_move_38 rfl (lv_at hl 0 rfl) ?_
    refine lv_iconst (v := (2 : Int32)) hx hb dX7_move_39 (by decide) ?_
    refine q_callW2 q_E0ok (rest := []) (fun u => [(qm 0, .inr (7, oX7 qm m_images m_newMany m_at m_open m_steps m_use m_traced m_speaks m_isParted)), (qm 4, .inl (cI, 7, .inl u.2))]) (fun u => u.1) ⟨hx, hb, hml, hown, hts⟩ (fun u hu => c7_error l D cI qm m_images m_newMany m_at m_open m_steps m_use m_traced m_speaks m_isParted m_errors ((2 : Int32)) u hu) (cwV 1 hts gX7_move_X7_error rfl rfl rfl hdX7_error (rmq_ok (Nat.le_of_ble_eq_true rfl) (Nat.le_of_ble_eq_true rfl))) hK hEv hA hP hD hS [0, 1] (by decide) rfl (fun _ => rfl) (va_recv hK hP (ci := 7) (q0 := 0) rfl rfl) rfl rfl hl.1 (Nat.le_of_ble_eq_true rfl) ⟨Nat.zero_le _, Nat.zero_le _⟩ h dX7_move_40 (fun t40 m_errors_40 H locs h hP hD hS => ?_)
    have hP : va_P D vwCl [(qm 0, .inr (7, oX7 qm m_images m_newMany m_at m_open m_steps m_use m_traced m_speaks m_isParted)), (qm 4, .inl (cI, 7, .inl m_errors_40)), (qm 21, .inl (cI, 4, .inl m_bits)), (qm 22, .inl (cI, 4, .inl m_sizes)), (qm 23, .inl (cI, 96, .inl m_number)), (qm 24, .inl (cI, 24, .inl m_aside))] H := hP
    have hD : va_D A [(qm 0, .inr (7, oX7 qm m_images m_newMany m_at m_open m_steps m_use m_traced m_speaks m_isParted)), (qm 4, .inl (cI, 7, .inl m_errors_40)), (qm 21, .inl (cI, 4, .inl m_bits)), (qm 22, .inl (cI, 4, .inl m_sizes)), (qm 23, .inl (cI, 96, .inl m_number)), (qm 24, .inl (cI, 24, .inl m_aside))] := hD
    exact hret (t40, m_errors_40, m_number, m_aside) _ _ _ _ (vp_nar_int _) h hP hD hS dX7_move_43
  have J14 : ∀ (m_errors : (Nat → Int32)) (m_number : (Nat → Int32)) (m_aside : (Nat → Int32)) (H : Heap) (locs : List Loc) (ls : Array Slot), lv_has ls 7 [(0, .ref (qm 0))] → va_P D vwCl [(qm 0, .inr (7, oX7 qm m_images m_newMany m_at m_open m_steps m_use m_traced m_speaks m_isParted)), (qm 4, .inl (cI, 7, .inl m_errors)), (qm 21, .inl (cI, 4, .inl m_bits)), (qm 22, .inl (cI, 4, .inl m_sizes)), (qm 23, .inl (cI, 96, .inl m_number)), (qm 24, .inl (cI, 24, .inl m_aside))] H → va_D A [(qm 0, .inr (7, oX7 qm m_images m_newMany m_at m_open m_steps m_use m_traced m_speaks m_isParted)), (qm 4, .inl (cI, 7, .inl m_errors)), (qm 21, .inl (cI, 4, .inl m_bits)), (qm 22, .inl (cI, 4, .inl m_sizes)), (qm 23, .inl (cI, 96, .inl m_number)), (qm 24, .inl (cI, 24, .inl m_aside))] → va_S A s.heap H locs → f7_move_14 n m_bits m_sizes m_errors m_number m_aside = some u → W p l e (rmq (2)) s m args below meth c H locs 0 0 Q (F0 m 14 ls []) := by
    intro m_errors m_number m_aside H locs ls hl hP hD hS h
    unfold f7_move_14 at h
    refine lv_aload_n hx hb dX7_move_14 rfl (lv_at hl 0 rfl) ?_
    refine lv_iconst (v := (1 : Int32)) hx hb dX7_move_15 (by decide) ?_
    refine q_callW2 q_E0ok (rest := []) (fun u => [(qm 0, .inr (7, oX7 qm m_images m_newMany m_at m_open m_steps m_use m_traced m_speaks m_isParted)), (qm 4, .inl (cI, 7, .inl u.2))]) (fun u => u.1) ⟨hx, hb, hml, hown, hts⟩ (fun u hu => c7_error l D cI qm m_images m_newMany m_at m_open m_steps m_use m_traced m_speaks m_isParted m_errors ((1 : Int32)) u hu) (cwV 1 hts gX7_move_X7_error rfl rfl rfl hdX7_error (rmq_ok (Nat.le_of_ble_eq_true rfl) (Nat.le_of_ble_eq_true rfl))) hK hEv hA hP hD hS [0, 1] (by decide) rfl (fun _ => rfl) (va_recv hK hP (ci := 7) (q0 := 0) rfl rfl) rfl rfl hl.1 (Nat.le_of_ble_eq_true rfl) ⟨Nat.zero_le _, Nat.zero_le _⟩ h dX7_move_16 (fun t16 m_errors_16 H locs h hP hD hS => ?_)
    have hP : va_P D vwCl [(qm 0, .inr (7, oX7 qm m_images m_newMany m_at m_open m_steps m_use m_traced m_speaks m_isParted)), (qm 4, .inl (cI, 7, .inl m_errors_16)), (qm 21, .inl (cI, 4, .inl m_bits)), (qm 22, .inl (cI, 4, .inl m_sizes)), (qm 23, .inl (cI, 96, .inl m_number)), (qm 24, .inl (cI, 24, .inl m_aside))] H := hP
    have hD : va_D A [(qm 0, .inr (7, oX7 qm m_images m_newMany m_at m_open m_steps m_use m_traced m_speaks m_isParted)), (qm 4, .inl (cI, 7, .inl m_errors_16)), (qm 21, .inl (cI, 4, .inl m_bits)), (qm 22, .inl (cI, 4, .inl m_sizes)), (qm 23, .inl (cI, 96, .inl m_number)), (qm 24, .inl (cI, 24, .inl m_aside))] := hD
    exact hret (t16, m_errors_16, m_number, m_aside) _ _ _ _ (vp_nar_int _) h hP hD hS dX7_move_19
  unfold f7_move at h
  refine lv_iload_n hx hb dX7_move_0 rfl (lv_at hl 1 rfl) ?_
  refine q_callRS q_E0ok (rest := []) ⟨hx, hb, hml, hown, hts⟩ (fun r hr => c7_isSheet l D cI x1 r hr) (va_cwS 1 hts gX7_move_X7_isSheet rfl rfl rfl hdX7_isSheet (rmq_ok (Nat.le_of_ble_eq_true rfl) (Nat.le_of_ble_eq_true rfl))) hK hP hEv hS [] rfl rfl rfl hl.1 (Nat.le_of_ble_eq_true rfl) ⟨Nat.zero_le _, Nat.zero_le _⟩ h dX7_move_1 (fun t1 h => ?_)
  refine q_ifeq hx hb 14 h dX7_move_4 (by decide) (fun h => ?_) (fun h => ?_)
  · exact J14 m_errors m_number m_aside _ _ _ (lv_sub hl [0] rfl) hP hD hS h
  · refine lv_iload_n hx hb dX7_move_7 rfl (lv_at hl 3 rfl) ?_
    refine q_callRS q_E0ok (rest := []) ⟨hx, hb, hml, hown, hts⟩ (fun r hr => c7_isSheet l D cI x3 r hr) (va_cwS 1 hts gX7_move_X7_isSheet rfl rfl rfl hdX7_isSheet (rmq_ok (Nat.le_of_ble_eq_true rfl) (Nat.le_of_ble_eq_true rfl))) hK hP hEv hS [] rfl rfl rfl hl.1 (Nat.le_of_ble_eq_true rfl) ⟨Nat.zero_le _, Nat.zero_le _⟩ h dX7_move_8 (fun t8 h => ?_)
    refine q_ifne hx hb 20 h dX7_move_11 (by decide) (fun h => ?_) (fun h => ?_)
    · refine lv_aload_n hx hb dX7_move_20 rfl (lv_at hl 0 rfl) ?_
      refine va_get (D := D) (ci := 7) (v := .ref (qm 21)) (C := RX7) (T := TX7) (N := 24) hx hb hts in7 hown hK hP 0 rfl rfl 20 (by decide) l43 (fun _ h9 => h9) rfl dX7_move_21 ?_
      refine lv_iload_n hx hb dX7_move_24 rfl (lv_at hl 1 rfl) ?_
      refine q_iald hx hb hK hP 2 0 rfl rfl h dX7_move_25 (fun t25 h => ?_)
      refine q_ifeq hx hb 38 h dX7_move_26 (by decide) (fun h => ?_) (fun h => ?_)
      · exact J38 m_errors m_number m_aside _ _ _ (lv_sub hl [0] rfl) hP hD hS h
      · refine lv_aload_n hx hb dX7_move_29 rfl (lv_at hl 0 rfl) ?_
        refine va_get (D := D) (ci := 7) (v := .ref (qm 21)) (C := RX7) (T := TX7) (N := 24) hx hb hts in7 hown hK hP 0 rfl rfl 20 (by decide) l43 (fun _ h9 => h9) rfl dX7_move_30 ?_
        refine lv_iload_n hx hb dX7_move_33 rfl (lv_at hl 3 rfl) ?_
        refine q_iald hx hb hK hP 2 0 rfl rfl h dX7_move_34 (fun t34 h => ?_)
        refine q_ifne hx hb 44 h dX7_move_35 (by decide) (fun h => ?_) (fun h => ?_)
        · refine lv_aload_n hx hb dX7_move_44 rfl (lv_at hl 0 rfl) ?_
          refine va_get (D := D) (ci := 7) (v := .ref (qm 21)) (C := RX7) (T := TX7) (N := 24) hx hb hts in7 hown hK hP 0 rfl rfl 20 (by decide) l43 (fun _ h9 => h9) rfl dX7_move_45 ?_
          refine lv_iload_n hx hb dX7_move_48 rfl (lv_at hl 1 rfl) ?_
          refine q_iald hx hb hK hP 2 0 rfl rfl h dX7_move_49 (fun t49 h => ?_)
          refine lv_aload_n hx hb dX7_move_50 rfl (lv_at hl 0 rfl) ?_
          refine va_get (D := D) (ci := 7) (v := .ref (qm 21)) (C := RX7) (T := TX7) (N := 24) hx hb hts in7 hown hK hP 0 rfl rfl 20 (by decide) l43 (fun _ h9 => h9) rfl dX7_move_51 ?_
          refine lv_iload_n hx hb dX7_move_54 rfl (lv_at hl 3 rfl) ?_
          refine q_iald hx hb hK hP 2 0 rfl rfl h dX7_move_55 (fun t55 h => ?_)
          refine q_ceq hx hb 65 h dX7_move_56 (by decide) (fun h => ?_) (fun h => ?_)
          · refine lv_iload hx hb dX7_move_65 (lv_at hl 5 rfl) ?_
            refine q_iflt hx hb 106 h dX7_move_67 (by decide) (fun h => ?_) (fun h => ?_)
            · exact J106 m_errors m_number m_aside _ _ _ (lv_sub hl [0] rfl) hP hD hS h
            · refine lv_iload_n hx hb dX7_move_70 rfl (lv_at hl 2 rfl) ?_
              refine q_iflt hx hb 106 h dX7_move_71 (by decide) (fun h => ?_) (fun h => ?_)
              · exact J106 m_errors m_number m_aside _ _ _ (lv_sub hl [0] rfl) hP hD hS h
              · refine lv_iload hx hb dX7_move_74 (lv_at hl 4 rfl) ?_
                refine q_iflt hx hb 106 h dX7_move_76 (by decide) (fun h => ?_) (fun h => ?_)
                · exact J106 m_errors m_number m_aside _ _ _ (lv_sub hl [0] rfl) hP hD hS h
                · refine lv_iload_n hx hb dX7_move_79 rfl (lv_at hl 2 rfl) ?_
                  refine lv_aload_n hx hb dX7_move_80 rfl (lv_at hl 0 rfl) ?_
                  refine va_get (D := D) (ci := 7) (v := .ref (qm 22)) (C := RX7) (T := TX7) (N := 24) hx hb hts in7 hown hK hP 0 rfl rfl 21 (by decide) l46 (fun _ h9 => h9) rfl dX7_move_81 ?_
                  refine lv_iload_n hx hb dX7_move_84 rfl (lv_at hl 1 rfl) ?_
                  refine q_iald hx hb hK hP 3 0 rfl rfl h dX7_move_85 (fun t85 h => ?_)
                  refine lv_iload hx hb dX7_move_86 (lv_at hl 5 rfl) ?_
                  refine lv_isub hx hb dX7_move_88 ?_
                  refine q_cgt hx hb 106 h dX7_move_89 (by decide) (fun h => ?_) (fun h => ?_)
                  · exact J106 m_errors m_number m_aside _ _ _ (lv_sub hl [0] rfl) hP hD hS h
                  · refine lv_iload hx hb dX7_move_92 (lv_at hl 4 rfl) ?_
                    refine lv_aload_n hx hb dX7_move_94 rfl (lv_at hl 0 rfl) ?_
                    refine va_get (D := D) (ci := 7) (v := .ref (qm 22)) (C := RX7) (T := TX7) (N := 24) hx hb hts in7 hown hK hP 0 rfl rfl 21 (by decide) l46 (fun _ h9 => h9) rfl dX7_move_95 ?_
                    refine lv_iload_n hx hb dX7_move_98 rfl (lv_at hl 3 rfl) ?_
                    refine q_iald hx hb hK hP 3 0 rfl rfl h dX7_move_99 (fun t99 h => ?_)
                    refine lv_iload hx hb dX7_move_100 (lv_at hl 5 rfl) ?_
                    refine lv_isub hx hb dX7_move_102 ?_
                    refine q_cle hx hb 112 h dX7_move_103 (by decide) (fun h => ?_) (fun h => ?_)
                    · refine lv_iconst (v := (0 : Int32)) hx hb dX7_move_112 (by decide) ?_
                      refine lv_istore (lv' := [(6, .int ((0 : Int32))), (0, .ref (qm 0)), (1, .int x1), (2, .int x2), (3, .int x3), (4, .int x4), (5, .int x5)]) hx hb dX7_move_113 hl (by decide) rfl (fun ls hl => ?_)
                      exact J115 n x1 x2 x3 x4 x5 ((0 : Int32)) m_errors m_number m_aside _ _ _ (lv_sub hl [1, 2, 3, 4, 5, 6, 0] rfl) hP hD hS h
                    · exact J106 m_errors m_number m_aside _ _ _ (lv_sub hl [0] rfl) hP hD hS h
          · refine lv_aload_n hx hb dX7_move_59 rfl (lv_at hl 0 rfl) ?_
            refine lv_iconst (v := (5 : Int32)) hx hb dX7_move_60 (by decide) ?_
            refine q_callW2 q_E0ok (rest := []) (fun u => [(qm 0, .inr (7, oX7 qm m_images m_newMany m_at m_open m_steps m_use m_traced m_speaks m_isParted)), (qm 4, .inl (cI, 7, .inl u.2))]) (fun u => u.1) ⟨hx, hb, hml, hown, hts⟩ (fun u hu => c7_error l D cI qm m_images m_newMany m_at m_open m_steps m_use m_traced m_speaks m_isParted m_errors ((5 : Int32)) u hu) (cwV 1 hts gX7_move_X7_error rfl rfl rfl hdX7_error (rmq_ok (Nat.le_of_ble_eq_true rfl) (Nat.le_of_ble_eq_true rfl))) hK hEv hA hP hD hS [0, 1] (by decide) rfl (fun _ => rfl) (va_recv hK hP (ci := 7) (q0 := 0) rfl rfl) rfl rfl hl.1 (Nat.le_of_ble_eq_true rfl) ⟨Nat.zero_le _, Nat.zero_le _⟩ h dX7_move_61 (fun t61 m_errors_61 H locs h hP hD hS => ?_)
            have hP : va_P D vwCl [(qm 0, .inr (7, oX7 qm m_images m_newMany m_at m_open m_steps m_use m_traced m_speaks m_isParted)), (qm 4, .inl (cI, 7, .inl m_errors_61)), (qm 21, .inl (cI, 4, .inl m_bits)), (qm 22, .inl (cI, 4, .inl m_sizes)), (qm 23, .inl (cI, 96, .inl m_number)), (qm 24, .inl (cI, 24, .inl m_aside))] H := hP
            have hD : va_D A [(qm 0, .inr (7, oX7 qm m_images m_newMany m_at m_open m_steps m_use m_traced m_speaks m_isParted)), (qm 4, .inl (cI, 7, .inl m_errors_61)), (qm 21, .inl (cI, 4, .inl m_bits)), (qm 22, .inl (cI, 4, .inl m_sizes)), (qm 23, .inl (cI, 96, .inl m_number)), (qm 24, .inl (cI, 24, .inl m_aside))] := hD
            exact hret (t61, m_errors_61, m_number, m_aside) _ _ _ _ (vp_nar_int _) h hP hD hS dX7_move_64
        · exact J38 m_errors m_number m_aside _ _ _ (lv_sub hl [0] rfl) hP hD hS h
    · exact J14 m_errors m_number m_aside _ _ _ (lv_sub hl [0] rfl) hP hD hS h
