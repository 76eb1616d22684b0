set_option maxHeartbeats 4000000 in
set_option maxRecDepth 100000 in
theorem c1_refusesPutting (l : Launch) (D : va_G) (cI : ClassId) (ad : Nat → Nat) (qb qa qt : Nat → Nat) (b_now b_shutTill b_shutBy b_z b_waits a_done t_taped : Int32) (a_kinds a_writers a_minutes a_sizes t_codes t_lengths t_named t_stack : Nat → Int32) (x1 : Int32) (x2 : Int32) (x3 : Int32) (n : Nat) (u : Int32 × (Nat → Int32) × (Nat → Int32)) (h : f1_refusesPutting n x1 x2 x3 b_now b_shutTill b_shutBy a_done a_kinds a_writers a_minutes a_sizes t_codes t_lengths t_named t_stack = some u) : q_RW (cE ad) l yX1_refusesPutting wsX1_refusesPutting (rmq (4)) D cI [.ref (qb 0), .int x1, .int x2, .int x3] [(qb 0, .inr (1, oX1 qb b_now b_shutTill b_shutBy b_z b_waits (qa 0) (qt 0))), (qa 0, .inr (0, oX0 qa a_done)), (qt 0, .inr (4, oX4 qt t_taped)), (qa 2, .inl (cI, 60, .inl a_kinds)), (qa 3, .inl (cI, 60, .inl a_writers)), (qa 4, .inl (cI, 60, .inl a_minutes)), (qa 8, .inl (cI, 61, .inl a_sizes)), (qt 3, .inl (cI, 480, .inl t_codes)), (qt 4, .inl (cI, 8, .inl t_lengths)), (qt 5, .inl (cI, 5, .inl t_named)), (qt 6, .inl (cI, 60, .inl t_stack))] [(qb 0, .inr (1, oX1 qb b_now b_shutTill b_shutBy b_z b_waits (qa 0) (qt 0))), (qa 0, .inr (0, oX0 qa a_done)), (qt 0, .inr (4, oX4 qt t_taped)), (qa 2, .inl (cI, 60, .inl a_kinds)), (qa 3, .inl (cI, 60, .inl a_writers)), (qa 4, .inl (cI, 60, .inl a_minutes)), (qa 8, .inl (cI, 61, .inl a_sizes)), (qt 3, .inl (cI, 480, .inl t_codes)), (qt 4, .inl (cI, 8, .inl t_lengths)), (qt 5, .inl (cI, 5, .inl u.2.1)), (qt 6, .inl (cI, 60, .inl u.2.2))] u.1 := by
  refine q_startW (fun u : Int32 × (Nat → Int32) × (Nat → Int32) => [(qb 0, .inr (1, oX1 qb b_now b_shutTill b_shutBy b_z b_waits (qa 0) (qt 0))), (qa 0, .inr (0, oX0 qa a_done)), (qt 0, .inr (4, oX4 qt t_taped)), (qa 2, .inl (cI, 60, .inl a_kinds)), (qa 3, .inl (cI, 60, .inl a_writers)), (qa 4, .inl (cI, 60, .inl a_minutes)), (qa 8, .inl (cI, 61, .inl a_sizes)), (qt 3, .inl (cI, 480, .inl t_codes)), (qt 4, .inl (cI, 8, .inl t_lengths)), (qt 5, .inl (cI, 5, .inl u.2.1)), (qt 6, .inl (cI, 60, .inl u.2.2))]) (fun u => u.1) (cc := cX1_refusesPutting) (maxL := 7) (ty := .int) (own := RX1) (by decide) rfl rfl (Nat.le_of_ble_eq_true rfl) rfl (fun p e s m args below meth c Q A hx hb hml hown hts hK hEv hA hret hP hD hS ls hl => ?_)
  have in0 : ∀ w ∈ wsX00, w ∈ wsX1_refusesPutting := fun w h => List.mem_cons_of_mem _ (List.mem_append_left _ (List.mem_append_right _ (h)))
  have in1 : ∀ w ∈ wsX10, w ∈ wsX1_refusesPutting := fun w h => List.mem_cons_of_mem _ (List.mem_append_left _ (List.mem_append_left _ (List.mem_append_right _ (h))))
  have in4 : ∀ w ∈ wsX40, w ∈ wsX1_refusesPutting := fun w h => List.mem_cons_of_mem _ (List.mem_append_right _ (h))
  have l25 := hts (.fieldLink RX1 25 "PageWars$Book" "acts" "LPageWars$Acts;") (List.mem_of_getElem? (i := 1) rfl)
  have J114 : ∀ (x6 : Int32) (t_named : (Nat → Int32)) (t_stack : (Nat → Int32)) (H : Heap) (locs : List Loc) (ls : Array Slot), lv_has ls 7 [(0, .ref (qb 0)), (6, .int x6)] → va_P D vwCl [(qb 0, .inr (1, oX1 qb b_now b_shutTill b_shutBy b_z b_waits (qa 0) (qt 0))), (qa 0, .inr (0, oX0 qa a_done)), (qt 0, .inr (4, oX4 qt t_taped)), (qa 2, .inl (cI, 60, .inl a_kinds)), (qa 3, .inl (cI, 60, .inl a_writers)), (qa 4, .inl (cI, 60, .inl a_minutes)), (qa 8, .inl (cI, 61, .inl a_sizes)), (qt 3, .inl (cI, 480, .inl t_codes)), (qt 4, .inl (cI, 8, .inl t_lengths)), (qt 5, .inl (cI, 5, .inl t_named)), (qt 6, .inl (cI, 60, .inl t_stack))] H → va_D A [(qb 0, .inr (1, oX1 qb b_now b_shutTill b_shutBy b_z b_waits (qa 0) (qt 0))), (qa 0, .inr (0, oX0 qa a_done)), (qt 0, .inr (4, oX4 qt t_taped)), (qa 2, .inl (cI, 60, .inl a_kinds)), (qa 3, .inl (cI, 60, .inl a_writers)), (qa 4, .inl (cI, 60, .inl a_minutes)), (qa 8, .inl (cI, 61, .inl a_sizes)), (qt 3, .inl (cI, 480, .inl t_codes)), (qt 4, .inl (cI, 8, .inl t_lengths)), (qt 5, .inl (cI, 5, .inl t_named)), (qt 6, .inl (cI, 60, .inl t_stack))] → va_S A s.heap H locs → f1_refusesPutting_114 n b_now b_shutTill b_shutBy a_done a_kinds a_writers a_minutes a_sizes t_codes t_lengths x6 t_named t_stack = some u → W p l e (rmq (4)) s m args below meth c H locs 0 0 Q (F0 m 114 ls []) := by
    intro x6 t_named t_stack H locs ls hl hP hD hS h
    unfold f1_refusesPutting_114 at h
    refine lv_iload hx hb dX1_refusesPutting_114 (lv_at hl 1 rfl) ?_
    exact hret (x6, t_named, t_stack) _ _ _ _ (vp_nar_int _) h hP hD hS dX1_refusesPutting_116
  have J78 : ∀ (t_named : (Nat → Int32)) (t_stack : (Nat → Int32)) (H : Heap) (locs : List Loc) (ls : Array Slot), lv_has ls 7 [(0, .ref (qb 0))] → va_P D vwCl [(qb 0, .inr (1, oX1 qb b_now b_shutTill b_shutBy b_z b_waits (qa 0) (qt 0))), (qa 0, .inr (0, oX0 qa a_done)), (qt 0, .inr (4, oX4 qt t_taped)), (qa 2, .inl (cI, 60, .inl a_kinds)), (qa 3, .inl (cI, 60, .inl a_writers)), (qa 4, .inl (cI, 60, .inl a_minutes)), (qa 8, .inl (cI, 61, .inl a_sizes)), (qt 3, .inl (cI, 480, .inl t_codes)), (qt 4, .inl (cI, 8, .inl t_lengths)), (qt 5, .inl (cI, 5, .inl t_named)), (qt 6, .inl (cI, 60, .inl t_stack))] H → va_D A [(qb 0, .inr (1, oX1 qb b_now b_shutTill b_shutBy b_z b_waits (qa 0) (qt 0))), (qa 0, .inr (0, oX0 qa a_done)), (qt 0, .inr (4, oX4 qt t_taped)), (qa 2, .inl (cI, 60, .inl a_kinds)), (qa 3, .inl (cI, 60, .inl a_writers)), (qa 4, .inl (cI, 60, .inl a_minutes)), (qa 8, .inl (cI, 61, .inl a_sizes)), (qt 3, .inl (cI, 480, .inl t_codes)), (qt 4, .inl (cI, 8, .inl t_lengths)), (qt 5, .inl (cI, 5, .inl t_named)), (qt 6, .inl (cI, 60, .inl t_stack))] → va_S A s.heap H locs → f1_refusesPutting_78 n b_now b_shutTill b_shutBy a_done a_kinds a_writers a_minutes a_sizes t_codes t_lengths t_named t_stack = some u → W p l e (rmq (4)) s m args below meth c H locs 0 0 Q (F0 m 78 ls []) := by
    intro t_named t_stack H locs ls hl hP hD hS h
    unfold f1_refusesPutting_78 at h
    refine lv_iconst (v := (1 : Int32)) hx hb dX1_refusesPutting_78 (by decide) ?_
    exact hret ((1 : Int32), t_named, t_stack) _ _ _ _ (vp_nar_int _) h hP hD hS dX1_refusesPutting_79
  have J47 : ∀ (x1 : Int32) (x2 : Int32) (x3 : Int32) (x4 : Int32) (s0 : Int32) (t_named : (Nat → Int32)) (t_stack : (Nat → Int32)) (H : Heap) (locs : List Loc) (ls : Array Slot), lv_has ls 7 [(0, .ref (qb 0)), (1, .int x1), (2, .int x2), (3, .int x3), (4, .int x4)] → va_P D vwCl [(qb 0, .inr (1, oX1 qb b_now b_shutTill b_shutBy b_z b_waits (qa 0) (qt 0))), (qa 0, .inr (0, oX0 qa a_done)), (qt 0, .inr (4, oX4 qt t_taped)), (qa 2, .inl (cI, 60, .inl a_kinds)), (qa 3, .inl (cI, 60, .inl a_writers)), (qa 4, .inl (cI, 60, .inl a_minutes)), (qa 8, .inl (cI, 61, .inl a_sizes)), (qt 3, .inl (cI, 480, .inl t_codes)), (qt 4, .inl (cI, 8, .inl t_lengths)), (qt 5, .inl (cI, 5, .inl t_named)), (qt 6, .inl (cI, 60, .inl t_stack))] H → va_D A [(qb 0, .inr (1, oX1 qb b_now b_shutTill b_shutBy b_z b_waits (qa 0) (qt 0))), (qa 0, .inr (0, oX0 qa a_done)), (qt 0, .inr (4, oX4 qt t_taped)), (qa 2, .inl (cI, 60, .inl a_kinds)), (qa 3, .inl (cI, 60, .inl a_writers)), (qa 4, .inl (cI, 60, .inl a_minutes)), (qa 8, .inl (cI, 61, .inl a_sizes)), (qt 3, .inl (cI, 480, .inl t_codes)), (qt 4, .inl (cI, 8, .inl t_lengths)), (qt 5, .inl (cI, 5, .inl t_named)), (qt 6, .inl (cI, 60, .inl t_stack))] → va_S A s.heap H locs → f1_refusesPutting_47 n b_now b_shutTill b_shutBy a_done a_kinds a_writers a_minutes a_sizes t_codes t_lengths x1 x2 x3 x4 s0 t_named t_stack = some u → W p l e (rmq (4)) s m args below meth c H locs 0 0 Q (F0 m 47 ls [.int s0]) := by
    intro x1 x2 x3 x4 s0 t_named t_stack H locs ls hl hP hD hS h
    unfold f1_refusesPutting_47 at h
    refine lv_istore (lv' := [(5, .int s0), (0, .ref (qb 0)), (1, .int x1), (2, .int x2), (3, .int x3), (4, .int x4)]) hx hb dX1_refusesPutting_47 hl (by decide) rfl (fun ls hl => ?_)
    refine lv_iload_n hx hb dX1_refusesPutting_49 rfl (lv_at hl 3 rfl) ?_
    refine lv_bipush (v := (100 : Int32)) hx hb dX1_refusesPutting_50 (by decide) ?_
    refine q_idiv hx hb h dX1_refusesPutting_52 (fun h => ?_)
    refine q_callRSN (cEok ad) (rest := []) ⟨hx, hb, hml, hown, hts⟩ (fun r hr => c6_isWriter l D cI ad (x2 / ((100 : Int32))) r hr) ⟨va_cnB 1 hts gX1_refusesPutting_X6_isWriter_n91 rfl rfl rfl (cE_m1_91 hEv) (hts (.initialized RX6) (List.mem_of_getElem? (i := 10) rfl)) hdX6_isWriter (rmq_ok (Nat.le_of_ble_eq_true rfl) (Nat.le_of_ble_eq_true rfl)), hts (.static yX6_isWriter) (List.mem_of_getElem? (i := 9) rfl), trivial⟩ hK hP hEv hS [] rfl rfl rfl hl.1 (Nat.le_of_ble_eq_true rfl) ⟨Nat.zero_le _, Nat.zero_le _⟩ h dX1_refusesPutting_53 (fun t53 h => ?_)
    refine q_ifeq hx hb 78 h dX1_refusesPutting_56 (by decide) (fun h => ?_) (fun h => ?_)
    · exact J78 t_named t_stack _ _ _ (lv_sub hl [1] rfl) hP hD hS h
    · refine lv_iload_n hx hb dX1_refusesPutting_59 rfl (lv_at hl 4 rfl) ?_
      refine q_callRSN (cEok ad) (rest := []) ⟨hx, hb, hml, hown, hts⟩ (fun r hr => c6_isWord l D cI ad x3 r hr) ⟨va_cnB 1 hts gX1_refusesPutting_X6_isWord_n94 rfl rfl rfl (cE_m1_94 hEv) (hts (.initialized RX6) (List.mem_of_getElem? (i := 10) rfl)) hdX6_isWord (rmq_ok (Nat.le_of_ble_eq_true rfl) (Nat.le_of_ble_eq_true rfl)), hts (.static yX6_isWord) (List.mem_of_getElem? (i := 12) rfl), trivial⟩ hK hP hEv hS [] rfl rfl rfl hl.1 (Nat.le_of_ble_eq_true rfl) ⟨Nat.zero_le _, Nat.zero_le _⟩ h dX1_refusesPutting_60 (fun t60 h => ?_)
      refine q_ifeq hx hb 78 h dX1_refusesPutting_63 (by decide) (fun h => ?_) (fun h => ?_)
      · exact J78 t_named t_stack _ _ _ (lv_sub hl [1] rfl) hP hD hS h
      · refine lv_iload hx hb dX1_refusesPutting_66 (lv_at hl 5 rfl) ?_
        refine q_iflt hx hb 78 h dX1_refusesPutting_68 (by decide) (fun h => ?_) (fun h => ?_)
        · exact J78 t_named t_stack _ _ _ (lv_sub hl [1] rfl) hP hD hS h
        · refine lv_iload hx hb dX1_refusesPutting_71 (lv_at hl 5 rfl) ?_
          refine lv_iload hx hb dX1_refusesPutting_73 (lv_at hl 0 rfl) ?_
          refine q_cle hx hb 80 h dX1_refusesPutting_75 (by decide) (fun h => ?_) (fun h => ?_)
          · refine lv_aload_n hx hb dX1_refusesPutting_80 rfl (lv_at hl 1 rfl) ?_
            refine lv_iload_n hx hb dX1_refusesPutting_81 rfl (lv_at hl 3 rfl) ?_
            refine lv_bipush (v := (100 : Int32)) hx hb dX1_refusesPutting_82 (by decide) ?_
            refine q_idiv hx hb h dX1_refusesPutting_84 (fun h => ?_)
            refine q_callW3 (cEok ad) (rest := []) (fun u => [(qb 0, .inr (1, oX1 qb b_now b_shutTill b_shutBy b_z b_waits (qa 0) (qt 0))), (qa 0, .inr (0, oX0 qa a_done)), (qt 0, .inr (4, oX4 qt t_taped)), (qa 2, .inl (cI, 60, .inl a_kinds)), (qa 3, .inl (cI, 60, .inl a_writers)), (qa 4, .inl (cI, 60, .inl a_minutes)), (qa 8, .inl (cI, 61, .inl a_sizes)), (qt 3, .inl (cI, 480, .inl t_codes)), (qt 4, .inl (cI, 8, .inl t_lengths)), (qt 5, .inl (cI, 5, .inl u.2.1)), (qt 6, .inl (cI, 60, .inl u.2.2))]) (fun u => u.1) ⟨hx, hb, hml, hown, hts⟩ (fun u hu => c1_refusesActing l D cI ad qb qa qt b_now b_shutTill b_shutBy b_z b_waits a_done t_taped a_kinds a_writers a_minutes a_sizes t_codes t_lengths t_named t_stack (x2 / ((100 : Int32))) n u hu) (cwV 1 hts gX1_refusesPutting_X1_refusesActing rfl rfl rfl hdX1_refusesActing (rmq_ok (Nat.le_of_ble_eq_true rfl) (Nat.le_of_ble_eq_true rfl))) hK hEv hA hP hD hS [0, 1, 2, 3, 4, 5, 6, 7, 8, 9, 10] (by decide) rfl (fun _ => rfl) (va_recv hK hP (ci := 1) (q0 := 0) rfl rfl) rfl rfl hl.1 (Nat.le_of_ble_eq_true rfl) ⟨Nat.zero_le _, Nat.zero_le _⟩ h dX1_refusesPutting_85 (fun t85 t_named_85 t_stack_85 H locs h hP hD hS => ?_)
            have hP : va_P D vwCl [(qb 0, .inr (1, oX1 qb b_now b_shutTill b_shutBy b_z b_waits (qa 0) (qt 0))), (qa 0, .inr (0, oX0 qa a_done)), (qt 0, .inr (4, oX4 qt t_taped)), (qa 2, .inl (cI, 60, .inl a_kinds)), (qa 3, .inl (cI, 60, .inl a_writers)), (qa 4, .inl (cI, 60, .inl a_minutes)), (qa 8, .inl (cI, 61, .inl a_sizes)), (qt 3, .inl (cI, 480, .inl t_codes)), (qt 4, .inl (cI, 8, .inl t_lengths)), (qt 5, .inl (cI, 5, .inl t_named_85)), (qt 6, .inl (cI, 60, .inl t_stack_85))] H := hP
            have hD : va_D A [(qb 0, .inr (1, oX1 qb b_now b_shutTill b_shutBy b_z b_waits (qa 0) (qt 0))), (qa 0, .inr (0, oX0 qa a_done)), (qt 0, .inr (4, oX4 qt t_taped)), (qa 2, .inl (cI, 60, .inl a_kinds)), (qa 3, .inl (cI, 60, .inl a_writers)), (qa 4, .inl (cI, 60, .inl a_minutes)), (qa 8, .inl (cI, 61, .inl a_sizes)), (qt 3, .inl (cI, 480, .inl t_codes)), (qt 4, .inl (cI, 8, .inl t_lengths)), (qt 5, .inl (cI, 5, .inl t_named_85)), (qt 6, .inl (cI, 60, .inl t_stack_85))] := hD
            refine lv_istore (lv' := [(6, .int t85), (5, .int s0), (0, .ref (qb 0)), (1, .int x1), (2, .int x2), (3, .int x3), (4, .int x4)]) hx hb dX1_refusesPutting_88 hl (by decide) rfl (fun ls hl => ?_)
            refine lv_iload hx hb dX1_refusesPutting_90 (lv_at hl 0 rfl) ?_
            refine q_ifne hx hb 114 h dX1_refusesPutting_92 (by decide) (fun h => ?_) (fun h => ?_)
            · exact J114 t85 t_named_85 t_stack_85 _ _ _ (lv_sub hl [2, 0] rfl) hP hD hS h
            · refine lv_iload_n hx hb dX1_refusesPutting_95 rfl (lv_at hl 3 rfl) ?_
              refine lv_iconst (v := (5 : Int32)) hx hb dX1_refusesPutting_96 (by decide) ?_
              refine q_ceq hx hb 114 h dX1_refusesPutting_97 (by decide) (fun h => ?_) (fun h => ?_)
              · exact J114 t85 t_named_85 t_stack_85 _ _ _ (lv_sub hl [2, 0] rfl) hP hD hS h
              · refine lv_aload_n hx hb dX1_refusesPutting_100 rfl (lv_at hl 2 rfl) ?_
                refine va_get (D := D) (ci := 1) (v := .ref (qa 0)) (C := RX1) (T := TX1) (N := 9) hx hb hts in1 hown hK hP 0 rfl rfl 7 (by decide) l25 (fun _ h9 => h9) rfl dX1_refusesPutting_101 ?_
                refine q_callR (cEok ad) (rest := []) ⟨hx, hb, hml, hown, hts⟩ (fun r hr => c0_pageSize l D cI ad qa a_done a_sizes r hr) (cwV 0 hts gX1_refusesPutting_X0_pageSize rfl rfl rfl hdX0_pageSize (rmq_ok (Nat.le_of_ble_eq_true rfl) (Nat.le_of_ble_eq_true rfl))) hK hP hEv hS [1, 6] rfl (va_recv hK hP (ci := 0) (q0 := 1) rfl rfl) rfl rfl hl.1 (Nat.le_of_ble_eq_true rfl) ⟨Nat.zero_le _, Nat.zero_le _⟩ h dX1_refusesPutting_104 (fun t104 h => ?_)
                refine lv_bipush (v := (20 : Int32)) hx hb dX1_refusesPutting_107 (by decide) ?_
                refine q_clt hx hb 114 h dX1_refusesPutting_109 (by decide) (fun h => ?_) (fun h => ?_)
                · exact J114 t85 t_named_85 t_stack_85 _ _ _ (lv_sub hl [2, 0] rfl) hP hD hS h
                · refine lv_iconst (v := (4 : Int32)) hx hb dX1_refusesPutting_112 (by decide) ?_
                  exact hret ((4 : Int32), t_named_85, t_stack_85) _ _ _ _ (vp_nar_int _) h hP hD hS dX1_refusesPutting_113
          · exact J78 t_named t_stack _ _ _ (lv_sub hl [1] rfl) hP hD hS h
  have J17 : ∀ (x1 : Int32) (x2 : Int32) (x3 : Int32) (t_named : (Nat → Int32)) (t_stack : (Nat → Int32)) (H : Heap) (locs : List Loc) (ls : Array Slot), lv_has ls 7 [(0, .ref (qb 0)), (1, .int x1), (2, .int x2), (3, .int x3)] → va_P D vwCl [(qb 0, .inr (1, oX1 qb b_now b_shutTill b_shutBy b_z b_waits (qa 0) (qt 0))), (qa 0, .inr (0, oX0 qa a_done)), (qt 0, .inr (4, oX4 qt t_taped)), (qa 2, .inl (cI, 60, .inl a_kinds)), (qa 3, .inl (cI, 60, .inl a_writers)), (qa 4, .inl (cI, 60, .inl a_minutes)), (qa 8, .inl (cI, 61, .inl a_sizes)), (qt 3, .inl (cI, 480, .inl t_codes)), (qt 4, .inl (cI, 8, .inl t_lengths)), (qt 5, .inl (cI, 5, .inl t_named)), (qt 6, .inl (cI, 60, .inl t_stack))] H → va_D A [(qb 0, .inr (1, oX1 qb b_now b_shutTill b_shutBy b_z b_waits (qa 0) (qt 0))), (qa 0, .inr (0, oX0 qa a_done)), (qt 0, .inr (4, oX4 qt t_taped)), (qa 2, .inl (cI, 60, .inl a_kinds)), (qa 3, .inl (cI, 60, .inl a_writers)), (qa 4, .inl (cI, 60, .inl a_minutes)), (qa 8, .inl (cI, 61, .inl a_sizes)), (qt 3, .inl (cI, 480, .inl t_codes)), (qt 4, .inl (cI, 8, .inl t_lengths)), (qt 5, .inl (cI, 5, .inl t_named)), (qt 6, .inl (cI, 60, .inl t_stack))] → va_S A s.heap H locs → f1_refusesPutting_17 n b_now b_shutTill b_shutBy a_done a_kinds a_writers a_minutes a_sizes t_codes t_lengths x1 x2 x3 t_named t_stack = some u → W p l e (rmq (4)) s m args below meth c H locs 0 0 Q (F0 m 17 ls []) := by
    intro x1 x2 x3 t_named t_stack H locs ls hl hP hD hS h
    unfold f1_refusesPutting_17 at h
    refine lv_iload_n hx hb dX1_refusesPutting_17 rfl (lv_at hl 2 rfl) ?_
    refine lv_bipush (v := (100 : Int32)) hx hb dX1_refusesPutting_18 (by decide) ?_
    refine q_irem hx hb h dX1_refusesPutting_20 (fun h => ?_)
    refine q_let h (fun x4_21 h => ?_)
    refine lv_istore (lv' := [(4, .int x4_21), (0, .ref (qb 0)), (1, .int x1), (2, .int x2), (3, .int x3)]) hx hb dX1_refusesPutting_21 hl (by decide) rfl (fun ls hl => ?_)
    refine lv_iload_n hx hb dX1_refusesPutting_23 rfl (lv_at hl 2 rfl) ?_
    refine lv_iconst (v := (5 : Int32)) hx hb dX1_refusesPutting_24 (by decide) ?_
    refine q_cne hx hb 40 h dX1_refusesPutting_25 (by decide) (fun h => ?_) (fun h => ?_)
    · refine lv_aload_n hx hb dX1_refusesPutting_40 rfl (lv_at hl 1 rfl) ?_
      refine va_get (D := D) (ci := 1) (v := .ref (qa 0)) (C := RX1) (T := TX1) (N := 9) hx hb hts in1 hown hK hP 0 rfl rfl 7 (by decide) l25 (fun _ h9 => h9) rfl dX1_refusesPutting_41 ?_
      refine q_callR (cEok ad) (rest := []) ⟨hx, hb, hml, hown, hts⟩ (fun r hr => c0_pageSize l D cI ad qa a_done a_sizes r hr) (cwV 0 hts gX1_refusesPutting_X0_pageSize rfl rfl rfl hdX0_pageSize (rmq_ok (Nat.le_of_ble_eq_true rfl) (Nat.le_of_ble_eq_true rfl))) hK hP hEv hS [1, 6] rfl (va_recv hK hP (ci := 0) (q0 := 1) rfl rfl) rfl rfl hl.1 (Nat.le_of_ble_eq_true rfl) ⟨Nat.zero_le _, Nat.zero_le _⟩ h dX1_refusesPutting_44 (fun t44 h => ?_)
      exact J47 x1 x2 x3 x4_21 t44 t_named t_stack _ _ _ (lv_sub hl [1, 2, 3, 4, 0] rfl) hP hD hS h
    · refine lv_aload_n hx hb dX1_refusesPutting_28 rfl (lv_at hl 1 rfl) ?_
      refine va_get (D := D) (ci := 1) (v := .ref (qa 0)) (C := RX1) (T := TX1) (N := 9) hx hb hts in1 hown hK hP 0 rfl rfl 7 (by decide) l25 (fun _ h9 => h9) rfl dX1_refusesPutting_29 ?_
      refine q_callR (cEok ad) (rest := []) ⟨hx, hb, hml, hown, hts⟩ (fun r hr => c0_pageSize l D cI ad qa a_done a_sizes r hr) (cwV 0 hts gX1_refusesPutting_X0_pageSize rfl rfl rfl hdX0_pageSize (rmq_ok (Nat.le_of_ble_eq_true rfl) (Nat.le_of_ble_eq_true rfl))) hK hP hEv hS [1, 6] rfl (va_recv hK hP (ci := 0) (q0 := 1) rfl rfl) rfl rfl hl.1 (Nat.le_of_ble_eq_true rfl) ⟨Nat.zero_le _, Nat.zero_le _⟩ h dX1_refusesPutting_32 (fun t32 h => ?_)
      refine lv_iconst (v := (1 : Int32)) hx hb dX1_refusesPutting_35 (by decide) ?_
      refine lv_isub hx hb dX1_refusesPutting_36 ?_
      refine lv_goto (tgt := 47) hx hb dX1_refusesPutting_37 (by decide) ?_
      exact J47 x1 x2 x3 x4_21 (t32 - ((1 : Int32))) t_named t_stack _ _ _ (lv_sub hl [1, 2, 3, 4, 0] rfl) hP hD hS h
  unfold f1_refusesPutting at h
  refine lv_iload_n hx hb dX1_refusesPutting_0 rfl (lv_at hl 1 rfl) ?_
  refine lv_iconst (v := (1 : Int32)) hx hb dX1_refusesPutting_1 (by decide) ?_
  refine q_ceq hx hb 17 h dX1_refusesPutting_2 (by decide) (fun h => ?_) (fun h => ?_)
  · exact J17 x1 x2 x3 t_named t_stack _ _ _ (lv_sub hl [0, 1, 2, 3] rfl) hP hD hS h
  · refine lv_iload_n hx hb dX1_refusesPutting_5 rfl (lv_at hl 1 rfl) ?_
    refine lv_iconst (v := (4 : Int32)) hx hb dX1_refusesPutting_6 (by decide) ?_
    refine q_ceq hx hb 17 h dX1_refusesPutting_7 (by decide) (fun h => ?_) (fun h => ?_)
    · exact J17 x1 x2 x3 t_named t_stack _ _ _ (lv_sub hl [0, 1, 2, 3] rfl) hP hD hS h
    · refine lv_iload_n hx hb dX1_refusesPutting_10 rfl (lv_at hl 1 rfl) ?_
      refine lv_iconst (v := (5 : Int32)) hx hb dX1_refusesPutting_11 (by decide) ?_
      refine q_ceq hx hb 17 h dX1_refusesPutting_12 (by decide) (fun h => ?_) (fun h => ?_)
      · exact J17 x1 x2 x3 t_named t_stack _ _ _ (lv_sub hl [0, 1, 2, 3] rfl) hP hD hS h
      · refine lv_iconst (v := (1 : Int32)) hx hb dX1_refusesPutting_15 (by decide) ?_
        exact hret ((1 : Int32), t_named, t_stack) _ _ _ _ (vp_nar_int _) h hP hD hS dX1_refusesPutting_16
set_option maxHeartbeats 4000000 in
set_option maxRecDepth 100000 in
theorem c0_draftsHalf (l : Launch) (D : va_G) (cI : ClassId) (ad : Nat → Nat) (qa : Nat → Nat) (a_done : Int32) (a_sizes a_cells : Nat → Int32) (x1 : Int32) (x2 : Int32) (u : (Nat → Int32) × (Nat → Int32)) (h : f0_draftsHalf x1 x2 a_done a_sizes a_cells = some u) : q_RV (cE ad) l yX0_draftsHalf wsX0_draftsHalf (rmq (1)) D cI [.ref (qa 0), .int x1, .int x2] [(qa 0, .inr (0, oX0 qa a_done)), (qa 8, .inl (cI, 61, .inl a_sizes)), (qa 9, .inl (cI, 1220, .inl a_cells))] [(qa 0, .inr (0, oX0 qa a_done)), (qa 8, .inl (cI, 61, .inl u.1)), (qa 9, .inl (cI, 1220, .inl u.2))] := by
  refine q_startV (fun u : (Nat → Int32) × (Nat → Int32) => [(qa 0, .inr (0, oX0 qa a_done)), (qa 8, .inl (cI, 61, .inl u.1)), (qa 9, .inl (cI, 1220, .inl u.2))]) (cc := cX0_draftsHalf) (maxL := 6) (own := RX0) (by decide) rfl rfl (Nat.le_of_ble_eq_true rfl) rfl (fun p e s m args below meth c Q A hx hb hml hown hts hK hEv hA hret hP hD hS ls hl => ?_)
  have in0 : ∀ w ∈ wsX00, w ∈ wsX0_draftsHalf := fun w h => List.mem_cons_of_mem _ (List.mem_append_right _ (h))
  have l30 := hts (.fieldLink RX0 30 "PageWars$Acts" "sizes" "[I") (List.mem_of_getElem? (i := 2) rfl)
  have l33 := hts (.fieldLink RX0 33 "PageWars$Acts" "cells" "[I") (List.mem_of_getElem? (i := 10) rfl)
  have l39 := hts (.fieldLink RX0 39 "PageWars$Acts" "done" "I") (List.mem_of_getElem? (i := 1) rfl)
  have J88 : ∀ (x4 : Int32) (x5 : Int32) (a_sizes : (Nat → Int32)) (a_cells : (Nat → Int32)) (H : Heap) (locs : List Loc) (ls : Array Slot), lv_has ls 6 [(0, .ref (qa 0)), (4, .int x4), (5, .int x5)] → va_P D vwCl [(qa 0, .inr (0, oX0 qa a_done)), (qa 8, .inl (cI, 61, .inl a_sizes)), (qa 9, .inl (cI, 1220, .inl a_cells))] H → va_D A [(qa 0, .inr (0, oX0 qa a_done)), (qa 8, .inl (cI, 61, .inl a_sizes)), (qa 9, .inl (cI, 1220, .inl a_cells))] → va_S A s.heap H locs → f0_draftsHalf_88 a_done x4 x5 a_sizes a_cells = some u → W p l e (rmq (1)) s m args below meth c H locs 0 0 Q (F0 m 88 ls []) := by
    intro x4 x5 a_sizes a_cells H locs ls hl hP hD hS h
    unfold f0_draftsHalf_88 at h
    refine lv_aload_n hx hb dX0_draftsHalf_88 rfl (lv_at hl 0 rfl) ?_
    refine va_get (D := D) (ci := 0) (v := .ref (qa 8)) (C := RX0) (T := TX0) (N := 10) hx hb hts in0 hown hK hP 0 rfl rfl 7 (by decide) l30 (fun _ h9 => h9) rfl dX0_draftsHalf_89 ?_
    refine lv_aload_n hx hb dX0_draftsHalf_92 rfl (lv_at hl 0 rfl) ?_
    refine va_get (D := D) (ci := 0) (v := .int a_done) (C := RX0) (T := TX0) (N := 10) hx hb hts in0 hown hK hP 0 rfl rfl 0 (by decide) l39 (fun _ h9 => h9) rfl dX0_draftsHalf_93 ?_
    refine lv_iconst (v := (1 : Int32)) hx hb dX0_draftsHalf_96 (by decide) ?_
    refine lv_iadd hx hb dX0_draftsHalf_97 ?_
    refine lv_iload hx hb dX0_draftsHalf_98 (lv_at hl 1 rfl) ?_
    refine lv_iload hx hb dX0_draftsHalf_100 (lv_at hl 2 rfl) ?_
    refine lv_iadd hx hb dX0_draftsHalf_102 ?_
    refine q_iast hx hb hK hP hD hS 1 0 rfl rfl h dX0_draftsHalf_103 (fun a_sizes_103 H locs h hP hD hS => ?_)
    have hP : va_P D vwCl [(qa 0, .inr (0, oX0 qa a_done)), (qa 8, .inl (cI, 61, .inl a_sizes_103)), (qa 9, .inl (cI, 1220, .inl a_cells))] H := hP
    have hD : va_D A [(qa 0, .inr (0, oX0 qa a_done)), (qa 8, .inl (cI, 61, .inl a_sizes_103)), (qa 9, .inl (cI, 1220, .inl a_cells))] := hD
    exact hret (a_sizes_103, a_cells) _ _ _ _ h hP hD hS dX0_draftsHalf_104
  unfold f0_draftsHalf at h
  refine lv_aload_n hx hb dX0_draftsHalf_0 rfl (lv_at hl 0 rfl) ?_
  refine va_get (D := D) (ci := 0) (v := .int a_done) (C := RX0) (T := TX0) (N := 10) hx hb hts in0 hown hK hP 0 rfl rfl 0 (by decide) l39 (fun _ h9 => h9) rfl dX0_draftsHalf_1 ?_
  refine lv_iconst (v := (1 : Int32)) hx hb dX0_draftsHalf_4 (by decide) ?_
  refine lv_iadd hx hb dX0_draftsHalf_5 ?_
  refine lv_bipush (v := (20 : Int32)) hx hb dX0_draftsHalf_6 (by decide) ?_
  refine lv_imul hx hb dX0_draftsHalf_8 ?_
  refine q_let h (fun x3_9 h => ?_)
  refine lv_istore_n (lv' := [(3, .int x3_9), (0, .ref (qa 0)), (1, .int x1), (2, .int x2)]) hx hb dX0_draftsHalf_9 rfl hl (by decide) rfl (fun ls hl => ?_)
  refine lv_iload_n hx hb dX0_draftsHalf_10 rfl (lv_at hl 3 rfl) ?_
  refine lv_aload_n hx hb dX0_draftsHalf_11 rfl (lv_at hl 1 rfl) ?_
  refine va_get (D := D) (ci := 0) (v := .ref (qa 8)) (C := RX0) (T := TX0) (N := 10) hx hb hts in0 hown hK hP 0 rfl rfl 7 (by decide) l30 (fun _ h9 => h9) rfl dX0_draftsHalf_12 ?_
  refine lv_iload_n hx hb dX0_draftsHalf_15 rfl (lv_at hl 2 rfl) ?_
  refine q_iald hx hb hK hP 1 0 rfl rfl h dX0_draftsHalf_16 (fun t16 h => ?_)
  refine va_mmin hx hb (hml.trans hl.1.symm) hown (hts (.methodLink RX0 53 Lib.Math.min.name) (List.mem_of_getElem? (i := 3) rfl)) (hts (.static Lib.Math.min.name) (List.mem_of_getElem? (i := 4) rfl)) (hts (.initialized "java/lang/Math") (List.mem_of_getElem? (i := 5) rfl)) (hts (.code Lib.Math.min.name Lib.Math.min.code 2 (some .int)) (List.mem_of_getElem? (i := 6) rfl)) (Nat.le_of_ble_eq_true rfl) (Nat.le_of_ble_eq_true rfl) (Nat.zero_le _) (Nat.zero_le _) dX0_draftsHalf_17 ?_
  refine q_let h (fun t17 h => ?_)
  refine lv_istore (lv' := [(4, .int t17), (3, .int x3_9), (0, .ref (qa 0)), (1, .int x1), (2, .int x2)]) hx hb dX0_draftsHalf_20 hl (by decide) rfl (fun ls hl => ?_)
  refine lv_iconst (v := (0 : Int32)) hx hb dX0_draftsHalf_22 (by decide) ?_
  refine lv_aload_n hx hb dX0_draftsHalf_23 rfl (lv_at hl 2 rfl) ?_
  refine va_get (D := D) (ci := 0) (v := .ref (qa 8)) (C := RX0) (T := TX0) (N := 10) hx hb hts in0 hown hK hP 0 rfl rfl 7 (by decide) l30 (fun _ h9 => h9) rfl dX0_draftsHalf_24 ?_
  refine lv_aload_n hx hb dX0_draftsHalf_27 rfl (lv_at hl 2 rfl) ?_
  refine va_get (D := D) (ci := 0) (v := .int a_done) (C := RX0) (T := TX0) (N := 10) hx hb hts in0 hown hK hP 0 rfl rfl 0 (by decide) l39 (fun _ h9 => h9) rfl dX0_draftsHalf_28 ?_
  refine q_iald hx hb hK hP 1 0 rfl rfl h dX0_draftsHalf_31 (fun t31 h => ?_)
  refine lv_iload_n hx hb dX0_draftsHalf_32 rfl (lv_at hl 4 rfl) ?_
  refine lv_isub hx hb dX0_draftsHalf_33 ?_
  refine va_mmax hx hb (hml.trans hl.1.symm) hown (hts (.methodLink RX0 59 Lib.Math.max.name) (List.mem_of_getElem? (i := 7) rfl)) (hts (.static Lib.Math.max.name) (List.mem_of_getElem? (i := 8) rfl)) (hts (.initialized "java/lang/Math") (List.mem_of_getElem? (i := 5) rfl)) (hts (.code Lib.Math.max.name Lib.Math.max.code 2 (some .int)) (List.mem_of_getElem? (i := 9) rfl)) (Nat.le_of_ble_eq_true rfl) (Nat.le_of_ble_eq_true rfl) (Nat.zero_le _) (Nat.zero_le _) dX0_draftsHalf_34 ?_
  refine q_let h (fun t34 h => ?_)
  refine lv_istore (lv' := [(5, .int t34), (4, .int t17), (3, .int x3_9), (0, .ref (qa 0)), (1, .int x1), (2, .int x2)]) hx hb dX0_draftsHalf_37 hl (by decide) rfl (fun ls hl => ?_)
  refine lv_aload_n hx hb dX0_draftsHalf_39 rfl (lv_at hl 3 rfl) ?_
  refine va_get (D := D) (ci := 0) (v := .ref (qa 9)) (C := RX0) (T := TX0) (N := 10) hx hb hts in0 hown hK hP 0 rfl rfl 8 (by decide) l33 (fun _ h9 => h9) rfl dX0_draftsHalf_40 ?_
  refine lv_iload_n hx hb dX0_draftsHalf_43 rfl (lv_at hl 4 rfl) ?_
  refine lv_bipush (v := (20 : Int32)) hx hb dX0_draftsHalf_44 (by decide) ?_
  refine lv_imul hx hb dX0_draftsHalf_46 ?_
  refine lv_aload_n hx hb dX0_draftsHalf_47 rfl (lv_at hl 3 rfl) ?_
  refine va_get (D := D) (ci := 0) (v := .ref (qa 9)) (C := RX0) (T := TX0) (N := 10) hx hb hts in0 hown hK hP 0 rfl rfl 8 (by decide) l33 (fun _ h9 => h9) rfl dX0_draftsHalf_48 ?_
  refine lv_iload_n hx hb dX0_draftsHalf_51 rfl (lv_at hl 2 rfl) ?_
  refine lv_iload hx hb dX0_draftsHalf_52 (lv_at hl 1 rfl) ?_
  refine q_copy hx hb (hml.trans hl.1.symm) hown (hts (.methodLink RX0 43 arraycopyName) (List.mem_of_getElem? (i := 11) rfl)) (hts (.native arraycopyName) (List.mem_of_getElem? (i := 12) rfl)) (hts (.static arraycopyName) (List.mem_of_getElem? (i := 13) rfl)) (hts (.initialized "java/lang/System") (List.mem_of_getElem? (i := 14) rfl)) hK hP hD hS 2 2 rfl rfl (Nat.le_of_ble_eq_true rfl) (by decide +kernel) h dX0_draftsHalf_54 (fun a_cells_54 H locs h hP hD hS => ?_)
  have hP : va_P D vwCl [(qa 0, .inr (0, oX0 qa a_done)), (qa 8, .inl (cI, 61, .inl a_sizes)), (qa 9, .inl (cI, 1220, .inl a_cells_54))] H := hP
  have hD : va_D A [(qa 0, .inr (0, oX0 qa a_done)), (qa 8, .inl (cI, 61, .inl a_sizes)), (qa 9, .inl (cI, 1220, .inl a_cells_54))] := hD
  refine lv_iload hx hb dX0_draftsHalf_57 (lv_at hl 0 rfl) ?_
  refine q_ifle hx hb 88 h dX0_draftsHalf_59 (by decide) (fun h => ?_) (fun h => ?_)
  · exact J88 t17 t34 a_sizes a_cells_54 _ _ _ (lv_sub hl [3, 1, 0] rfl) hP hD hS h
  · refine lv_aload_n hx hb dX0_draftsHalf_62 rfl (lv_at hl 3 rfl) ?_
    refine va_get (D := D) (ci := 0) (v := .ref (qa 9)) (C := RX0) (T := TX0) (N := 10) hx hb hts in0 hown hK hP 0 rfl rfl 8 (by decide) l33 (fun _ h9 => h9) rfl dX0_draftsHalf_63 ?_
    refine lv_aload_n hx hb dX0_draftsHalf_66 rfl (lv_at hl 3 rfl) ?_
    refine va_get (D := D) (ci := 0) (v := .int a_done) (C := RX0) (T := TX0) (N := 10) hx hb hts in0 hown hK hP 0 rfl rfl 0 (by decide) l39 (fun _ h9 => h9) rfl dX0_draftsHalf_67 ?_
    refine lv_bipush (v := (20 : Int32)) hx hb dX0_draftsHalf_70 (by decide) ?_
    refine lv_imul hx hb dX0_draftsHalf_72 ?_
    refine lv_iload_n hx hb dX0_draftsHalf_73 rfl (lv_at hl 5 rfl) ?_
    refine lv_iadd hx hb dX0_draftsHalf_74 ?_
    refine lv_aload_n hx hb dX0_draftsHalf_75 rfl (lv_at hl 3 rfl) ?_
    refine va_get (D := D) (ci := 0) (v := .ref (qa 9)) (C := RX0) (T := TX0) (N := 10) hx hb hts in0 hown hK hP 0 rfl rfl 8 (by decide) l33 (fun _ h9 => h9) rfl dX0_draftsHalf_76 ?_
    refine lv_iload_n hx hb dX0_draftsHalf_79 rfl (lv_at hl 2 rfl) ?_
    refine lv_iload hx hb dX0_draftsHalf_80 (lv_at hl 1 rfl) ?_
    refine lv_iadd hx hb dX0_draftsHalf_82 ?_
    refine lv_iload hx hb dX0_draftsHalf_83 (lv_at hl 0 rfl) ?_
    refine q_copy hx hb (hml.trans hl.1.symm) hown (hts (.methodLink RX0 43 arraycopyName) (List.mem_of_getElem? (i := 11) rfl)) (hts (.native arraycopyName) (List.mem_of_getElem? (i := 12) rfl)) (hts (.static arraycopyName) (List.mem_of_getElem? (i := 13) rfl)) (hts (.initialized "java/lang/System") (List.mem_of_getElem? (i := 14) rfl)) hK hP hD hS 2 2 rfl rfl (Nat.le_of_ble_eq_true rfl) (by decide +kernel) h dX0_draftsHalf_85 (fun a_cells_85 H locs h hP hD hS => ?_)
    have hP : va_P D vwCl [(qa 0, .inr (0, oX0 qa a_done)), (qa 8, .inl (cI, 61, .inl a_sizes)), (qa 9, .inl (cI, 1220, .inl a_cells_85))] H := hP
    have hD : va_D A [(qa 0, .inr (0, oX0 qa a_done)), (qa 8, .inl (cI, 61, .inl a_sizes)), (qa 9, .inl (cI, 1220, .inl a_cells_85))] := hD
    exact J88 t17 t34 a_sizes a_cells_85 _ _ _ (lv_sub hl [3, 1, 0] rfl) hP hD hS h
set_option maxHeartbeats 4000000 in
set_option maxRecDepth 100000 in
theorem c0_draftsMending (l : Launch) (D : va_G) (cI : ClassId) (ad : Nat → Nat) (qa : Nat → Nat) (a_done : Int32) (a_sizes a_cells : Nat → Int32) (x1 : Int32) (x2 : Int32) (u : (Nat → Int32) × (Nat → Int32)) (h : f0_draftsMending x1 x2 a_done a_sizes a_cells = some u) : q_RV (cE ad) l yX0_draftsMending wsX0_draftsMending (rmq (2)) D cI [.ref (qa 0), .int x1, .int x2] [(qa 0, .inr (0, oX0 qa a_done)), (qa 8, .inl (cI, 61, .inl a_sizes)), (qa 9, .inl (cI, 1220, .inl a_cells))] [(qa 0, .inr (0, oX0 qa a_done)), (qa 8, .inl (cI, 61, .inl u.1)), (qa 9, .inl (cI, 1220, .inl u.2))] := by
  refine q_startV (fun u : (Nat → Int32) × (Nat → Int32) => [(qa 0, .inr (0, oX0 qa a_done)), (qa 8, .inl (cI, 61, .inl u.1)), (qa 9, .inl (cI, 1220, .inl u.2))]) (cc := cX0_draftsMending) (maxL := 3) (own := RX0) (by decide) rfl rfl (Nat.le_of_ble_eq_true rfl) rfl (fun p e s m args below meth c Q A hx hb hml hown hts hK hEv hA hret hP hD hS ls hl => ?_)
  have in0 : ∀ w ∈ wsX00, w ∈ wsX0_draftsMending := fun w h => List.mem_cons_of_mem _ (List.mem_append_right _ (h))
  have l33 := hts (.fieldLink RX0 33 "PageWars$Acts" "cells" "[I") (List.mem_of_getElem? (i := 2) rfl)
  have l39 := hts (.fieldLink RX0 39 "PageWars$Acts" "done" "I") (List.mem_of_getElem? (i := 1) rfl)
  unfold f0_draftsMending at h
  refine lv_aload_n hx hb dX0_draftsMending_0 rfl (lv_at hl 0 rfl) ?_
  refine lv_aload_n hx hb dX0_draftsMending_1 rfl (lv_at hl 0 rfl) ?_
  refine va_get (D := D) (ci := 0) (v := .int a_done) (C := RX0) (T := TX0) (N := 10) hx hb hts in0 hown hK hP 0 rfl rfl 0 (by decide) l39 (fun _ h9 => h9) rfl dX0_draftsMending_2 ?_
  refine lv_bipush (v := (20 : Int32)) hx hb dX0_draftsMending_5 (by decide) ?_
  refine q_callV2 (cEok ad) (rest := []) (fun u => [(qa 0, .inr (0, oX0 qa a_done)), (qa 8, .inl (cI, 61, .inl u.1)), (qa 9, .inl (cI, 1220, .inl u.2))]) ⟨hx, hb, hml, hown, hts⟩ (fun u hu => c0_draftsHalf l D cI ad qa a_done a_sizes a_cells a_done ((20 : Int32)) u hu) (cwV 2 hts gX0_draftsMending_X0_draftsHalf rfl rfl rfl hdX0_draftsHalf (rmq_ok (Nat.le_of_ble_eq_true rfl) (Nat.le_of_ble_eq_true rfl))) hK hEv hA hP hD hS [0, 1, 2] (by decide) rfl (fun _ => rfl) (va_recv hK hP (ci := 0) (q0 := 0) rfl rfl) rfl rfl hl.1 (Nat.le_of_ble_eq_true rfl) ⟨Nat.zero_le _, Nat.zero_le _⟩ h dX0_draftsMending_7 (fun a_sizes_7 a_cells_7 H locs h hP hD hS => ?_)
  have hP : va_P D vwCl [(qa 0, .inr (0, oX0 qa a_done)), (qa 8, .inl (cI, 61, .inl a_sizes_7)), (qa 9, .inl (cI, 1220, .inl a_cells_7))] H := hP
  have hD : va_D A [(qa 0, .inr (0, oX0 qa a_done)), (qa 8, .inl (cI, 61, .inl a_sizes_7)), (qa 9, .inl (cI, 1220, .inl a_cells_7))] := hD
  refine lv_aload_n hx hb dX0_draftsMending_10 rfl (lv_at hl 0 rfl) ?_
  refine va_get (D := D) (ci := 0) (v := .ref (qa 9)) (C := RX0) (T := TX0) (N := 10) hx hb hts in0 hown hK hP 0 rfl rfl 8 (by decide) l33 (fun _ h9 => h9) rfl dX0_draftsMending_11 ?_
  refine lv_aload_n hx hb dX0_draftsMending_14 rfl (lv_at hl 0 rfl) ?_
  refine va_get (D := D) (ci := 0) (v := .int a_done) (C := RX0) (T := TX0) (N := 10) hx hb hts in0 hown hK hP 0 rfl rfl 0 (by decide) l39 (fun _ h9 => h9) rfl dX0_draftsMending_15 ?_
  refine lv_iconst (v := (1 : Int32)) hx hb dX0_draftsMending_18 (by decide) ?_
  refine lv_iadd hx hb dX0_draftsMending_19 ?_
  refine lv_bipush (v := (20 : Int32)) hx hb dX0_draftsMending_20 (by decide) ?_
  refine lv_imul hx hb dX0_draftsMending_22 ?_
  refine lv_iload_n hx hb dX0_draftsMending_23 rfl (lv_at hl 1 rfl) ?_
  refine lv_iadd hx hb dX0_draftsMending_24 ?_
  refine lv_aload_n hx hb dX0_draftsMending_25 rfl (lv_at hl 0 rfl) ?_
  refine va_get (D := D) (ci := 0) (v := .int a_done) (C := RX0) (T := TX0) (N := 10) hx hb hts in0 hown hK hP 0 rfl rfl 0 (by decide) l39 (fun _ h9 => h9) rfl dX0_draftsMending_26 ?_
  refine lv_bipush (v := (6 : Int32)) hx hb dX0_draftsMending_29 (by decide) ?_
  refine lv_ishl hx hb dX0_draftsMending_31 ?_
  refine lv_iload_n hx hb dX0_draftsMending_32 rfl (lv_at hl 2 rfl) ?_
  refine lv_ior hx hb dX0_draftsMending_33 ?_
  refine q_iast hx hb hK hP hD hS 2 0 rfl rfl h dX0_draftsMending_34 (fun a_cells_34 H locs h hP hD hS => ?_)
  have hP : va_P D vwCl [(qa 0, .inr (0, oX0 qa a_done)), (qa 8, .inl (cI, 61, .inl a_sizes_7)), (qa 9, .inl (cI, 1220, .inl a_cells_34))] H := hP
  have hD : va_D A [(qa 0, .inr (0, oX0 qa a_done)), (qa 8, .inl (cI, 61, .inl a_sizes_7)), (qa 9, .inl (cI, 1220, .inl a_cells_34))] := hD
  exact hret (a_sizes_7, a_cells_34) _ _ _ _ h hP hD hS dX0_draftsMending_35
set_option maxHeartbeats 4000000 in
set_option maxRecDepth 100000 in
theorem c0_draftsPutting (l : Launch) (D : va_G) (cI : ClassId) (ad : Nat → Nat) (qa : Nat → Nat) (a_done : Int32) (a_sizes a_cells : Nat → Int32) (x1 : Int32) (x2 : Int32) (u : (Nat → Int32) × (Nat → Int32)) (h : f0_draftsPutting x1 x2 a_done a_sizes a_cells = some u) : q_RV (cE ad) l yX0_draftsPutting wsX0_draftsPutting (rmq (1)) D cI [.ref (qa 0), .int x1, .int x2] [(qa 0, .inr (0, oX0 qa a_done)), (qa 8, .inl (cI, 61, .inl a_sizes)), (qa 9, .inl (cI, 1220, .inl a_cells))] [(qa 0, .inr (0, oX0 qa a_done)), (qa 8, .inl (cI, 61, .inl u.1)), (qa 9, .inl (cI, 1220, .inl u.2))] := by
  refine q_startV (fun u : (Nat → Int32) × (Nat → Int32) => [(qa 0, .inr (0, oX0 qa a_done)), (qa 8, .inl (cI, 61, .inl u.1)), (qa 9, .inl (cI, 1220, .inl u.2))]) (cc := cX0_draftsPutting) (maxL := 6) (own := RX0) (by decide) rfl rfl (Nat.le_of_ble_eq_true rfl) rfl (fun p e s m args below meth c Q A hx hb hml hown hts hK hEv hA hret hP hD hS ls hl => ?_)
  have in0 : ∀ w ∈ wsX00, w ∈ wsX0_draftsPutting := fun w h => List.mem_cons_of_mem _ (List.mem_append_right _ (h))
  have l30 := hts (.fieldLink RX0 30 "PageWars$Acts" "sizes" "[I") (List.mem_of_getElem? (i := 2) rfl)
  have l33 := hts (.fieldLink RX0 33 "PageWars$Acts" "cells" "[I") (List.mem_of_getElem? (i := 3) rfl)
  have l39 := hts (.fieldLink RX0 39 "PageWars$Acts" "done" "I") (List.mem_of_getElem? (i := 1) rfl)
  unfold f0_draftsPutting at h
  refine lv_aload_n hx hb dX0_draftsPutting_0 rfl (lv_at hl 0 rfl) ?_
  refine va_get (D := D) (ci := 0) (v := .int a_done) (C := RX0) (T := TX0) (N := 10) hx hb hts in0 hown hK hP 0 rfl rfl 0 (by decide) l39 (fun _ h9 => h9) rfl dX0_draftsPutting_1 ?_
  refine lv_bipush (v := (20 : Int32)) hx hb dX0_draftsPutting_4 (by decide) ?_
  refine lv_imul hx hb dX0_draftsPutting_6 ?_
  refine q_let h (fun x3_7 h => ?_)
  refine lv_istore_n (lv' := [(3, .int x3_7), (0, .ref (qa 0)), (1, .int x1), (2, .int x2)]) hx hb dX0_draftsPutting_7 rfl hl (by decide) rfl (fun ls hl => ?_)
  refine lv_iload_n hx hb dX0_draftsPutting_8 rfl (lv_at hl 0 rfl) ?_
  refine lv_bipush (v := (20 : Int32)) hx hb dX0_draftsPutting_9 (by decide) ?_
  refine lv_iadd hx hb dX0_draftsPutting_11 ?_
  refine q_let h (fun x4_12 h => ?_)
  refine lv_istore (lv' := [(4, .int x4_12), (3, .int x3_7), (0, .ref (qa 0)), (1, .int x1), (2, .int x2)]) hx hb dX0_draftsPutting_12 hl (by decide) rfl (fun ls hl => ?_)
  refine lv_aload_n hx hb dX0_draftsPutting_14 rfl (lv_at hl 2 rfl) ?_
  refine va_get (D := D) (ci := 0) (v := .ref (qa 8)) (C := RX0) (T := TX0) (N := 10) hx hb hts in0 hown hK hP 0 rfl rfl 7 (by decide) l30 (fun _ h9 => h9) rfl dX0_draftsPutting_15 ?_
  refine lv_aload_n hx hb dX0_draftsPutting_18 rfl (lv_at hl 2 rfl) ?_
  refine va_get (D := D) (ci := 0) (v := .int a_done) (C := RX0) (T := TX0) (N := 10) hx hb hts in0 hown hK hP 0 rfl rfl 0 (by decide) l39 (fun _ h9 => h9) rfl dX0_draftsPutting_19 ?_
  refine q_iald hx hb hK hP 1 0 rfl rfl h dX0_draftsPutting_22 (fun t22 h => ?_)
  refine lv_istore (lv' := [(5, .int t22), (4, .int x4_12), (3, .int x3_7), (0, .ref (qa 0)), (1, .int x1), (2, .int x2)]) hx hb dX0_draftsPutting_23 hl (by decide) rfl (fun ls hl => ?_)
  refine lv_aload_n hx hb dX0_draftsPutting_25 rfl (lv_at hl 3 rfl) ?_
  refine va_get (D := D) (ci := 0) (v := .ref (qa 9)) (C := RX0) (T := TX0) (N := 10) hx hb hts in0 hown hK hP 0 rfl rfl 8 (by decide) l33 (fun _ h9 => h9) rfl dX0_draftsPutting_26 ?_
  refine lv_iload_n hx hb dX0_draftsPutting_29 rfl (lv_at hl 2 rfl) ?_
  refine lv_aload_n hx hb dX0_draftsPutting_30 rfl (lv_at hl 3 rfl) ?_
  refine va_get (D := D) (ci := 0) (v := .ref (qa 9)) (C := RX0) (T := TX0) (N := 10) hx hb hts in0 hown hK hP 0 rfl rfl 8 (by decide) l33 (fun _ h9 => h9) rfl dX0_draftsPutting_31 ?_
  refine lv_iload hx hb dX0_draftsPutting_34 (lv_at hl 1 rfl) ?_
  refine lv_iload_n hx hb dX0_draftsPutting_36 rfl (lv_at hl 4 rfl) ?_
  refine q_copy hx hb (hml.trans hl.1.symm) hown (hts (.methodLink RX0 43 arraycopyName) (List.mem_of_getElem? (i := 4) rfl)) (hts (.native arraycopyName) (List.mem_of_getElem? (i := 5) rfl)) (hts (.static arraycopyName) (List.mem_of_getElem? (i := 6) rfl)) (hts (.initialized "java/lang/System") (List.mem_of_getElem? (i := 7) rfl)) hK hP hD hS 2 2 rfl rfl (Nat.le_of_ble_eq_true rfl) (by decide +kernel) h dX0_draftsPutting_37 (fun a_cells_37 H locs h hP hD hS => ?_)
  have hP : va_P D vwCl [(qa 0, .inr (0, oX0 qa a_done)), (qa 8, .inl (cI, 61, .inl a_sizes)), (qa 9, .inl (cI, 1220, .inl a_cells_37))] H := hP
  have hD : va_D A [(qa 0, .inr (0, oX0 qa a_done)), (qa 8, .inl (cI, 61, .inl a_sizes)), (qa 9, .inl (cI, 1220, .inl a_cells_37))] := hD
  refine lv_aload_n hx hb dX0_draftsPutting_40 rfl (lv_at hl 3 rfl) ?_
  refine va_get (D := D) (ci := 0) (v := .ref (qa 9)) (C := RX0) (T := TX0) (N := 10) hx hb hts in0 hown hK hP 0 rfl rfl 8 (by decide) l33 (fun _ h9 => h9) rfl dX0_draftsPutting_41 ?_
  refine lv_iload_n hx hb dX0_draftsPutting_44 rfl (lv_at hl 2 rfl) ?_
  refine lv_iload_n hx hb dX0_draftsPutting_45 rfl (lv_at hl 4 rfl) ?_
  refine lv_iadd hx hb dX0_draftsPutting_46 ?_
  refine lv_aload_n hx hb dX0_draftsPutting_47 rfl (lv_at hl 3 rfl) ?_
  refine va_get (D := D) (ci := 0) (v := .ref (qa 9)) (C := RX0) (T := TX0) (N := 10) hx hb hts in0 hown hK hP 0 rfl rfl 8 (by decide) l33 (fun _ h9 => h9) rfl dX0_draftsPutting_48 ?_
  refine lv_iload hx hb dX0_draftsPutting_51 (lv_at hl 1 rfl) ?_
  refine lv_iload_n hx hb dX0_draftsPutting_53 rfl (lv_at hl 4 rfl) ?_
  refine lv_iadd hx hb dX0_draftsPutting_54 ?_
  refine lv_iconst (v := (1 : Int32)) hx hb dX0_draftsPutting_55 (by decide) ?_
  refine lv_iadd hx hb dX0_draftsPutting_56 ?_
  refine lv_iload hx hb dX0_draftsPutting_57 (lv_at hl 0 rfl) ?_
  refine lv_iload_n hx hb dX0_draftsPutting_59 rfl (lv_at hl 4 rfl) ?_
  refine lv_isub hx hb dX0_draftsPutting_60 ?_
  refine q_copy hx hb (hml.trans hl.1.symm) hown (hts (.methodLink RX0 43 arraycopyName) (List.mem_of_getElem? (i := 4) rfl)) (hts (.native arraycopyName) (List.mem_of_getElem? (i := 5) rfl)) (hts (.static arraycopyName) (List.mem_of_getElem? (i := 6) rfl)) (hts (.initialized "java/lang/System") (List.mem_of_getElem? (i := 7) rfl)) hK hP hD hS 2 2 rfl rfl (Nat.le_of_ble_eq_true rfl) (by decide +kernel) h dX0_draftsPutting_61 (fun a_cells_61 H locs h hP hD hS => ?_)
  have hP : va_P D vwCl [(qa 0, .inr (0, oX0 qa a_done)), (qa 8, .inl (cI, 61, .inl a_sizes)), (qa 9, .inl (cI, 1220, .inl a_cells_61))] H := hP
  have hD : va_D A [(qa 0, .inr (0, oX0 qa a_done)), (qa 8, .inl (cI, 61, .inl a_sizes)), (qa 9, .inl (cI, 1220, .inl a_cells_61))] := hD
  refine lv_aload_n hx hb dX0_draftsPutting_64 rfl (lv_at hl 3 rfl) ?_
  refine va_get (D := D) (ci := 0) (v := .ref (qa 9)) (C := RX0) (T := TX0) (N := 10) hx hb hts in0 hown hK hP 0 rfl rfl 8 (by decide) l33 (fun _ h9 => h9) rfl dX0_draftsPutting_65 ?_
  refine lv_iload hx hb dX0_draftsPutting_68 (lv_at hl 1 rfl) ?_
  refine lv_iload_n hx hb dX0_draftsPutting_70 rfl (lv_at hl 4 rfl) ?_
  refine lv_iadd hx hb dX0_draftsPutting_71 ?_
  refine lv_aload_n hx hb dX0_draftsPutting_72 rfl (lv_at hl 3 rfl) ?_
  refine va_get (D := D) (ci := 0) (v := .int a_done) (C := RX0) (T := TX0) (N := 10) hx hb hts in0 hown hK hP 0 rfl rfl 0 (by decide) l39 (fun _ h9 => h9) rfl dX0_draftsPutting_73 ?_
  refine lv_bipush (v := (6 : Int32)) hx hb dX0_draftsPutting_76 (by decide) ?_
  refine lv_ishl hx hb dX0_draftsPutting_78 ?_
  refine lv_iload_n hx hb dX0_draftsPutting_79 rfl (lv_at hl 5 rfl) ?_
  refine lv_ior hx hb dX0_draftsPutting_80 ?_
  refine q_iast hx hb hK hP hD hS 2 0 rfl rfl h dX0_draftsPutting_81 (fun a_cells_81 H locs h hP hD hS => ?_)
  have hP : va_P D vwCl [(qa 0, .inr (0, oX0 qa a_done)), (qa 8, .inl (cI, 61, .inl a_sizes)), (qa 9, .inl (cI, 1220, .inl a_cells_81))] H := hP
  have hD : va_D A [(qa 0, .inr (0, oX0 qa a_done)), (qa 8, .inl (cI, 61, .inl a_sizes)), (qa 9, .inl (cI, 1220, .inl a_cells_81))] := hD
  refine lv_aload_n hx hb dX0_draftsPutting_82 rfl (lv_at hl 3 rfl) ?_
  refine va_get (D := D) (ci := 0) (v := .ref (qa 8)) (C := RX0) (T := TX0) (N := 10) hx hb hts in0 hown hK hP 0 rfl rfl 7 (by decide) l30 (fun _ h9 => h9) rfl dX0_draftsPutting_83 ?_
  refine lv_aload_n hx hb dX0_draftsPutting_86 rfl (lv_at hl 3 rfl) ?_
  refine va_get (D := D) (ci := 0) (v := .int a_done) (C := RX0) (T := TX0) (N := 10) hx hb hts in0 hown hK hP 0 rfl rfl 0 (by decide) l39 (fun _ h9 => h9) rfl dX0_draftsPutting_87 ?_
  refine lv_iconst (v := (1 : Int32)) hx hb dX0_draftsPutting_90 (by decide) ?_
  refine lv_iadd hx hb dX0_draftsPutting_91 ?_
  refine lv_iload hx hb dX0_draftsPutting_92 (lv_at hl 0 rfl) ?_
  refine lv_iconst (v := (1 : Int32)) hx hb dX0_draftsPutting_94 (by decide) ?_
  refine lv_iadd hx hb dX0_draftsPutting_95 ?_
  refine q_iast hx hb hK hP hD hS 1 0 rfl rfl h dX0_draftsPutting_96 (fun a_sizes_96 H locs h hP hD hS => ?_)
  have hP : va_P D vwCl [(qa 0, .inr (0, oX0 qa a_done)), (qa 8, .inl (cI, 61, .inl a_sizes_96)), (qa 9, .inl (cI, 1220, .inl a_cells_81))] H := hP
  have hD : va_D A [(qa 0, .inr (0, oX0 qa a_done)), (qa 8, .inl (cI, 61, .inl a_sizes_96)), (qa 9, .inl (cI, 1220, .inl a_cells_81))] := hD
  exact hret (a_sizes_96, a_cells_81) _ _ _ _ h hP hD hS dX0_draftsPutting_97
set_option maxHeartbeats 4000000 in
set_option maxRecDepth 100000 in
theorem c0_wordAt (l : Launch) (D : va_G) (cI : ClassId) (ad : Nat → Nat) (qa : Nat → Nat) (a_done : Int32) (a_cells : Nat → Int32) (x1 : Int32) (x2 : Int32) (u : Int32) (h : f0_wordAt x1 x2 a_cells = some u) : q_RO (cE ad) l yX0_wordAt wsX0_wordAt (rmq (0)) D cI [.ref (qa 0), .int x1, .int x2] [(qa 0, .inr (0, oX0 qa a_done)), (qa 9, .inl (cI, 1220, .inl a_cells))] u := by
  refine q_startR (cc := cX0_wordAt) (maxL := 3) (ty := .int) (own := RX0) (by decide) rfl rfl (Nat.le_of_ble_eq_true rfl) rfl (fun p e s m args below meth c Q hx hb hml hown hts hP hK hEv hret ls hl => ?_)
  have in0 : ∀ w ∈ wsX00, w ∈ wsX0_wordAt := fun w h => List.mem_cons_of_mem _ (List.mem_append_right _ (h))
  have l33 := hts (.fieldLink RX0 33 "PageWars$Acts" "cells" "[I") (List.mem_of_getElem? (i := 1) rfl)
  unfold f0_wordAt at h
  refine lv_aload_n hx hb dX0_wordAt_0 rfl (lv_at hl 0 rfl) ?_
  refine va_get (D := D) (ci := 0) (v := .ref (qa 9)) (C := RX0) (T := TX0) (N := 10) hx hb hts in0 hown hK hP 0 rfl rfl 8 (by decide) l33 (fun _ h9 => h9) rfl dX0_wordAt_1 ?_
  refine lv_iload_n hx hb dX0_wordAt_4 rfl (lv_at hl 1 rfl) ?_
  refine lv_bipush (v := (20 : Int32)) hx hb dX0_wordAt_5 (by decide) ?_
  refine lv_imul hx hb dX0_wordAt_7 ?_
  refine lv_iload_n hx hb dX0_wordAt_8 rfl (lv_at hl 2 rfl) ?_
  refine lv_iadd hx hb dX0_wordAt_9 ?_
  refine q_iald hx hb hK hP 1 0 rfl rfl h dX0_wordAt_10 (fun t10 h => ?_)
  refine lv_bipush (v := (63 : Int32)) hx hb dX0_wordAt_11 (by decide) ?_
  refine lv_iand hx hb dX0_wordAt_13 ?_
  exact hret _ _ _ (vp_nar_int _) h dX0_wordAt_14
set_option maxHeartbeats 4000000 in
set_option maxRecDepth 100000 in
theorem c0_areAlike (l : Launch) (D : va_G) (cI : ClassId) (ad : Nat → Nat) (qa : Nat → Nat) (a_done : Int32) (a_sizes a_cells : Nat → Int32) (x1 : Int32) (x2 : Int32) (n : Nat) (u : Int32) (h : f0_areAlike n x1 x2 a_sizes a_cells = some u) : q_RO (cE ad) l yX0_areAlike wsX0_areAlike (rmq (1)) D cI [.ref (qa 0), .int x1, .int x2] [(qa 0, .inr (0, oX0 qa a_done)), (qa 8, .inl (cI, 61, .inl a_sizes)), (qa 9, .inl (cI, 1220, .inl a_cells))] u := by
  refine q_startR (cc := cX0_areAlike) (maxL := 4) (ty := .boolean) (own := RX0) (by decide) rfl rfl (Nat.le_of_ble_eq_true rfl) rfl (fun p e s m args below meth c Q hx hb hml hown hts hP hK hEv hret ls hl => ?_)
  have in0 : ∀ w ∈ wsX00, w ∈ wsX0_areAlike := fun w h => List.mem_cons_of_mem _ (List.mem_append_right _ (h))
  have l30 := hts (.fieldLink RX0 30 "PageWars$Acts" "sizes" "[I") (List.mem_of_getElem? (i := 1) rfl)
  have J19 : ∀ (kk19 : Nat) (x1 : Int32) (x2 : Int32) (x3 : Int32) (ls : Array Slot), lv_has ls 4 [(0, .ref (qa 0)), (1, .int x1), (2, .int x2), (3, .int x3)] → f0_areAlike_19 n a_sizes a_cells kk19 x1 x2 x3 = some u → W p l e (rmq (1)) s m args below meth c s.heap [] 0 0 Q (F0 m 19 ls []) := by
    intro kk19
    induction kk19 with
    | zero => intro x1 x2 x3  ls hl h; exact nomatch (show (none : Option (Int32)) = some u from h)
    | succ kk19 ih19 =>
      intro x1 x2 x3  ls hl h
      rw [f0_areAlike_19.eq_2] at h
      refine lv_iload_n hx hb dX0_areAlike_19 rfl (lv_at hl 3 rfl) ?_
      refine lv_aload_n hx hb dX0_areAlike_20 rfl (lv_at hl 0 rfl) ?_
      refine va_get (D := D) (ci := 0) (v := .ref (qa 8)) (C := RX0) (T := TX0) (N := 10) hx hb hts in0 hown hK hP 0 rfl rfl 7 (by decide) l30 (fun _ h9 => h9) rfl dX0_areAlike_21 ?_
      refine lv_iload_n hx hb dX0_areAlike_24 rfl (lv_at hl 1 rfl) ?_
      refine q_iald hx hb hK hP 1 0 rfl rfl h dX0_areAlike_25 (fun t25 h => ?_)
      refine q_cge hx hb 52 h dX0_areAlike_26 (by decide) (fun h => ?_) (fun h => ?_)
      · refine lv_iconst (v := (1 : Int32)) hx hb dX0_areAlike_52 (by decide) ?_
        obtain ⟨hz, h⟩ := q_bz_of h
        exact hret _ _ _ (q_nz hz) h dX0_areAlike_53
      · refine lv_aload_n hx hb dX0_areAlike_29 rfl (lv_at hl 0 rfl) ?_
        refine lv_iload_n hx hb dX0_areAlike_30 rfl (lv_at hl 1 rfl) ?_
        refine lv_iload_n hx hb dX0_areAlike_31 rfl (lv_at hl 3 rfl) ?_
        refine q_callR (cEok ad) (rest := []) ⟨hx, hb, hml, hown, hts⟩ (fun r hr => c0_wordAt l D cI ad qa a_done a_cells x1 x3 r hr) (cwV 2 hts gX0_areAlike_X0_wordAt rfl rfl rfl hdX0_wordAt (rmq_ok (Nat.le_of_ble_eq_true rfl) (Nat.le_of_ble_eq_true rfl))) hK hP hEv va_S.rf [0, 2] rfl (va_recv hK hP (ci := 0) (q0 := 0) rfl rfl) rfl rfl hl.1 (Nat.le_of_ble_eq_true rfl) ⟨Nat.zero_le _, Nat.zero_le _⟩ h dX0_areAlike_32 (fun t32 h => ?_)
        refine lv_aload_n hx hb dX0_areAlike_35 rfl (lv_at hl 0 rfl) ?_
        refine lv_iload_n hx hb dX0_areAlike_36 rfl (lv_at hl 2 rfl) ?_
        refine lv_iload_n hx hb dX0_areAlike_37 rfl (lv_at hl 3 rfl) ?_
        refine q_callR (cEok ad) (rest := [.int t32]) ⟨hx, hb, hml, hown, hts⟩ (fun r hr => c0_wordAt l D cI ad qa a_done a_cells x2 x3 r hr) (cwV 2 hts gX0_areAlike_X0_wordAt rfl rfl rfl hdX0_wordAt (rmq_ok (Nat.le_of_ble_eq_true rfl) (Nat.le_of_ble_eq_true rfl))) hK hP hEv va_S.rf [0, 2] rfl (va_recv hK hP (ci := 0) (q0 := 0) rfl rfl) rfl rfl hl.1 (Nat.le_of_ble_eq_true rfl) ⟨Nat.zero_le _, Nat.zero_le _⟩ h dX0_areAlike_38 (fun t38 h => ?_)
        refine q_ceq hx hb 46 h dX0_areAlike_41 (by decide) (fun h => ?_) (fun h => ?_)
        · refine q_iinc (fun v => [(3, .int v), (0, .ref (qa 0)), (1, .int x1), (2, .int x2)]) hx hb h dX0_areAlike_46 (by decide) hl (k := 3) rfl (by decide) (fun _ => rfl) (fun x3_46 ls h hl => ?_)
          refine lv_goto (tgt := 19) hx hb dX0_areAlike_49 (by decide) ?_
          exact ih19 x1 x2 x3_46 _ (lv_sub hl [1, 2, 3, 0] rfl) h
        · refine lv_iconst (v := (0 : Int32)) hx hb dX0_areAlike_44 (by decide) ?_
          obtain ⟨hz, h⟩ := q_bz_of h
          exact hret _ _ _ (q_nz hz) h dX0_areAlike_45
  unfold f0_areAlike at h
  refine lv_aload_n hx hb dX0_areAlike_0 rfl (lv_at hl 0 rfl) ?_
  refine va_get (D := D) (ci := 0) (v := .ref (qa 8)) (C := RX0) (T := TX0) (N := 10) hx hb hts in0 hown hK hP 0 rfl rfl 7 (by decide) l30 (fun _ h9 => h9) rfl dX0_areAlike_1 ?_
  refine lv_iload_n hx hb dX0_areAlike_4 rfl (lv_at hl 1 rfl) ?_
  refine q_iald hx hb hK hP 1 0 rfl rfl h dX0_areAlike_5 (fun t5 h => ?_)
  refine lv_aload_n hx hb dX0_areAlike_6 rfl (lv_at hl 0 rfl) ?_
  refine va_get (D := D) (ci := 0) (v := .ref (qa 8)) (C := RX0) (T := TX0) (N := 10) hx hb hts in0 hown hK hP 0 rfl rfl 7 (by decide) l30 (fun _ h9 => h9) rfl dX0_areAlike_7 ?_
  refine lv_iload_n hx hb dX0_areAlike_10 rfl (lv_at hl 2 rfl) ?_
  refine q_iald hx hb hK hP 1 0 rfl rfl h dX0_areAlike_11 (fun t11 h => ?_)
  refine q_ceq hx hb 17 h dX0_areAlike_12 (by decide) (fun h => ?_) (fun h => ?_)
  · refine lv_iconst (v := (0 : Int32)) hx hb dX0_areAlike_17 (by decide) ?_
    refine lv_istore_n (lv' := [(3, .int ((0 : Int32))), (0, .ref (qa 0)), (1, .int x1), (2, .int x2)]) hx hb dX0_areAlike_18 rfl hl (by decide) rfl (fun ls hl => ?_)
    exact J19 n x1 x2 ((0 : Int32)) _ (lv_sub hl [1, 2, 3, 0] rfl) h
  · refine lv_iconst (v := (0 : Int32)) hx hb dX0_areAlike_15 (by decide) ?_
    obtain ⟨hz, h⟩ := q_bz_of h
    exact hret _ _ _ (q_nz hz) h dX0_areAlike_16
set_option maxHeartbeats 4000000 in
set_option maxRecDepth 100000 in
theorem c0_records (l : Launch) (D : va_G) (cI : ClassId) (ad : Nat → Nat) (qa : Nat → Nat) (a_done : Int32) (a_kinds a_writers a_minutes a_matters a_undoers a_scores a_sizes a_cells : Nat → Int32) (x1 : Int32) (x2 : Int32) (x3 : Int32) (x4 : Int32) (n : Nat) (u : Int32 × Int32 × (Nat → Int32) × (Nat → Int32) × (Nat → Int32) × (Nat → Int32) × (Nat → Int32) × (Nat → Int32)) (h : f0_records n x1 x2 x3 x4 a_done a_kinds a_writers a_minutes a_matters a_undoers a_scores a_sizes a_cells = some u) : q_RW (cE ad) l yX0_records wsX0_records (rmq (2)) D cI [.ref (qa 0), .int x1, .int x2, .int x3, .int x4] [(qa 0, .inr (0, oX0 qa a_done)), (qa 2, .inl (cI, 60, .inl a_kinds)), (qa 3, .inl (cI, 60, .inl a_writers)), (qa 4, .inl (cI, 60, .inl a_minutes)), (qa 5, .inl (cI, 60, .inl a_matters)), (qa 6, .inl (cI, 60, .inl a_undoers)), (qa 7, .inl (cI, 60, .inl a_scores)), (qa 8, .inl (cI, 61, .inl a_sizes)), (qa 9, .inl (cI, 1220, .inl a_cells))] [(qa 0, .inr (0, oX0 qa u.2.1)), (qa 2, .inl (cI, 60, .inl u.2.2.1)), (qa 3, .inl (cI, 60, .inl u.2.2.2.1)), (qa 4, .inl (cI, 60, .inl u.2.2.2.2.1)), (qa 5, .inl (cI, 60, .inl u.2.2.2.2.2.1)), (qa 6, .inl (cI, 60, .inl u.2.2.2.2.2.2.1)), (qa 7, .inl (cI, 60, .inl u.2.2.2.2.2.2.2)), (qa 8, .inl (cI, 61, .inl a_sizes)), (qa 9, .inl (cI, 1220, .inl a_cells))] u.1 := by
  refine q_startW (fun u : Int32 × Int32 × (Nat → Int32) × (Nat → Int32) × (Nat → Int32) × (Nat → Int32) × (Nat → Int32) × (Nat → Int32) => [(qa 0, .inr (0, oX0 qa u.2.1)), (qa 2, .inl (cI, 60, .inl u.2.2.1)), (qa 3, .inl (cI, 60, .inl u.2.2.2.1)), (qa 4, .inl (cI, 60, .inl u.2.2.2.2.1)), (qa 5, .inl (cI, 60, .inl u.2.2.2.2.2.1)), (qa 6, .inl (cI, 60, .inl u.2.2.2.2.2.2.1)), (qa 7, .inl (cI, 60, .inl u.2.2.2.2.2.2.2)), (qa 8, .inl (cI, 61, .inl a_sizes)), (qa 9, .inl (cI, 1220, .inl a_cells))]) (fun u => u.1) (cc := cX0_records) (maxL := 7) (ty := .int) (own := RX0) (by decide) rfl rfl (Nat.le_of_ble_eq_true rfl) rfl (fun p e s m args below meth c Q A hx hb hml hown hts hK hEv hA hret hP hD hS ls hl => ?_)
  have in0 : ∀ w ∈ wsX00, w ∈ wsX0_records := fun w h => List.mem_cons_of_mem _ (List.mem_append_right _ (h))
  have l9 := hts (.fieldLink RX0 9 "PageWars$Acts" "kinds" "[I") (List.mem_of_getElem? (i := 2) rfl)
  have l15 := hts (.fieldLink RX0 15 "PageWars$Acts" "writers" "[I") (List.mem_of_getElem? (i := 3) rfl)
  have l18 := hts (.fieldLink RX0 18 "PageWars$Acts" "minutes" "[I") (List.mem_of_getElem? (i := 4) rfl)
  have l21 := hts (.fieldLink RX0 21 "PageWars$Acts" "matters" "[I") (List.mem_of_getElem? (i := 5) rfl)
  have l24 := hts (.fieldLink RX0 24 "PageWars$Acts" "undoers" "[I") (List.mem_of_getElem? (i := 6) rfl)
  have l27 := hts (.fieldLink RX0 27 "PageWars$Acts" "scores" "[I") (List.mem_of_getElem? (i := 7) rfl)
  have l39 := hts (.fieldLink RX0 39 "PageWars$Acts" "done" "I") (List.mem_of_getElem? (i := 1) rfl)
  have J66 : ∀ (kk66 : Nat) (x5 : Int32) (x6 : Int32) (a_done : Int32) (a_kinds : (Nat → Int32)) (a_writers : (Nat → Int32)) (a_minutes : (Nat → Int32)) (a_matters : (Nat → Int32)) (a_undoers : (Nat → Int32)) (a_scores : (Nat → Int32)) (H : Heap) (locs : List Loc) (ls : Array Slot), lv_has ls 7 [(0, .ref (qa 0)), (5, .int x5), (6, .int x6)] → va_P D vwCl [(qa 0, .inr (0, oX0 qa a_done)), (qa 2, .inl (cI, 60, .inl a_kinds)), (qa 3, .inl (cI, 60, .inl a_writers)), (qa 4, .inl (cI, 60, .inl a_minutes)), (qa 5, .inl (cI, 60, .inl a_matters)), (qa 6, .inl (cI, 60, .inl a_undoers)), (qa 7, .inl (cI, 60, .inl a_scores)), (qa 8, .inl (cI, 61, .inl a_sizes)), (qa 9, .inl (cI, 1220, .inl a_cells))] H → va_D A [(qa 0, .inr (0, oX0 qa a_done)), (qa 2, .inl (cI, 60, .inl a_kinds)), (qa 3, .inl (cI, 60, .inl a_writers)), (qa 4, .inl (cI, 60, .inl a_minutes)), (qa 5, .inl (cI, 60, .inl a_matters)), (qa 6, .inl (cI, 60, .inl a_undoers)), (qa 7, .inl (cI, 60, .inl a_scores)), (qa 8, .inl (cI, 61, .inl a_sizes)), (qa 9, .inl (cI, 1220, .inl a_cells))] → va_S A s.heap H locs → f0_records_66 n a_sizes a_cells kk66 x5 x6 a_done a_kinds a_writers a_minutes a_matters a_undoers a_scores = some u → W p l e (rmq (2)) s m args below meth c H locs 0 0 Q (F0 m 66 ls []) := by
    intro kk66
    induction kk66 with
    | zero => intro x5 x6 a_done a_kinds a_writers a_minutes a_matters a_undoers a_scores H locs ls hl hP hD hS h; exact nomatch (show (none : Option (Int32 × Int32 × (Nat → Int32) × (Nat → Int32) × (Nat → Int32) × (Nat → Int32) × (Nat → Int32) × (Nat → Int32))) = some u from h)
    | succ kk66 ih66 =>
      have J118 : ∀ (x5 : Int32) (x6 : Int32) (a_done : Int32) (a_kinds : (Nat → Int32)) (a_writers : (Nat → Int32)) (a_minutes : (Nat → Int32)) (a_matters : (Nat → Int32)) (a_undoers : (Nat → Int32)) (a_scores : (Nat → Int32)) (H : Heap) (locs : List Loc) (ls : Array Slot), lv_has ls 7 [(0, .ref (qa 0)), (5, .int x5), (6, .int x6)] → va_P D vwCl [(qa 0, .inr (0, oX0 qa a_done)), (qa 2, .inl (cI, 60, .inl a_kinds)), (qa 3, .inl (cI, 60, .inl a_writers)), (qa 4, .inl (cI, 60, .inl a_minutes)), (qa 5, .inl (cI, 60, .inl a_matters)), (qa 6, .inl (cI, 60, .inl a_undoers)), (qa 7, .inl (cI, 60, .inl a_scores)), (qa 8, .inl (cI, 61, .inl a_sizes)), (qa 9, .inl (cI, 1220, .inl a_cells))] H → va_D A [(qa 0, .inr (0, oX0 qa a_done)), (qa 2, .inl (cI, 60, .inl a_kinds)), (qa 3, .inl (cI, 60, .inl a_writers)), (qa 4, .inl (cI, 60, .inl a_minutes)), (qa 5, .inl (cI, 60, .inl a_matters)), (qa 6, .inl (cI, 60, .inl a_undoers)), (qa 7, .inl (cI, 60, .inl a_scores)), (qa 8, .inl (cI, 61, .inl a_sizes)), (qa 9, .inl (cI, 1220, .inl a_cells))] → va_S A s.heap H locs → f0_records_118 n a_sizes a_cells (f0_records_66 n a_sizes a_cells kk66) x5 x6 a_done a_kinds a_writers a_minutes a_matters a_undoers a_scores = some u → W p l e (rmq (2)) s m args below meth c H locs 0 0 Q (F0 m 118 ls []) := by
        intro x5 x6 a_done a_kinds a_writers a_minutes a_matters a_undoers a_scores H locs ls hl hP hD hS h
        unfold f0_records_118 at h
        refine q_iinc (fun v => [(6, .int v), (0, .ref (qa 0)), (5, .int x5)]) hx hb h dX0_records_118 (by decide) hl (k := 2) rfl (by decide) (fun _ => rfl) (fun x6_118 ls h hl => ?_)
        refine lv_goto (tgt := 66) hx hb dX0_records_121 (by decide) ?_
        exact ih66 x5 x6_118 a_done a_kinds a_writers a_minutes a_matters a_undoers a_scores _ _ _ (lv_sub hl [1, 2, 0] rfl) hP hD hS h
      intro x5 x6 a_done a_kinds a_writers a_minutes a_matters a_undoers a_scores H locs ls hl hP hD hS h
      rw [f0_records_66.eq_2] at h
      refine lv_iload hx hb dX0_records_66 (lv_at hl 2 rfl) ?_
      refine lv_iload hx hb dX0_records_68 (lv_at hl 1 rfl) ?_
      refine q_cge hx hb 124 h dX0_records_70 (by decide) (fun h => ?_) (fun h => ?_)
      · refine lv_iload hx hb dX0_records_124 (lv_at hl 1 rfl) ?_
        exact hret (x5, a_done, a_kinds, a_writers, a_minutes, a_matters, a_undoers, a_scores) _ _ _ _ (vp_nar_int _) h hP hD hS dX0_records_126
      · refine lv_aload_n hx hb dX0_records_73 rfl (lv_at hl 0 rfl) ?_
        refine va_get (D := D) (ci := 0) (v := .ref (qa 6)) (C := RX0) (T := TX0) (N := 10) hx hb hts in0 hown hK hP 0 rfl rfl 5 (by decide) l24 (fun _ h9 => h9) rfl dX0_records_74 ?_
        refine lv_iload hx hb dX0_records_77 (lv_at hl 2 rfl) ?_
        refine q_iald hx hb hK hP 5 0 rfl rfl h dX0_records_79 (fun t79 h => ?_)
        refine q_ifge hx hb 118 h dX0_records_80 (by decide) (fun h => ?_) (fun h => ?_)
        · exact J118 x5 x6 a_done a_kinds a_writers a_minutes a_matters a_undoers a_scores _ _ _ (lv_sub hl [0, 1, 2] rfl) hP hD hS h
        · refine lv_aload_n hx hb dX0_records_83 rfl (lv_at hl 0 rfl) ?_
          refine lv_iload hx hb dX0_records_84 (lv_at hl 2 rfl) ?_
          refine lv_iload hx hb dX0_records_86 (lv_at hl 2 rfl) ?_
          refine lv_iconst (v := (1 : Int32)) hx hb dX0_records_88 (by decide) ?_
          refine lv_iadd hx hb dX0_records_89 ?_
          refine q_callR (cEok ad) (rest := []) ⟨hx, hb, hml, hown, hts⟩ (fun r hr => c0_areAlike l D cI ad qa a_done a_sizes a_cells x6 (x6 + ((1 : Int32))) n r hr) (cwV 2 hts gX0_records_X0_areAlike rfl rfl rfl hdX0_areAlike (rmq_ok (Nat.le_of_ble_eq_true rfl) (Nat.le_of_ble_eq_true rfl))) hK hP hEv hS [0, 7, 8] rfl (va_recv hK hP (ci := 0) (q0 := 0) rfl rfl) rfl rfl hl.1 (Nat.le_of_ble_eq_true rfl) ⟨Nat.zero_le _, Nat.zero_le _⟩ h dX0_records_90 (fun t90 h => ?_)
          refine q_ifne hx hb 118 h dX0_records_93 (by decide) (fun h => ?_) (fun h => ?_)
          · exact J118 x5 x6 a_done a_kinds a_writers a_minutes a_matters a_undoers a_scores _ _ _ (lv_sub hl [0, 1, 2] rfl) hP hD hS h
          · refine lv_aload_n hx hb dX0_records_96 rfl (lv_at hl 0 rfl) ?_
            refine lv_iload hx hb dX0_records_97 (lv_at hl 2 rfl) ?_
            refine lv_aload_n hx hb dX0_records_99 rfl (lv_at hl 0 rfl) ?_
            refine va_get (D := D) (ci := 0) (v := .int a_done) (C := RX0) (T := TX0) (N := 10) hx hb hts in0 hown hK hP 0 rfl rfl 0 (by decide) l39 (fun _ h9 => h9) rfl dX0_records_100 ?_
            refine q_callR (cEok ad) (rest := []) ⟨hx, hb, hml, hown, hts⟩ (fun r hr => c0_areAlike l D cI ad qa a_done a_sizes a_cells x6 a_done n r hr) (cwV 2 hts gX0_records_X0_areAlike rfl rfl rfl hdX0_areAlike (rmq_ok (Nat.le_of_ble_eq_true rfl) (Nat.le_of_ble_eq_true rfl))) hK hP hEv hS [0, 7, 8] rfl (va_recv hK hP (ci := 0) (q0 := 0) rfl rfl) rfl rfl hl.1 (Nat.le_of_ble_eq_true rfl) ⟨Nat.zero_le _, Nat.zero_le _⟩ h dX0_records_103 (fun t103 h => ?_)
            refine q_ifeq hx hb 118 h dX0_records_106 (by decide) (fun h => ?_) (fun h => ?_)
            · exact J118 x5 x6 a_done a_kinds a_writers a_minutes a_matters a_undoers a_scores _ _ _ (lv_sub hl [0, 1, 2] rfl) hP hD hS h
            · refine lv_aload_n hx hb dX0_records_109 rfl (lv_at hl 0 rfl) ?_
              refine va_get (D := D) (ci := 0) (v := .ref (qa 6)) (C := RX0) (T := TX0) (N := 10) hx hb hts in0 hown hK hP 0 rfl rfl 5 (by decide) l24 (fun _ h9 => h9) rfl dX0_records_110 ?_
              refine lv_iload hx hb dX0_records_113 (lv_at hl 2 rfl) ?_
              refine lv_iload hx hb dX0_records_115 (lv_at hl 1 rfl) ?_
              refine q_iast hx hb hK hP hD hS 5 0 rfl rfl h dX0_records_117 (fun a_undoers_117 H locs h hP hD hS => ?_)
              have hP : va_P D vwCl [(qa 0, .inr (0, oX0 qa a_done)), (qa 2, .inl (cI, 60, .inl a_kinds)), (qa 3, .inl (cI, 60, .inl a_writers)), (qa 4, .inl (cI, 60, .inl a_minutes)), (qa 5, .inl (cI, 60, .inl a_matters)), (qa 6, .inl (cI, 60, .inl a_undoers_117)), (qa 7, .inl (cI, 60, .inl a_scores)), (qa 8, .inl (cI, 61, .inl a_sizes)), (qa 9, .inl (cI, 1220, .inl a_cells))] H := hP
              have hD : va_D A [(qa 0, .inr (0, oX0 qa a_done)), (qa 2, .inl (cI, 60, .inl a_kinds)), (qa 3, .inl (cI, 60, .inl a_writers)), (qa 4, .inl (cI, 60, .inl a_minutes)), (qa 5, .inl (cI, 60, .inl a_matters)), (qa 6, .inl (cI, 60, .inl a_undoers_117)), (qa 7, .inl (cI, 60, .inl a_scores)), (qa 8, .inl (cI, 61, .inl a_sizes)), (qa 9, .inl (cI, 1220, .inl a_cells))] := hD
              exact J118 x5 x6 a_done a_kinds a_writers a_minutes a_matters a_undoers_117 a_scores _ _ _ (lv_sub hl [0, 1, 2] rfl) hP hD hS h
  unfold f0_records at h
  refine lv_aload_n hx hb dX0_records_0 rfl (lv_at hl 0 rfl) ?_
  refine va_get (D := D) (ci := 0) (v := .int a_done) (C := RX0) (T := TX0) (N := 10) hx hb hts in0 hown hK hP 0 rfl rfl 0 (by decide) l39 (fun _ h9 => h9) rfl dX0_records_1 ?_
  refine lv_istore (lv' := [(5, .int a_done), (0, .ref (qa 0)), (1, .int x1), (2, .int x2), (3, .int x3), (4, .int x4)]) hx hb dX0_records_4 hl (by decide) rfl (fun ls hl => ?_)
  refine lv_aload_n hx hb dX0_records_6 rfl (lv_at hl 1 rfl) ?_
  refine va_get (D := D) (ci := 0) (v := .ref (qa 2)) (C := RX0) (T := TX0) (N := 10) hx hb hts in0 hown hK hP 0 rfl rfl 1 (by decide) l9 (fun _ h9 => h9) rfl dX0_records_7 ?_
  refine lv_iload hx hb dX0_records_10 (lv_at hl 0 rfl) ?_
  refine lv_iload_n hx hb dX0_records_12 rfl (lv_at hl 2 rfl) ?_
  refine q_iast hx hb hK hP hD hS 1 0 rfl rfl h dX0_records_13 (fun a_kinds_13 H locs h hP hD hS => ?_)
  have hP : va_P D vwCl [(qa 0, .inr (0, oX0 qa a_done)), (qa 2, .inl (cI, 60, .inl a_kinds_13)), (qa 3, .inl (cI, 60, .inl a_writers)), (qa 4, .inl (cI, 60, .inl a_minutes)), (qa 5, .inl (cI, 60, .inl a_matters)), (qa 6, .inl (cI, 60, .inl a_undoers)), (qa 7, .inl (cI, 60, .inl a_scores)), (qa 8, .inl (cI, 61, .inl a_sizes)), (qa 9, .inl (cI, 1220, .inl a_cells))] H := hP
  have hD : va_D A [(qa 0, .inr (0, oX0 qa a_done)), (qa 2, .inl (cI, 60, .inl a_kinds_13)), (qa 3, .inl (cI, 60, .inl a_writers)), (qa 4, .inl (cI, 60, .inl a_minutes)), (qa 5, .inl (cI, 60, .inl a_matters)), (qa 6, .inl (cI, 60, .inl a_undoers)), (qa 7, .inl (cI, 60, .inl a_scores)), (qa 8, .inl (cI, 61, .inl a_sizes)), (qa 9, .inl (cI, 1220, .inl a_cells))] := hD
  refine lv_aload_n hx hb dX0_records_14 rfl (lv_at hl 1 rfl) ?_
  refine va_get (D := D) (ci := 0) (v := .ref (qa 3)) (C := RX0) (T := TX0) (N := 10) hx hb hts in0 hown hK hP 0 rfl rfl 2 (by decide) l15 (fun _ h9 => h9) rfl dX0_records_15 ?_
  refine lv_iload hx hb dX0_records_18 (lv_at hl 0 rfl) ?_
  refine lv_iload_n hx hb dX0_records_20 rfl (lv_at hl 3 rfl) ?_
  refine q_iast hx hb hK hP hD hS 2 0 rfl rfl h dX0_records_21 (fun a_writers_21 H locs h hP hD hS => ?_)
  have hP : va_P D vwCl [(qa 0, .inr (0, oX0 qa a_done)), (qa 2, .inl (cI, 60, .inl a_kinds_13)), (qa 3, .inl (cI, 60, .inl a_writers_21)), (qa 4, .inl (cI, 60, .inl a_minutes)), (qa 5, .inl (cI, 60, .inl a_matters)), (qa 6, .inl (cI, 60, .inl a_undoers)), (qa 7, .inl (cI, 60, .inl a_scores)), (qa 8, .inl (cI, 61, .inl a_sizes)), (qa 9, .inl (cI, 1220, .inl a_cells))] H := hP
  have hD : va_D A [(qa 0, .inr (0, oX0 qa a_done)), (qa 2, .inl (cI, 60, .inl a_kinds_13)), (qa 3, .inl (cI, 60, .inl a_writers_21)), (qa 4, .inl (cI, 60, .inl a_minutes)), (qa 5, .inl (cI, 60, .inl a_matters)), (qa 6, .inl (cI, 60, .inl a_undoers)), (qa 7, .inl (cI, 60, .inl a_scores)), (qa 8, .inl (cI, 61, .inl a_sizes)), (qa 9, .inl (cI, 1220, .inl a_cells))] := hD
  refine lv_aload_n hx hb dX0_records_22 rfl (lv_at hl 1 rfl) ?_
  refine va_get (D := D) (ci := 0) (v := .ref (qa 4)) (C := RX0) (T := TX0) (N := 10) hx hb hts in0 hown hK hP 0 rfl rfl 3 (by decide) l18 (fun _ h9 => h9) rfl dX0_records_23 ?_
  refine lv_iload hx hb dX0_records_26 (lv_at hl 0 rfl) ?_
  refine lv_iload_n hx hb dX0_records_28 rfl (lv_at hl 4 rfl) ?_
  refine q_iast hx hb hK hP hD hS 3 0 rfl rfl h dX0_records_29 (fun a_minutes_29 H locs h hP hD hS => ?_)
  have hP : va_P D vwCl [(qa 0, .inr (0, oX0 qa a_done)), (qa 2, .inl (cI, 60, .inl a_kinds_13)), (qa 3, .inl (cI, 60, .inl a_writers_21)), (qa 4, .inl (cI, 60, .inl a_minutes_29)), (qa 5, .inl (cI, 60, .inl a_matters)), (qa 6, .inl (cI, 60, .inl a_undoers)), (qa 7, .inl (cI, 60, .inl a_scores)), (qa 8, .inl (cI, 61, .inl a_sizes)), (qa 9, .inl (cI, 1220, .inl a_cells))] H := hP
  have hD : va_D A [(qa 0, .inr (0, oX0 qa a_done)), (qa 2, .inl (cI, 60, .inl a_kinds_13)), (qa 3, .inl (cI, 60, .inl a_writers_21)), (qa 4, .inl (cI, 60, .inl a_minutes_29)), (qa 5, .inl (cI, 60, .inl a_matters)), (qa 6, .inl (cI, 60, .inl a_undoers)), (qa 7, .inl (cI, 60, .inl a_scores)), (qa 8, .inl (cI, 61, .inl a_sizes)), (qa 9, .inl (cI, 1220, .inl a_cells))] := hD
  refine lv_aload_n hx hb dX0_records_30 rfl (lv_at hl 1 rfl) ?_
  refine va_get (D := D) (ci := 0) (v := .ref (qa 5)) (C := RX0) (T := TX0) (N := 10) hx hb hts in0 hown hK hP 0 rfl rfl 4 (by decide) l21 (fun _ h9 => h9) rfl dX0_records_31 ?_
  refine lv_iload hx hb dX0_records_34 (lv_at hl 0 rfl) ?_
  refine lv_iload hx hb dX0_records_36 (lv_at hl 5 rfl) ?_
  refine q_iast hx hb hK hP hD hS 4 0 rfl rfl h dX0_records_38 (fun a_matters_38 H locs h hP hD hS => ?_)
  have hP : va_P D vwCl [(qa 0, .inr (0, oX0 qa a_done)), (qa 2, .inl (cI, 60, .inl a_kinds_13)), (qa 3, .inl (cI, 60, .inl a_writers_21)), (qa 4, .inl (cI, 60, .inl a_minutes_29)), (qa 5, .inl (cI, 60, .inl a_matters_38)), (qa 6, .inl (cI, 60, .inl a_undoers)), (qa 7, .inl (cI, 60, .inl a_scores)), (qa 8, .inl (cI, 61, .inl a_sizes)), (qa 9, .inl (cI, 1220, .inl a_cells))] H := hP
  have hD : va_D A [(qa 0, .inr (0, oX0 qa a_done)), (qa 2, .inl (cI, 60, .inl a_kinds_13)), (qa 3, .inl (cI, 60, .inl a_writers_21)), (qa 4, .inl (cI, 60, .inl a_minutes_29)), (qa 5, .inl (cI, 60, .inl a_matters_38)), (qa 6, .inl (cI, 60, .inl a_undoers)), (qa 7, .inl (cI, 60, .inl a_scores)), (qa 8, .inl (cI, 61, .inl a_sizes)), (qa 9, .inl (cI, 1220, .inl a_cells))] := hD
  refine lv_aload_n hx hb dX0_records_39 rfl (lv_at hl 1 rfl) ?_
  refine va_get (D := D) (ci := 0) (v := .ref (qa 6)) (C := RX0) (T := TX0) (N := 10) hx hb hts in0 hown hK hP 0 rfl rfl 5 (by decide) l24 (fun _ h9 => h9) rfl dX0_records_40 ?_
  refine lv_iload hx hb dX0_records_43 (lv_at hl 0 rfl) ?_
  refine lv_iconst (v := (-1 : Int32)) hx hb dX0_records_45 (by decide) ?_
  refine q_iast hx hb hK hP hD hS 5 0 rfl rfl h dX0_records_46 (fun a_undoers_46 H locs h hP hD hS => ?_)
  have hP : va_P D vwCl [(qa 0, .inr (0, oX0 qa a_done)), (qa 2, .inl (cI, 60, .inl a_kinds_13)), (qa 3, .inl (cI, 60, .inl a_writers_21)), (qa 4, .inl (cI, 60, .inl a_minutes_29)), (qa 5, .inl (cI, 60, .inl a_matters_38)), (qa 6, .inl (cI, 60, .inl a_undoers_46)), (qa 7, .inl (cI, 60, .inl a_scores)), (qa 8, .inl (cI, 61, .inl a_sizes)), (qa 9, .inl (cI, 1220, .inl a_cells))] H := hP
  have hD : va_D A [(qa 0, .inr (0, oX0 qa a_done)), (qa 2, .inl (cI, 60, .inl a_kinds_13)), (qa 3, .inl (cI, 60, .inl a_writers_21)), (qa 4, .inl (cI, 60, .inl a_minutes_29)), (qa 5, .inl (cI, 60, .inl a_matters_38)), (qa 6, .inl (cI, 60, .inl a_undoers_46)), (qa 7, .inl (cI, 60, .inl a_scores)), (qa 8, .inl (cI, 61, .inl a_sizes)), (qa 9, .inl (cI, 1220, .inl a_cells))] := hD
  refine lv_aload_n hx hb dX0_records_47 rfl (lv_at hl 1 rfl) ?_
  refine va_get (D := D) (ci := 0) (v := .ref (qa 7)) (C := RX0) (T := TX0) (N := 10) hx hb hts in0 hown hK hP 0 rfl rfl 6 (by decide) l27 (fun _ h9 => h9) rfl dX0_records_48 ?_
  refine lv_iload hx hb dX0_records_51 (lv_at hl 0 rfl) ?_
  refine lv_iconst (v := (-1 : Int32)) hx hb dX0_records_53 (by decide) ?_
  refine q_iast hx hb hK hP hD hS 6 0 rfl rfl h dX0_records_54 (fun a_scores_54 H locs h hP hD hS => ?_)
  have hP : va_P D vwCl [(qa 0, .inr (0, oX0 qa a_done)), (qa 2, .inl (cI, 60, .inl a_kinds_13)), (qa 3, .inl (cI, 60, .inl a_writers_21)), (qa 4, .inl (cI, 60, .inl a_minutes_29)), (qa 5, .inl (cI, 60, .inl a_matters_38)), (qa 6, .inl (cI, 60, .inl a_undoers_46)), (qa 7, .inl (cI, 60, .inl a_scores_54)), (qa 8, .inl (cI, 61, .inl a_sizes)), (qa 9, .inl (cI, 1220, .inl a_cells))] H := hP
  have hD : va_D A [(qa 0, .inr (0, oX0 qa a_done)), (qa 2, .inl (cI, 60, .inl a_kinds_13)), (qa 3, .inl (cI, 60, .inl a_writers_21)), (qa 4, .inl (cI, 60, .inl a_minutes_29)), (qa 5, .inl (cI, 60, .inl a_matters_38)), (qa 6, .inl (cI, 60, .inl a_undoers_46)), (qa 7, .inl (cI, 60, .inl a_scores_54)), (qa 8, .inl (cI, 61, .inl a_sizes)), (qa 9, .inl (cI, 1220, .inl a_cells))] := hD
  refine lv_aload_n hx hb dX0_records_55 rfl (lv_at hl 1 rfl) ?_
  refine lv_iload hx hb dX0_records_56 (lv_at hl 0 rfl) ?_
  refine lv_iconst (v := (1 : Int32)) hx hb dX0_records_58 (by decide) ?_
  refine lv_iadd hx hb dX0_records_59 ?_
  refine q_let h (fun a_done_60 h => ?_)
  refine va_put (D := D) (ci := 0) (v := .int a_done_60) (ty := .int) (C := RX0) (T := TX0) (N := 10) hx hb hts in0 tyX0 tyX0_ok nmX0 hown hK hP hD hS 0 rfl rfl 0 (by decide) l39 (fun _ h9 => h9) rfl (by decide +kernel) rfl rfl (Nat.le_of_ble_eq_true rfl) dX0_records_60 (fun H locs hP hD hS => ?_)
  have hP : va_P D vwCl [(qa 0, .inr (0, oX0 qa a_done_60)), (qa 2, .inl (cI, 60, .inl a_kinds_13)), (qa 3, .inl (cI, 60, .inl a_writers_21)), (qa 4, .inl (cI, 60, .inl a_minutes_29)), (qa 5, .inl (cI, 60, .inl a_matters_38)), (qa 6, .inl (cI, 60, .inl a_undoers_46)), (qa 7, .inl (cI, 60, .inl a_scores_54)), (qa 8, .inl (cI, 61, .inl a_sizes)), (qa 9, .inl (cI, 1220, .inl a_cells))] H := hP
  have hD : va_D A [(qa 0, .inr (0, oX0 qa a_done_60)), (qa 2, .inl (cI, 60, .inl a_kinds_13)), (qa 3, .inl (cI, 60, .inl a_writers_21)), (qa 4, .inl (cI, 60, .inl a_minutes_29)), (qa 5, .inl (cI, 60, .inl a_matters_38)), (qa 6, .inl (cI, 60, .inl a_undoers_46)), (qa 7, .inl (cI, 60, .inl a_scores_54)), (qa 8, .inl (cI, 61, .inl a_sizes)), (qa 9, .inl (cI, 1220, .inl a_cells))] := hD
  refine lv_iconst (v := (0 : Int32)) hx hb dX0_records_63 (by decide) ?_
  refine lv_istore (lv' := [(6, .int ((0 : Int32))), (5, .int a_done), (0, .ref (qa 0)), (1, .int x1), (2, .int x2), (3, .int x3), (4, .int x4)]) hx hb dX0_records_64 hl (by decide) rfl (fun ls hl => ?_)
  exact J66 n a_done ((0 : Int32)) a_done_60 a_kinds_13 a_writers_21 a_minutes_29 a_matters_38 a_undoers_46 a_scores_54 _ _ _ (lv_sub hl [2, 1, 0] rfl) hP hD hS h
set_option maxHeartbeats 4000000 in
set_option maxRecDepth 100000 in
theorem c1_puts (l : Launch) (D : va_G) (cI : ClassId) (ad : Nat → Nat) (qb qa qt : Nat → Nat) (b_now b_shutTill b_shutBy b_z b_waits a_done : Int32) (a_kinds a_writers a_minutes a_matters a_undoers a_scores a_sizes a_cells : Nat → Int32) (x1 : Int32) (x2 : Int32) (x3 : Int32) (n : Nat) (u : Int32 × Int32 × (Nat → Int32) × (Nat → Int32) × (Nat → Int32) × (Nat → Int32) × (Nat → Int32) × (Nat → Int32) × (Nat → Int32) × (Nat → Int32)) (h : f1_puts n x1 x2 x3 b_now a_done a_kinds a_writers a_minutes a_matters a_undoers a_scores a_sizes a_cells = some u) : q_RW (cE ad) l yX1_puts wsX1_puts (rmq (3)) D cI [.ref (qb 0), .int x1, .int x2, .int x3] [(qb 0, .inr (1, oX1 qb b_now b_shutTill b_shutBy b_z b_waits (qa 0) (qt 0))), (qa 0, .inr (0, oX0 qa a_done)), (qa 2, .inl (cI, 60, .inl a_kinds)), (qa 3, .inl (cI, 60, .inl a_writers)), (qa 4, .inl (cI, 60, .inl a_minutes)), (qa 5, .inl (cI, 60, .inl a_matters)), (qa 6, .inl (cI, 60, .inl a_undoers)), (qa 7, .inl (cI, 60, .inl a_scores)), (qa 8, .inl (cI, 61, .inl a_sizes)), (qa 9, .inl (cI, 1220, .inl a_cells))] [(qb 0, .inr (1, oX1 qb b_now b_shutTill b_shutBy b_z b_waits (qa 0) (qt 0))), (qa 0, .inr (0, oX0 qa u.2.1)), (qa 2, .inl (cI, 60, .inl u.2.2.1)), (qa 3, .inl (cI, 60, .inl u.2.2.2.1)), (qa 4, .inl (cI, 60, .inl u.2.2.2.2.1)), (qa 5, .inl (cI, 60, .inl u.2.2.2.2.2.1)), (qa 6, .inl (cI, 60, .inl u.2.2.2.2.2.2.1)), (qa 7, .inl (cI, 60, .inl u.2.2.2.2.2.2.2.1)), (qa 8, .inl (cI, 61, .inl u.2.2.2.2.2.2.2.2.1)), (qa 9, .inl (cI, 1220, .inl u.2.2.2.2.2.2.2.2.2))] u.1 := by
  refine q_startW (fun u : Int32 × Int32 × (Nat → Int32) × (Nat → Int32) × (Nat → Int32) × (Nat → Int32) × (Nat → Int32) × (Nat → Int32) × (Nat → Int32) × (Nat → Int32) => [(qb 0, .inr (1, oX1 qb b_now b_shutTill b_shutBy b_z b_waits (qa 0) (qt 0))), (qa 0, .inr (0, oX0 qa u.2.1)), (qa 2, .inl (cI, 60, .inl u.2.2.1)), (qa 3, .inl (cI, 60, .inl u.2.2.2.1)), (qa 4, .inl (cI, 60, .inl u.2.2.2.2.1)), (qa 5, .inl (cI, 60, .inl u.2.2.2.2.2.1)), (qa 6, .inl (cI, 60, .inl u.2.2.2.2.2.2.1)), (qa 7, .inl (cI, 60, .inl u.2.2.2.2.2.2.2.1)), (qa 8, .inl (cI, 61, .inl u.2.2.2.2.2.2.2.2.1)), (qa 9, .inl (cI, 1220, .inl u.2.2.2.2.2.2.2.2.2))]) (fun u => u.1) (cc := cX1_puts) (maxL := 4) (ty := .int) (own := RX1) (by decide) rfl rfl (Nat.le_of_ble_eq_true rfl) rfl (fun p e s m args below meth c Q A hx hb hml hown hts hK hEv hA hret hP hD hS ls hl => ?_)
  have in0 : ∀ w ∈ wsX00, w ∈ wsX1_puts := fun w h => List.mem_cons_of_mem _ (List.mem_append_right _ (h))
  have in1 : ∀ w ∈ wsX10, w ∈ wsX1_puts := fun w h => List.mem_cons_of_mem _ (List.mem_append_left _ (List.mem_append_right _ (h)))
  have l25 := hts (.fieldLink RX1 25 "PageWars$Book" "acts" "LPageWars$Acts;") (List.mem_of_getElem? (i := 1) rfl)
  have l36 := hts (.fieldLink RX1 36 "PageWars$Book" "now" "I") (List.mem_of_getElem? (i := 2) rfl)
  have J32 : ∀ (x1 : Int32) (x2 : Int32) (x3 : Int32) (a_done : Int32) (a_kinds : (Nat → Int32)) (a_writers : (Nat → Int32)) (a_minutes : (Nat → Int32)) (a_matters : (Nat → Int32)) (a_undoers : (Nat → Int32)) (a_scores : (Nat → Int32)) (a_sizes : (Nat → Int32)) (a_cells : (Nat → Int32)) (H : Heap) (locs : List Loc) (ls : Array Slot), lv_has ls 4 [(0, .ref (qb 0)), (1, .int x1), (2, .int x2), (3, .int x3)] → va_P D vwCl [(qb 0, .inr (1, oX1 qb b_now b_shutTill b_shutBy b_z b_waits (qa 0) (qt 0))), (qa 0, .inr (0, oX0 qa a_done)), (qa 2, .inl (cI, 60, .inl a_kinds)), (qa 3, .inl (cI, 60, .inl a_writers)), (qa 4, .inl (cI, 60, .inl a_minutes)), (qa 5, .inl (cI, 60, .inl a_matters)), (qa 6, .inl (cI, 60, .inl a_undoers)), (qa 7, .inl (cI, 60, .inl a_scores)), (qa 8, .inl (cI, 61, .inl a_sizes)), (qa 9, .inl (cI, 1220, .inl a_cells))] H → va_D A [(qb 0, .inr (1, oX1 qb b_now b_shutTill b_shutBy b_z b_waits (qa 0) (qt 0))), (qa 0, .inr (0, oX0 qa a_done)), (qa 2, .inl (cI, 60, .inl a_kinds)), (qa 3, .inl (cI, 60, .inl a_writers)), (qa 4, .inl (cI, 60, .inl a_minutes)), (qa 5, .inl (cI, 60, .inl a_matters)), (qa 6, .inl (cI, 60, .inl a_undoers)), (qa 7, .inl (cI, 60, .inl a_scores)), (qa 8, .inl (cI, 61, .inl a_sizes)), (qa 9, .inl (cI, 1220, .inl a_cells))] → va_S A s.heap H locs → f1_puts_32 n b_now x1 x2 x3 a_done a_kinds a_writers a_minutes a_matters a_undoers a_scores a_sizes a_cells = some u → W p l e (rmq (3)) s m args below meth c H locs 0 0 Q (F0 m 32 ls []) := by
    intro x1 x2 x3 a_done a_kinds a_writers a_minutes a_matters a_undoers a_scores a_sizes a_cells H locs ls hl hP hD hS h
    unfold f1_puts_32 at h
    refine lv_aload_n hx hb dX1_puts_32 rfl (lv_at hl 0 rfl) ?_
    refine va_get (D := D) (ci := 1) (v := .ref (qa 0)) (C := RX1) (T := TX1) (N := 9) hx hb hts in1 hown hK hP 0 rfl rfl 7 (by decide) l25 (fun _ h9 => h9) rfl dX1_puts_33 ?_
    refine lv_iload_n hx hb dX1_puts_36 rfl (lv_at hl 1 rfl) ?_
    refine lv_iload_n hx hb dX1_puts_37 rfl (lv_at hl 2 rfl) ?_
    refine lv_bipush (v := (100 : Int32)) hx hb dX1_puts_38 (by decide) ?_
    refine q_idiv hx hb h dX1_puts_40 (fun h => ?_)
    refine lv_aload_n hx hb dX1_puts_41 rfl (lv_at hl 0 rfl) ?_
    refine va_get (D := D) (ci := 1) (v := .int b_now) (C := RX1) (T := TX1) (N := 9) hx hb hts in1 hown hK hP 0 rfl rfl 0 (by decide) l36 (fun _ h9 => h9) rfl dX1_puts_42 ?_
    refine lv_iload_n hx hb dX1_puts_45 rfl (lv_at hl 3 rfl) ?_
    refine q_callW8 (cEok ad) (rest := []) (fun u => [(qa 0, .inr (0, oX0 qa u.2.1)), (qa 2, .inl (cI, 60, .inl u.2.2.1)), (qa 3, .inl (cI, 60, .inl u.2.2.2.1)), (qa 4, .inl (cI, 60, .inl u.2.2.2.2.1)), (qa 5, .inl (cI, 60, .inl u.2.2.2.2.2.1)), (qa 6, .inl (cI, 60, .inl u.2.2.2.2.2.2.1)), (qa 7, .inl (cI, 60, .inl u.2.2.2.2.2.2.2)), (qa 8, .inl (cI, 61, .inl a_sizes)), (qa 9, .inl (cI, 1220, .inl a_cells))]) (fun u => u.1) ⟨hx, hb, hml, hown, hts⟩ (fun u hu => c0_records l D cI ad qa a_done a_kinds a_writers a_minutes a_matters a_undoers a_scores a_sizes a_cells x1 (x2 / ((100 : Int32))) b_now x3 n u hu) (cwV 4 hts gX1_puts_X0_records rfl rfl rfl hdX0_records (rmq_ok (Nat.le_of_ble_eq_true rfl) (Nat.le_of_ble_eq_true rfl))) hK hEv hA hP hD hS [1, 2, 3, 4, 5, 6, 7, 8, 9] (by decide) rfl (fun _ => rfl) (va_recv hK hP (ci := 0) (q0 := 1) rfl rfl) rfl rfl hl.1 (Nat.le_of_ble_eq_true rfl) ⟨Nat.zero_le _, Nat.zero_le _⟩ h dX1_puts_46 (fun t46 a_done_46 a_kinds_46 a_writers_46 a_minutes_46 a_matters_46 a_undoers_46 a_scores_46 H locs h hP hD hS => ?_)
    have hP : va_P D vwCl [(qb 0, .inr (1, oX1 qb b_now b_shutTill b_shutBy b_z b_waits (qa 0) (qt 0))), (qa 0, .inr (0, oX0 qa a_done_46)), (qa 2, .inl (cI, 60, .inl a_kinds_46)), (qa 3, .inl (cI, 60, .inl a_writers_46)), (qa 4, .inl (cI, 60, .inl a_minutes_46)), (qa 5, .inl (cI, 60, .inl a_matters_46)), (qa 6, .inl (cI, 60, .inl a_undoers_46)), (qa 7, .inl (cI, 60, .inl a_scores_46)), (qa 8, .inl (cI, 61, .inl a_sizes)), (qa 9, .inl (cI, 1220, .inl a_cells))] H := hP
    have hD : va_D A [(qb 0, .inr (1, oX1 qb b_now b_shutTill b_shutBy b_z b_waits (qa 0) (qt 0))), (qa 0, .inr (0, oX0 qa a_done_46)), (qa 2, .inl (cI, 60, .inl a_kinds_46)), (qa 3, .inl (cI, 60, .inl a_writers_46)), (qa 4, .inl (cI, 60, .inl a_minutes_46)), (qa 5, .inl (cI, 60, .inl a_matters_46)), (qa 6, .inl (cI, 60, .inl a_undoers_46)), (qa 7, .inl (cI, 60, .inl a_scores_46)), (qa 8, .inl (cI, 61, .inl a_sizes)), (qa 9, .inl (cI, 1220, .inl a_cells))] := hD
    exact hret (t46, a_done_46, a_kinds_46, a_writers_46, a_minutes_46, a_matters_46, a_undoers_46, a_scores_46, a_sizes, a_cells) _ _ _ _ (vp_nar_int _) h hP hD hS dX1_puts_49
  unfold f1_puts at h
  refine lv_iload_n hx hb dX1_puts_0 rfl (lv_at hl 1 rfl) ?_
  refine lv_iconst (v := (5 : Int32)) hx hb dX1_puts_1 (by decide) ?_
  refine q_cne hx hb 20 h dX1_puts_2 (by decide) (fun h => ?_) (fun h => ?_)
  · refine lv_aload_n hx hb dX1_puts_20 rfl (lv_at hl 0 rfl) ?_
    refine va_get (D := D) (ci := 1) (v := .ref (qa 0)) (C := RX1) (T := TX1) (N := 9) hx hb hts in1 hown hK hP 0 rfl rfl 7 (by decide) l25 (fun _ h9 => h9) rfl dX1_puts_21 ?_
    refine lv_iload_n hx hb dX1_puts_24 rfl (lv_at hl 2 rfl) ?_
    refine lv_bipush (v := (100 : Int32)) hx hb dX1_puts_25 (by decide) ?_
    refine q_irem hx hb h dX1_puts_27 (fun h => ?_)
    refine lv_iload_n hx hb dX1_puts_28 rfl (lv_at hl 3 rfl) ?_
    refine q_callV2 (cEok ad) (rest := []) (fun u => [(qa 0, .inr (0, oX0 qa a_done)), (qa 8, .inl (cI, 61, .inl u.1)), (qa 9, .inl (cI, 1220, .inl u.2))]) ⟨hx, hb, hml, hown, hts⟩ (fun u hu => c0_draftsPutting l D cI ad qa a_done a_sizes a_cells (x2 - x2 / ((100 : Int32)) * ((100 : Int32))) x3 u hu) (cwV 2 hts gX1_puts_X0_draftsPutting rfl rfl rfl hdX0_draftsPutting (rmq_ok (Nat.le_of_ble_eq_true rfl) (Nat.le_of_ble_eq_true rfl))) hK hEv hA hP hD hS [1, 8, 9] (by decide) rfl (fun _ => rfl) (va_recv hK hP (ci := 0) (q0 := 1) rfl rfl) rfl rfl hl.1 (Nat.le_of_ble_eq_true rfl) ⟨Nat.zero_le _, Nat.zero_le _⟩ h dX1_puts_29 (fun a_sizes_29 a_cells_29 H locs h hP hD hS => ?_)
    have hP : va_P D vwCl [(qb 0, .inr (1, oX1 qb b_now b_shutTill b_shutBy b_z b_waits (qa 0) (qt 0))), (qa 0, .inr (0, oX0 qa a_done)), (qa 2, .inl (cI, 60, .inl a_kinds)), (qa 3, .inl (cI, 60, .inl a_writers)), (qa 4, .inl (cI, 60, .inl a_minutes)), (qa 5, .inl (cI, 60, .inl a_matters)), (qa 6, .inl (cI, 60, .inl a_undoers)), (qa 7, .inl (cI, 60, .inl a_scores)), (qa 8, .inl (cI, 61, .inl a_sizes_29)), (qa 9, .inl (cI, 1220, .inl a_cells_29))] H := hP
    have hD : va_D A [(qb 0, .inr (1, oX1 qb b_now b_shutTill b_shutBy b_z b_waits (qa 0) (qt 0))), (qa 0, .inr (0, oX0 qa a_done)), (qa 2, .inl (cI, 60, .inl a_kinds)), (qa 3, .inl (cI, 60, .inl a_writers)), (qa 4, .inl (cI, 60, .inl a_minutes)), (qa 5, .inl (cI, 60, .inl a_matters)), (qa 6, .inl (cI, 60, .inl a_undoers)), (qa 7, .inl (cI, 60, .inl a_scores)), (qa 8, .inl (cI, 61, .inl a_sizes_29)), (qa 9, .inl (cI, 1220, .inl a_cells_29))] := hD
    exact J32 x1 x2 x3 a_done a_kinds a_writers a_minutes a_matters a_undoers a_scores a_sizes_29 a_cells_29 _ _ _ (lv_sub hl [0, 1, 2, 3] rfl) hP hD hS h
  · refine lv_aload_n hx hb dX1_puts_5 rfl (lv_at hl 0 rfl) ?_
    refine va_get (D := D) (ci := 1) (v := .ref (qa 0)) (C := RX1) (T := TX1) (N := 9) hx hb hts in1 hown hK hP 0 rfl rfl 7 (by decide) l25 (fun _ h9 => h9) rfl dX1_puts_6 ?_
    refine lv_iload_n hx hb dX1_puts_9 rfl (lv_at hl 2 rfl) ?_
    refine lv_bipush (v := (100 : Int32)) hx hb dX1_puts_10 (by decide) ?_
    refine q_irem hx hb h dX1_puts_12 (fun h => ?_)
    refine lv_iload_n hx hb dX1_puts_13 rfl (lv_at hl 3 rfl) ?_
    refine q_callV2 (cEok ad) (rest := []) (fun u => [(qa 0, .inr (0, oX0 qa a_done)), (qa 8, .inl (cI, 61, .inl u.1)), (qa 9, .inl (cI, 1220, .inl u.2))]) ⟨hx, hb, hml, hown, hts⟩ (fun u hu => c0_draftsMending l D cI ad qa a_done a_sizes a_cells (x2 - x2 / ((100 : Int32)) * ((100 : Int32))) x3 u hu) (cwV 2 hts gX1_puts_X0_draftsMending rfl rfl rfl hdX0_draftsMending (rmq_ok (Nat.le_of_ble_eq_true rfl) (Nat.le_of_ble_eq_true rfl))) hK hEv hA hP hD hS [1, 8, 9] (by decide) rfl (fun _ => rfl) (va_recv hK hP (ci := 0) (q0 := 1) rfl rfl) rfl rfl hl.1 (Nat.le_of_ble_eq_true rfl) ⟨Nat.zero_le _, Nat.zero_le _⟩ h dX1_puts_14 (fun a_sizes_14 a_cells_14 H locs h hP hD hS => ?_)
    have hP : va_P D vwCl [(qb 0, .inr (1, oX1 qb b_now b_shutTill b_shutBy b_z b_waits (qa 0) (qt 0))), (qa 0, .inr (0, oX0 qa a_done)), (qa 2, .inl (cI, 60, .inl a_kinds)), (qa 3, .inl (cI, 60, .inl a_writers)), (qa 4, .inl (cI, 60, .inl a_minutes)), (qa 5, .inl (cI, 60, .inl a_matters)), (qa 6, .inl (cI, 60, .inl a_undoers)), (qa 7, .inl (cI, 60, .inl a_scores)), (qa 8, .inl (cI, 61, .inl a_sizes_14)), (qa 9, .inl (cI, 1220, .inl a_cells_14))] H := hP
    have hD : va_D A [(qb 0, .inr (1, oX1 qb b_now b_shutTill b_shutBy b_z b_waits (qa 0) (qt 0))), (qa 0, .inr (0, oX0 qa a_done)), (qa 2, .inl (cI, 60, .inl a_kinds)), (qa 3, .inl (cI, 60, .inl a_writers)), (qa 4, .inl (cI, 60, .inl a_minutes)), (qa 5, .inl (cI, 60, .inl a_matters)), (qa 6, .inl (cI, 60, .inl a_undoers)), (qa 7, .inl (cI, 60, .inl a_scores)), (qa 8, .inl (cI, 61, .inl a_sizes_14)), (qa 9, .inl (cI, 1220, .inl a_cells_14))] := hD
    refine lv_goto (tgt := 32) hx hb dX1_puts_17 (by decide) ?_
    exact J32 x1 x2 x3 a_done a_kinds a_writers a_minutes a_matters a_undoers a_scores a_sizes_14 a_cells_14 _ _ _ (lv_sub hl [0, 1, 2, 3] rfl) hP hD hS h
set_option maxHeartbeats 4000000 in
set_option maxRecDepth 100000 in
theorem c0_undoneBy (l : Launch) (D : va_G) (cI : ClassId) (ad : Nat → Nat) (qa : Nat → Nat) (a_done : Int32) (a_undoers : Nat → Int32) (x1 : Int32) (n : Nat) (u : Int32) (h : f0_undoneBy n x1 a_undoers = some u) : q_RO (cE ad) l yX0_undoneBy wsX0_undoneBy (rmq (0)) D cI [.ref (qa 0), .int x1] [(qa 0, .inr (0, oX0 qa a_done)), (qa 6, .inl (cI, 60, .inl a_undoers))] u := by
  refine q_startR (cc := cX0_undoneBy) (maxL := 4) (ty := .int) (own := RX0) (by decide) rfl rfl (Nat.le_of_ble_eq_true rfl) rfl (fun p e s m args below meth c Q hx hb hml hown hts hP hK hEv hret ls hl => ?_)
  have in0 : ∀ w ∈ wsX00, w ∈ wsX0_undoneBy := fun w h => List.mem_cons_of_mem _ (List.mem_append_right _ (h))
  have l24 := hts (.fieldLink RX0 24 "PageWars$Acts" "undoers" "[I") (List.mem_of_getElem? (i := 1) rfl)
  have J4 : ∀ (kk4 : Nat) (x1 : Int32) (x2 : Int32) (x3 : Int32) (ls : Array Slot), lv_has ls 4 [(0, .ref (qa 0)), (1, .int x1), (2, .int x2), (3, .int x3)] → f0_undoneBy_4 n a_undoers kk4 x1 x2 x3 = some u → W p l e (rmq (0)) s m args below meth c s.heap [] 0 0 Q (F0 m 4 ls []) := by
    intro kk4
    induction kk4 with
    | zero => intro x1 x2 x3  ls hl h; exact nomatch (show (none : Option (Int32)) = some u from h)
    | succ kk4 ih4 =>
      have J22 : ∀ (x1 : Int32) (x2 : Int32) (x3 : Int32) (ls : Array Slot), lv_has ls 4 [(0, .ref (qa 0)), (1, .int x1), (2, .int x2), (3, .int x3)] → f0_undoneBy_22 n a_undoers (f0_undoneBy_4 n a_undoers kk4) x1 x2 x3 = some u → W p l e (rmq (0)) s m args below meth c s.heap [] 0 0 Q (F0 m 22 ls []) := by
        intro x1 x2 x3  ls hl h
        unfold f0_undoneBy_22 at h
        refine q_iinc (fun v => [(3, .int v), (0, .ref (qa 0)), (1, .int x1), (2, .int x2)]) hx hb h dX0_undoneBy_22 (by decide) hl (k := 3) rfl (by decide) (fun _ => rfl) (fun x3_22 ls h hl => ?_)
        refine lv_goto (tgt := 4) hx hb dX0_undoneBy_25 (by decide) ?_
        exact ih4 x1 x2 x3_22 _ (lv_sub hl [1, 2, 3, 0] rfl) h
      intro x1 x2 x3  ls hl h
      rw [f0_undoneBy_4.eq_2] at h
      refine lv_iload_n hx hb dX0_undoneBy_4 rfl (lv_at hl 3 rfl) ?_
      refine lv_iload_n hx hb dX0_undoneBy_5 rfl (lv_at hl 1 rfl) ?_
      refine q_cge hx hb 28 h dX0_undoneBy_6 (by decide) (fun h => ?_) (fun h => ?_)
      · refine lv_iload_n hx hb dX0_undoneBy_28 rfl (lv_at hl 2 rfl) ?_
        exact hret _ _ _ (vp_nar_int _) h dX0_undoneBy_29
      · refine lv_aload_n hx hb dX0_undoneBy_9 rfl (lv_at hl 0 rfl) ?_
        refine va_get (D := D) (ci := 0) (v := .ref (qa 6)) (C := RX0) (T := TX0) (N := 10) hx hb hts in0 hown hK hP 0 rfl rfl 5 (by decide) l24 (fun _ h9 => h9) rfl dX0_undoneBy_10 ?_
        refine lv_iload_n hx hb dX0_undoneBy_13 rfl (lv_at hl 3 rfl) ?_
        refine q_iald hx hb hK hP 1 0 rfl rfl h dX0_undoneBy_14 (fun t14 h => ?_)
        refine lv_iload_n hx hb dX0_undoneBy_15 rfl (lv_at hl 1 rfl) ?_
        refine q_cne hx hb 22 h dX0_undoneBy_16 (by decide) (fun h => ?_) (fun h => ?_)
        · exact J22 x1 x2 x3 _ (lv_sub hl [0, 1, 2, 3] rfl) h
        · refine q_iinc (fun v => [(2, .int v), (0, .ref (qa 0)), (1, .int x1), (3, .int x3)]) hx hb h dX0_undoneBy_19 (by decide) hl (k := 2) rfl (by decide) (fun _ => rfl) (fun x2_19 ls h hl => ?_)
          exact J22 x1 x2_19 x3 _ (lv_sub hl [1, 2, 0, 3] rfl) h
  unfold f0_undoneBy at h
  refine lv_iconst (v := (0 : Int32)) hx hb dX0_undoneBy_0 (by decide) ?_
  refine lv_istore_n (lv' := [(2, .int ((0 : Int32))), (0, .ref (qa 0)), (1, .int x1)]) hx hb dX0_undoneBy_1 rfl hl (by decide) rfl (fun ls hl => ?_)
  refine lv_iconst (v := (0 : Int32)) hx hb dX0_undoneBy_2 (by decide) ?_
  refine lv_istore_n (lv' := [(3, .int ((0 : Int32))), (2, .int ((0 : Int32))), (0, .ref (qa 0)), (1, .int x1)]) hx hb dX0_undoneBy_3 rfl hl (by decide) rfl (fun ls hl => ?_)
  exact J4 n x1 ((0 : Int32)) ((0 : Int32)) _ (lv_sub hl [2, 3, 1, 0] rfl) h
set_option maxHeartbeats 4000000 in
set_option maxRecDepth 100000 in
theorem c1_putsBack (l : Launch) (D : va_G) (cI : ClassId) (ad : Nat → Nat) (qb qa qt : Nat → Nat) (b_now b_shutTill b_shutBy b_z b_waits a_done : Int32) (a_kinds a_writers a_minutes a_matters a_undoers a_scores a_sizes a_cells : Nat → Int32) (x1 : Int32) (x2 : Int32) (x3 : Int32) (x4 : Int32) (n : Nat) (u : Int32 × Int32 × (Nat → Int32) × (Nat → Int32) × (Nat → Int32) × (Nat → Int32) × (Nat → Int32) × (Nat → Int32) × (Nat → Int32) × (Nat → Int32)) (h : f1_putsBack n x1 x2 x3 x4 b_now a_done a_kinds a_writers a_minutes a_matters a_undoers a_scores a_sizes a_cells = some u) : q_RW (cE ad) l yX1_putsBack wsX1_putsBack (rmq (3)) D cI [.ref (qb 0), .int x1, .int x2, .int x3, .int x4] [(qb 0, .inr (1, oX1 qb b_now b_shutTill b_shutBy b_z b_waits (qa 0) (qt 0))), (qa 0, .inr (0, oX0 qa a_done)), (qa 2, .inl (cI, 60, .inl a_kinds)), (qa 3, .inl (cI, 60, .inl a_writers)), (qa 4, .inl (cI, 60, .inl a_minutes)), (qa 5, .inl (cI, 60, .inl a_matters)), (qa 6, .inl (cI, 60, .inl a_undoers)), (qa 7, .inl (cI, 60, .inl a_scores)), (qa 8, .inl (cI, 61, .inl a_sizes)), (qa 9, .inl (cI, 1220, .inl a_cells))] [(qb 0, .inr (1, oX1 qb b_now b_shutTill b_shutBy b_z b_waits (qa 0) (qt 0))), (qa 0, .inr (0, oX0 qa u.2.1)), (qa 2, .inl (cI, 60, .inl u.2.2.1)), (qa 3, .inl (cI, 60, .inl u.2.2.2.1)), (qa 4, .inl (cI, 60, .inl u.2.2.2.2.1)), (qa 5, .inl (cI, 60, .inl u.2.2.2.2.2.1)), (qa 6, .inl (cI, 60, .inl u.2.2.2.2.2.2.1)), (qa 7, .inl (cI, 60, .inl u.2.2.2.2.2.2.2.1)), (qa 8, .inl (cI, 61, .inl u.2.2.2.2.2.2.2.2.1)), (qa 9, .inl (cI, 1220, .inl u.2.2.2.2.2.2.2.2.2))] u.1 := by
  refine q_startW (fun u : Int32 × Int32 × (Nat → Int32) × (Nat → Int32) × (Nat → Int32) × (Nat → Int32) × (Nat → Int32) × (Nat → Int32) × (Nat → Int32) × (Nat → Int32) => [(qb 0, .inr (1, oX1 qb b_now b_shutTill b_shutBy b_z b_waits (qa 0) (qt 0))), (qa 0, .inr (0, oX0 qa u.2.1)), (qa 2, .inl (cI, 60, .inl u.2.2.1)), (qa 3, .inl (cI, 60, .inl u.2.2.2.1)), (qa 4, .inl (cI, 60, .inl u.2.2.2.2.1)), (qa 5, .inl (cI, 60, .inl u.2.2.2.2.2.1)), (qa 6, .inl (cI, 60, .inl u.2.2.2.2.2.2.1)), (qa 7, .inl (cI, 60, .inl u.2.2.2.2.2.2.2.1)), (qa 8, .inl (cI, 61, .inl u.2.2.2.2.2.2.2.2.1)), (qa 9, .inl (cI, 1220, .inl u.2.2.2.2.2.2.2.2.2))]) (fun u => u.1) (cc := cX1_putsBack) (maxL := 5) (ty := .int) (own := RX1) (by decide) rfl rfl (Nat.le_of_ble_eq_true rfl) rfl (fun p e s m args below meth c Q A hx hb hml hown hts hK hEv hA hret hP hD hS ls hl => ?_)
  have in0 : ∀ w ∈ wsX00, w ∈ wsX1_putsBack := fun w h => List.mem_cons_of_mem _ (List.mem_append_right _ (h))
  have in1 : ∀ w ∈ wsX10, w ∈ wsX1_putsBack := fun w h => List.mem_cons_of_mem _ (List.mem_append_left _ (List.mem_append_right _ (h)))
  have l25 := hts (.fieldLink RX1 25 "PageWars$Book" "acts" "LPageWars$Acts;") (List.mem_of_getElem? (i := 1) rfl)
  have l36 := hts (.fieldLink RX1 36 "PageWars$Book" "now" "I") (List.mem_of_getElem? (i := 2) rfl)
  unfold f1_putsBack at h
  refine lv_aload_n hx hb dX1_putsBack_0 rfl (lv_at hl 0 rfl) ?_
  refine va_get (D := D) (ci := 1) (v := .ref (qa 0)) (C := RX1) (T := TX1) (N := 9) hx hb hts in1 hown hK hP 0 rfl rfl 7 (by decide) l25 (fun _ h9 => h9) rfl dX1_putsBack_1 ?_
  refine lv_iload_n hx hb dX1_putsBack_4 rfl (lv_at hl 3 rfl) ?_
  refine lv_iload hx hb dX1_putsBack_5 (lv_at hl 4 rfl) ?_
  refine q_callV2 (cEok ad) (rest := []) (fun u => [(qa 0, .inr (0, oX0 qa a_done)), (qa 8, .inl (cI, 61, .inl u.1)), (qa 9, .inl (cI, 1220, .inl u.2))]) ⟨hx, hb, hml, hown, hts⟩ (fun u hu => c0_draftsHalf l D cI ad qa a_done a_sizes a_cells x3 x4 u hu) (cwV 2 hts gX1_putsBack_X0_draftsHalf rfl rfl rfl hdX0_draftsHalf (rmq_ok (Nat.le_of_ble_eq_true rfl) (Nat.le_of_ble_eq_true rfl))) hK hEv hA hP hD hS [1, 8, 9] (by decide) rfl (fun _ => rfl) (va_recv hK hP (ci := 0) (q0 := 1) rfl rfl) rfl rfl hl.1 (Nat.le_of_ble_eq_true rfl) ⟨Nat.zero_le _, Nat.zero_le _⟩ h dX1_putsBack_7 (fun a_sizes_7 a_cells_7 H locs h hP hD hS => ?_)
  have hP : va_P D vwCl [(qb 0, .inr (1, oX1 qb b_now b_shutTill b_shutBy b_z b_waits (qa 0) (qt 0))), (qa 0, .inr (0, oX0 qa a_done)), (qa 2, .inl (cI, 60, .inl a_kinds)), (qa 3, .inl (cI, 60, .inl a_writers)), (qa 4, .inl (cI, 60, .inl a_minutes)), (qa 5, .inl (cI, 60, .inl a_matters)), (qa 6, .inl (cI, 60, .inl a_undoers)), (qa 7, .inl (cI, 60, .inl a_scores)), (qa 8, .inl (cI, 61, .inl a_sizes_7)), (qa 9, .inl (cI, 1220, .inl a_cells_7))] H := hP
  have hD : va_D A [(qb 0, .inr (1, oX1 qb b_now b_shutTill b_shutBy b_z b_waits (qa 0) (qt 0))), (qa 0, .inr (0, oX0 qa a_done)), (qa 2, .inl (cI, 60, .inl a_kinds)), (qa 3, .inl (cI, 60, .inl a_writers)), (qa 4, .inl (cI, 60, .inl a_minutes)), (qa 5, .inl (cI, 60, .inl a_matters)), (qa 6, .inl (cI, 60, .inl a_undoers)), (qa 7, .inl (cI, 60, .inl a_scores)), (qa 8, .inl (cI, 61, .inl a_sizes_7)), (qa 9, .inl (cI, 1220, .inl a_cells_7))] := hD
  refine lv_aload_n hx hb dX1_putsBack_10 rfl (lv_at hl 0 rfl) ?_
  refine va_get (D := D) (ci := 1) (v := .ref (qa 0)) (C := RX1) (T := TX1) (N := 9) hx hb hts in1 hown hK hP 0 rfl rfl 7 (by decide) l25 (fun _ h9 => h9) rfl dX1_putsBack_11 ?_
  refine lv_iload_n hx hb dX1_putsBack_14 rfl (lv_at hl 1 rfl) ?_
  refine lv_iload_n hx hb dX1_putsBack_15 rfl (lv_at hl 2 rfl) ?_
  refine lv_aload_n hx hb dX1_putsBack_16 rfl (lv_at hl 0 rfl) ?_
  refine va_get (D := D) (ci := 1) (v := .int b_now) (C := RX1) (T := TX1) (N := 9) hx hb hts in1 hown hK hP 0 rfl rfl 0 (by decide) l36 (fun _ h9 => h9) rfl dX1_putsBack_17 ?_
  refine lv_iload_n hx hb dX1_putsBack_20 rfl (lv_at hl 3 rfl) ?_
  refine q_callW8 (cEok ad) (rest := []) (fun u => [(qa 0, .inr (0, oX0 qa u.2.1)), (qa 2, .inl (cI, 60, .inl u.2.2.1)), (qa 3, .inl (cI, 60, .inl u.2.2.2.1)), (qa 4, .inl (cI, 60, .inl u.2.2.2.2.1)), (qa 5, .inl (cI, 60, .inl u.2.2.2.2.2.1)), (qa 6, .inl (cI, 60, .inl u.2.2.2.2.2.2.1)), (qa 7, .inl (cI, 60, .inl u.2.2.2.2.2.2.2)), (qa 8, .inl (cI, 61, .inl a_sizes_7)), (qa 9, .inl (cI, 1220, .inl a_cells_7))]) (fun u => u.1) ⟨hx, hb, hml, hown, hts⟩ (fun u hu => c0_records l D cI ad qa a_done a_kinds a_writers a_minutes a_matters a_undoers a_scores a_sizes_7 a_cells_7 x1 x2 b_now x3 n u hu) (cwV 4 hts gX1_putsBack_X0_records rfl rfl rfl hdX0_records (rmq_ok (Nat.le_of_ble_eq_true rfl) (Nat.le_of_ble_eq_true rfl))) hK hEv hA hP hD hS [1, 2, 3, 4, 5, 6, 7, 8, 9] (by decide) rfl (fun _ => rfl) (va_recv hK hP (ci := 0) (q0 := 1) rfl rfl) rfl rfl hl.1 (Nat.le_of_ble_eq_true rfl) ⟨Nat.zero_le _, Nat.zero_le _⟩ h dX1_putsBack_21 (fun t21 a_done_21 a_kinds_21 a_writers_21 a_minutes_21 a_matters_21 a_undoers_21 a_scores_21 H locs h hP hD hS => ?_)
  have hP : va_P D vwCl [(qb 0, .inr (1, oX1 qb b_now b_shutTill b_shutBy b_z b_waits (qa 0) (qt 0))), (qa 0, .inr (0, oX0 qa a_done_21)), (qa 2, .inl (cI, 60, .inl a_kinds_21)), (qa 3, .inl (cI, 60, .inl a_writers_21)), (qa 4, .inl (cI, 60, .inl a_minutes_21)), (qa 5, .inl (cI, 60, .inl a_matters_21)), (qa 6, .inl (cI, 60, .inl a_undoers_21)), (qa 7, .inl (cI, 60, .inl a_scores_21)), (qa 8, .inl (cI, 61, .inl a_sizes_7)), (qa 9, .inl (cI, 1220, .inl a_cells_7))] H := hP
  have hD : va_D A [(qb 0, .inr (1, oX1 qb b_now b_shutTill b_shutBy b_z b_waits (qa 0) (qt 0))), (qa 0, .inr (0, oX0 qa a_done_21)), (qa 2, .inl (cI, 60, .inl a_kinds_21)), (qa 3, .inl (cI, 60, .inl a_writers_21)), (qa 4, .inl (cI, 60, .inl a_minutes_21)), (qa 5, .inl (cI, 60, .inl a_matters_21)), (qa 6, .inl (cI, 60, .inl a_undoers_21)), (qa 7, .inl (cI, 60, .inl a_scores_21)), (qa 8, .inl (cI, 61, .inl a_sizes_7)), (qa 9, .inl (cI, 1220, .inl a_cells_7))] := hD
  exact hret (t21, a_done_21, a_kinds_21, a_writers_21, a_minutes_21, a_matters_21, a_undoers_21, a_scores_21, a_sizes_7, a_cells_7) _ _ _ _ (vp_nar_int _) h hP hD hS dX1_putsBack_24
