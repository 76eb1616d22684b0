set_option maxHeartbeats 4000000 in
set_option maxRecDepth 100000 in
theorem c6_likeness (l : Launch) (D : va_G) (cI : ClassId) (ad : Nat → Nat) (qp qb qa qt qr qv qh : Nat → Nat) (p_kept : Value) (p_timesKept b_now b_shutTill b_shutBy b_z b_waits a_done : Int32) (p_errors a_sizes a_cells a_common : Nat → Int32) (x1 : Int32) (x2 : Int32) (n : Nat) (u : Int32 × (Nat → Int32) × (Nat → Int32)) (h : f6_likeness n x1 x2 a_done p_errors a_sizes a_cells a_common = some u) : q_RW (cE ad) l yX6_likeness wsX6_likeness (rmq (2)) D cI [.ref (qp 0), .int x1, .int x2] [(qp 0, .inr (6, oX6 qp (qb 0) (qr 0) (qv 0) (qh 0) p_kept p_timesKept)), (qb 0, .inr (1, oX1 qb b_now b_shutTill b_shutBy b_z b_waits (qa 0) (qt 0))), (qa 0, .inr (0, oX0 qa a_done)), (qp 5, .inl (cI, 7, .inl p_errors)), (qa 8, .inl (cI, 61, .inl a_sizes)), (qa 9, .inl (cI, 1220, .inl a_cells)), (qa 10, .inl (cI, 21, .inl a_common))] [(qp 0, .inr (6, oX6 qp (qb 0) (qr 0) (qv 0) (qh 0) p_kept p_timesKept)), (qb 0, .inr (1, oX1 qb b_now b_shutTill b_shutBy b_z b_waits (qa 0) (qt 0))), (qa 0, .inr (0, oX0 qa a_done)), (qp 5, .inl (cI, 7, .inl u.2.1)), (qa 8, .inl (cI, 61, .inl a_sizes)), (qa 9, .inl (cI, 1220, .inl a_cells)), (qa 10, .inl (cI, 21, .inl u.2.2))] u.1 := by
  refine q_startW (fun u : Int32 × (Nat → Int32) × (Nat → Int32) => [(qp 0, .inr (6, oX6 qp (qb 0) (qr 0) (qv 0) (qh 0) p_kept p_timesKept)), (qb 0, .inr (1, oX1 qb b_now b_shutTill b_shutBy b_z b_waits (qa 0) (qt 0))), (qa 0, .inr (0, oX0 qa a_done)), (qp 5, .inl (cI, 7, .inl u.2.1)), (qa 8, .inl (cI, 61, .inl a_sizes)), (qa 9, .inl (cI, 1220, .inl a_cells)), (qa 10, .inl (cI, 21, .inl u.2.2))]) (fun u => u.1) (cc := cX6_likeness) (maxL := 3) (ty := .int) (own := RX6) (by decide) rfl rfl (Nat.le_of_ble_eq_true rfl) rfl (fun p e s m args below meth c Q A hx hb hml hown hts hK hEv hA hret hP hD hS ls hl => ?_)
  have in0 : ∀ w ∈ wsX00, w ∈ wsX6_likeness := fun w h => List.mem_cons_of_mem _ (List.mem_append_right _ (h))
  have in1 : ∀ w ∈ wsX10, w ∈ wsX6_likeness := fun w h => List.mem_cons_of_mem _ (List.mem_append_left _ (List.mem_append_right _ (h)))
  have in6 : ∀ w ∈ wsX60, w ∈ wsX6_likeness := fun w h => List.mem_cons_of_mem _ (List.mem_append_left _ (List.mem_append_left _ (List.mem_append_right _ (h))))
  have l10 := hts (.fieldLink RX6 10 "PageWars" "book" "LPageWars$Book;") (List.mem_of_getElem? (i := 1) rfl)
  have l63 : (Cond.fieldLinkNest RX6 63 "PageWars$Book" "acts" "LPageWars$Acts;" "PageWars").before args s = true := cE_f6_63 hEv
  have J16 : ∀ (p_errors : (Nat → Int32)) (a_common : (Nat → Int32)) (H : Heap) (locs : List Loc) (ls : Array Slot), lv_has ls 3 [(0, .ref (qp 0))] → va_P D vwCl [(qp 0, .inr (6, oX6 qp (qb 0) (qr 0) (qv 0) (qh 0) p_kept p_timesKept)), (qb 0, .inr (1, oX1 qb b_now b_shutTill b_shutBy b_z b_waits (qa 0) (qt 0))), (qa 0, .inr (0, oX0 qa a_done)), (qp 5, .inl (cI, 7, .inl p_errors)), (qa 8, .inl (cI, 61, .inl a_sizes)), (qa 9, .inl (cI, 1220, .inl a_cells)), (qa 10, .inl (cI, 21, .inl a_common))] H → va_D A [(qp 0, .inr (6, oX6 qp (qb 0) (qr 0) (qv 0) (qh 0) p_kept p_timesKept)), (qb 0, .inr (1, oX1 qb b_now b_shutTill b_shutBy b_z b_waits (qa 0) (qt 0))), (qa 0, .inr (0, oX0 qa a_done)), (qp 5, .inl (cI, 7, .inl p_errors)), (qa 8, .inl (cI, 61, .inl a_sizes)), (qa 9, .inl (cI, 1220, .inl a_cells)), (qa 10, .inl (cI, 21, .inl a_common))] → va_S A s.heap H locs → f6_likeness_16 n a_done a_sizes a_cells p_errors a_common = some u → W p l e (rmq (2)) s m args below meth c H locs 0 0 Q (F0 m 16 ls []) := by
    intro p_errors a_common H locs ls hl hP hD hS h
    unfold f6_likeness_16 at h
    refine lv_aload_n hx hb dX6_likeness_16 rfl (lv_at hl 0 rfl) ?_
    refine lv_iconst (v := (1 : Int32)) hx hb dX6_likeness_17 (by decide) ?_
    refine q_callW2 (cEok ad) (rest := []) (fun u => [(qp 0, .inr (6, oX6 qp (qb 0) (qr 0) (qv 0) (qh 0) p_kept p_timesKept)), (qp 5, .inl (cI, 7, .inl u.2))]) (fun u => u.1) ⟨hx, hb, hml, hown, hts⟩ (fun u hu => c6_error l D cI ad qp qb qr qv qh p_kept p_timesKept p_errors ((1 : Int32)) u hu) (cwV 1 hts gX6_likeness_X6_error rfl rfl rfl hdX6_error (rmq_ok (Nat.le_of_ble_eq_true rfl) (Nat.le_of_ble_eq_true rfl))) hK hEv hA hP hD hS [0, 3] (by decide) rfl (fun _ => rfl) (va_recv hK hP (ci := 6) (q0 := 0) rfl rfl) rfl rfl hl.1 (Nat.le_of_ble_eq_true rfl) ⟨Nat.zero_le _, Nat.zero_le _⟩ h dX6_likeness_18 (fun t18 p_errors_18 H locs h hP hD hS => ?_)
    have hP : va_P D vwCl [(qp 0, .inr (6, oX6 qp (qb 0) (qr 0) (qv 0) (qh 0) p_kept p_timesKept)), (qb 0, .inr (1, oX1 qb b_now b_shutTill b_shutBy b_z b_waits (qa 0) (qt 0))), (qa 0, .inr (0, oX0 qa a_done)), (qp 5, .inl (cI, 7, .inl p_errors_18)), (qa 8, .inl (cI, 61, .inl a_sizes)), (qa 9, .inl (cI, 1220, .inl a_cells)), (qa 10, .inl (cI, 21, .inl a_common))] H := hP
    have hD : va_D A [(qp 0, .inr (6, oX6 qp (qb 0) (qr 0) (qv 0) (qh 0) p_kept p_timesKept)), (qb 0, .inr (1, oX1 qb b_now b_shutTill b_shutBy b_z b_waits (qa 0) (qt 0))), (qa 0, .inr (0, oX0 qa a_done)), (qp 5, .inl (cI, 7, .inl p_errors_18)), (qa 8, .inl (cI, 61, .inl a_sizes)), (qa 9, .inl (cI, 1220, .inl a_cells)), (qa 10, .inl (cI, 21, .inl a_common))] := hD
    exact hret (t18, p_errors_18, a_common) _ _ _ _ (vp_nar_int _) h hP hD hS dX6_likeness_21
  unfold f6_likeness at h
  refine lv_aload_n hx hb dX6_likeness_0 rfl (lv_at hl 0 rfl) ?_
  refine lv_iload_n hx hb dX6_likeness_1 rfl (lv_at hl 1 rfl) ?_
  refine q_callR (cEok ad) (rest := []) ⟨hx, hb, hml, hown, hts⟩ (fun r hr => c6_isVersion l D cI ad qp qb qa qt qr qv qh p_kept p_timesKept b_now b_shutTill b_shutBy b_z b_waits a_done x1 r hr) (cwV 1 hts gX6_likeness_X6_isVersion rfl rfl rfl hdX6_isVersion (rmq_ok (Nat.le_of_ble_eq_true rfl) (Nat.le_of_ble_eq_true rfl))) hK hP hEv hS [0, 1, 2] rfl (va_recv hK hP (ci := 6) (q0 := 0) rfl rfl) rfl rfl hl.1 (Nat.le_of_ble_eq_true rfl) ⟨Nat.zero_le _, Nat.zero_le _⟩ h dX6_likeness_2 (fun t2 h => ?_)
  refine q_ifeq hx hb 16 h dX6_likeness_5 (by decide) (fun h => ?_) (fun h => ?_)
  · exact J16 p_errors a_common _ _ _ (lv_sub hl [0] rfl) hP hD hS h
  · refine lv_aload_n hx hb dX6_likeness_8 rfl (lv_at hl 0 rfl) ?_
    refine lv_iload_n hx hb dX6_likeness_9 rfl (lv_at hl 2 rfl) ?_
    refine q_callR (cEok ad) (rest := []) ⟨hx, hb, hml, hown, hts⟩ (fun r hr => c6_isVersion l D cI ad qp qb qa qt qr qv qh p_kept p_timesKept b_now b_shutTill b_shutBy b_z b_waits a_done x2 r hr) (cwV 1 hts gX6_likeness_X6_isVersion rfl rfl rfl hdX6_isVersion (rmq_ok (Nat.le_of_ble_eq_true rfl) (Nat.le_of_ble_eq_true rfl))) hK hP hEv hS [0, 1, 2] rfl (va_recv hK hP (ci := 6) (q0 := 0) rfl rfl) rfl rfl hl.1 (Nat.le_of_ble_eq_true rfl) ⟨Nat.zero_le _, Nat.zero_le _⟩ h dX6_likeness_10 (fun t10 h => ?_)
    refine q_ifne hx hb 22 h dX6_likeness_13 (by decide) (fun h => ?_) (fun h => ?_)
    · refine lv_aload_n hx hb dX6_likeness_22 rfl (lv_at hl 0 rfl) ?_
      refine va_get (D := D) (ci := 6) (v := .ref (qb 0)) (C := RX6) (T := TX6) (N := 7) hx hb hts in6 hown hK hP 0 rfl rfl 0 (by decide) l10 (fun _ h9 => h9) rfl dX6_likeness_23 ?_
      refine va_getN (D := D) (ci := 1) (v := .ref (qa 0)) (C := RX1) (T := TX1) (N := 9) hx hb hts in1 hown hK hP 1 rfl rfl 7 (by decide) l63 (fun _ h9 => h9) rfl dX6_likeness_26 ?_
      refine lv_iload_n hx hb dX6_likeness_29 rfl (lv_at hl 1 rfl) ?_
      refine lv_iload_n hx hb dX6_likeness_30 rfl (lv_at hl 2 rfl) ?_
      refine q_callW2 (cEok ad) (rest := []) (fun u => [(qa 0, .inr (0, oX0 qa a_done)), (qa 8, .inl (cI, 61, .inl a_sizes)), (qa 9, .inl (cI, 1220, .inl a_cells)), (qa 10, .inl (cI, 21, .inl u.2))]) (fun u => u.1) ⟨hx, hb, hml, hown, hts⟩ (fun u hu => c0_likenessOf l D cI ad qa a_done a_sizes a_cells a_common x1 x2 n u hu) (cwV 2 hts gX6_likeness_X0_likenessOf rfl rfl rfl hdX0_likenessOf (rmq_ok (Nat.le_of_ble_eq_true rfl) (Nat.le_of_ble_eq_true rfl))) hK hEv hA hP hD hS [2, 4, 5, 6] (by decide) rfl (fun _ => rfl) (va_recv hK hP (ci := 0) (q0 := 2) rfl rfl) rfl rfl hl.1 (Nat.le_of_ble_eq_true rfl) ⟨Nat.zero_le _, Nat.zero_le _⟩ h dX6_likeness_31 (fun t31 a_common_31 H locs h hP hD hS => ?_)
      have hP : va_P D vwCl [(qp 0, .inr (6, oX6 qp (qb 0) (qr 0) (qv 0) (qh 0) p_kept p_timesKept)), (qb 0, .inr (1, oX1 qb b_now b_shutTill b_shutBy b_z b_waits (qa 0) (qt 0))), (qa 0, .inr (0, oX0 qa a_done)), (qp 5, .inl (cI, 7, .inl p_errors)), (qa 8, .inl (cI, 61, .inl a_sizes)), (qa 9, .inl (cI, 1220, .inl a_cells)), (qa 10, .inl (cI, 21, .inl a_common_31))] H := hP
      have hD : va_D A [(qp 0, .inr (6, oX6 qp (qb 0) (qr 0) (qv 0) (qh 0) p_kept p_timesKept)), (qb 0, .inr (1, oX1 qb b_now b_shutTill b_shutBy b_z b_waits (qa 0) (qt 0))), (qa 0, .inr (0, oX0 qa a_done)), (qp 5, .inl (cI, 7, .inl p_errors)), (qa 8, .inl (cI, 61, .inl a_sizes)), (qa 9, .inl (cI, 1220, .inl a_cells)), (qa 10, .inl (cI, 21, .inl a_common_31))] := hD
      exact hret (t31, p_errors, a_common_31) _ _ _ _ (vp_nar_int _) h hP hD hS dX6_likeness_34
    · exact J16 p_errors a_common _ _ _ (lv_sub hl [0] rfl) hP hD hS h
set_option maxHeartbeats 4000000 in
set_option maxRecDepth 100000 in
theorem c0_likestBefore (l : Launch) (D : va_G) (cI : ClassId) (ad : Nat → Nat) (qa : Nat → Nat) (a_done : Int32) (a_sizes a_cells a_common : Nat → Int32) (x1 : Int32) (n : Nat) (u : Int32 × (Nat → Int32)) (h : f0_likestBefore n x1 a_sizes a_cells a_common = some u) : q_RW (cE ad) l yX0_likestBefore wsX0_likestBefore (rmq (2)) D cI [.ref (qa 0), .int x1] [(qa 0, .inr (0, oX0 qa a_done)), (qa 8, .inl (cI, 61, .inl a_sizes)), (qa 9, .inl (cI, 1220, .inl a_cells)), (qa 10, .inl (cI, 21, .inl a_common))] [(qa 0, .inr (0, oX0 qa a_done)), (qa 8, .inl (cI, 61, .inl a_sizes)), (qa 9, .inl (cI, 1220, .inl a_cells)), (qa 10, .inl (cI, 21, .inl u.2))] u.1 := by
  refine q_startW (fun u : Int32 × (Nat → Int32) => [(qa 0, .inr (0, oX0 qa a_done)), (qa 8, .inl (cI, 61, .inl a_sizes)), (qa 9, .inl (cI, 1220, .inl a_cells)), (qa 10, .inl (cI, 21, .inl u.2))]) (fun u => u.1) (cc := cX0_likestBefore) (maxL := 6) (ty := .int) (own := RX0) (by decide) rfl rfl (Nat.le_of_ble_eq_true rfl) rfl (fun p e s m args below meth c Q A hx hb hml hown hts hK hEv hA hret hP hD hS ls hl => ?_)
  have in0 : ∀ w ∈ wsX00, w ∈ wsX0_likestBefore := fun w h => List.mem_cons_of_mem _ (List.mem_append_right _ (h))
  have J7 : ∀ (kk7 : Nat) (x1 : Int32) (x2 : Int32) (x3 : Int32) (x4 : Int32) (a_common : (Nat → Int32)) (H : Heap) (locs : List Loc) (ls : Array Slot), lv_has ls 6 [(0, .ref (qa 0)), (1, .int x1), (2, .int x2), (3, .int x3), (4, .int x4)] → va_P D vwCl [(qa 0, .inr (0, oX0 qa a_done)), (qa 8, .inl (cI, 61, .inl a_sizes)), (qa 9, .inl (cI, 1220, .inl a_cells)), (qa 10, .inl (cI, 21, .inl a_common))] H → va_D A [(qa 0, .inr (0, oX0 qa a_done)), (qa 8, .inl (cI, 61, .inl a_sizes)), (qa 9, .inl (cI, 1220, .inl a_cells)), (qa 10, .inl (cI, 21, .inl a_common))] → va_S A s.heap H locs → f0_likestBefore_7 n a_sizes a_cells kk7 x1 x2 x3 x4 a_common = some u → W p l e (rmq (2)) s m args below meth c H locs 0 0 Q (F0 m 7 ls []) := by
    intro kk7
    induction kk7 with
    | zero => intro x1 x2 x3 x4 a_common H locs ls hl hP hD hS h; exact nomatch (show (none : Option (Int32 × (Nat → Int32))) = some u from h)
    | succ kk7 ih7 =>
      have J36 : ∀ (x1 : Int32) (x2 : Int32) (x3 : Int32) (x4 : Int32) (a_common : (Nat → Int32)) (H : Heap) (locs : List Loc) (ls : Array Slot), lv_has ls 6 [(0, .ref (qa 0)), (1, .int x1), (2, .int x2), (3, .int x3), (4, .int x4)] → va_P D vwCl [(qa 0, .inr (0, oX0 qa a_done)), (qa 8, .inl (cI, 61, .inl a_sizes)), (qa 9, .inl (cI, 1220, .inl a_cells)), (qa 10, .inl (cI, 21, .inl a_common))] H → va_D A [(qa 0, .inr (0, oX0 qa a_done)), (qa 8, .inl (cI, 61, .inl a_sizes)), (qa 9, .inl (cI, 1220, .inl a_cells)), (qa 10, .inl (cI, 21, .inl a_common))] → va_S A s.heap H locs → f0_likestBefore_36 n a_sizes a_cells (f0_likestBefore_7 n a_sizes a_cells kk7) x1 x2 x3 x4 a_common = some u → W p l e (rmq (2)) s m args below meth c H locs 0 0 Q (F0 m 36 ls []) := by
        intro x1 x2 x3 x4 a_common H locs ls hl hP hD hS h
        unfold f0_likestBefore_36 at h
        refine q_iinc (fun v => [(4, .int v), (0, .ref (qa 0)), (1, .int x1), (2, .int x2), (3, .int x3)]) hx hb h dX0_likestBefore_36 (by decide) hl (k := 4) rfl (by decide) (fun _ => rfl) (fun x4_36 ls h hl => ?_)
        refine lv_goto (tgt := 7) hx hb dX0_likestBefore_39 (by decide) ?_
        exact ih7 x1 x2 x3 x4_36 a_common _ _ _ (lv_sub hl [1, 2, 3, 4, 0] rfl) hP hD hS h
      intro x1 x2 x3 x4 a_common H locs ls hl hP hD hS h
      rw [f0_likestBefore_7.eq_2] at h
      refine lv_iload hx hb dX0_likestBefore_7 (lv_at hl 4 rfl) ?_
      refine lv_iload_n hx hb dX0_likestBefore_9 rfl (lv_at hl 1 rfl) ?_
      refine lv_iconst (v := (1 : Int32)) hx hb dX0_likestBefore_10 (by decide) ?_
      refine lv_isub hx hb dX0_likestBefore_11 ?_
      refine q_cge hx hb 42 h dX0_likestBefore_12 (by decide) (fun h => ?_) (fun h => ?_)
      · refine lv_iload_n hx hb dX0_likestBefore_42 rfl (lv_at hl 2 rfl) ?_
        exact hret (x2, a_common) _ _ _ _ (vp_nar_int _) h hP hD hS dX0_likestBefore_43
      · refine lv_aload_n hx hb dX0_likestBefore_15 rfl (lv_at hl 0 rfl) ?_
        refine lv_iload hx hb dX0_likestBefore_16 (lv_at hl 4 rfl) ?_
        refine lv_iload_n hx hb dX0_likestBefore_18 rfl (lv_at hl 1 rfl) ?_
        refine q_callW2 (cEok ad) (rest := []) (fun u => [(qa 0, .inr (0, oX0 qa a_done)), (qa 8, .inl (cI, 61, .inl a_sizes)), (qa 9, .inl (cI, 1220, .inl a_cells)), (qa 10, .inl (cI, 21, .inl u.2))]) (fun u => u.1) ⟨hx, hb, hml, hown, hts⟩ (fun u hu => c0_likenessOf l D cI ad qa a_done a_sizes a_cells a_common x4 x1 n u hu) (cwV 2 hts gX0_likestBefore_X0_likenessOf rfl rfl rfl hdX0_likenessOf (rmq_ok (Nat.le_of_ble_eq_true rfl) (Nat.le_of_ble_eq_true rfl))) hK hEv hA hP hD hS [0, 1, 2, 3] (by decide) rfl (fun _ => rfl) (va_recv hK hP (ci := 0) (q0 := 0) rfl rfl) rfl rfl hl.1 (Nat.le_of_ble_eq_true rfl) ⟨Nat.zero_le _, Nat.zero_le _⟩ h dX0_likestBefore_19 (fun t19 a_common_19 H locs h hP hD hS => ?_)
        have hP : va_P D vwCl [(qa 0, .inr (0, oX0 qa a_done)), (qa 8, .inl (cI, 61, .inl a_sizes)), (qa 9, .inl (cI, 1220, .inl a_cells)), (qa 10, .inl (cI, 21, .inl a_common_19))] H := hP
        have hD : va_D A [(qa 0, .inr (0, oX0 qa a_done)), (qa 8, .inl (cI, 61, .inl a_sizes)), (qa 9, .inl (cI, 1220, .inl a_cells)), (qa 10, .inl (cI, 21, .inl a_common_19))] := hD
        refine lv_istore (lv' := [(5, .int t19), (0, .ref (qa 0)), (1, .int x1), (2, .int x2), (3, .int x3), (4, .int x4)]) hx hb dX0_likestBefore_22 hl (by decide) rfl (fun ls hl => ?_)
        refine lv_iload hx hb dX0_likestBefore_24 (lv_at hl 0 rfl) ?_
        refine lv_iload_n hx hb dX0_likestBefore_26 rfl (lv_at hl 4 rfl) ?_
        refine q_clt hx hb 36 h dX0_likestBefore_27 (by decide) (fun h => ?_) (fun h => ?_)
        · exact J36 x1 x2 x3 x4 a_common_19 _ _ _ (lv_sub hl [1, 2, 3, 4, 5] rfl) hP hD hS h
        · refine lv_iload hx hb dX0_likestBefore_30 (lv_at hl 0 rfl) ?_
          refine lv_istore_n (lv' := [(3, .int t19), (5, .int t19), (0, .ref (qa 0)), (1, .int x1), (2, .int x2), (4, .int x4)]) hx hb dX0_likestBefore_32 rfl hl (by decide) rfl (fun ls hl => ?_)
          refine lv_iload hx hb dX0_likestBefore_33 (lv_at hl 5 rfl) ?_
          refine lv_istore_n (lv' := [(2, .int x4), (3, .int t19), (5, .int t19), (0, .ref (qa 0)), (1, .int x1), (4, .int x4)]) hx hb dX0_likestBefore_35 rfl hl (by decide) rfl (fun ls hl => ?_)
          exact J36 x1 x4 t19 x4 a_common_19 _ _ _ (lv_sub hl [3, 4, 0, 1, 5] rfl) hP hD hS h
  unfold f0_likestBefore at h
  refine lv_iconst (v := (0 : Int32)) hx hb dX0_likestBefore_0 (by decide) ?_
  refine lv_istore_n (lv' := [(2, .int ((0 : Int32))), (0, .ref (qa 0)), (1, .int x1)]) hx hb dX0_likestBefore_1 rfl hl (by decide) rfl (fun ls hl => ?_)
  refine lv_iconst (v := (-1 : Int32)) hx hb dX0_likestBefore_2 (by decide) ?_
  refine lv_istore_n (lv' := [(3, .int ((-1 : Int32))), (2, .int ((0 : Int32))), (0, .ref (qa 0)), (1, .int x1)]) hx hb dX0_likestBefore_3 rfl hl (by decide) rfl (fun ls hl => ?_)
  refine lv_iconst (v := (0 : Int32)) hx hb dX0_likestBefore_4 (by decide) ?_
  refine lv_istore (lv' := [(4, .int ((0 : Int32))), (3, .int ((-1 : Int32))), (2, .int ((0 : Int32))), (0, .ref (qa 0)), (1, .int x1)]) hx hb dX0_likestBefore_5 hl (by decide) rfl (fun ls hl => ?_)
  exact J7 n x1 ((0 : Int32)) ((-1 : Int32)) ((0 : Int32)) a_common _ _ _ (lv_sub hl [3, 4, 2, 1, 0] rfl) hP hD hS h
set_option maxHeartbeats 4000000 in
set_option maxRecDepth 100000 in
theorem c6_from (l : Launch) (D : va_G) (cI : ClassId) (ad : Nat → Nat) (qp qb qa qt qr qv qh : Nat → Nat) (p_kept : Value) (p_timesKept b_now b_shutTill b_shutBy b_z b_waits a_done : Int32) (p_errors a_sizes a_cells a_common : Nat → Int32) (x1 : Int32) (n : Nat) (u : Int32 × (Nat → Int32) × (Nat → Int32)) (h : f6_from n x1 a_done p_errors a_sizes a_cells a_common = some u) : q_RW (cE ad) l yX6_from wsX6_from (rmq (3)) D cI [.ref (qp 0), .int x1] [(qp 0, .inr (6, oX6 qp (qb 0) (qr 0) (qv 0) (qh 0) p_kept p_timesKept)), (qb 0, .inr (1, oX1 qb b_now b_shutTill b_shutBy b_z b_waits (qa 0) (qt 0))), (qa 0, .inr (0, oX0 qa a_done)), (qp 5, .inl (cI, 7, .inl p_errors)), (qa 8, .inl (cI, 61, .inl a_sizes)), (qa 9, .inl (cI, 1220, .inl a_cells)), (qa 10, .inl (cI, 21, .inl a_common))] [(qp 0, .inr (6, oX6 qp (qb 0) (qr 0) (qv 0) (qh 0) p_kept p_timesKept)), (qb 0, .inr (1, oX1 qb b_now b_shutTill b_shutBy b_z b_waits (qa 0) (qt 0))), (qa 0, .inr (0, oX0 qa a_done)), (qp 5, .inl (cI, 7, .inl u.2.1)), (qa 8, .inl (cI, 61, .inl a_sizes)), (qa 9, .inl (cI, 1220, .inl a_cells)), (qa 10, .inl (cI, 21, .inl u.2.2))] u.1 := by
  refine q_startW (fun u : Int32 × (Nat → Int32) × (Nat → Int32) => [(qp 0, .inr (6, oX6 qp (qb 0) (qr 0) (qv 0) (qh 0) p_kept p_timesKept)), (qb 0, .inr (1, oX1 qb b_now b_shutTill b_shutBy b_z b_waits (qa 0) (qt 0))), (qa 0, .inr (0, oX0 qa a_done)), (qp 5, .inl (cI, 7, .inl u.2.1)), (qa 8, .inl (cI, 61, .inl a_sizes)), (qa 9, .inl (cI, 1220, .inl a_cells)), (qa 10, .inl (cI, 21, .inl u.2.2))]) (fun u => u.1) (cc := cX6_from) (maxL := 2) (ty := .int) (own := RX6) (by decide) rfl rfl (Nat.le_of_ble_eq_true rfl) rfl (fun p e s m args below meth c Q A hx hb hml hown hts hK hEv hA hret hP hD hS ls hl => ?_)
  have in0 : ∀ w ∈ wsX00, w ∈ wsX6_from := fun w h => List.mem_cons_of_mem _ (List.mem_append_right _ (h))
  have in1 : ∀ w ∈ wsX10, w ∈ wsX6_from := fun w h => List.mem_cons_of_mem _ (List.mem_append_left _ (List.mem_append_right _ (h)))
  have in6 : ∀ w ∈ wsX60, w ∈ wsX6_from := fun w h => List.mem_cons_of_mem _ (List.mem_append_left _ (List.mem_append_left _ (List.mem_append_right _ (h))))
  have l10 := hts (.fieldLink RX6 10 "PageWars" "book" "LPageWars$Book;") (List.mem_of_getElem? (i := 1) rfl)
  have l63 : (Cond.fieldLinkNest RX6 63 "PageWars$Book" "acts" "LPageWars$Acts;" "PageWars").before args s = true := cE_f6_63 hEv
  unfold f6_from at h
  refine lv_aload_n hx hb dX6_from_0 rfl (lv_at hl 0 rfl) ?_
  refine lv_iload_n hx hb dX6_from_1 rfl (lv_at hl 1 rfl) ?_
  refine q_callR (cEok ad) (rest := []) ⟨hx, hb, hml, hown, hts⟩ (fun r hr => c6_isVersion l D cI ad qp qb qa qt qr qv qh p_kept p_timesKept b_now b_shutTill b_shutBy b_z b_waits a_done x1 r hr) (cwV 1 hts gX6_from_X6_isVersion rfl rfl rfl hdX6_isVersion (rmq_ok (Nat.le_of_ble_eq_true rfl) (Nat.le_of_ble_eq_true rfl))) hK hP hEv hS [0, 1, 2] rfl (va_recv hK hP (ci := 6) (q0 := 0) rfl rfl) rfl rfl hl.1 (Nat.le_of_ble_eq_true rfl) ⟨Nat.zero_le _, Nat.zero_le _⟩ h dX6_from_2 (fun t2 h => ?_)
  refine q_ifne hx hb 14 h dX6_from_5 (by decide) (fun h => ?_) (fun h => ?_)
  · refine lv_iload_n hx hb dX6_from_14 rfl (lv_at hl 1 rfl) ?_
    refine lv_iconst (v := (2 : Int32)) hx hb dX6_from_15 (by decide) ?_
    refine q_cge hx hb 25 h dX6_from_16 (by decide) (fun h => ?_) (fun h => ?_)
    · refine lv_aload_n hx hb dX6_from_25 rfl (lv_at hl 0 rfl) ?_
      refine va_get (D := D) (ci := 6) (v := .ref (qb 0)) (C := RX6) (T := TX6) (N := 7) hx hb hts in6 hown hK hP 0 rfl rfl 0 (by decide) l10 (fun _ h9 => h9) rfl dX6_from_26 ?_
      refine va_getN (D := D) (ci := 1) (v := .ref (qa 0)) (C := RX1) (T := TX1) (N := 9) hx hb hts in1 hown hK hP 1 rfl rfl 7 (by decide) l63 (fun _ h9 => h9) rfl dX6_from_29 ?_
      refine lv_iload_n hx hb dX6_from_32 rfl (lv_at hl 1 rfl) ?_
      refine q_callW2 (cEok ad) (rest := []) (fun u => [(qa 0, .inr (0, oX0 qa a_done)), (qa 8, .inl (cI, 61, .inl a_sizes)), (qa 9, .inl (cI, 1220, .inl a_cells)), (qa 10, .inl (cI, 21, .inl u.2))]) (fun u => u.1) ⟨hx, hb, hml, hown, hts⟩ (fun u hu => c0_likestBefore l D cI ad qa a_done a_sizes a_cells a_common x1 n u hu) (cwV 1 hts gX6_from_X0_likestBefore rfl rfl rfl hdX0_likestBefore (rmq_ok (Nat.le_of_ble_eq_true rfl) (Nat.le_of_ble_eq_true rfl))) hK hEv hA hP hD hS [2, 4, 5, 6] (by decide) rfl (fun _ => rfl) (va_recv hK hP (ci := 0) (q0 := 2) rfl rfl) rfl rfl hl.1 (Nat.le_of_ble_eq_true rfl) ⟨Nat.zero_le _, Nat.zero_le _⟩ h dX6_from_33 (fun t33 a_common_33 H locs h hP hD hS => ?_)
      have hP : va_P D vwCl [(qp 0, .inr (6, oX6 qp (qb 0) (qr 0) (qv 0) (qh 0) p_kept p_timesKept)), (qb 0, .inr (1, oX1 qb b_now b_shutTill b_shutBy b_z b_waits (qa 0) (qt 0))), (qa 0, .inr (0, oX0 qa a_done)), (qp 5, .inl (cI, 7, .inl p_errors)), (qa 8, .inl (cI, 61, .inl a_sizes)), (qa 9, .inl (cI, 1220, .inl a_cells)), (qa 10, .inl (cI, 21, .inl a_common_33))] H := hP
      have hD : va_D A [(qp 0, .inr (6, oX6 qp (qb 0) (qr 0) (qv 0) (qh 0) p_kept p_timesKept)), (qb 0, .inr (1, oX1 qb b_now b_shutTill b_shutBy b_z b_waits (qa 0) (qt 0))), (qa 0, .inr (0, oX0 qa a_done)), (qp 5, .inl (cI, 7, .inl p_errors)), (qa 8, .inl (cI, 61, .inl a_sizes)), (qa 9, .inl (cI, 1220, .inl a_cells)), (qa 10, .inl (cI, 21, .inl a_common_33))] := hD
      exact hret (t33, p_errors, a_common_33) _ _ _ _ (vp_nar_int _) h hP hD hS dX6_from_36
    · refine lv_aload_n hx hb dX6_from_19 rfl (lv_at hl 0 rfl) ?_
      refine lv_iconst (v := (2 : Int32)) hx hb dX6_from_20 (by decide) ?_
      refine q_callW2 (cEok ad) (rest := []) (fun u => [(qp 0, .inr (6, oX6 qp (qb 0) (qr 0) (qv 0) (qh 0) p_kept p_timesKept)), (qp 5, .inl (cI, 7, .inl u.2))]) (fun u => u.1) ⟨hx, hb, hml, hown, hts⟩ (fun u hu => c6_error l D cI ad qp qb qr qv qh p_kept p_timesKept p_errors ((2 : Int32)) u hu) (cwV 1 hts gX6_from_X6_error rfl rfl rfl hdX6_error (rmq_ok (Nat.le_of_ble_eq_true rfl) (Nat.le_of_ble_eq_true rfl))) hK hEv hA hP hD hS [0, 3] (by decide) rfl (fun _ => rfl) (va_recv hK hP (ci := 6) (q0 := 0) rfl rfl) rfl rfl hl.1 (Nat.le_of_ble_eq_true rfl) ⟨Nat.zero_le _, Nat.zero_le _⟩ h dX6_from_21 (fun t21 p_errors_21 H locs h hP hD hS => ?_)
      have hP : va_P D vwCl [(qp 0, .inr (6, oX6 qp (qb 0) (qr 0) (qv 0) (qh 0) p_kept p_timesKept)), (qb 0, .inr (1, oX1 qb b_now b_shutTill b_shutBy b_z b_waits (qa 0) (qt 0))), (qa 0, .inr (0, oX0 qa a_done)), (qp 5, .inl (cI, 7, .inl p_errors_21)), (qa 8, .inl (cI, 61, .inl a_sizes)), (qa 9, .inl (cI, 1220, .inl a_cells)), (qa 10, .inl (cI, 21, .inl a_common))] H := hP
      have hD : va_D A [(qp 0, .inr (6, oX6 qp (qb 0) (qr 0) (qv 0) (qh 0) p_kept p_timesKept)), (qb 0, .inr (1, oX1 qb b_now b_shutTill b_shutBy b_z b_waits (qa 0) (qt 0))), (qa 0, .inr (0, oX0 qa a_done)), (qp 5, .inl (cI, 7, .inl p_errors_21)), (qa 8, .inl (cI, 61, .inl a_sizes)), (qa 9, .inl (cI, 1220, .inl a_cells)), (qa 10, .inl (cI, 21, .inl a_common))] := hD
      exact hret (t21, p_errors_21, a_common) _ _ _ _ (vp_nar_int _) h hP hD hS dX6_from_24
  · refine lv_aload_n hx hb dX6_from_8 rfl (lv_at hl 0 rfl) ?_
    refine lv_iconst (v := (1 : Int32)) hx hb dX6_from_9 (by decide) ?_
    refine q_callW2 (cEok ad) (rest := []) (fun u => [(qp 0, .inr (6, oX6 qp (qb 0) (qr 0) (qv 0) (qh 0) p_kept p_timesKept)), (qp 5, .inl (cI, 7, .inl u.2))]) (fun u => u.1) ⟨hx, hb, hml, hown, hts⟩ (fun u hu => c6_error l D cI ad qp qb qr qv qh p_kept p_timesKept p_errors ((1 : Int32)) u hu) (cwV 1 hts gX6_from_X6_error rfl rfl rfl hdX6_error (rmq_ok (Nat.le_of_ble_eq_true rfl) (Nat.le_of_ble_eq_true rfl))) hK hEv hA hP hD hS [0, 3] (by decide) rfl (fun _ => rfl) (va_recv hK hP (ci := 6) (q0 := 0) rfl rfl) rfl rfl hl.1 (Nat.le_of_ble_eq_true rfl) ⟨Nat.zero_le _, Nat.zero_le _⟩ h dX6_from_10 (fun t10 p_errors_10 H locs h hP hD hS => ?_)
    have hP : va_P D vwCl [(qp 0, .inr (6, oX6 qp (qb 0) (qr 0) (qv 0) (qh 0) p_kept p_timesKept)), (qb 0, .inr (1, oX1 qb b_now b_shutTill b_shutBy b_z b_waits (qa 0) (qt 0))), (qa 0, .inr (0, oX0 qa a_done)), (qp 5, .inl (cI, 7, .inl p_errors_10)), (qa 8, .inl (cI, 61, .inl a_sizes)), (qa 9, .inl (cI, 1220, .inl a_cells)), (qa 10, .inl (cI, 21, .inl a_common))] H := hP
    have hD : va_D A [(qp 0, .inr (6, oX6 qp (qb 0) (qr 0) (qv 0) (qh 0) p_kept p_timesKept)), (qb 0, .inr (1, oX1 qb b_now b_shutTill b_shutBy b_z b_waits (qa 0) (qt 0))), (qa 0, .inr (0, oX0 qa a_done)), (qp 5, .inl (cI, 7, .inl p_errors_10)), (qa 8, .inl (cI, 61, .inl a_sizes)), (qa 9, .inl (cI, 1220, .inl a_cells)), (qa 10, .inl (cI, 21, .inl a_common))] := hD
    exact hret (t10, p_errors_10, a_common) _ _ _ _ (vp_nar_int _) h hP hD hS dX6_from_13
set_option maxHeartbeats 4000000 in
set_option maxRecDepth 100000 in
theorem c0_warLength (l : Launch) (D : va_G) (cI : ClassId) (ad : Nat → Nat) (qa : Nat → Nat) (a_done : Int32) (a_undoers : Nat → Int32) (x1 : Int32) (n : Nat) (u : Int32) (h : f0_warLength n x1 a_undoers = some u) : q_RO (cE ad) l yX0_warLength wsX0_warLength (rmq (0)) D cI [.ref (qa 0), .int x1] [(qa 0, .inr (0, oX0 qa a_done)), (qa 6, .inl (cI, 60, .inl a_undoers))] u := by
  refine q_startR (cc := cX0_warLength) (maxL := 4) (ty := .int) (own := RX0) (by decide) rfl rfl (Nat.le_of_ble_eq_true rfl) rfl (fun p e s m args below meth c Q hx hb hml hown hts hP hK hEv hret ls hl => ?_)
  have in0 : ∀ w ∈ wsX00, w ∈ wsX0_warLength := fun w h => List.mem_cons_of_mem _ (List.mem_append_right _ (h))
  have l24 := hts (.fieldLink RX0 24 "PageWars$Acts" "undoers" "[I") (List.mem_of_getElem? (i := 1) rfl)
  have J27 : ∀ (x2 : Int32) (ls : Array Slot), lv_has ls 4 [(0, .ref (qa 0)), (2, .int x2)] → f0_warLength_27 n a_undoers x2 = some u → W p l e (rmq (0)) s m args below meth c s.heap [] 0 0 Q (F0 m 27 ls []) := by
    intro x2  ls hl h
    unfold f0_warLength_27 at h
    refine lv_iload_n hx hb dX0_warLength_27 rfl (lv_at hl 1 rfl) ?_
    exact hret _ _ _ (vp_nar_int _) h dX0_warLength_28
  have J4 : ∀ (kk4 : Nat) (x2 : Int32) (x3 : Int32) (ls : Array Slot), lv_has ls 4 [(0, .ref (qa 0)), (2, .int x2), (3, .int x3)] → f0_warLength_4 n a_undoers kk4 x2 x3 = some u → W p l e (rmq (0)) s m args below meth c s.heap [] 0 0 Q (F0 m 4 ls []) := by
    intro kk4
    induction kk4 with
    | zero => intro x2 x3  ls hl h; exact nomatch (show (none : Option (Int32)) = some u from h)
    | succ kk4 ih4 =>
      intro x2 x3  ls hl h
      rw [f0_warLength_4.eq_2] at h
      refine lv_iload_n hx hb dX0_warLength_4 rfl (lv_at hl 2 rfl) ?_
      refine q_iflt hx hb 27 h dX0_warLength_5 (by decide) (fun h => ?_) (fun h => ?_)
      · exact J27 x2 _ (lv_sub hl [0, 1] rfl) h
      · refine lv_iload_n hx hb dX0_warLength_8 rfl (lv_at hl 1 rfl) ?_
        refine lv_bipush (v := (60 : Int32)) hx hb dX0_warLength_9 (by decide) ?_
        refine q_cge hx hb 27 h dX0_warLength_11 (by decide) (fun h => ?_) (fun h => ?_)
        · exact J27 x2 _ (lv_sub hl [0, 1] rfl) h
        · refine q_iinc (fun v => [(2, .int v), (0, .ref (qa 0)), (3, .int x3)]) hx hb h dX0_warLength_14 (by decide) hl (k := 1) rfl (by decide) (fun _ => rfl) (fun x2_14 ls h hl => ?_)
          refine lv_aload_n hx hb dX0_warLength_17 rfl (lv_at hl 1 rfl) ?_
          refine va_get (D := D) (ci := 0) (v := .ref (qa 6)) (C := RX0) (T := TX0) (N := 10) hx hb hts in0 hown hK hP 0 rfl rfl 5 (by decide) l24 (fun _ h9 => h9) rfl dX0_warLength_18 ?_
          refine lv_iload_n hx hb dX0_warLength_21 rfl (lv_at hl 2 rfl) ?_
          refine q_iald hx hb hK hP 1 0 rfl rfl h dX0_warLength_22 (fun t22 h => ?_)
          refine lv_istore_n (lv' := [(3, .int t22), (2, .int x2_14), (0, .ref (qa 0))]) hx hb dX0_warLength_23 rfl hl (by decide) rfl (fun ls hl => ?_)
          refine lv_goto (tgt := 4) hx hb dX0_warLength_24 (by decide) ?_
          exact ih4 x2_14 t22 _ (lv_sub hl [2, 1, 0] rfl) h
  unfold f0_warLength at h
  refine lv_iconst (v := (0 : Int32)) hx hb dX0_warLength_0 (by decide) ?_
  refine lv_istore_n (lv' := [(2, .int ((0 : Int32))), (0, .ref (qa 0)), (1, .int x1)]) hx hb dX0_warLength_1 rfl hl (by decide) rfl (fun ls hl => ?_)
  refine lv_iload_n hx hb dX0_warLength_2 rfl (lv_at hl 2 rfl) ?_
  refine lv_istore_n (lv' := [(3, .int x1), (2, .int ((0 : Int32))), (0, .ref (qa 0)), (1, .int x1)]) hx hb dX0_warLength_3 rfl hl (by decide) rfl (fun ls hl => ?_)
  exact J4 n ((0 : Int32)) x1 _ (lv_sub hl [2, 1, 0] rfl) h
set_option maxHeartbeats 4000000 in
set_option maxRecDepth 100000 in
theorem c0_warEnd (l : Launch) (D : va_G) (cI : ClassId) (ad : Nat → Nat) (qa : Nat → Nat) (a_done : Int32) (a_undoers : Nat → Int32) (x1 : Int32) (n : Nat) (u : Int32) (h : f0_warEnd n x1 a_undoers = some u) : q_RO (cE ad) l yX0_warEnd wsX0_warEnd (rmq (0)) D cI [.ref (qa 0), .int x1] [(qa 0, .inr (0, oX0 qa a_done)), (qa 6, .inl (cI, 60, .inl a_undoers))] u := by
  refine q_startR (cc := cX0_warEnd) (maxL := 4) (ty := .int) (own := RX0) (by decide) rfl rfl (Nat.le_of_ble_eq_true rfl) rfl (fun p e s m args below meth c Q hx hb hml hown hts hP hK hEv hret ls hl => ?_)
  have in0 : ∀ w ∈ wsX00, w ∈ wsX0_warEnd := fun w h => List.mem_cons_of_mem _ (List.mem_append_right _ (h))
  have l24 := hts (.fieldLink RX0 24 "PageWars$Acts" "undoers" "[I") (List.mem_of_getElem? (i := 1) rfl)
  have J32 : ∀ (x2 : Int32) (ls : Array Slot), lv_has ls 4 [(0, .ref (qa 0)), (2, .int x2)] → f0_warEnd_32 n a_undoers x2 = some u → W p l e (rmq (0)) s m args below meth c s.heap [] 0 0 Q (F0 m 32 ls []) := by
    intro x2  ls hl h
    unfold f0_warEnd_32 at h
    refine lv_iload_n hx hb dX0_warEnd_32 rfl (lv_at hl 1 rfl) ?_
    exact hret _ _ _ (vp_nar_int _) h dX0_warEnd_33
  have J4 : ∀ (kk4 : Nat) (x2 : Int32) (x3 : Int32) (ls : Array Slot), lv_has ls 4 [(0, .ref (qa 0)), (2, .int x2), (3, .int x3)] → f0_warEnd_4 n a_undoers kk4 x2 x3 = some u → W p l e (rmq (0)) s m args below meth c s.heap [] 0 0 Q (F0 m 4 ls []) := by
    intro kk4
    induction kk4 with
    | zero => intro x2 x3  ls hl h; exact nomatch (show (none : Option (Int32)) = some u from h)
    | succ kk4 ih4 =>
      intro x2 x3  ls hl h
      rw [f0_warEnd_4.eq_2] at h
      refine lv_iload_n hx hb dX0_warEnd_4 rfl (lv_at hl 2 rfl) ?_
      refine lv_bipush (v := (60 : Int32)) hx hb dX0_warEnd_5 (by decide) ?_
      refine q_cge hx hb 32 h dX0_warEnd_7 (by decide) (fun h => ?_) (fun h => ?_)
      · exact J32 x2 _ (lv_sub hl [0, 1] rfl) h
      · refine lv_aload_n hx hb dX0_warEnd_10 rfl (lv_at hl 0 rfl) ?_
        refine va_get (D := D) (ci := 0) (v := .ref (qa 6)) (C := RX0) (T := TX0) (N := 10) hx hb hts in0 hown hK hP 0 rfl rfl 5 (by decide) l24 (fun _ h9 => h9) rfl dX0_warEnd_11 ?_
        refine lv_iload_n hx hb dX0_warEnd_14 rfl (lv_at hl 1 rfl) ?_
        refine q_iald hx hb hK hP 1 0 rfl rfl h dX0_warEnd_15 (fun t15 h => ?_)
        refine q_iflt hx hb 32 h dX0_warEnd_16 (by decide) (fun h => ?_) (fun h => ?_)
        · exact J32 x2 _ (lv_sub hl [0, 1] rfl) h
        · refine lv_aload_n hx hb dX0_warEnd_19 rfl (lv_at hl 0 rfl) ?_
          refine va_get (D := D) (ci := 0) (v := .ref (qa 6)) (C := RX0) (T := TX0) (N := 10) hx hb hts in0 hown hK hP 0 rfl rfl 5 (by decide) l24 (fun _ h9 => h9) rfl dX0_warEnd_20 ?_
          refine lv_iload_n hx hb dX0_warEnd_23 rfl (lv_at hl 1 rfl) ?_
          refine q_iald hx hb hK hP 1 0 rfl rfl h dX0_warEnd_24 (fun t24 h => ?_)
          refine lv_istore_n (lv' := [(2, .int t24), (0, .ref (qa 0)), (3, .int x3)]) hx hb dX0_warEnd_25 rfl hl (by decide) rfl (fun ls hl => ?_)
          refine q_iinc (fun v => [(3, .int v), (2, .int t24), (0, .ref (qa 0))]) hx hb h dX0_warEnd_26 (by decide) hl (k := 2) rfl (by decide) (fun _ => rfl) (fun x3_26 ls h hl => ?_)
          refine lv_goto (tgt := 4) hx hb dX0_warEnd_29 (by decide) ?_
          exact ih4 t24 x3_26 _ (lv_sub hl [2, 1, 0] rfl) h
  unfold f0_warEnd at h
  refine lv_iload_n hx hb dX0_warEnd_0 rfl (lv_at hl 1 rfl) ?_
  refine lv_istore_n (lv' := [(2, .int x1), (0, .ref (qa 0)), (1, .int x1)]) hx hb dX0_warEnd_1 rfl hl (by decide) rfl (fun ls hl => ?_)
  refine lv_iconst (v := (0 : Int32)) hx hb dX0_warEnd_2 (by decide) ?_
  refine lv_istore_n (lv' := [(3, .int ((0 : Int32))), (2, .int x1), (0, .ref (qa 0)), (1, .int x1)]) hx hb dX0_warEnd_3 rfl hl (by decide) rfl (fun ls hl => ?_)
  exact J4 n x1 ((0 : Int32)) _ (lv_sub hl [2, 1, 0] rfl) h
set_option maxHeartbeats 4000000 in
set_option maxRecDepth 100000 in
theorem c0_warSide (l : Launch) (D : va_G) (cI : ClassId) (ad : Nat → Nat) (qa : Nat → Nat) (a_done : Int32) (a_writers a_undoers : Nat → Int32) (x1 : Int32) (x2 : Int32) (n : Nat) (u : Int32) (h : f0_warSide n x1 x2 a_writers a_undoers = some u) : q_RO (cE ad) l yX0_warSide wsX0_warSide (rmq (0)) D cI [.ref (qa 0), .int x1, .int x2] [(qa 0, .inr (0, oX0 qa a_done)), (qa 3, .inl (cI, 60, .inl a_writers)), (qa 6, .inl (cI, 60, .inl a_undoers))] u := by
  refine q_startR (cc := cX0_warSide) (maxL := 6) (ty := .int) (own := RX0) (by decide) rfl rfl (Nat.le_of_ble_eq_true rfl) rfl (fun p e s m args below meth c Q hx hb hml hown hts hP hK hEv hret ls hl => ?_)
  have in0 : ∀ w ∈ wsX00, w ∈ wsX0_warSide := fun w h => List.mem_cons_of_mem _ (List.mem_append_right _ (h))
  have l15 := hts (.fieldLink RX0 15 "PageWars$Acts" "writers" "[I") (List.mem_of_getElem? (i := 1) rfl)
  have l24 := hts (.fieldLink RX0 24 "PageWars$Acts" "undoers" "[I") (List.mem_of_getElem? (i := 2) rfl)
  have J55 : ∀ (x3 : Int32) (ls : Array Slot), lv_has ls 6 [(0, .ref (qa 0)), (3, .int x3)] → f0_warSide_55 n a_writers a_undoers x3 = some u → W p l e (rmq (0)) s m args below meth c s.heap [] 0 0 Q (F0 m 55 ls []) := by
    intro x3  ls hl h
    unfold f0_warSide_55 at h
    refine lv_iload_n hx hb dX0_warSide_55 rfl (lv_at hl 1 rfl) ?_
    exact hret _ _ _ (vp_nar_int _) h dX0_warSide_56
  have J8 : ∀ (kk8 : Nat) (x2 : Int32) (x3 : Int32) (x4 : Int32) (x5 : Int32) (ls : Array Slot), lv_has ls 6 [(0, .ref (qa 0)), (2, .int x2), (3, .int x3), (4, .int x4), (5, .int x5)] → f0_warSide_8 n a_writers a_undoers kk8 x2 x3 x4 x5 = some u → W p l e (rmq (0)) s m args below meth c s.heap [] 0 0 Q (F0 m 8 ls []) := by
    intro kk8
    induction kk8 with
    | zero => intro x2 x3 x4 x5  ls hl h; exact nomatch (show (none : Option (Int32)) = some u from h)
    | succ kk8 ih8 =>
      have J40 : ∀ (x2 : Int32) (x3 : Int32) (x4 : Int32) (x5 : Int32) (ls : Array Slot), lv_has ls 6 [(0, .ref (qa 0)), (2, .int x2), (3, .int x3), (4, .int x4), (5, .int x5)] → f0_warSide_40 n a_writers a_undoers (f0_warSide_8 n a_writers a_undoers kk8) x2 x3 x4 x5 = some u → W p l e (rmq (0)) s m args below meth c s.heap [] 0 0 Q (F0 m 40 ls []) := by
        intro x2 x3 x4 x5  ls hl h
        unfold f0_warSide_40 at h
        refine lv_aload_n hx hb dX0_warSide_40 rfl (lv_at hl 0 rfl) ?_
        refine va_get (D := D) (ci := 0) (v := .ref (qa 6)) (C := RX0) (T := TX0) (N := 10) hx hb hts in0 hown hK hP 0 rfl rfl 5 (by decide) l24 (fun _ h9 => h9) rfl dX0_warSide_41 ?_
        refine lv_iload hx hb dX0_warSide_44 (lv_at hl 3 rfl) ?_
        refine q_iald hx hb hK hP 2 0 rfl rfl h dX0_warSide_46 (fun t46 h => ?_)
        refine lv_istore (lv' := [(4, .int t46), (0, .ref (qa 0)), (2, .int x2), (3, .int x3), (5, .int x5)]) hx hb dX0_warSide_47 hl (by decide) rfl (fun ls hl => ?_)
        refine q_iinc (fun v => [(5, .int v), (4, .int t46), (0, .ref (qa 0)), (2, .int x2), (3, .int x3)]) hx hb h dX0_warSide_49 (by decide) hl (k := 4) rfl (by decide) (fun _ => rfl) (fun x5_49 ls h hl => ?_)
        refine lv_goto (tgt := 8) hx hb dX0_warSide_52 (by decide) ?_
        exact ih8 x2 x3 t46 x5_49 _ (lv_sub hl [2, 3, 4, 1, 0] rfl) h
      intro x2 x3 x4 x5  ls hl h
      rw [f0_warSide_8.eq_2] at h
      refine lv_iload hx hb dX0_warSide_8 (lv_at hl 4 rfl) ?_
      refine lv_bipush (v := (60 : Int32)) hx hb dX0_warSide_10 (by decide) ?_
      refine q_cge hx hb 55 h dX0_warSide_12 (by decide) (fun h => ?_) (fun h => ?_)
      · exact J55 x3 _ (lv_sub hl [0, 2] rfl) h
      · refine lv_iload hx hb dX0_warSide_15 (lv_at hl 3 rfl) ?_
        refine q_iflt hx hb 55 h dX0_warSide_17 (by decide) (fun h => ?_) (fun h => ?_)
        · exact J55 x3 _ (lv_sub hl [0, 2] rfl) h
        · refine lv_iload hx hb dX0_warSide_20 (lv_at hl 4 rfl) ?_
          refine lv_iconst (v := (2 : Int32)) hx hb dX0_warSide_22 (by decide) ?_
          refine q_irem hx hb h dX0_warSide_23 (fun h => ?_)
          refine lv_iload_n hx hb dX0_warSide_24 rfl (lv_at hl 1 rfl) ?_
          refine q_cne hx hb 40 h dX0_warSide_25 (by decide) (fun h => ?_) (fun h => ?_)
          · exact J40 x2 x3 x4 x5 _ (lv_sub hl [0, 1, 2, 3, 4] rfl) h
          · refine lv_iload_n hx hb dX0_warSide_28 rfl (lv_at hl 2 rfl) ?_
            refine lv_iconst (v := (1 : Int32)) hx hb dX0_warSide_29 (by decide) ?_
            refine lv_aload_n hx hb dX0_warSide_30 rfl (lv_at hl 0 rfl) ?_
            refine va_get (D := D) (ci := 0) (v := .ref (qa 3)) (C := RX0) (T := TX0) (N := 10) hx hb hts in0 hown hK hP 0 rfl rfl 2 (by decide) l15 (fun _ h9 => h9) rfl dX0_warSide_31 ?_
            refine lv_iload hx hb dX0_warSide_34 (lv_at hl 3 rfl) ?_
            refine q_iald hx hb hK hP 1 0 rfl rfl h dX0_warSide_36 (fun t36 h => ?_)
            refine lv_ishl hx hb dX0_warSide_37 ?_
            refine lv_ior hx hb dX0_warSide_38 ?_
            refine q_let h (fun x3_39 h => ?_)
            refine lv_istore_n (lv' := [(3, .int x3_39), (0, .ref (qa 0)), (2, .int x2), (4, .int x4), (5, .int x5)]) hx hb dX0_warSide_39 rfl hl (by decide) rfl (fun ls hl => ?_)
            exact J40 x2 x3_39 x4 x5 _ (lv_sub hl [1, 2, 0, 3, 4] rfl) h
  unfold f0_warSide at h
  refine lv_iconst (v := (0 : Int32)) hx hb dX0_warSide_0 (by decide) ?_
  refine lv_istore_n (lv' := [(3, .int ((0 : Int32))), (0, .ref (qa 0)), (1, .int x1), (2, .int x2)]) hx hb dX0_warSide_1 rfl hl (by decide) rfl (fun ls hl => ?_)
  refine lv_iload_n hx hb dX0_warSide_2 rfl (lv_at hl 2 rfl) ?_
  refine lv_istore (lv' := [(4, .int x1), (3, .int ((0 : Int32))), (0, .ref (qa 0)), (1, .int x1), (2, .int x2)]) hx hb dX0_warSide_3 hl (by decide) rfl (fun ls hl => ?_)
  refine lv_iconst (v := (0 : Int32)) hx hb dX0_warSide_5 (by decide) ?_
  refine lv_istore (lv' := [(5, .int ((0 : Int32))), (4, .int x1), (3, .int ((0 : Int32))), (0, .ref (qa 0)), (1, .int x1), (2, .int x2)]) hx hb dX0_warSide_6 hl (by decide) rfl (fun ls hl => ?_)
  exact J8 n x2 ((0 : Int32)) x1 ((0 : Int32)) _ (lv_sub hl [3, 5, 2, 1, 0] rfl) h
set_option maxHeartbeats 4000000 in
set_option maxRecDepth 100000 in
theorem c6_war (l : Launch) (D : va_G) (cI : ClassId) (ad : Nat → Nat) (qp qb qa qt qr qv qh : Nat → Nat) (p_kept : Value) (p_timesKept b_now b_shutTill b_shutBy b_z b_waits a_done : Int32) (p_errors a_writers a_undoers : Nat → Int32) (x1 : Int32) (x2 : Int32) (n : Nat) (u : Int32 × (Nat → Int32)) (h : f6_war n x1 x2 a_done p_errors a_writers a_undoers = some u) : q_RW (cE ad) l yX6_war wsX6_war (rmq (1)) D cI [.ref (qp 0), .int x1, .int x2] [(qp 0, .inr (6, oX6 qp (qb 0) (qr 0) (qv 0) (qh 0) p_kept p_timesKept)), (qb 0, .inr (1, oX1 qb b_now b_shutTill b_shutBy b_z b_waits (qa 0) (qt 0))), (qa 0, .inr (0, oX0 qa a_done)), (qp 5, .inl (cI, 7, .inl p_errors)), (qa 3, .inl (cI, 60, .inl a_writers)), (qa 6, .inl (cI, 60, .inl a_undoers))] [(qp 0, .inr (6, oX6 qp (qb 0) (qr 0) (qv 0) (qh 0) p_kept p_timesKept)), (qb 0, .inr (1, oX1 qb b_now b_shutTill b_shutBy b_z b_waits (qa 0) (qt 0))), (qa 0, .inr (0, oX0 qa a_done)), (qp 5, .inl (cI, 7, .inl u.2)), (qa 3, .inl (cI, 60, .inl a_writers)), (qa 6, .inl (cI, 60, .inl a_undoers))] u.1 := by
  refine q_startW (fun u : Int32 × (Nat → Int32) => [(qp 0, .inr (6, oX6 qp (qb 0) (qr 0) (qv 0) (qh 0) p_kept p_timesKept)), (qb 0, .inr (1, oX1 qb b_now b_shutTill b_shutBy b_z b_waits (qa 0) (qt 0))), (qa 0, .inr (0, oX0 qa a_done)), (qp 5, .inl (cI, 7, .inl u.2)), (qa 3, .inl (cI, 60, .inl a_writers)), (qa 6, .inl (cI, 60, .inl a_undoers))]) (fun u => u.1) (cc := cX6_war) (maxL := 3) (ty := .int) (own := RX6) (by decide) rfl rfl (Nat.le_of_ble_eq_true rfl) rfl (fun p e s m args below meth c Q A hx hb hml hown hts hK hEv hA hret hP hD hS ls hl => ?_)
  have in0 : ∀ w ∈ wsX00, w ∈ wsX6_war := fun w h => List.mem_cons_of_mem _ (List.mem_append_right _ (h))
  have in1 : ∀ w ∈ wsX10, w ∈ wsX6_war := fun w h => List.mem_cons_of_mem _ (List.mem_append_left _ (List.mem_append_right _ (h)))
  have in6 : ∀ w ∈ wsX60, w ∈ wsX6_war := fun w h => List.mem_cons_of_mem _ (List.mem_append_left _ (List.mem_append_left _ (List.mem_append_right _ (h))))
  have l10 := hts (.fieldLink RX6 10 "PageWars" "book" "LPageWars$Book;") (List.mem_of_getElem? (i := 1) rfl)
  have l63 : (Cond.fieldLinkNest RX6 63 "PageWars$Book" "acts" "LPageWars$Acts;" "PageWars").before args s = true := cE_f6_63 hEv
  unfold f6_war at h
  refine lv_aload_n hx hb dX6_war_0 rfl (lv_at hl 0 rfl) ?_
  refine lv_iload_n hx hb dX6_war_1 rfl (lv_at hl 1 rfl) ?_
  refine q_callR (cEok ad) (rest := []) ⟨hx, hb, hml, hown, hts⟩ (fun r hr => c6_isAct l D cI ad qp qb qa qt qr qv qh p_kept p_timesKept b_now b_shutTill b_shutBy b_z b_waits a_done x1 r hr) (cwV 1 hts gX6_war_X6_isAct rfl rfl rfl hdX6_isAct (rmq_ok (Nat.le_of_ble_eq_true rfl) (Nat.le_of_ble_eq_true rfl))) hK hP hEv hS [0, 1, 2] rfl (va_recv hK hP (ci := 6) (q0 := 0) rfl rfl) rfl rfl hl.1 (Nat.le_of_ble_eq_true rfl) ⟨Nat.zero_le _, Nat.zero_le _⟩ h dX6_war_2 (fun t2 h => ?_)
  refine q_ifne hx hb 14 h dX6_war_5 (by decide) (fun h => ?_) (fun h => ?_)
  · refine lv_iload_n hx hb dX6_war_14 rfl (lv_at hl 2 rfl) ?_
    rcases Decidable.em (x2 = (0 : Int32)) with w0 | w0
    · have h := q_t h w0
      refine lv_tableIn hx hb dX6_war_15 (off := 29) (tgt := 44) (by rw [w0]; decide) (by rw [w0]; decide) (by rw [w0]; rfl) (by decide) ?_
      refine lv_aload_n hx hb dX6_war_44 rfl (lv_at hl 0 rfl) ?_
      refine va_get (D := D) (ci := 6) (v := .ref (qb 0)) (C := RX6) (T := TX6) (N := 7) hx hb hts in6 hown hK hP 0 rfl rfl 0 (by decide) l10 (fun _ h9 => h9) rfl dX6_war_45 ?_
      refine va_getN (D := D) (ci := 1) (v := .ref (qa 0)) (C := RX1) (T := TX1) (N := 9) hx hb hts in1 hown hK hP 1 rfl rfl 7 (by decide) l63 (fun _ h9 => h9) rfl dX6_war_48 ?_
      refine lv_iload_n hx hb dX6_war_51 rfl (lv_at hl 1 rfl) ?_
      refine q_callR (cEok ad) (rest := []) ⟨hx, hb, hml, hown, hts⟩ (fun r hr => c0_warLength l D cI ad qa a_done a_undoers x1 n r hr) (cwV 1 hts gX6_war_X0_warLength rfl rfl rfl hdX0_warLength (rmq_ok (Nat.le_of_ble_eq_true rfl) (Nat.le_of_ble_eq_true rfl))) hK hP hEv hS [2, 5] rfl (va_recv hK hP (ci := 0) (q0 := 2) rfl rfl) rfl rfl hl.1 (Nat.le_of_ble_eq_true rfl) ⟨Nat.zero_le _, Nat.zero_le _⟩ h dX6_war_52 (fun t52 h => ?_)
      exact hret (t52, p_errors) _ _ _ _ (vp_nar_int _) h hP hD hS dX6_war_55
    have h := q_f h w0
    rcases Decidable.em (x2 = (1 : Int32)) with w1 | w1
    · have h := q_t h w1
      refine lv_tableIn hx hb dX6_war_15 (off := 41) (tgt := 56) (by rw [w1]; decide) (by rw [w1]; decide) (by rw [w1]; rfl) (by decide) ?_
      refine lv_aload_n hx hb dX6_war_56 rfl (lv_at hl 0 rfl) ?_
      refine va_get (D := D) (ci := 6) (v := .ref (qb 0)) (C := RX6) (T := TX6) (N := 7) hx hb hts in6 hown hK hP 0 rfl rfl 0 (by decide) l10 (fun _ h9 => h9) rfl dX6_war_57 ?_
      refine va_getN (D := D) (ci := 1) (v := .ref (qa 0)) (C := RX1) (T := TX1) (N := 9) hx hb hts in1 hown hK hP 1 rfl rfl 7 (by decide) l63 (fun _ h9 => h9) rfl dX6_war_60 ?_
      refine lv_iload_n hx hb dX6_war_63 rfl (lv_at hl 1 rfl) ?_
      refine q_callR (cEok ad) (rest := []) ⟨hx, hb, hml, hown, hts⟩ (fun r hr => c0_warEnd l D cI ad qa a_done a_undoers x1 n r hr) (cwV 1 hts gX6_war_X0_warEnd rfl rfl rfl hdX0_warEnd (rmq_ok (Nat.le_of_ble_eq_true rfl) (Nat.le_of_ble_eq_true rfl))) hK hP hEv hS [2, 5] rfl (va_recv hK hP (ci := 0) (q0 := 2) rfl rfl) rfl rfl hl.1 (Nat.le_of_ble_eq_true rfl) ⟨Nat.zero_le _, Nat.zero_le _⟩ h dX6_war_64 (fun t64 h => ?_)
      exact hret (t64, p_errors) _ _ _ _ (vp_nar_int _) h hP hD hS dX6_war_67
    have h := q_f h w1
    rcases Decidable.em (x2 = (2 : Int32)) with w2 | w2
    · have h := q_t h w2
      refine lv_tableIn hx hb dX6_war_15 (off := 53) (tgt := 68) (by rw [w2]; decide) (by rw [w2]; decide) (by rw [w2]; rfl) (by decide) ?_
      refine lv_aload_n hx hb dX6_war_68 rfl (lv_at hl 0 rfl) ?_
      refine va_get (D := D) (ci := 6) (v := .ref (qb 0)) (C := RX6) (T := TX6) (N := 7) hx hb hts in6 hown hK hP 0 rfl rfl 0 (by decide) l10 (fun _ h9 => h9) rfl dX6_war_69 ?_
      refine va_getN (D := D) (ci := 1) (v := .ref (qa 0)) (C := RX1) (T := TX1) (N := 9) hx hb hts in1 hown hK hP 1 rfl rfl 7 (by decide) l63 (fun _ h9 => h9) rfl dX6_war_72 ?_
      refine lv_iload_n hx hb dX6_war_75 rfl (lv_at hl 1 rfl) ?_
      refine lv_iconst (v := (0 : Int32)) hx hb dX6_war_76 (by decide) ?_
      refine q_callR (cEok ad) (rest := []) ⟨hx, hb, hml, hown, hts⟩ (fun r hr => c0_warSide l D cI ad qa a_done a_writers a_undoers x1 ((0 : Int32)) n r hr) (cwV 2 hts gX6_war_X0_warSide rfl rfl rfl hdX0_warSide (rmq_ok (Nat.le_of_ble_eq_true rfl) (Nat.le_of_ble_eq_true rfl))) hK hP hEv hS [2, 4, 5] rfl (va_recv hK hP (ci := 0) (q0 := 2) rfl rfl) rfl rfl hl.1 (Nat.le_of_ble_eq_true rfl) ⟨Nat.zero_le _, Nat.zero_le _⟩ h dX6_war_77 (fun t77 h => ?_)
      exact hret (t77, p_errors) _ _ _ _ (vp_nar_int _) h hP hD hS dX6_war_80
    have h := q_f h w2
    rcases Decidable.em (x2 = (3 : Int32)) with w3 | w3
    · have h := q_t h w3
      refine lv_tableIn hx hb dX6_war_15 (off := 66) (tgt := 81) (by rw [w3]; decide) (by rw [w3]; decide) (by rw [w3]; rfl) (by decide) ?_
      refine lv_aload_n hx hb dX6_war_81 rfl (lv_at hl 0 rfl) ?_
      refine va_get (D := D) (ci := 6) (v := .ref (qb 0)) (C := RX6) (T := TX6) (N := 7) hx hb hts in6 hown hK hP 0 rfl rfl 0 (by decide) l10 (fun _ h9 => h9) rfl dX6_war_82 ?_
      refine va_getN (D := D) (ci := 1) (v := .ref (qa 0)) (C := RX1) (T := TX1) (N := 9) hx hb hts in1 hown hK hP 1 rfl rfl 7 (by decide) l63 (fun _ h9 => h9) rfl dX6_war_85 ?_
      refine lv_iload_n hx hb dX6_war_88 rfl (lv_at hl 1 rfl) ?_
      refine lv_iconst (v := (1 : Int32)) hx hb dX6_war_89 (by decide) ?_
      refine q_callR (cEok ad) (rest := []) ⟨hx, hb, hml, hown, hts⟩ (fun r hr => c0_warSide l D cI ad qa a_done a_writers a_undoers x1 ((1 : Int32)) n r hr) (cwV 2 hts gX6_war_X0_warSide rfl rfl rfl hdX0_warSide (rmq_ok (Nat.le_of_ble_eq_true rfl) (Nat.le_of_ble_eq_true rfl))) hK hP hEv hS [2, 4, 5] rfl (va_recv hK hP (ci := 0) (q0 := 2) rfl rfl) rfl rfl hl.1 (Nat.le_of_ble_eq_true rfl) ⟨Nat.zero_le _, Nat.zero_le _⟩ h dX6_war_90 (fun t90 h => ?_)
      exact hret (t90, p_errors) _ _ _ _ (vp_nar_int _) h hP hD hS dX6_war_93
    have h := q_f h w3
    refine lv_tableOut hx hb dX6_war_15 (tgt := 94) (q_out (fun k hk e => ?_)) (by decide) ?_
    · rcases (show k = 0 ∨ k = 1 ∨ k = 2 ∨ k = 3 by omega) with rfl | rfl | rfl | rfl
      · exact w0 (Int32.toInt_inj.mp (e.trans (by decide)))
      · exact w1 (Int32.toInt_inj.mp (e.trans (by decide)))
      · exact w2 (Int32.toInt_inj.mp (e.trans (by decide)))
      · exact w3 (Int32.toInt_inj.mp (e.trans (by decide)))
    · refine lv_aload_n hx hb dX6_war_94 rfl (lv_at hl 0 rfl) ?_
      refine lv_iconst (v := (1 : Int32)) hx hb dX6_war_95 (by decide) ?_
      refine q_callW2 (cEok ad) (rest := []) (fun u => [(qp 0, .inr (6, oX6 qp (qb 0) (qr 0) (qv 0) (qh 0) p_kept p_timesKept)), (qp 5, .inl (cI, 7, .inl u.2))]) (fun u => u.1) ⟨hx, hb, hml, hown, hts⟩ (fun u hu => c6_error l D cI ad qp qb qr qv qh p_kept p_timesKept p_errors ((1 : Int32)) u hu) (cwV 1 hts gX6_war_X6_error rfl rfl rfl hdX6_error (rmq_ok (Nat.le_of_ble_eq_true rfl) (Nat.le_of_ble_eq_true rfl))) hK hEv hA hP hD hS [0, 3] (by decide) rfl (fun _ => rfl) (va_recv hK hP (ci := 6) (q0 := 0) rfl rfl) rfl rfl hl.1 (Nat.le_of_ble_eq_true rfl) ⟨Nat.zero_le _, Nat.zero_le _⟩ h dX6_war_96 (fun t96 p_errors_96 H locs h hP hD hS => ?_)
      have hP : va_P D vwCl [(qp 0, .inr (6, oX6 qp (qb 0) (qr 0) (qv 0) (qh 0) p_kept p_timesKept)), (qb 0, .inr (1, oX1 qb b_now b_shutTill b_shutBy b_z b_waits (qa 0) (qt 0))), (qa 0, .inr (0, oX0 qa a_done)), (qp 5, .inl (cI, 7, .inl p_errors_96)), (qa 3, .inl (cI, 60, .inl a_writers)), (qa 6, .inl (cI, 60, .inl a_undoers))] H := hP
      have hD : va_D A [(qp 0, .inr (6, oX6 qp (qb 0) (qr 0) (qv 0) (qh 0) p_kept p_timesKept)), (qb 0, .inr (1, oX1 qb b_now b_shutTill b_shutBy b_z b_waits (qa 0) (qt 0))), (qa 0, .inr (0, oX0 qa a_done)), (qp 5, .inl (cI, 7, .inl p_errors_96)), (qa 3, .inl (cI, 60, .inl a_writers)), (qa 6, .inl (cI, 60, .inl a_undoers))] := hD
      exact hret (t96, p_errors_96) _ _ _ _ (vp_nar_int _) h hP hD hS dX6_war_99
  · refine lv_aload_n hx hb dX6_war_8 rfl (lv_at hl 0 rfl) ?_
    refine lv_iconst (v := (1 : Int32)) hx hb dX6_war_9 (by decide) ?_
    refine q_callW2 (cEok ad) (rest := []) (fun u => [(qp 0, .inr (6, oX6 qp (qb 0) (qr 0) (qv 0) (qh 0) p_kept p_timesKept)), (qp 5, .inl (cI, 7, .inl u.2))]) (fun u => u.1) ⟨hx, hb, hml, hown, hts⟩ (fun u hu => c6_error l D cI ad qp qb qr qv qh p_kept p_timesKept p_errors ((1 : Int32)) u hu) (cwV 1 hts gX6_war_X6_error rfl rfl rfl hdX6_error (rmq_ok (Nat.le_of_ble_eq_true rfl) (Nat.le_of_ble_eq_true rfl))) hK hEv hA hP hD hS [0, 3] (by decide) rfl (fun _ => rfl) (va_recv hK hP (ci := 6) (q0 := 0) rfl rfl) rfl rfl hl.1 (Nat.le_of_ble_eq_true rfl) ⟨Nat.zero_le _, Nat.zero_le _⟩ h dX6_war_10 (fun t10 p_errors_10 H locs h hP hD hS => ?_)
    have hP : va_P D vwCl [(qp 0, .inr (6, oX6 qp (qb 0) (qr 0) (qv 0) (qh 0) p_kept p_timesKept)), (qb 0, .inr (1, oX1 qb b_now b_shutTill b_shutBy b_z b_waits (qa 0) (qt 0))), (qa 0, .inr (0, oX0 qa a_done)), (qp 5, .inl (cI, 7, .inl p_errors_10)), (qa 3, .inl (cI, 60, .inl a_writers)), (qa 6, .inl (cI, 60, .inl a_undoers))] H := hP
    have hD : va_D A [(qp 0, .inr (6, oX6 qp (qb 0) (qr 0) (qv 0) (qh 0) p_kept p_timesKept)), (qb 0, .inr (1, oX1 qb b_now b_shutTill b_shutBy b_z b_waits (qa 0) (qt 0))), (qa 0, .inr (0, oX0 qa a_done)), (qp 5, .inl (cI, 7, .inl p_errors_10)), (qa 3, .inl (cI, 60, .inl a_writers)), (qa 6, .inl (cI, 60, .inl a_undoers))] := hD
    exact hret (t10, p_errors_10) _ _ _ _ (vp_nar_int _) h hP hD hS dX6_war_13
set_option maxHeartbeats 4000000 in
set_option maxRecDepth 100000 in
theorem c0_longestWar (l : Launch) (D : va_G) (cI : ClassId) (ad : Nat → Nat) (qa : Nat → Nat) (a_done : Int32) (a_undoers : Nat → Int32) (n : Nat) (u : Int32) (h : f0_longestWar n a_done a_undoers = some u) : q_RO (cE ad) l yX0_longestWar wsX0_longestWar (rmq (1)) D cI [.ref (qa 0)] [(qa 0, .inr (0, oX0 qa a_done)), (qa 6, .inl (cI, 60, .inl a_undoers))] u := by
  refine q_startR (cc := cX0_longestWar) (maxL := 3) (ty := .int) (own := RX0) (by decide) rfl rfl (Nat.le_of_ble_eq_true rfl) rfl (fun p e s m args below meth c Q hx hb hml hown hts hP hK hEv hret ls hl => ?_)
  have in0 : ∀ w ∈ wsX00, w ∈ wsX0_longestWar := fun w h => List.mem_cons_of_mem _ (List.mem_append_right _ (h))
  have l39 := hts (.fieldLink RX0 39 "PageWars$Acts" "done" "I") (List.mem_of_getElem? (i := 1) rfl)
  have J4 : ∀ (kk4 : Nat) (x1 : Int32) (x2 : Int32) (ls : Array Slot), lv_has ls 3 [(0, .ref (qa 0)), (1, .int x1), (2, .int x2)] → f0_longestWar_4 n a_done a_undoers kk4 x1 x2 = some u → W p l e (rmq (1)) s m args below meth c s.heap [] 0 0 Q (F0 m 4 ls []) := by
    intro kk4
    induction kk4 with
    | zero => intro x1 x2  ls hl h; exact nomatch (show (none : Option (Int32)) = some u from h)
    | succ kk4 ih4 =>
      have J27 : ∀ (x1 : Int32) (x2 : Int32) (ls : Array Slot), lv_has ls 3 [(0, .ref (qa 0)), (1, .int x1), (2, .int x2)] → f0_longestWar_27 n a_done a_undoers (f0_longestWar_4 n a_done a_undoers kk4) x1 x2 = some u → W p l e (rmq (1)) s m args below meth c s.heap [] 0 0 Q (F0 m 27 ls []) := by
        intro x1 x2  ls hl h
        unfold f0_longestWar_27 at h
        refine q_iinc (fun v => [(2, .int v), (0, .ref (qa 0)), (1, .int x1)]) hx hb h dX0_longestWar_27 (by decide) hl (k := 2) rfl (by decide) (fun _ => rfl) (fun x2_27 ls h hl => ?_)
        refine lv_goto (tgt := 4) hx hb dX0_longestWar_30 (by decide) ?_
        exact ih4 x1 x2_27 _ (lv_sub hl [1, 2, 0] rfl) h
      intro x1 x2  ls hl h
      rw [f0_longestWar_4.eq_2] at h
      refine lv_iload_n hx hb dX0_longestWar_4 rfl (lv_at hl 2 rfl) ?_
      refine lv_aload_n hx hb dX0_longestWar_5 rfl (lv_at hl 0 rfl) ?_
      refine va_get (D := D) (ci := 0) (v := .int a_done) (C := RX0) (T := TX0) (N := 10) hx hb hts in0 hown hK hP 0 rfl rfl 0 (by decide) l39 (fun _ h9 => h9) rfl dX0_longestWar_6 ?_
      refine q_cge hx hb 33 h dX0_longestWar_9 (by decide) (fun h => ?_) (fun h => ?_)
      · refine lv_iload_n hx hb dX0_longestWar_33 rfl (lv_at hl 1 rfl) ?_
        exact hret _ _ _ (vp_nar_int _) h dX0_longestWar_34
      · refine lv_aload_n hx hb dX0_longestWar_12 rfl (lv_at hl 0 rfl) ?_
        refine lv_iload_n hx hb dX0_longestWar_13 rfl (lv_at hl 2 rfl) ?_
        refine q_callR (cEok ad) (rest := []) ⟨hx, hb, hml, hown, hts⟩ (fun r hr => c0_warLength l D cI ad qa a_done a_undoers x2 n r hr) (cwV 1 hts gX0_longestWar_X0_warLength rfl rfl rfl hdX0_warLength (rmq_ok (Nat.le_of_ble_eq_true rfl) (Nat.le_of_ble_eq_true rfl))) hK hP hEv va_S.rf [0, 1] rfl (va_recv hK hP (ci := 0) (q0 := 0) rfl rfl) rfl rfl hl.1 (Nat.le_of_ble_eq_true rfl) ⟨Nat.zero_le _, Nat.zero_le _⟩ h dX0_longestWar_14 (fun t14 h => ?_)
        refine lv_aload_n hx hb dX0_longestWar_17 rfl (lv_at hl 0 rfl) ?_
        refine lv_iload_n hx hb dX0_longestWar_18 rfl (lv_at hl 1 rfl) ?_
        refine q_callR (cEok ad) (rest := [.int t14]) ⟨hx, hb, hml, hown, hts⟩ (fun r hr => c0_warLength l D cI ad qa a_done a_undoers x1 n r hr) (cwV 1 hts gX0_longestWar_X0_warLength rfl rfl rfl hdX0_warLength (rmq_ok (Nat.le_of_ble_eq_true rfl) (Nat.le_of_ble_eq_true rfl))) hK hP hEv va_S.rf [0, 1] rfl (va_recv hK hP (ci := 0) (q0 := 0) rfl rfl) rfl rfl hl.1 (Nat.le_of_ble_eq_true rfl) ⟨Nat.zero_le _, Nat.zero_le _⟩ h dX0_longestWar_19 (fun t19 h => ?_)
        refine q_cle hx hb 27 h dX0_longestWar_22 (by decide) (fun h => ?_) (fun h => ?_)
        · exact J27 x1 x2 _ (lv_sub hl [0, 1, 2] rfl) h
        · refine lv_iload_n hx hb dX0_longestWar_25 rfl (lv_at hl 2 rfl) ?_
          refine lv_istore_n (lv' := [(1, .int x2), (0, .ref (qa 0)), (2, .int x2)]) hx hb dX0_longestWar_26 rfl hl (by decide) rfl (fun ls hl => ?_)
          exact J27 x2 x2 _ (lv_sub hl [1, 0, 2] rfl) h
  unfold f0_longestWar at h
  refine lv_iconst (v := (0 : Int32)) hx hb dX0_longestWar_0 (by decide) ?_
  refine lv_istore_n (lv' := [(1, .int ((0 : Int32))), (0, .ref (qa 0))]) hx hb dX0_longestWar_1 rfl hl (by decide) rfl (fun ls hl => ?_)
  refine lv_iconst (v := (1 : Int32)) hx hb dX0_longestWar_2 (by decide) ?_
  refine lv_istore_n (lv' := [(2, .int ((1 : Int32))), (1, .int ((0 : Int32))), (0, .ref (qa 0))]) hx hb dX0_longestWar_3 rfl hl (by decide) rfl (fun ls hl => ?_)
  exact J4 n ((0 : Int32)) ((1 : Int32)) _ (lv_sub hl [2, 1, 0] rfl) h
set_option maxHeartbeats 4000000 in
set_option maxRecDepth 100000 in
theorem c6_longest (l : Launch) (D : va_G) (cI : ClassId) (ad : Nat → Nat) (qp qb qa qt qr qv qh : Nat → Nat) (p_kept : Value) (p_timesKept b_now b_shutTill b_shutBy b_z b_waits a_done : Int32) (p_errors a_undoers : Nat → Int32) (n : Nat) (u : Int32 × (Nat → Int32)) (h : f6_longest n a_done p_errors a_undoers = some u) : q_RW (cE ad) l yX6_longest wsX6_longest (rmq (2)) D cI [.ref (qp 0)] [(qp 0, .inr (6, oX6 qp (qb 0) (qr 0) (qv 0) (qh 0) p_kept p_timesKept)), (qb 0, .inr (1, oX1 qb b_now b_shutTill b_shutBy b_z b_waits (qa 0) (qt 0))), (qa 0, .inr (0, oX0 qa a_done)), (qp 5, .inl (cI, 7, .inl p_errors)), (qa 6, .inl (cI, 60, .inl a_undoers))] [(qp 0, .inr (6, oX6 qp (qb 0) (qr 0) (qv 0) (qh 0) p_kept p_timesKept)), (qb 0, .inr (1, oX1 qb b_now b_shutTill b_shutBy b_z b_waits (qa 0) (qt 0))), (qa 0, .inr (0, oX0 qa a_done)), (qp 5, .inl (cI, 7, .inl u.2)), (qa 6, .inl (cI, 60, .inl a_undoers))] u.1 := by
  refine q_startW (fun u : Int32 × (Nat → Int32) => [(qp 0, .inr (6, oX6 qp (qb 0) (qr 0) (qv 0) (qh 0) p_kept p_timesKept)), (qb 0, .inr (1, oX1 qb b_now b_shutTill b_shutBy b_z b_waits (qa 0) (qt 0))), (qa 0, .inr (0, oX0 qa a_done)), (qp 5, .inl (cI, 7, .inl u.2)), (qa 6, .inl (cI, 60, .inl a_undoers))]) (fun u => u.1) (cc := cX6_longest) (maxL := 1) (ty := .int) (own := RX6) (by decide) rfl rfl (Nat.le_of_ble_eq_true rfl) rfl (fun p e s m args below meth c Q A hx hb hml hown hts hK hEv hA hret hP hD hS ls hl => ?_)
  have in0 : ∀ w ∈ wsX00, w ∈ wsX6_longest := fun w h => List.mem_cons_of_mem _ (List.mem_append_right _ (h))
  have in1 : ∀ w ∈ wsX10, w ∈ wsX6_longest := fun w h => List.mem_cons_of_mem _ (List.mem_append_left _ (List.mem_append_right _ (h)))
  have in6 : ∀ w ∈ wsX60, w ∈ wsX6_longest := fun w h => List.mem_cons_of_mem _ (List.mem_append_left _ (List.mem_append_left _ (List.mem_append_right _ (h))))
  have l10 := hts (.fieldLink RX6 10 "PageWars" "book" "LPageWars$Book;") (List.mem_of_getElem? (i := 1) rfl)
  have l63 : (Cond.fieldLinkNest RX6 63 "PageWars$Book" "acts" "LPageWars$Acts;" "PageWars").before args s = true := cE_f6_63 hEv
  have l181 : (Cond.fieldLinkNest RX6 181 "PageWars$Acts" "done" "I" "PageWars").before args s = true := cE_f6_181 hEv
  unfold f6_longest at h
  refine lv_aload_n hx hb dX6_longest_0 rfl (lv_at hl 0 rfl) ?_
  refine va_get (D := D) (ci := 6) (v := .ref (qb 0)) (C := RX6) (T := TX6) (N := 7) hx hb hts in6 hown hK hP 0 rfl rfl 0 (by decide) l10 (fun _ h9 => h9) rfl dX6_longest_1 ?_
  refine va_getN (D := D) (ci := 1) (v := .ref (qa 0)) (C := RX1) (T := TX1) (N := 9) hx hb hts in1 hown hK hP 1 rfl rfl 7 (by decide) l63 (fun _ h9 => h9) rfl dX6_longest_4 ?_
  refine va_getN (D := D) (ci := 0) (v := .int a_done) (C := RX0) (T := TX0) (N := 10) hx hb hts in0 hown hK hP 2 rfl rfl 0 (by decide) l181 (fun _ h9 => h9) rfl dX6_longest_7 ?_
  refine q_ifne hx hb 19 h dX6_longest_10 (by decide) (fun h => ?_) (fun h => ?_)
  · refine lv_aload_n hx hb dX6_longest_19 rfl (lv_at hl 0 rfl) ?_
    refine va_get (D := D) (ci := 6) (v := .ref (qb 0)) (C := RX6) (T := TX6) (N := 7) hx hb hts in6 hown hK hP 0 rfl rfl 0 (by decide) l10 (fun _ h9 => h9) rfl dX6_longest_20 ?_
    refine va_getN (D := D) (ci := 1) (v := .ref (qa 0)) (C := RX1) (T := TX1) (N := 9) hx hb hts in1 hown hK hP 1 rfl rfl 7 (by decide) l63 (fun _ h9 => h9) rfl dX6_longest_23 ?_
    refine q_callR (cEok ad) (rest := []) ⟨hx, hb, hml, hown, hts⟩ (fun r hr => c0_longestWar l D cI ad qa a_done a_undoers n r hr) (cwV 0 hts gX6_longest_X0_longestWar rfl rfl rfl hdX0_longestWar (rmq_ok (Nat.le_of_ble_eq_true rfl) (Nat.le_of_ble_eq_true rfl))) hK hP hEv hS [2, 4] rfl (va_recv hK hP (ci := 0) (q0 := 2) rfl rfl) rfl rfl hl.1 (Nat.le_of_ble_eq_true rfl) ⟨Nat.zero_le _, Nat.zero_le _⟩ h dX6_longest_26 (fun t26 h => ?_)
    exact hret (t26, p_errors) _ _ _ _ (vp_nar_int _) h hP hD hS dX6_longest_29
  · refine lv_aload_n hx hb dX6_longest_13 rfl (lv_at hl 0 rfl) ?_
    refine lv_iconst (v := (2 : Int32)) hx hb dX6_longest_14 (by decide) ?_
    refine q_callW2 (cEok ad) (rest := []) (fun u => [(qp 0, .inr (6, oX6 qp (qb 0) (qr 0) (qv 0) (qh 0) p_kept p_timesKept)), (qp 5, .inl (cI, 7, .inl u.2))]) (fun u => u.1) ⟨hx, hb, hml, hown, hts⟩ (fun u hu => c6_error l D cI ad qp qb qr qv qh p_kept p_timesKept p_errors ((2 : Int32)) u hu) (cwV 1 hts gX6_longest_X6_error rfl rfl rfl hdX6_error (rmq_ok (Nat.le_of_ble_eq_true rfl) (Nat.le_of_ble_eq_true rfl))) hK hEv hA hP hD hS [0, 3] (by decide) rfl (fun _ => rfl) (va_recv hK hP (ci := 6) (q0 := 0) rfl rfl) rfl rfl hl.1 (Nat.le_of_ble_eq_true rfl) ⟨Nat.zero_le _, Nat.zero_le _⟩ h dX6_longest_15 (fun t15 p_errors_15 H locs h hP hD hS => ?_)
    have hP : va_P D vwCl [(qp 0, .inr (6, oX6 qp (qb 0) (qr 0) (qv 0) (qh 0) p_kept p_timesKept)), (qb 0, .inr (1, oX1 qb b_now b_shutTill b_shutBy b_z b_waits (qa 0) (qt 0))), (qa 0, .inr (0, oX0 qa a_done)), (qp 5, .inl (cI, 7, .inl p_errors_15)), (qa 6, .inl (cI, 60, .inl a_undoers))] H := hP
    have hD : va_D A [(qp 0, .inr (6, oX6 qp (qb 0) (qr 0) (qv 0) (qh 0) p_kept p_timesKept)), (qb 0, .inr (1, oX1 qb b_now b_shutTill b_shutBy b_z b_waits (qa 0) (qt 0))), (qa 0, .inr (0, oX0 qa a_done)), (qp 5, .inl (cI, 7, .inl p_errors_15)), (qa 6, .inl (cI, 60, .inl a_undoers))] := hD
    exact hret (t15, p_errors_15) _ _ _ _ (vp_nar_int _) h hP hD hS dX6_longest_18
set_option maxHeartbeats 4000000 in
set_option maxRecDepth 100000 in
theorem c0_wordsOf (l : Launch) (D : va_G) (cI : ClassId) (ad : Nat → Nat) (qa : Nat → Nat) (a_done : Int32) (a_sizes a_cells : Nat → Int32) (x1 : Int32) (x2 : Int32) (n : Nat) (u : Int32) (h : f0_wordsOf n x1 x2 a_sizes a_cells = some u) : q_RO (cE ad) l yX0_wordsOf wsX0_wordsOf (rmq (1)) D cI [.ref (qa 0), .int x1, .int x2] [(qa 0, .inr (0, oX0 qa a_done)), (qa 8, .inl (cI, 61, .inl a_sizes)), (qa 9, .inl (cI, 1220, .inl a_cells))] u := by
  refine q_startR (cc := cX0_wordsOf) (maxL := 5) (ty := .int) (own := RX0) (by decide) rfl rfl (Nat.le_of_ble_eq_true rfl) rfl (fun p e s m args below meth c Q hx hb hml hown hts hP hK hEv hret ls hl => ?_)
  have in0 : ∀ w ∈ wsX00, w ∈ wsX0_wordsOf := fun w h => List.mem_cons_of_mem _ (List.mem_append_right _ (h))
  have l30 := hts (.fieldLink RX0 30 "PageWars$Acts" "sizes" "[I") (List.mem_of_getElem? (i := 1) rfl)
  have J5 : ∀ (kk5 : Nat) (x1 : Int32) (x2 : Int32) (x3 : Int32) (x4 : Int32) (ls : Array Slot), lv_has ls 5 [(0, .ref (qa 0)), (1, .int x1), (2, .int x2), (3, .int x3), (4, .int x4)] → f0_wordsOf_5 n a_sizes a_cells kk5 x1 x2 x3 x4 = some u → W p l e (rmq (1)) s m args below meth c s.heap [] 0 0 Q (F0 m 5 ls []) := by
    intro kk5
    induction kk5 with
    | zero => intro x1 x2 x3 x4  ls hl h; exact nomatch (show (none : Option (Int32)) = some u from h)
    | succ kk5 ih5 =>
      have J30 : ∀ (x1 : Int32) (x2 : Int32) (x3 : Int32) (x4 : Int32) (ls : Array Slot), lv_has ls 5 [(0, .ref (qa 0)), (1, .int x1), (2, .int x2), (3, .int x3), (4, .int x4)] → f0_wordsOf_30 n a_sizes a_cells (f0_wordsOf_5 n a_sizes a_cells kk5) x1 x2 x3 x4 = some u → W p l e (rmq (1)) s m args below meth c s.heap [] 0 0 Q (F0 m 30 ls []) := by
        intro x1 x2 x3 x4  ls hl h
        unfold f0_wordsOf_30 at h
        refine q_iinc (fun v => [(4, .int v), (0, .ref (qa 0)), (1, .int x1), (2, .int x2), (3, .int x3)]) hx hb h dX0_wordsOf_30 (by decide) hl (k := 4) rfl (by decide) (fun _ => rfl) (fun x4_30 ls h hl => ?_)
        refine lv_goto (tgt := 5) hx hb dX0_wordsOf_33 (by decide) ?_
        exact ih5 x1 x2 x3 x4_30 _ (lv_sub hl [1, 2, 3, 4, 0] rfl) h
      intro x1 x2 x3 x4  ls hl h
      rw [f0_wordsOf_5.eq_2] at h
      refine lv_iload hx hb dX0_wordsOf_5 (lv_at hl 4 rfl) ?_
      refine lv_aload_n hx hb dX0_wordsOf_7 rfl (lv_at hl 0 rfl) ?_
      refine va_get (D := D) (ci := 0) (v := .ref (qa 8)) (C := RX0) (T := TX0) (N := 10) hx hb hts in0 hown hK hP 0 rfl rfl 7 (by decide) l30 (fun _ h9 => h9) rfl dX0_wordsOf_8 ?_
      refine lv_iload_n hx hb dX0_wordsOf_11 rfl (lv_at hl 2 rfl) ?_
      refine q_iald hx hb hK hP 1 0 rfl rfl h dX0_wordsOf_12 (fun t12 h => ?_)
      refine q_cge hx hb 36 h dX0_wordsOf_13 (by decide) (fun h => ?_) (fun h => ?_)
      · refine lv_iload_n hx hb dX0_wordsOf_36 rfl (lv_at hl 3 rfl) ?_
        exact hret _ _ _ (vp_nar_int _) h dX0_wordsOf_37
      · refine lv_aload_n hx hb dX0_wordsOf_16 rfl (lv_at hl 0 rfl) ?_
        refine lv_iload_n hx hb dX0_wordsOf_17 rfl (lv_at hl 2 rfl) ?_
        refine lv_iload hx hb dX0_wordsOf_18 (lv_at hl 4 rfl) ?_
        refine q_callR (cEok ad) (rest := []) ⟨hx, hb, hml, hown, hts⟩ (fun r hr => c0_originAt l D cI ad qa a_done a_cells x2 x4 r hr) (cwV 2 hts gX0_wordsOf_X0_originAt rfl rfl rfl hdX0_originAt (rmq_ok (Nat.le_of_ble_eq_true rfl) (Nat.le_of_ble_eq_true rfl))) hK hP hEv va_S.rf [0, 2] rfl (va_recv hK hP (ci := 0) (q0 := 0) rfl rfl) rfl rfl hl.1 (Nat.le_of_ble_eq_true rfl) ⟨Nat.zero_le _, Nat.zero_le _⟩ h dX0_wordsOf_20 (fun t20 h => ?_)
        refine lv_iload_n hx hb dX0_wordsOf_23 rfl (lv_at hl 1 rfl) ?_
        refine q_cne hx hb 30 h dX0_wordsOf_24 (by decide) (fun h => ?_) (fun h => ?_)
        · exact J30 x1 x2 x3 x4 _ (lv_sub hl [0, 1, 2, 3, 4] rfl) h
        · refine q_iinc (fun v => [(3, .int v), (0, .ref (qa 0)), (1, .int x1), (2, .int x2), (4, .int x4)]) hx hb h dX0_wordsOf_27 (by decide) hl (k := 3) rfl (by decide) (fun _ => rfl) (fun x3_27 ls h hl => ?_)
          exact J30 x1 x2 x3_27 x4 _ (lv_sub hl [1, 2, 3, 0, 4] rfl) h
  unfold f0_wordsOf at h
  refine lv_iconst (v := (0 : Int32)) hx hb dX0_wordsOf_0 (by decide) ?_
  refine lv_istore_n (lv' := [(3, .int ((0 : Int32))), (0, .ref (qa 0)), (1, .int x1), (2, .int x2)]) hx hb dX0_wordsOf_1 rfl hl (by decide) rfl (fun ls hl => ?_)
  refine lv_iconst (v := (0 : Int32)) hx hb dX0_wordsOf_2 (by decide) ?_
  refine lv_istore (lv' := [(4, .int ((0 : Int32))), (3, .int ((0 : Int32))), (0, .ref (qa 0)), (1, .int x1), (2, .int x2)]) hx hb dX0_wordsOf_3 hl (by decide) rfl (fun ls hl => ?_)
  exact J5 n x1 x2 ((0 : Int32)) ((0 : Int32)) _ (lv_sub hl [2, 3, 4, 1, 0] rfl) h
set_option maxHeartbeats 4000000 in
set_option maxRecDepth 100000 in
theorem c0_minutesThere (l : Launch) (D : va_G) (cI : ClassId) (ad : Nat → Nat) (qa : Nat → Nat) (a_done : Int32) (a_minutes : Nat → Int32) (x1 : Int32) (x2 : Int32) (x3 : Int32) (u : Int32) (h : f0_minutesThere x1 x2 x3 a_done a_minutes = some u) : q_RO (cE ad) l yX0_minutesThere wsX0_minutesThere (rmq (1)) D cI [.ref (qa 0), .int x1, .int x2, .int x3] [(qa 0, .inr (0, oX0 qa a_done)), (qa 4, .inl (cI, 60, .inl a_minutes))] u := by
  refine q_startR (cc := cX0_minutesThere) (maxL := 6) (ty := .int) (own := RX0) (by decide) rfl rfl (Nat.le_of_ble_eq_true rfl) rfl (fun p e s m args below meth c Q hx hb hml hown hts hP hK hEv hret ls hl => ?_)
  have in0 : ∀ w ∈ wsX00, w ∈ wsX0_minutesThere := fun w h => List.mem_cons_of_mem _ (List.mem_append_right _ (h))
  have l18 := hts (.fieldLink RX0 18 "PageWars$Acts" "minutes" "[I") (List.mem_of_getElem? (i := 1) rfl)
  have l39 := hts (.fieldLink RX0 39 "PageWars$Acts" "done" "I") (List.mem_of_getElem? (i := 6) rfl)
  have J44 : ∀ (x4 : Int32) (s0 : Int32) (ls : Array Slot), lv_has ls 6 [(0, .ref (qa 0)), (4, .int x4)] → f0_minutesThere_44 a_done a_minutes x4 s0 = some u → W p l e (rmq (1)) s m args below meth c s.heap [] 0 0 Q (F0 m 44 ls [.int s0]) := by
    intro x4 s0  ls hl h
    unfold f0_minutesThere_44 at h
    refine lv_istore (lv' := [(5, .int s0), (0, .ref (qa 0)), (4, .int x4)]) hx hb dX0_minutesThere_44 hl (by decide) rfl (fun ls hl => ?_)
    refine lv_iconst (v := (0 : Int32)) hx hb dX0_minutesThere_46 (by decide) ?_
    refine lv_iload hx hb dX0_minutesThere_47 (lv_at hl 0 rfl) ?_
    refine lv_iload hx hb dX0_minutesThere_49 (lv_at hl 2 rfl) ?_
    refine lv_isub hx hb dX0_minutesThere_51 ?_
    refine va_mmax hx hb (hml.trans hl.1.symm) hown (hts (.methodLink RX0 59 Lib.Math.max.name) (List.mem_of_getElem? (i := 2) rfl)) (hts (.static Lib.Math.max.name) (List.mem_of_getElem? (i := 3) rfl)) (hts (.initialized "java/lang/Math") (List.mem_of_getElem? (i := 4) rfl)) (hts (.code Lib.Math.max.name Lib.Math.max.code 2 (some .int)) (List.mem_of_getElem? (i := 5) rfl)) (Nat.le_of_ble_eq_true rfl) (Nat.le_of_ble_eq_true rfl) (Nat.zero_le _) (Nat.zero_le _) dX0_minutesThere_52 ?_
    refine q_let h (fun t52 h => ?_)
    exact hret _ _ _ (vp_nar_int _) h dX0_minutesThere_55
  have J20 : ∀ (x1 : Int32) (x3 : Int32) (s0 : Int32) (ls : Array Slot), lv_has ls 6 [(0, .ref (qa 0)), (1, .int x1), (3, .int x3)] → f0_minutesThere_20 a_done a_minutes x1 x3 s0 = some u → W p l e (rmq (1)) s m args below meth c s.heap [] 0 0 Q (F0 m 20 ls [.int s0]) := by
    intro x1 x3 s0  ls hl h
    unfold f0_minutesThere_20 at h
    refine lv_istore (lv' := [(4, .int s0), (0, .ref (qa 0)), (1, .int x1), (3, .int x3)]) hx hb dX0_minutesThere_20 hl (by decide) rfl (fun ls hl => ?_)
    refine lv_iload_n hx hb dX0_minutesThere_22 rfl (lv_at hl 2 rfl) ?_
    refine lv_aload_n hx hb dX0_minutesThere_23 rfl (lv_at hl 1 rfl) ?_
    refine va_get (D := D) (ci := 0) (v := .int a_done) (C := RX0) (T := TX0) (N := 10) hx hb hts in0 hown hK hP 0 rfl rfl 0 (by decide) l39 (fun _ h9 => h9) rfl dX0_minutesThere_24 ?_
    refine q_cge hx hb 43 h dX0_minutesThere_27 (by decide) (fun h => ?_) (fun h => ?_)
    · refine lv_iload_n hx hb dX0_minutesThere_43 rfl (lv_at hl 3 rfl) ?_
      exact J44 s0 x3 _ (lv_sub hl [1, 0] rfl) h
    · refine lv_iload_n hx hb dX0_minutesThere_30 rfl (lv_at hl 3 rfl) ?_
      refine lv_aload_n hx hb dX0_minutesThere_31 rfl (lv_at hl 1 rfl) ?_
      refine va_get (D := D) (ci := 0) (v := .ref (qa 4)) (C := RX0) (T := TX0) (N := 10) hx hb hts in0 hown hK hP 0 rfl rfl 3 (by decide) l18 (fun _ h9 => h9) rfl dX0_minutesThere_32 ?_
      refine lv_iload_n hx hb dX0_minutesThere_35 rfl (lv_at hl 2 rfl) ?_
      refine q_iald hx hb hK hP 1 0 rfl rfl h dX0_minutesThere_36 (fun t36 h => ?_)
      refine va_mmin hx hb (hml.trans hl.1.symm) hown (hts (.methodLink RX0 53 Lib.Math.min.name) (List.mem_of_getElem? (i := 7) rfl)) (hts (.static Lib.Math.min.name) (List.mem_of_getElem? (i := 8) rfl)) (hts (.initialized "java/lang/Math") (List.mem_of_getElem? (i := 4) rfl)) (hts (.code Lib.Math.min.name Lib.Math.min.code 2 (some .int)) (List.mem_of_getElem? (i := 9) rfl)) (Nat.le_of_ble_eq_true rfl) (Nat.le_of_ble_eq_true rfl) (Nat.zero_le _) (Nat.zero_le _) dX0_minutesThere_37 ?_
      refine q_let h (fun t37 h => ?_)
      refine lv_goto (tgt := 44) hx hb dX0_minutesThere_40 (by decide) ?_
      exact J44 s0 t37 _ (lv_sub hl [1, 0] rfl) h
  unfold f0_minutesThere at h
  refine lv_iload_n hx hb dX0_minutesThere_0 rfl (lv_at hl 1 rfl) ?_
  refine q_ifle hx hb 19 h dX0_minutesThere_1 (by decide) (fun h => ?_) (fun h => ?_)
  · refine lv_iload_n hx hb dX0_minutesThere_19 rfl (lv_at hl 2 rfl) ?_
    exact J20 x1 x3 x2 _ (lv_sub hl [0, 1, 3] rfl) h
  · refine lv_iload_n hx hb dX0_minutesThere_4 rfl (lv_at hl 2 rfl) ?_
    refine lv_aload_n hx hb dX0_minutesThere_5 rfl (lv_at hl 0 rfl) ?_
    refine va_get (D := D) (ci := 0) (v := .ref (qa 4)) (C := RX0) (T := TX0) (N := 10) hx hb hts in0 hown hK hP 0 rfl rfl 3 (by decide) l18 (fun _ h9 => h9) rfl dX0_minutesThere_6 ?_
    refine lv_iload_n hx hb dX0_minutesThere_9 rfl (lv_at hl 1 rfl) ?_
    refine lv_iconst (v := (1 : Int32)) hx hb dX0_minutesThere_10 (by decide) ?_
    refine lv_isub hx hb dX0_minutesThere_11 ?_
    refine q_iald hx hb hK hP 1 0 rfl rfl h dX0_minutesThere_12 (fun t12 h => ?_)
    refine va_mmax hx hb (hml.trans hl.1.symm) hown (hts (.methodLink RX0 59 Lib.Math.max.name) (List.mem_of_getElem? (i := 2) rfl)) (hts (.static Lib.Math.max.name) (List.mem_of_getElem? (i := 3) rfl)) (hts (.initialized "java/lang/Math") (List.mem_of_getElem? (i := 4) rfl)) (hts (.code Lib.Math.max.name Lib.Math.max.code 2 (some .int)) (List.mem_of_getElem? (i := 5) rfl)) (Nat.le_of_ble_eq_true rfl) (Nat.le_of_ble_eq_true rfl) (Nat.zero_le _) (Nat.zero_le _) dX0_minutesThere_13 ?_
    refine q_let h (fun t13 h => ?_)
    refine lv_goto (tgt := 20) hx hb dX0_minutesThere_16 (by decide) ?_
    exact J20 x1 x3 t13 _ (lv_sub hl [0, 1, 3] rfl) h
set_option maxHeartbeats 4000000 in
set_option maxRecDepth 100000 in
theorem c0_staysOf (l : Launch) (D : va_G) (cI : ClassId) (ad : Nat → Nat) (qa : Nat → Nat) (a_done : Int32) (a_minutes a_sizes a_cells : Nat → Int32) (x1 : Int32) (x2 : Int32) (n : Nat) (u : Int32) (h : f0_staysOf n x1 x2 a_done a_minutes a_sizes a_cells = some u) : q_RO (cE ad) l yX0_staysOf wsX0_staysOf (rmq (2)) D cI [.ref (qa 0), .int x1, .int x2] [(qa 0, .inr (0, oX0 qa a_done)), (qa 4, .inl (cI, 60, .inl a_minutes)), (qa 8, .inl (cI, 61, .inl a_sizes)), (qa 9, .inl (cI, 1220, .inl a_cells))] u := by
  refine q_startR (cc := cX0_staysOf) (maxL := 5) (ty := .int) (own := RX0) (by decide) rfl rfl (Nat.le_of_ble_eq_true rfl) rfl (fun p e s m args below meth c Q hx hb hml hown hts hP hK hEv hret ls hl => ?_)
  have in0 : ∀ w ∈ wsX00, w ∈ wsX0_staysOf := fun w h => List.mem_cons_of_mem _ (List.mem_append_right _ (h))
  have l39 := hts (.fieldLink RX0 39 "PageWars$Acts" "done" "I") (List.mem_of_getElem? (i := 1) rfl)
  have J7 : ∀ (kk7 : Nat) (x1 : Int32) (x2 : Int32) (x3 : Int32) (x4 : Int32) (ls : Array Slot), lv_has ls 5 [(0, .ref (qa 0)), (1, .int x1), (2, .int x2), (3, .int x3), (4, .int x4)] → f0_staysOf_7 n a_done a_minutes a_sizes a_cells kk7 x1 x2 x3 x4 = some u → W p l e (rmq (2)) s m args below meth c s.heap [] 0 0 Q (F0 m 7 ls []) := by
    intro kk7
    induction kk7 with
    | zero => intro x1 x2 x3 x4  ls hl h; exact nomatch (show (none : Option (Int32)) = some u from h)
    | succ kk7 ih7 =>
      intro x1 x2 x3 x4  ls hl h
      rw [f0_staysOf_7.eq_2] at h
      refine lv_iload hx hb dX0_staysOf_7 (lv_at hl 4 rfl) ?_
      refine lv_aload_n hx hb dX0_staysOf_9 rfl (lv_at hl 0 rfl) ?_
      refine va_get (D := D) (ci := 0) (v := .int a_done) (C := RX0) (T := TX0) (N := 10) hx hb hts in0 hown hK hP 0 rfl rfl 0 (by decide) l39 (fun _ h9 => h9) rfl dX0_staysOf_10 ?_
      refine q_cgt hx hb 41 h dX0_staysOf_13 (by decide) (fun h => ?_) (fun h => ?_)
      · refine lv_iload_n hx hb dX0_staysOf_41 rfl (lv_at hl 3 rfl) ?_
        exact hret _ _ _ (vp_nar_int _) h dX0_staysOf_42
      · refine lv_iload_n hx hb dX0_staysOf_16 rfl (lv_at hl 3 rfl) ?_
        refine lv_aload_n hx hb dX0_staysOf_17 rfl (lv_at hl 0 rfl) ?_
        refine lv_iload_n hx hb dX0_staysOf_18 rfl (lv_at hl 1 rfl) ?_
        refine lv_iload hx hb dX0_staysOf_19 (lv_at hl 4 rfl) ?_
        refine q_callR (cEok ad) (rest := [.int x3]) ⟨hx, hb, hml, hown, hts⟩ (fun r hr => c0_wordsOf l D cI ad qa a_done a_sizes a_cells x1 x4 n r hr) (cwV 2 hts gX0_staysOf_X0_wordsOf rfl rfl rfl hdX0_wordsOf (rmq_ok (Nat.le_of_ble_eq_true rfl) (Nat.le_of_ble_eq_true rfl))) hK hP hEv va_S.rf [0, 2, 3] rfl (va_recv hK hP (ci := 0) (q0 := 0) rfl rfl) rfl rfl hl.1 (Nat.le_of_ble_eq_true rfl) ⟨Nat.zero_le _, Nat.zero_le _⟩ h dX0_staysOf_21 (fun t21 h => ?_)
        refine lv_aload_n hx hb dX0_staysOf_24 rfl (lv_at hl 0 rfl) ?_
        refine lv_iload hx hb dX0_staysOf_25 (lv_at hl 4 rfl) ?_
        refine lv_iconst (v := (0 : Int32)) hx hb dX0_staysOf_27 (by decide) ?_
        refine lv_iload_n hx hb dX0_staysOf_28 rfl (lv_at hl 2 rfl) ?_
        refine q_callR (cEok ad) (rest := [.int t21, .int x3]) ⟨hx, hb, hml, hown, hts⟩ (fun r hr => c0_minutesThere l D cI ad qa a_done a_minutes x4 ((0 : Int32)) x2 r hr) (cwV 3 hts gX0_staysOf_X0_minutesThere rfl rfl rfl hdX0_minutesThere (rmq_ok (Nat.le_of_ble_eq_true rfl) (Nat.le_of_ble_eq_true rfl))) hK hP hEv va_S.rf [0, 1] rfl (va_recv hK hP (ci := 0) (q0 := 0) rfl rfl) rfl rfl hl.1 (Nat.le_of_ble_eq_true rfl) ⟨Nat.zero_le _, Nat.zero_le _⟩ h dX0_staysOf_29 (fun t29 h => ?_)
        refine lv_imul hx hb dX0_staysOf_32 ?_
        refine lv_iadd hx hb dX0_staysOf_33 ?_
        refine q_let h (fun x3_34 h => ?_)
        refine lv_istore_n (lv' := [(3, .int x3_34), (0, .ref (qa 0)), (1, .int x1), (2, .int x2), (4, .int x4)]) hx hb dX0_staysOf_34 rfl hl (by decide) rfl (fun ls hl => ?_)
        refine q_iinc (fun v => [(4, .int v), (3, .int x3_34), (0, .ref (qa 0)), (1, .int x1), (2, .int x2)]) hx hb h dX0_staysOf_35 (by decide) hl (k := 4) rfl (by decide) (fun _ => rfl) (fun x4_35 ls h hl => ?_)
        refine lv_goto (tgt := 7) hx hb dX0_staysOf_38 (by decide) ?_
        exact ih7 x1 x2 x3_34 x4_35 _ (lv_sub hl [2, 3, 4, 1, 0] rfl) h
  unfold f0_staysOf at h
  refine lv_iconst (v := (0 : Int32)) hx hb dX0_staysOf_0 (by decide) ?_
  refine lv_istore_n (lv' := [(3, .int ((0 : Int32))), (0, .ref (qa 0)), (1, .int x1), (2, .int x2)]) hx hb dX0_staysOf_1 rfl hl (by decide) rfl (fun ls hl => ?_)
  refine lv_iload_n hx hb dX0_staysOf_2 rfl (lv_at hl 2 rfl) ?_
  refine lv_iconst (v := (1 : Int32)) hx hb dX0_staysOf_3 (by decide) ?_
  refine lv_iadd hx hb dX0_staysOf_4 ?_
  refine q_let h (fun x4_5 h => ?_)
  refine lv_istore (lv' := [(4, .int x4_5), (3, .int ((0 : Int32))), (0, .ref (qa 0)), (1, .int x1), (2, .int x2)]) hx hb dX0_staysOf_5 hl (by decide) rfl (fun ls hl => ?_)
  exact J7 n x1 x2 ((0 : Int32)) x4_5 _ (lv_sub hl [2, 3, 4, 1, 0] rfl) h
set_option maxHeartbeats 4000000 in
set_option maxRecDepth 100000 in
theorem c6_stays (l : Launch) (D : va_G) (cI : ClassId) (ad : Nat → Nat) (qp qb qa qt qr qv qh : Nat → Nat) (p_kept : Value) (p_timesKept b_now b_shutTill b_shutBy b_z b_waits a_done : Int32) (p_errors a_minutes a_sizes a_cells : Nat → Int32) (x1 : Int32) (n : Nat) (u : Int32 × (Nat → Int32)) (h : f6_stays n x1 b_now a_done p_errors a_minutes a_sizes a_cells = some u) : q_RW (cE ad) l yX6_stays wsX6_stays (rmq (3)) D cI [.ref (qp 0), .int x1] [(qp 0, .inr (6, oX6 qp (qb 0) (qr 0) (qv 0) (qh 0) p_kept p_timesKept)), (qb 0, .inr (1, oX1 qb b_now b_shutTill b_shutBy b_z b_waits (qa 0) (qt 0))), (qa 0, .inr (0, oX0 qa a_done)), (qp 5, .inl (cI, 7, .inl p_errors)), (qa 4, .inl (cI, 60, .inl a_minutes)), (qa 8, .inl (cI, 61, .inl a_sizes)), (qa 9, .inl (cI, 1220, .inl a_cells))] [(qp 0, .inr (6, oX6 qp (qb 0) (qr 0) (qv 0) (qh 0) p_kept p_timesKept)), (qb 0, .inr (1, oX1 qb b_now b_shutTill b_shutBy b_z b_waits (qa 0) (qt 0))), (qa 0, .inr (0, oX0 qa a_done)), (qp 5, .inl (cI, 7, .inl u.2)), (qa 4, .inl (cI, 60, .inl a_minutes)), (qa 8, .inl (cI, 61, .inl a_sizes)), (qa 9, .inl (cI, 1220, .inl a_cells))] u.1 := by
  refine q_startW (fun u : Int32 × (Nat → Int32) => [(qp 0, .inr (6, oX6 qp (qb 0) (qr 0) (qv 0) (qh 0) p_kept p_timesKept)), (qb 0, .inr (1, oX1 qb b_now b_shutTill b_shutBy b_z b_waits (qa 0) (qt 0))), (qa 0, .inr (0, oX0 qa a_done)), (qp 5, .inl (cI, 7, .inl u.2)), (qa 4, .inl (cI, 60, .inl a_minutes)), (qa 8, .inl (cI, 61, .inl a_sizes)), (qa 9, .inl (cI, 1220, .inl a_cells))]) (fun u => u.1) (cc := cX6_stays) (maxL := 2) (ty := .int) (own := RX6) (by decide) rfl rfl (Nat.le_of_ble_eq_true rfl) rfl (fun p e s m args below meth c Q A hx hb hml hown hts hK hEv hA hret hP hD hS ls hl => ?_)
  have in0 : ∀ w ∈ wsX00, w ∈ wsX6_stays := fun w h => List.mem_cons_of_mem _ (List.mem_append_right _ (h))
  have in1 : ∀ w ∈ wsX10, w ∈ wsX6_stays := fun w h => List.mem_cons_of_mem _ (List.mem_append_left _ (List.mem_append_right _ (h)))
  have in6 : ∀ w ∈ wsX60, w ∈ wsX6_stays := fun w h => List.mem_cons_of_mem _ (List.mem_append_left _ (List.mem_append_left _ (List.mem_append_right _ (h))))
  have l10 := hts (.fieldLink RX6 10 "PageWars" "book" "LPageWars$Book;") (List.mem_of_getElem? (i := 1) rfl)
  have l45 : (Cond.fieldLinkNest RX6 45 "PageWars$Book" "now" "I" "PageWars").before args s = true := cE_f6_45 hEv
  have l63 : (Cond.fieldLinkNest RX6 63 "PageWars$Book" "acts" "LPageWars$Acts;" "PageWars").before args s = true := cE_f6_63 hEv
  unfold f6_stays at h
  refine lv_aload_n hx hb dX6_stays_0 rfl (lv_at hl 0 rfl) ?_
  refine lv_iload_n hx hb dX6_stays_1 rfl (lv_at hl 1 rfl) ?_
  refine q_callR (cEok ad) (rest := []) ⟨hx, hb, hml, hown, hts⟩ (fun r hr => c6_isAct l D cI ad qp qb qa qt qr qv qh p_kept p_timesKept b_now b_shutTill b_shutBy b_z b_waits a_done x1 r hr) (cwV 1 hts gX6_stays_X6_isAct rfl rfl rfl hdX6_isAct (rmq_ok (Nat.le_of_ble_eq_true rfl) (Nat.le_of_ble_eq_true rfl))) hK hP hEv hS [0, 1, 2] rfl (va_recv hK hP (ci := 6) (q0 := 0) rfl rfl) rfl rfl hl.1 (Nat.le_of_ble_eq_true rfl) ⟨Nat.zero_le _, Nat.zero_le _⟩ h dX6_stays_2 (fun t2 h => ?_)
  refine q_ifne hx hb 14 h dX6_stays_5 (by decide) (fun h => ?_) (fun h => ?_)
  · refine lv_aload_n hx hb dX6_stays_14 rfl (lv_at hl 0 rfl) ?_
    refine va_get (D := D) (ci := 6) (v := .ref (qb 0)) (C := RX6) (T := TX6) (N := 7) hx hb hts in6 hown hK hP 0 rfl rfl 0 (by decide) l10 (fun _ h9 => h9) rfl dX6_stays_15 ?_
    refine va_getN (D := D) (ci := 1) (v := .ref (qa 0)) (C := RX1) (T := TX1) (N := 9) hx hb hts in1 hown hK hP 1 rfl rfl 7 (by decide) l63 (fun _ h9 => h9) rfl dX6_stays_18 ?_
    refine lv_iload_n hx hb dX6_stays_21 rfl (lv_at hl 1 rfl) ?_
    refine lv_aload_n hx hb dX6_stays_22 rfl (lv_at hl 0 rfl) ?_
    refine va_get (D := D) (ci := 6) (v := .ref (qb 0)) (C := RX6) (T := TX6) (N := 7) hx hb hts in6 hown hK hP 0 rfl rfl 0 (by decide) l10 (fun _ h9 => h9) rfl dX6_stays_23 ?_
    refine va_getN (D := D) (ci := 1) (v := .int b_now) (C := RX1) (T := TX1) (N := 9) hx hb hts in1 hown hK hP 1 rfl rfl 0 (by decide) l45 (fun _ h9 => h9) rfl dX6_stays_26 ?_
    refine q_callR (cEok ad) (rest := []) ⟨hx, hb, hml, hown, hts⟩ (fun r hr => c0_staysOf l D cI ad qa a_done a_minutes a_sizes a_cells x1 b_now n r hr) (cwV 2 hts gX6_stays_X0_staysOf rfl rfl rfl hdX0_staysOf (rmq_ok (Nat.le_of_ble_eq_true rfl) (Nat.le_of_ble_eq_true rfl))) hK hP hEv hS [2, 4, 5, 6] rfl (va_recv hK hP (ci := 0) (q0 := 2) rfl rfl) rfl rfl hl.1 (Nat.le_of_ble_eq_true rfl) ⟨Nat.zero_le _, Nat.zero_le _⟩ h dX6_stays_29 (fun t29 h => ?_)
    exact hret (t29, p_errors) _ _ _ _ (vp_nar_int _) h hP hD hS dX6_stays_32
  · refine lv_aload_n hx hb dX6_stays_8 rfl (lv_at hl 0 rfl) ?_
    refine lv_iconst (v := (1 : Int32)) hx hb dX6_stays_9 (by decide) ?_
    refine q_callW2 (cEok ad) (rest := []) (fun u => [(qp 0, .inr (6, oX6 qp (qb 0) (qr 0) (qv 0) (qh 0) p_kept p_timesKept)), (qp 5, .inl (cI, 7, .inl u.2))]) (fun u => u.1) ⟨hx, hb, hml, hown, hts⟩ (fun u hu => c6_error l D cI ad qp qb qr qv qh p_kept p_timesKept p_errors ((1 : Int32)) u hu) (cwV 1 hts gX6_stays_X6_error rfl rfl rfl hdX6_error (rmq_ok (Nat.le_of_ble_eq_true rfl) (Nat.le_of_ble_eq_true rfl))) hK hEv hA hP hD hS [0, 3] (by decide) rfl (fun _ => rfl) (va_recv hK hP (ci := 6) (q0 := 0) rfl rfl) rfl rfl hl.1 (Nat.le_of_ble_eq_true rfl) ⟨Nat.zero_le _, Nat.zero_le _⟩ h dX6_stays_10 (fun t10 p_errors_10 H locs h hP hD hS => ?_)
    have hP : va_P D vwCl [(qp 0, .inr (6, oX6 qp (qb 0) (qr 0) (qv 0) (qh 0) p_kept p_timesKept)), (qb 0, .inr (1, oX1 qb b_now b_shutTill b_shutBy b_z b_waits (qa 0) (qt 0))), (qa 0, .inr (0, oX0 qa a_done)), (qp 5, .inl (cI, 7, .inl p_errors_10)), (qa 4, .inl (cI, 60, .inl a_minutes)), (qa 8, .inl (cI, 61, .inl a_sizes)), (qa 9, .inl (cI, 1220, .inl a_cells))] H := hP
    have hD : va_D A [(qp 0, .inr (6, oX6 qp (qb 0) (qr 0) (qv 0) (qh 0) p_kept p_timesKept)), (qb 0, .inr (1, oX1 qb b_now b_shutTill b_shutBy b_z b_waits (qa 0) (qt 0))), (qa 0, .inr (0, oX0 qa a_done)), (qp 5, .inl (cI, 7, .inl p_errors_10)), (qa 4, .inl (cI, 60, .inl a_minutes)), (qa 8, .inl (cI, 61, .inl a_sizes)), (qa 9, .inl (cI, 1220, .inl a_cells))] := hD
    exact hret (t10, p_errors_10) _ _ _ _ (vp_nar_int _) h hP hD hS dX6_stays_13
set_option maxHeartbeats 4000000 in
set_option maxRecDepth 100000 in
theorem c0_staysBy (l : Launch) (D : va_G) (cI : ClassId) (ad : Nat → Nat) (qa : Nat → Nat) (a_done : Int32) (a_writers a_minutes a_sizes a_cells : Nat → Int32) (x1 : Int32) (x2 : Int32) (n : Nat) (u : Int32) (h : f0_staysBy n x1 x2 a_done a_writers a_minutes a_sizes a_cells = some u) : q_RO (cE ad) l yX0_staysBy wsX0_staysBy (rmq (2)) D cI [.ref (qa 0), .int x1, .int x2] [(qa 0, .inr (0, oX0 qa a_done)), (qa 3, .inl (cI, 60, .inl a_writers)), (qa 4, .inl (cI, 60, .inl a_minutes)), (qa 8, .inl (cI, 61, .inl a_sizes)), (qa 9, .inl (cI, 1220, .inl a_cells))] u := by
  refine q_startR (cc := cX0_staysBy) (maxL := 5) (ty := .int) (own := RX0) (by decide) rfl rfl (Nat.le_of_ble_eq_true rfl) rfl (fun p e s m args below meth c Q hx hb hml hown hts hP hK hEv hret ls hl => ?_)
  have in0 : ∀ w ∈ wsX00, w ∈ wsX0_staysBy := fun w h => List.mem_cons_of_mem _ (List.mem_append_right _ (h))
  have l39 := hts (.fieldLink RX0 39 "PageWars$Acts" "done" "I") (List.mem_of_getElem? (i := 1) rfl)
  have J5 : ∀ (kk5 : Nat) (x1 : Int32) (x2 : Int32) (x3 : Int32) (x4 : Int32) (ls : Array Slot), lv_has ls 5 [(0, .ref (qa 0)), (1, .int x1), (2, .int x2), (3, .int x3), (4, .int x4)] → f0_staysBy_5 n a_done a_writers a_minutes a_sizes a_cells kk5 x1 x2 x3 x4 = some u → W p l e (rmq (2)) s m args below meth c s.heap [] 0 0 Q (F0 m 5 ls []) := by
    intro kk5
    induction kk5 with
    | zero => intro x1 x2 x3 x4  ls hl h; exact nomatch (show (none : Option (Int32)) = some u from h)
    | succ kk5 ih5 =>
      intro x1 x2 x3 x4  ls hl h
      rw [f0_staysBy_5.eq_2] at h
      refine lv_iload hx hb dX0_staysBy_5 (lv_at hl 4 rfl) ?_
      refine lv_aload_n hx hb dX0_staysBy_7 rfl (lv_at hl 0 rfl) ?_
      refine va_get (D := D) (ci := 0) (v := .int a_done) (C := RX0) (T := TX0) (N := 10) hx hb hts in0 hown hK hP 0 rfl rfl 0 (by decide) l39 (fun _ h9 => h9) rfl dX0_staysBy_8 ?_
      refine q_cgt hx hb 39 h dX0_staysBy_11 (by decide) (fun h => ?_) (fun h => ?_)
      · refine lv_iload_n hx hb dX0_staysBy_39 rfl (lv_at hl 3 rfl) ?_
        exact hret _ _ _ (vp_nar_int _) h dX0_staysBy_40
      · refine lv_iload_n hx hb dX0_staysBy_14 rfl (lv_at hl 3 rfl) ?_
        refine lv_aload_n hx hb dX0_staysBy_15 rfl (lv_at hl 0 rfl) ?_
        refine lv_iload_n hx hb dX0_staysBy_16 rfl (lv_at hl 1 rfl) ?_
        refine lv_iload hx hb dX0_staysBy_17 (lv_at hl 4 rfl) ?_
        refine q_callR (cEok ad) (rest := [.int x3]) ⟨hx, hb, hml, hown, hts⟩ (fun r hr => c0_wordsBy l D cI ad qa a_done a_writers a_sizes a_cells x1 x4 n r hr) (cwV 2 hts gX0_staysBy_X0_wordsBy rfl rfl rfl hdX0_wordsBy (rmq_ok (Nat.le_of_ble_eq_true rfl) (Nat.le_of_ble_eq_true rfl))) hK hP hEv va_S.rf [0, 1, 3, 4] rfl (va_recv hK hP (ci := 0) (q0 := 0) rfl rfl) rfl rfl hl.1 (Nat.le_of_ble_eq_true rfl) ⟨Nat.zero_le _, Nat.zero_le _⟩ h dX0_staysBy_19 (fun t19 h => ?_)
        refine lv_aload_n hx hb dX0_staysBy_22 rfl (lv_at hl 0 rfl) ?_
        refine lv_iload hx hb dX0_staysBy_23 (lv_at hl 4 rfl) ?_
        refine lv_iconst (v := (0 : Int32)) hx hb dX0_staysBy_25 (by decide) ?_
        refine lv_iload_n hx hb dX0_staysBy_26 rfl (lv_at hl 2 rfl) ?_
        refine q_callR (cEok ad) (rest := [.int t19, .int x3]) ⟨hx, hb, hml, hown, hts⟩ (fun r hr => c0_minutesThere l D cI ad qa a_done a_minutes x4 ((0 : Int32)) x2 r hr) (cwV 3 hts gX0_staysBy_X0_minutesThere rfl rfl rfl hdX0_minutesThere (rmq_ok (Nat.le_of_ble_eq_true rfl) (Nat.le_of_ble_eq_true rfl))) hK hP hEv va_S.rf [0, 2] rfl (va_recv hK hP (ci := 0) (q0 := 0) rfl rfl) rfl rfl hl.1 (Nat.le_of_ble_eq_true rfl) ⟨Nat.zero_le _, Nat.zero_le _⟩ h dX0_staysBy_27 (fun t27 h => ?_)
        refine lv_imul hx hb dX0_staysBy_30 ?_
        refine lv_iadd hx hb dX0_staysBy_31 ?_
        refine q_let h (fun x3_32 h => ?_)
        refine lv_istore_n (lv' := [(3, .int x3_32), (0, .ref (qa 0)), (1, .int x1), (2, .int x2), (4, .int x4)]) hx hb dX0_staysBy_32 rfl hl (by decide) rfl (fun ls hl => ?_)
        refine q_iinc (fun v => [(4, .int v), (3, .int x3_32), (0, .ref (qa 0)), (1, .int x1), (2, .int x2)]) hx hb h dX0_staysBy_33 (by decide) hl (k := 4) rfl (by decide) (fun _ => rfl) (fun x4_33 ls h hl => ?_)
        refine lv_goto (tgt := 5) hx hb dX0_staysBy_36 (by decide) ?_
        exact ih5 x1 x2 x3_32 x4_33 _ (lv_sub hl [2, 3, 4, 1, 0] rfl) h
  unfold f0_staysBy at h
  refine lv_iconst (v := (0 : Int32)) hx hb dX0_staysBy_0 (by decide) ?_
  refine lv_istore_n (lv' := [(3, .int ((0 : Int32))), (0, .ref (qa 0)), (1, .int x1), (2, .int x2)]) hx hb dX0_staysBy_1 rfl hl (by decide) rfl (fun ls hl => ?_)
  refine lv_iconst (v := (1 : Int32)) hx hb dX0_staysBy_2 (by decide) ?_
  refine lv_istore (lv' := [(4, .int ((1 : Int32))), (3, .int ((0 : Int32))), (0, .ref (qa 0)), (1, .int x1), (2, .int x2)]) hx hb dX0_staysBy_3 hl (by decide) rfl (fun ls hl => ?_)
  exact J5 n x1 x2 ((0 : Int32)) ((1 : Int32)) _ (lv_sub hl [2, 3, 4, 1, 0] rfl) h
set_option maxHeartbeats 4000000 in
set_option maxRecDepth 100000 in
theorem c0_undoneOf (l : Launch) (D : va_G) (cI : ClassId) (ad : Nat → Nat) (qa : Nat → Nat) (a_done : Int32) (a_writers a_undoers : Nat → Int32) (x1 : Int32) (n : Nat) (u : Int32) (h : f0_undoneOf n x1 a_done a_writers a_undoers = some u) : q_RO (cE ad) l yX0_undoneOf wsX0_undoneOf (rmq (0)) D cI [.ref (qa 0), .int x1] [(qa 0, .inr (0, oX0 qa a_done)), (qa 3, .inl (cI, 60, .inl a_writers)), (qa 6, .inl (cI, 60, .inl a_undoers))] u := by
  refine q_startR (cc := cX0_undoneOf) (maxL := 4) (ty := .int) (own := RX0) (by decide) rfl rfl (Nat.le_of_ble_eq_true rfl) rfl (fun p e s m args below meth c Q hx hb hml hown hts hP hK hEv hret ls hl => ?_)
  have in0 : ∀ w ∈ wsX00, w ∈ wsX0_undoneOf := fun w h => List.mem_cons_of_mem _ (List.mem_append_right _ (h))
  have l15 := hts (.fieldLink RX0 15 "PageWars$Acts" "writers" "[I") (List.mem_of_getElem? (i := 2) rfl)
  have l24 := hts (.fieldLink RX0 24 "PageWars$Acts" "undoers" "[I") (List.mem_of_getElem? (i := 3) rfl)
  have l39 := hts (.fieldLink RX0 39 "PageWars$Acts" "done" "I") (List.mem_of_getElem? (i := 1) rfl)
  have J4 : ∀ (kk4 : Nat) (x1 : Int32) (x2 : Int32) (x3 : Int32) (ls : Array Slot), lv_has ls 4 [(0, .ref (qa 0)), (1, .int x1), (2, .int x2), (3, .int x3)] → f0_undoneOf_4 n a_done a_writers a_undoers kk4 x1 x2 x3 = some u → W p l e (rmq (0)) s m args below meth c s.heap [] 0 0 Q (F0 m 4 ls []) := by
    intro kk4
    induction kk4 with
    | zero => intro x1 x2 x3  ls hl h; exact nomatch (show (none : Option (Int32)) = some u from h)
    | succ kk4 ih4 =>
      have J34 : ∀ (x1 : Int32) (x2 : Int32) (x3 : Int32) (ls : Array Slot), lv_has ls 4 [(0, .ref (qa 0)), (1, .int x1), (2, .int x2), (3, .int x3)] → f0_undoneOf_34 n a_done a_writers a_undoers (f0_undoneOf_4 n a_done a_writers a_undoers kk4) x1 x2 x3 = some u → W p l e (rmq (0)) s m args below meth c s.heap [] 0 0 Q (F0 m 34 ls []) := by
        intro x1 x2 x3  ls hl h
        unfold f0_undoneOf_34 at h
        refine q_iinc (fun v => [(3, .int v), (0, .ref (qa 0)), (1, .int x1), (2, .int x2)]) hx hb h dX0_undoneOf_34 (by decide) hl (k := 3) rfl (by decide) (fun _ => rfl) (fun x3_34 ls h hl => ?_)
        refine lv_goto (tgt := 4) hx hb dX0_undoneOf_37 (by decide) ?_
        exact ih4 x1 x2 x3_34 _ (lv_sub hl [1, 2, 3, 0] rfl) h
      intro x1 x2 x3  ls hl h
      rw [f0_undoneOf_4.eq_2] at h
      refine lv_iload_n hx hb dX0_undoneOf_4 rfl (lv_at hl 3 rfl) ?_
      refine lv_aload_n hx hb dX0_undoneOf_5 rfl (lv_at hl 0 rfl) ?_
      refine va_get (D := D) (ci := 0) (v := .int a_done) (C := RX0) (T := TX0) (N := 10) hx hb hts in0 hown hK hP 0 rfl rfl 0 (by decide) l39 (fun _ h9 => h9) rfl dX0_undoneOf_6 ?_
      refine q_cge hx hb 40 h dX0_undoneOf_9 (by decide) (fun h => ?_) (fun h => ?_)
      · refine lv_iload_n hx hb dX0_undoneOf_40 rfl (lv_at hl 2 rfl) ?_
        exact hret _ _ _ (vp_nar_int _) h dX0_undoneOf_41
      · refine lv_aload_n hx hb dX0_undoneOf_12 rfl (lv_at hl 0 rfl) ?_
        refine va_get (D := D) (ci := 0) (v := .ref (qa 3)) (C := RX0) (T := TX0) (N := 10) hx hb hts in0 hown hK hP 0 rfl rfl 2 (by decide) l15 (fun _ h9 => h9) rfl dX0_undoneOf_13 ?_
        refine lv_iload_n hx hb dX0_undoneOf_16 rfl (lv_at hl 3 rfl) ?_
        refine q_iald hx hb hK hP 1 0 rfl rfl h dX0_undoneOf_17 (fun t17 h => ?_)
        refine lv_iload_n hx hb dX0_undoneOf_18 rfl (lv_at hl 1 rfl) ?_
        refine q_cne hx hb 34 h dX0_undoneOf_19 (by decide) (fun h => ?_) (fun h => ?_)
        · exact J34 x1 x2 x3 _ (lv_sub hl [0, 1, 2, 3] rfl) h
        · refine lv_aload_n hx hb dX0_undoneOf_22 rfl (lv_at hl 0 rfl) ?_
          refine va_get (D := D) (ci := 0) (v := .ref (qa 6)) (C := RX0) (T := TX0) (N := 10) hx hb hts in0 hown hK hP 0 rfl rfl 5 (by decide) l24 (fun _ h9 => h9) rfl dX0_undoneOf_23 ?_
          refine lv_iload_n hx hb dX0_undoneOf_26 rfl (lv_at hl 3 rfl) ?_
          refine q_iald hx hb hK hP 2 0 rfl rfl h dX0_undoneOf_27 (fun t27 h => ?_)
          refine q_iflt hx hb 34 h dX0_undoneOf_28 (by decide) (fun h => ?_) (fun h => ?_)
          · exact J34 x1 x2 x3 _ (lv_sub hl [0, 1, 2, 3] rfl) h
          · refine q_iinc (fun v => [(2, .int v), (0, .ref (qa 0)), (1, .int x1), (3, .int x3)]) hx hb h dX0_undoneOf_31 (by decide) hl (k := 2) rfl (by decide) (fun _ => rfl) (fun x2_31 ls h hl => ?_)
            exact J34 x1 x2_31 x3 _ (lv_sub hl [1, 2, 0, 3] rfl) h
  unfold f0_undoneOf at h
  refine lv_iconst (v := (0 : Int32)) hx hb dX0_undoneOf_0 (by decide) ?_
  refine lv_istore_n (lv' := [(2, .int ((0 : Int32))), (0, .ref (qa 0)), (1, .int x1)]) hx hb dX0_undoneOf_1 rfl hl (by decide) rfl (fun ls hl => ?_)
  refine lv_iconst (v := (0 : Int32)) hx hb dX0_undoneOf_2 (by decide) ?_
  refine lv_istore_n (lv' := [(3, .int ((0 : Int32))), (2, .int ((0 : Int32))), (0, .ref (qa 0)), (1, .int x1)]) hx hb dX0_undoneOf_3 rfl hl (by decide) rfl (fun ls hl => ?_)
  exact J4 n x1 ((0 : Int32)) ((0 : Int32)) _ (lv_sub hl [2, 3, 1, 0] rfl) h
set_option maxHeartbeats 4000000 in
set_option maxRecDepth 100000 in
theorem c0_offFrom (l : Launch) (D : va_G) (cI : ClassId) (ad : Nat → Nat) (qa : Nat → Nat) (a_done : Int32) (a_writers a_minutes a_undoers : Nat → Int32) (x1 : Int32) (n : Nat) (u : Int32) (h : f0_offFrom n x1 a_done a_writers a_minutes a_undoers = some u) : q_RO (cE ad) l yX0_offFrom wsX0_offFrom (rmq (0)) D cI [.ref (qa 0), .int x1] [(qa 0, .inr (0, oX0 qa a_done)), (qa 3, .inl (cI, 60, .inl a_writers)), (qa 4, .inl (cI, 60, .inl a_minutes)), (qa 6, .inl (cI, 60, .inl a_undoers))] u := by
  refine q_startR (cc := cX0_offFrom) (maxL := 5) (ty := .int) (own := RX0) (by decide) rfl rfl (Nat.le_of_ble_eq_true rfl) rfl (fun p e s m args below meth c Q hx hb hml hown hts hP hK hEv hret ls hl => ?_)
  have in0 : ∀ w ∈ wsX00, w ∈ wsX0_offFrom := fun w h => List.mem_cons_of_mem _ (List.mem_append_right _ (h))
  have l15 := hts (.fieldLink RX0 15 "PageWars$Acts" "writers" "[I") (List.mem_of_getElem? (i := 2) rfl)
  have l18 := hts (.fieldLink RX0 18 "PageWars$Acts" "minutes" "[I") (List.mem_of_getElem? (i := 4) rfl)
  have l24 := hts (.fieldLink RX0 24 "PageWars$Acts" "undoers" "[I") (List.mem_of_getElem? (i := 3) rfl)
  have l39 := hts (.fieldLink RX0 39 "PageWars$Acts" "done" "I") (List.mem_of_getElem? (i := 1) rfl)
  have J4 : ∀ (kk4 : Nat) (x1 : Int32) (x2 : Int32) (x3 : Int32) (ls : Array Slot), lv_has ls 5 [(0, .ref (qa 0)), (1, .int x1), (2, .int x2), (3, .int x3)] → f0_offFrom_4 n a_done a_writers a_minutes a_undoers kk4 x1 x2 x3 = some u → W p l e (rmq (0)) s m args below meth c s.heap [] 0 0 Q (F0 m 4 ls []) := by
    intro kk4
    induction kk4 with
    | zero => intro x1 x2 x3  ls hl h; exact nomatch (show (none : Option (Int32)) = some u from h)
    | succ kk4 ih4 =>
      have J15 : ∀ (kk15 : Nat) (x1 : Int32) (x2 : Int32) (x3 : Int32) (x4 : Int32) (ls : Array Slot), lv_has ls 5 [(0, .ref (qa 0)), (1, .int x1), (2, .int x2), (3, .int x3), (4, .int x4)] → f0_offFrom_15 n a_done a_writers a_minutes a_undoers (f0_offFrom_4 n a_done a_writers a_minutes a_undoers kk4) kk15 x1 x2 x3 x4 = some u → W p l e (rmq (0)) s m args below meth c s.heap [] 0 0 Q (F0 m 15 ls []) := by
        intro kk15
        induction kk15 with
        | zero => intro x1 x2 x3 x4  ls hl h; exact nomatch (show (none : Option (Int32)) = some u from h)
        | succ kk15 ih15 =>
          have J62 : ∀ (x1 : Int32) (x2 : Int32) (x3 : Int32) (ls : Array Slot), lv_has ls 5 [(0, .ref (qa 0)), (1, .int x1), (2, .int x2), (3, .int x3)] → f0_offFrom_62 n a_done a_writers a_minutes a_undoers (f0_offFrom_4 n a_done a_writers a_minutes a_undoers kk4) (f0_offFrom_15 n a_done a_writers a_minutes a_undoers (f0_offFrom_4 n a_done a_writers a_minutes a_undoers kk4) kk15) x1 x2 x3 = some u → W p l e (rmq (0)) s m args below meth c s.heap [] 0 0 Q (F0 m 62 ls []) := by
            intro x1 x2 x3  ls hl h
            unfold f0_offFrom_62 at h
            refine lv_iload_n hx hb dX0_offFrom_62 rfl (lv_at hl 2 rfl) ?_
            refine lv_iconst (v := (3 : Int32)) hx hb dX0_offFrom_63 (by decide) ?_
            refine q_clt hx hb 74 h dX0_offFrom_64 (by decide) (fun h => ?_) (fun h => ?_)
            · refine q_iinc (fun v => [(3, .int v), (0, .ref (qa 0)), (1, .int x1), (2, .int x2)]) hx hb h dX0_offFrom_74 (by decide) hl (k := 3) rfl (by decide) (fun _ => rfl) (fun x3_74 ls h hl => ?_)
              refine lv_goto (tgt := 4) hx hb dX0_offFrom_77 (by decide) ?_
              exact ih4 x1 x2 x3_74 _ (lv_sub hl [1, 2, 3, 0] rfl) h
            · refine lv_aload_n hx hb dX0_offFrom_67 rfl (lv_at hl 0 rfl) ?_
              refine va_get (D := D) (ci := 0) (v := .ref (qa 4)) (C := RX0) (T := TX0) (N := 10) hx hb hts in0 hown hK hP 0 rfl rfl 3 (by decide) l18 (fun _ h9 => h9) rfl dX0_offFrom_68 ?_
              refine lv_iload_n hx hb dX0_offFrom_71 rfl (lv_at hl 3 rfl) ?_
              refine q_iald hx hb hK hP 2 0 rfl rfl h dX0_offFrom_72 (fun t72 h => ?_)
              exact hret _ _ _ (vp_nar_int _) h dX0_offFrom_73
          have J56 : ∀ (x1 : Int32) (x2 : Int32) (x3 : Int32) (x4 : Int32) (ls : Array Slot), lv_has ls 5 [(0, .ref (qa 0)), (1, .int x1), (2, .int x2), (3, .int x3), (4, .int x4)] → f0_offFrom_56 n a_done a_writers a_minutes a_undoers (f0_offFrom_4 n a_done a_writers a_minutes a_undoers kk4) (f0_offFrom_15 n a_done a_writers a_minutes a_undoers (f0_offFrom_4 n a_done a_writers a_minutes a_undoers kk4) kk15) x1 x2 x3 x4 = some u → W p l e (rmq (0)) s m args below meth c s.heap [] 0 0 Q (F0 m 56 ls []) := by
            intro x1 x2 x3 x4  ls hl h
            unfold f0_offFrom_56 at h
            refine q_iinc (fun v => [(4, .int v), (0, .ref (qa 0)), (1, .int x1), (2, .int x2), (3, .int x3)]) hx hb h dX0_offFrom_56 (by decide) hl (k := 4) rfl (by decide) (fun _ => rfl) (fun x4_56 ls h hl => ?_)
            refine lv_goto (tgt := 15) hx hb dX0_offFrom_59 (by decide) ?_
            exact ih15 x1 x2 x3 x4_56 _ (lv_sub hl [1, 2, 3, 4, 0] rfl) h
          intro x1 x2 x3 x4  ls hl h
          rw [f0_offFrom_15.eq_2] at h
          refine lv_iload hx hb dX0_offFrom_15 (lv_at hl 4 rfl) ?_
          refine lv_iload_n hx hb dX0_offFrom_17 rfl (lv_at hl 3 rfl) ?_
          refine q_cge hx hb 62 h dX0_offFrom_18 (by decide) (fun h => ?_) (fun h => ?_)
          · exact J62 x1 x2 x3 _ (lv_sub hl [0, 1, 2, 3] rfl) h
          · refine lv_aload_n hx hb dX0_offFrom_21 rfl (lv_at hl 0 rfl) ?_
            refine va_get (D := D) (ci := 0) (v := .ref (qa 3)) (C := RX0) (T := TX0) (N := 10) hx hb hts in0 hown hK hP 0 rfl rfl 2 (by decide) l15 (fun _ h9 => h9) rfl dX0_offFrom_22 ?_
            refine lv_iload_n hx hb dX0_offFrom_25 rfl (lv_at hl 3 rfl) ?_
            refine q_iald hx hb hK hP 1 0 rfl rfl h dX0_offFrom_26 (fun t26 h => ?_)
            refine lv_iload_n hx hb dX0_offFrom_27 rfl (lv_at hl 1 rfl) ?_
            refine q_ceq hx hb 62 h dX0_offFrom_28 (by decide) (fun h => ?_) (fun h => ?_)
            · exact J62 x1 x2 x3 _ (lv_sub hl [0, 1, 2, 3] rfl) h
            · refine lv_aload_n hx hb dX0_offFrom_31 rfl (lv_at hl 0 rfl) ?_
              refine va_get (D := D) (ci := 0) (v := .ref (qa 3)) (C := RX0) (T := TX0) (N := 10) hx hb hts in0 hown hK hP 0 rfl rfl 2 (by decide) l15 (fun _ h9 => h9) rfl dX0_offFrom_32 ?_
              refine lv_iload hx hb dX0_offFrom_35 (lv_at hl 4 rfl) ?_
              refine q_iald hx hb hK hP 1 0 rfl rfl h dX0_offFrom_37 (fun t37 h => ?_)
              refine lv_iload_n hx hb dX0_offFrom_38 rfl (lv_at hl 1 rfl) ?_
              refine q_cne hx hb 56 h dX0_offFrom_39 (by decide) (fun h => ?_) (fun h => ?_)
              · exact J56 x1 x2 x3 x4 _ (lv_sub hl [0, 1, 2, 3, 4] rfl) h
              · refine lv_aload_n hx hb dX0_offFrom_42 rfl (lv_at hl 0 rfl) ?_
                refine va_get (D := D) (ci := 0) (v := .ref (qa 6)) (C := RX0) (T := TX0) (N := 10) hx hb hts in0 hown hK hP 0 rfl rfl 5 (by decide) l24 (fun _ h9 => h9) rfl dX0_offFrom_43 ?_
                refine lv_iload hx hb dX0_offFrom_46 (lv_at hl 4 rfl) ?_
                refine q_iald hx hb hK hP 3 0 rfl rfl h dX0_offFrom_48 (fun t48 h => ?_)
                refine lv_iload_n hx hb dX0_offFrom_49 rfl (lv_at hl 3 rfl) ?_
                refine q_cne hx hb 56 h dX0_offFrom_50 (by decide) (fun h => ?_) (fun h => ?_)
                · exact J56 x1 x2 x3 x4 _ (lv_sub hl [0, 1, 2, 3, 4] rfl) h
                · refine q_iinc (fun v => [(2, .int v), (0, .ref (qa 0)), (1, .int x1), (3, .int x3), (4, .int x4)]) hx hb h dX0_offFrom_53 (by decide) hl (k := 2) rfl (by decide) (fun _ => rfl) (fun x2_53 ls h hl => ?_)
                  exact J56 x1 x2_53 x3 x4 _ (lv_sub hl [1, 2, 0, 3, 4] rfl) h
      intro x1 x2 x3  ls hl h
      rw [f0_offFrom_4.eq_2] at h
      refine lv_iload_n hx hb dX0_offFrom_4 rfl (lv_at hl 3 rfl) ?_
      refine lv_aload_n hx hb dX0_offFrom_5 rfl (lv_at hl 0 rfl) ?_
      refine va_get (D := D) (ci := 0) (v := .int a_done) (C := RX0) (T := TX0) (N := 10) hx hb hts in0 hown hK hP 0 rfl rfl 0 (by decide) l39 (fun _ h9 => h9) rfl dX0_offFrom_6 ?_
      refine q_cge hx hb 80 h dX0_offFrom_9 (by decide) (fun h => ?_) (fun h => ?_)
      · refine lv_iconst (v := (-1 : Int32)) hx hb dX0_offFrom_80 (by decide) ?_
        exact hret _ _ _ (vp_nar_int _) h dX0_offFrom_81
      · refine lv_iconst (v := (0 : Int32)) hx hb dX0_offFrom_12 (by decide) ?_
        refine lv_istore (lv' := [(4, .int ((0 : Int32))), (0, .ref (qa 0)), (1, .int x1), (2, .int x2), (3, .int x3)]) hx hb dX0_offFrom_13 hl (by decide) rfl (fun ls hl => ?_)
        exact J15 n x1 x2 x3 ((0 : Int32)) _ (lv_sub hl [1, 2, 3, 4, 0] rfl) h
  unfold f0_offFrom at h
  refine lv_iconst (v := (0 : Int32)) hx hb dX0_offFrom_0 (by decide) ?_
  refine lv_istore_n (lv' := [(2, .int ((0 : Int32))), (0, .ref (qa 0)), (1, .int x1)]) hx hb dX0_offFrom_1 rfl hl (by decide) rfl (fun ls hl => ?_)
  refine lv_iconst (v := (0 : Int32)) hx hb dX0_offFrom_2 (by decide) ?_
  refine lv_istore_n (lv' := [(3, .int ((0 : Int32))), (2, .int ((0 : Int32))), (0, .ref (qa 0)), (1, .int x1)]) hx hb dX0_offFrom_3 rfl hl (by decide) rfl (fun ls hl => ?_)
  exact J4 n x1 ((0 : Int32)) ((0 : Int32)) _ (lv_sub hl [2, 3, 1, 0] rfl) h
