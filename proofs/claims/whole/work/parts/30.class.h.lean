set_option maxHeartbeats 4000000 in
set_option maxRecDepth 100000 in
theorem c6_worth (l : Launch) (D : va_G) (cI : ClassId) (ad : Nat → Nat) (qp qb qa qt qr qv qh : Nat → Nat) (p_kept : Value) (p_timesKept b_now b_shutTill b_shutBy b_z b_waits : Int32) (p_errors b_worths : Nat → Int32) (x1 : Int32) (x2 : Int32) (u : Int32 × (Nat → Int32) × (Nat → Int32)) (h : f6_worth x1 x2 p_errors b_worths = some u) : q_RW (cE ad) l yX6_worth wsX6_worth (rmq (1)) D cI [.ref (qp 0), .int x1, .int x2] [(qp 0, .inr (6, oX6 qp (qb 0) (qr 0) (qv 0) (qh 0) p_kept p_timesKept)), (qb 0, .inr (1, oX1 qb b_now b_shutTill b_shutBy b_z b_waits (qa 0) (qt 0))), (qp 5, .inl (cI, 7, .inl p_errors)), (qb 7, .inl (cI, 61, .inl b_worths))] [(qp 0, .inr (6, oX6 qp (qb 0) (qr 0) (qv 0) (qh 0) p_kept p_timesKept)), (qb 0, .inr (1, oX1 qb b_now b_shutTill b_shutBy b_z b_waits (qa 0) (qt 0))), (qp 5, .inl (cI, 7, .inl u.2.1)), (qb 7, .inl (cI, 61, .inl u.2.2))] u.1 := by
  refine q_startW (fun u : Int32 × (Nat → Int32) × (Nat → Int32) => [(qp 0, .inr (6, oX6 qp (qb 0) (qr 0) (qv 0) (qh 0) p_kept p_timesKept)), (qb 0, .inr (1, oX1 qb b_now b_shutTill b_shutBy b_z b_waits (qa 0) (qt 0))), (qp 5, .inl (cI, 7, .inl u.2.1)), (qb 7, .inl (cI, 61, .inl u.2.2))]) (fun u => u.1) (cc := cX6_worth) (maxL := 4) (ty := .int) (own := RX6) (by decide) rfl rfl (Nat.le_of_ble_eq_true rfl) rfl (fun p e s m args below meth c Q A hx hb hml hown hts hK hEv hA hret hP hD hS ls hl => ?_)
  have in1 : ∀ w ∈ wsX10, w ∈ wsX6_worth := fun w h => List.mem_cons_of_mem _ (List.mem_append_right _ (h))
  have in6 : ∀ w ∈ wsX60, w ∈ wsX6_worth := fun w h => List.mem_cons_of_mem _ (List.mem_append_left _ (List.mem_append_right _ (h)))
  have l10 := hts (.fieldLink RX6 10 "PageWars" "book" "LPageWars$Book;") (List.mem_of_getElem? (i := 1) rfl)
  have l234 : (Cond.fieldLinkNest RX6 234 "PageWars$Book" "worths" "[I" "PageWars").before args s = true := cE_f6_234 hEv
  have J19 : ∀ (p_errors : (Nat → Int32)) (b_worths : (Nat → Int32)) (H : Heap) (locs : List Loc) (ls : Array Slot), lv_has ls 4 [(0, .ref (qp 0))] → va_P D vwCl [(qp 0, .inr (6, oX6 qp (qb 0) (qr 0) (qv 0) (qh 0) p_kept p_timesKept)), (qb 0, .inr (1, oX1 qb b_now b_shutTill b_shutBy b_z b_waits (qa 0) (qt 0))), (qp 5, .inl (cI, 7, .inl p_errors)), (qb 7, .inl (cI, 61, .inl b_worths))] H → va_D A [(qp 0, .inr (6, oX6 qp (qb 0) (qr 0) (qv 0) (qh 0) p_kept p_timesKept)), (qb 0, .inr (1, oX1 qb b_now b_shutTill b_shutBy b_z b_waits (qa 0) (qt 0))), (qp 5, .inl (cI, 7, .inl p_errors)), (qb 7, .inl (cI, 61, .inl b_worths))] → va_S A s.heap H locs → f6_worth_19  p_errors b_worths = some u → W p l e (rmq (1)) s m args below meth c H locs 0 0 Q (F0 m 19 ls []) := by
    intro p_errors b_worths H locs ls hl hP hD hS h
    unfold f6_worth_19 at h
    refine lv_aload_n hx hb dX6_worth_19 rfl (lv_at hl 0 rfl) ?_
    refine lv_iconst (v := (1 : Int32)) hx hb dX6_worth_20 (by decide) ?_
    refine q_callW2 (cEok ad) (rest := []) (fun u => [(qp 0, .inr (6, oX6 qp (qb 0) (qr 0) (qv 0) (qh 0) p_kept p_timesKept)), (qp 5, .inl (cI, 7, .inl u.2))]) (fun u => u.1) ⟨hx, hb, hml, hown, hts⟩ (fun u hu => c6_error l D cI ad qp qb qr qv qh p_kept p_timesKept p_errors ((1 : Int32)) u hu) (cwV 1 hts gX6_worth_X6_error rfl rfl rfl hdX6_error (rmq_ok (Nat.le_of_ble_eq_true rfl) (Nat.le_of_ble_eq_true rfl))) hK hEv hA hP hD hS [0, 2] (by decide) rfl (fun _ => rfl) (va_recv hK hP (ci := 6) (q0 := 0) rfl rfl) rfl rfl hl.1 (Nat.le_of_ble_eq_true rfl) ⟨Nat.zero_le _, Nat.zero_le _⟩ h dX6_worth_21 (fun t21 p_errors_21 H locs h hP hD hS => ?_)
    have hP : va_P D vwCl [(qp 0, .inr (6, oX6 qp (qb 0) (qr 0) (qv 0) (qh 0) p_kept p_timesKept)), (qb 0, .inr (1, oX1 qb b_now b_shutTill b_shutBy b_z b_waits (qa 0) (qt 0))), (qp 5, .inl (cI, 7, .inl p_errors_21)), (qb 7, .inl (cI, 61, .inl b_worths))] H := hP
    have hD : va_D A [(qp 0, .inr (6, oX6 qp (qb 0) (qr 0) (qv 0) (qh 0) p_kept p_timesKept)), (qb 0, .inr (1, oX1 qb b_now b_shutTill b_shutBy b_z b_waits (qa 0) (qt 0))), (qp 5, .inl (cI, 7, .inl p_errors_21)), (qb 7, .inl (cI, 61, .inl b_worths))] := hD
    exact hret (t21, p_errors_21, b_worths) _ _ _ _ (vp_nar_int _) h hP hD hS dX6_worth_24
  unfold f6_worth at h
  refine lv_iload_n hx hb dX6_worth_0 rfl (lv_at hl 1 rfl) ?_
  refine q_callRS (cEok ad) (rest := []) ⟨hx, hb, hml, hown, hts⟩ (fun r hr => c6_isWord l D cI ad x1 r hr) (va_cwS 1 hts gX6_worth_X6_isWord rfl rfl rfl hdX6_isWord (rmq_ok (Nat.le_of_ble_eq_true rfl) (Nat.le_of_ble_eq_true rfl))) hK hP hEv hS [] rfl rfl rfl hl.1 (Nat.le_of_ble_eq_true rfl) ⟨Nat.zero_le _, Nat.zero_le _⟩ h dX6_worth_1 (fun t1 h => ?_)
  refine q_ifeq hx hb 19 h dX6_worth_4 (by decide) (fun h => ?_) (fun h => ?_)
  · exact J19 p_errors b_worths _ _ _ (lv_sub hl [0] rfl) hP hD hS h
  · refine lv_iload_n hx hb dX6_worth_7 rfl (lv_at hl 2 rfl) ?_
    refine lv_bipush (v := (-9 : Int32)) hx hb dX6_worth_8 (by decide) ?_
    refine q_clt hx hb 19 h dX6_worth_10 (by decide) (fun h => ?_) (fun h => ?_)
    · exact J19 p_errors b_worths _ _ _ (lv_sub hl [0] rfl) hP hD hS h
    · refine lv_iload_n hx hb dX6_worth_13 rfl (lv_at hl 2 rfl) ?_
      refine lv_bipush (v := (9 : Int32)) hx hb dX6_worth_14 (by decide) ?_
      refine q_cle hx hb 25 h dX6_worth_16 (by decide) (fun h => ?_) (fun h => ?_)
      · refine lv_aload_n hx hb dX6_worth_25 rfl (lv_at hl 0 rfl) ?_
        refine va_get (D := D) (ci := 6) (v := .ref (qb 0)) (C := RX6) (T := TX6) (N := 7) hx hb hts in6 hown hK hP 0 rfl rfl 0 (by decide) l10 (fun _ h9 => h9) rfl dX6_worth_26 ?_
        refine va_getN (D := D) (ci := 1) (v := .ref (qb 7)) (C := RX1) (T := TX1) (N := 9) hx hb hts in1 hown hK hP 1 rfl rfl 6 (by decide) l234 (fun _ h9 => h9) rfl dX6_worth_29 ?_
        refine lv_iload_n hx hb dX6_worth_32 rfl (lv_at hl 1 rfl) ?_
        refine q_iald hx hb hK hP 3 0 rfl rfl h dX6_worth_33 (fun t33 h => ?_)
        refine lv_istore_n (lv' := [(3, .int t33), (0, .ref (qp 0)), (1, .int x1), (2, .int x2)]) hx hb dX6_worth_34 rfl hl (by decide) rfl (fun ls hl => ?_)
        refine lv_aload_n hx hb dX6_worth_35 rfl (lv_at hl 1 rfl) ?_
        refine va_get (D := D) (ci := 6) (v := .ref (qb 0)) (C := RX6) (T := TX6) (N := 7) hx hb hts in6 hown hK hP 0 rfl rfl 0 (by decide) l10 (fun _ h9 => h9) rfl dX6_worth_36 ?_
        refine va_getN (D := D) (ci := 1) (v := .ref (qb 7)) (C := RX1) (T := TX1) (N := 9) hx hb hts in1 hown hK hP 1 rfl rfl 6 (by decide) l234 (fun _ h9 => h9) rfl dX6_worth_39 ?_
        refine lv_iload_n hx hb dX6_worth_42 rfl (lv_at hl 2 rfl) ?_
        refine lv_iload_n hx hb dX6_worth_43 rfl (lv_at hl 3 rfl) ?_
        refine q_iast hx hb hK hP hD hS 3 0 rfl rfl h dX6_worth_44 (fun b_worths_44 H locs h hP hD hS => ?_)
        have hP : va_P D vwCl [(qp 0, .inr (6, oX6 qp (qb 0) (qr 0) (qv 0) (qh 0) p_kept p_timesKept)), (qb 0, .inr (1, oX1 qb b_now b_shutTill b_shutBy b_z b_waits (qa 0) (qt 0))), (qp 5, .inl (cI, 7, .inl p_errors)), (qb 7, .inl (cI, 61, .inl b_worths_44))] H := hP
        have hD : va_D A [(qp 0, .inr (6, oX6 qp (qb 0) (qr 0) (qv 0) (qh 0) p_kept p_timesKept)), (qb 0, .inr (1, oX1 qb b_now b_shutTill b_shutBy b_z b_waits (qa 0) (qt 0))), (qp 5, .inl (cI, 7, .inl p_errors)), (qb 7, .inl (cI, 61, .inl b_worths_44))] := hD
        refine lv_iload_n hx hb dX6_worth_45 rfl (lv_at hl 0 rfl) ?_
        exact hret (t33, p_errors, b_worths_44) _ _ _ _ (vp_nar_int _) h hP hD hS dX6_worth_46
      · exact J19 p_errors b_worths _ _ _ (lv_sub hl [0] rfl) hP hD hS h
set_option maxHeartbeats 4000000 in
set_option maxRecDepth 100000 in
theorem c1_worthOf (l : Launch) (D : va_G) (cI : ClassId) (ad : Nat → Nat) (qb qa qt : Nat → Nat) (b_now b_shutTill b_shutBy b_z b_waits a_done : Int32) (b_worths a_sizes a_cells : Nat → Int32) (x1 : Int32) (n : Nat) (u : Int32) (h : f1_worthOf n x1 b_worths a_sizes a_cells = some u) : q_RO (cE ad) l yX1_worthOf wsX1_worthOf (rmq (1)) D cI [.ref (qb 0), .int x1] [(qb 0, .inr (1, oX1 qb b_now b_shutTill b_shutBy b_z b_waits (qa 0) (qt 0))), (qa 0, .inr (0, oX0 qa a_done)), (qb 7, .inl (cI, 61, .inl b_worths)), (qa 8, .inl (cI, 61, .inl a_sizes)), (qa 9, .inl (cI, 1220, .inl a_cells))] u := by
  refine q_startR (cc := cX1_worthOf) (maxL := 4) (ty := .int) (own := RX1) (by decide) rfl rfl (Nat.le_of_ble_eq_true rfl) rfl (fun p e s m args below meth c Q hx hb hml hown hts hP hK hEv hret ls hl => ?_)
  have in0 : ∀ w ∈ wsX00, w ∈ wsX1_worthOf := fun w h => List.mem_cons_of_mem _ (List.mem_append_right _ (h))
  have in1 : ∀ w ∈ wsX10, w ∈ wsX1_worthOf := fun w h => List.mem_cons_of_mem _ (List.mem_append_left _ (List.mem_append_right _ (h)))
  have l19 := hts (.fieldLink RX1 19 "PageWars$Book" "worths" "[I") (List.mem_of_getElem? (i := 2) rfl)
  have l25 := hts (.fieldLink RX1 25 "PageWars$Book" "acts" "LPageWars$Acts;") (List.mem_of_getElem? (i := 1) rfl)
  have l130 : (Cond.fieldLinkNest RX1 130 "PageWars$Acts" "sizes" "[I" "PageWars").before args s = true := cE_f1_130 hEv
  have J4 : ∀ (kk4 : Nat) (x1 : Int32) (x2 : Int32) (x3 : Int32) (ls : Array Slot), lv_has ls 4 [(0, .ref (qb 0)), (1, .int x1), (2, .int x2), (3, .int x3)] → f1_worthOf_4 n b_worths a_sizes a_cells kk4 x1 x2 x3 = some u → W p l e (rmq (1)) s m args below meth c s.heap [] 0 0 Q (F0 m 4 ls []) := by
    intro kk4
    induction kk4 with
    | zero => intro x1 x2 x3  ls hl h; exact nomatch (show (none : Option (Int32)) = some u from h)
    | succ kk4 ih4 =>
      intro x1 x2 x3  ls hl h
      rw [f1_worthOf_4.eq_2] at h
      refine lv_iload_n hx hb dX1_worthOf_4 rfl (lv_at hl 3 rfl) ?_
      refine lv_aload_n hx hb dX1_worthOf_5 rfl (lv_at hl 0 rfl) ?_
      refine va_get (D := D) (ci := 1) (v := .ref (qa 0)) (C := RX1) (T := TX1) (N := 9) hx hb hts in1 hown hK hP 0 rfl rfl 7 (by decide) l25 (fun _ h9 => h9) rfl dX1_worthOf_6 ?_
      refine va_getN (D := D) (ci := 0) (v := .ref (qa 8)) (C := RX0) (T := TX0) (N := 10) hx hb hts in0 hown hK hP 1 rfl rfl 7 (by decide) l130 (fun _ h9 => h9) rfl dX1_worthOf_9 ?_
      refine lv_iload_n hx hb dX1_worthOf_12 rfl (lv_at hl 1 rfl) ?_
      refine q_iald hx hb hK hP 3 0 rfl rfl h dX1_worthOf_13 (fun t13 h => ?_)
      refine q_cge hx hb 40 h dX1_worthOf_14 (by decide) (fun h => ?_) (fun h => ?_)
      · refine lv_iload_n hx hb dX1_worthOf_40 rfl (lv_at hl 2 rfl) ?_
        exact hret _ _ _ (vp_nar_int _) h dX1_worthOf_41
      · refine lv_iload_n hx hb dX1_worthOf_17 rfl (lv_at hl 2 rfl) ?_
        refine lv_aload_n hx hb dX1_worthOf_18 rfl (lv_at hl 0 rfl) ?_
        refine va_get (D := D) (ci := 1) (v := .ref (qb 7)) (C := RX1) (T := TX1) (N := 9) hx hb hts in1 hown hK hP 0 rfl rfl 6 (by decide) l19 (fun _ h9 => h9) rfl dX1_worthOf_19 ?_
        refine lv_aload_n hx hb dX1_worthOf_22 rfl (lv_at hl 0 rfl) ?_
        refine va_get (D := D) (ci := 1) (v := .ref (qa 0)) (C := RX1) (T := TX1) (N := 9) hx hb hts in1 hown hK hP 0 rfl rfl 7 (by decide) l25 (fun _ h9 => h9) rfl dX1_worthOf_23 ?_
        refine lv_iload_n hx hb dX1_worthOf_26 rfl (lv_at hl 1 rfl) ?_
        refine lv_iload_n hx hb dX1_worthOf_27 rfl (lv_at hl 3 rfl) ?_
        refine q_callR (cEok ad) (rest := [.ref (qb 7), .int x2]) ⟨hx, hb, hml, hown, hts⟩ (fun r hr => c0_wordAt l D cI ad qa a_done a_cells x1 x3 r hr) (cwV 2 hts gX1_worthOf_X0_wordAt rfl rfl rfl hdX0_wordAt (rmq_ok (Nat.le_of_ble_eq_true rfl) (Nat.le_of_ble_eq_true rfl))) hK hP hEv va_S.rf [1, 4] rfl (va_recv hK hP (ci := 0) (q0 := 1) rfl rfl) rfl rfl hl.1 (Nat.le_of_ble_eq_true rfl) ⟨Nat.zero_le _, Nat.zero_le _⟩ h dX1_worthOf_28 (fun t28 h => ?_)
        refine q_iald hx hb hK hP 2 0 rfl rfl h dX1_worthOf_31 (fun t31 h => ?_)
        refine lv_iadd hx hb dX1_worthOf_32 ?_
        refine q_let h (fun x2_33 h => ?_)
        refine lv_istore_n (lv' := [(2, .int x2_33), (0, .ref (qb 0)), (1, .int x1), (3, .int x3)]) hx hb dX1_worthOf_33 rfl hl (by decide) rfl (fun ls hl => ?_)
        refine q_iinc (fun v => [(3, .int v), (2, .int x2_33), (0, .ref (qb 0)), (1, .int x1)]) hx hb h dX1_worthOf_34 (by decide) hl (k := 3) rfl (by decide) (fun _ => rfl) (fun x3_34 ls h hl => ?_)
        refine lv_goto (tgt := 4) hx hb dX1_worthOf_37 (by decide) ?_
        exact ih4 x1 x2_33 x3_34 _ (lv_sub hl [2, 3, 1, 0] rfl) h
  unfold f1_worthOf at h
  refine lv_iconst (v := (0 : Int32)) hx hb dX1_worthOf_0 (by decide) ?_
  refine lv_istore_n (lv' := [(2, .int ((0 : Int32))), (0, .ref (qb 0)), (1, .int x1)]) hx hb dX1_worthOf_1 rfl hl (by decide) rfl (fun ls hl => ?_)
  refine lv_iconst (v := (0 : Int32)) hx hb dX1_worthOf_2 (by decide) ?_
  refine lv_istore_n (lv' := [(3, .int ((0 : Int32))), (2, .int ((0 : Int32))), (0, .ref (qb 0)), (1, .int x1)]) hx hb dX1_worthOf_3 rfl hl (by decide) rfl (fun ls hl => ?_)
  exact J4 n x1 ((0 : Int32)) ((0 : Int32)) _ (lv_sub hl [2, 3, 1, 0] rfl) h
set_option maxHeartbeats 4000000 in
set_option maxRecDepth 100000 in
theorem c6_value (l : Launch) (D : va_G) (cI : ClassId) (ad : Nat → Nat) (qp qb qa qt qr qv qh : Nat → Nat) (p_kept : Value) (p_timesKept b_now b_shutTill b_shutBy b_z b_waits a_done : Int32) (p_errors b_worths a_sizes a_cells : Nat → Int32) (x1 : Int32) (n : Nat) (u : Int32 × (Nat → Int32)) (h : f6_value n x1 a_done p_errors b_worths a_sizes a_cells = some u) : q_RW (cE ad) l yX6_value wsX6_value (rmq (2)) D cI [.ref (qp 0), .int x1] [(qp 0, .inr (6, oX6 qp (qb 0) (qr 0) (qv 0) (qh 0) p_kept p_timesKept)), (qb 0, .inr (1, oX1 qb b_now b_shutTill b_shutBy b_z b_waits (qa 0) (qt 0))), (qa 0, .inr (0, oX0 qa a_done)), (qp 5, .inl (cI, 7, .inl p_errors)), (qb 7, .inl (cI, 61, .inl b_worths)), (qa 8, .inl (cI, 61, .inl a_sizes)), (qa 9, .inl (cI, 1220, .inl a_cells))] [(qp 0, .inr (6, oX6 qp (qb 0) (qr 0) (qv 0) (qh 0) p_kept p_timesKept)), (qb 0, .inr (1, oX1 qb b_now b_shutTill b_shutBy b_z b_waits (qa 0) (qt 0))), (qa 0, .inr (0, oX0 qa a_done)), (qp 5, .inl (cI, 7, .inl u.2)), (qb 7, .inl (cI, 61, .inl b_worths)), (qa 8, .inl (cI, 61, .inl a_sizes)), (qa 9, .inl (cI, 1220, .inl a_cells))] u.1 := by
  refine q_startW (fun u : Int32 × (Nat → Int32) => [(qp 0, .inr (6, oX6 qp (qb 0) (qr 0) (qv 0) (qh 0) p_kept p_timesKept)), (qb 0, .inr (1, oX1 qb b_now b_shutTill b_shutBy b_z b_waits (qa 0) (qt 0))), (qa 0, .inr (0, oX0 qa a_done)), (qp 5, .inl (cI, 7, .inl u.2)), (qb 7, .inl (cI, 61, .inl b_worths)), (qa 8, .inl (cI, 61, .inl a_sizes)), (qa 9, .inl (cI, 1220, .inl a_cells))]) (fun u => u.1) (cc := cX6_value) (maxL := 2) (ty := .int) (own := RX6) (by decide) rfl rfl (Nat.le_of_ble_eq_true rfl) rfl (fun p e s m args below meth c Q A hx hb hml hown hts hK hEv hA hret hP hD hS ls hl => ?_)
  have in0 : ∀ w ∈ wsX00, w ∈ wsX6_value := fun w h => List.mem_cons_of_mem _ (List.mem_append_right _ (h))
  have in1 : ∀ w ∈ wsX10, w ∈ wsX6_value := fun w h => List.mem_cons_of_mem _ (List.mem_append_left _ (List.mem_append_right _ (h)))
  have in6 : ∀ w ∈ wsX60, w ∈ wsX6_value := fun w h => List.mem_cons_of_mem _ (List.mem_append_left _ (List.mem_append_left _ (List.mem_append_right _ (h))))
  have l10 := hts (.fieldLink RX6 10 "PageWars" "book" "LPageWars$Book;") (List.mem_of_getElem? (i := 1) rfl)
  unfold f6_value at h
  refine lv_aload_n hx hb dX6_value_0 rfl (lv_at hl 0 rfl) ?_
  refine lv_iload_n hx hb dX6_value_1 rfl (lv_at hl 1 rfl) ?_
  refine q_callR (cEok ad) (rest := []) ⟨hx, hb, hml, hown, hts⟩ (fun r hr => c6_isVersion l D cI ad qp qb qa qt qr qv qh p_kept p_timesKept b_now b_shutTill b_shutBy b_z b_waits a_done x1 r hr) (cwV 1 hts gX6_value_X6_isVersion rfl rfl rfl hdX6_isVersion (rmq_ok (Nat.le_of_ble_eq_true rfl) (Nat.le_of_ble_eq_true rfl))) hK hP hEv hS [0, 1, 2] rfl (va_recv hK hP (ci := 6) (q0 := 0) rfl rfl) rfl rfl hl.1 (Nat.le_of_ble_eq_true rfl) ⟨Nat.zero_le _, Nat.zero_le _⟩ h dX6_value_2 (fun t2 h => ?_)
  refine q_ifne hx hb 14 h dX6_value_5 (by decide) (fun h => ?_) (fun h => ?_)
  · refine lv_aload_n hx hb dX6_value_14 rfl (lv_at hl 0 rfl) ?_
    refine va_get (D := D) (ci := 6) (v := .ref (qb 0)) (C := RX6) (T := TX6) (N := 7) hx hb hts in6 hown hK hP 0 rfl rfl 0 (by decide) l10 (fun _ h9 => h9) rfl dX6_value_15 ?_
    refine lv_iload_n hx hb dX6_value_18 rfl (lv_at hl 1 rfl) ?_
    refine q_callR (cEok ad) (rest := []) ⟨hx, hb, hml, hown, hts⟩ (fun r hr => c1_worthOf l D cI ad qb qa qt b_now b_shutTill b_shutBy b_z b_waits a_done b_worths a_sizes a_cells x1 n r hr) (cwV 1 hts gX6_value_X1_worthOf rfl rfl rfl hdX1_worthOf (rmq_ok (Nat.le_of_ble_eq_true rfl) (Nat.le_of_ble_eq_true rfl))) hK hP hEv hS [1, 2, 4, 5, 6] rfl (va_recv hK hP (ci := 1) (q0 := 1) rfl rfl) rfl rfl hl.1 (Nat.le_of_ble_eq_true rfl) ⟨Nat.zero_le _, Nat.zero_le _⟩ h dX6_value_19 (fun t19 h => ?_)
    exact hret (t19, p_errors) _ _ _ _ (vp_nar_int _) h hP hD hS dX6_value_22
  · refine lv_aload_n hx hb dX6_value_8 rfl (lv_at hl 0 rfl) ?_
    refine lv_iconst (v := (1 : Int32)) hx hb dX6_value_9 (by decide) ?_
    refine q_callW2 (cEok ad) (rest := []) (fun u => [(qp 0, .inr (6, oX6 qp (qb 0) (qr 0) (qv 0) (qh 0) p_kept p_timesKept)), (qp 5, .inl (cI, 7, .inl u.2))]) (fun u => u.1) ⟨hx, hb, hml, hown, hts⟩ (fun u hu => c6_error l D cI ad qp qb qr qv qh p_kept p_timesKept p_errors ((1 : Int32)) u hu) (cwV 1 hts gX6_value_X6_error rfl rfl rfl hdX6_error (rmq_ok (Nat.le_of_ble_eq_true rfl) (Nat.le_of_ble_eq_true rfl))) hK hEv hA hP hD hS [0, 3] (by decide) rfl (fun _ => rfl) (va_recv hK hP (ci := 6) (q0 := 0) rfl rfl) rfl rfl hl.1 (Nat.le_of_ble_eq_true rfl) ⟨Nat.zero_le _, Nat.zero_le _⟩ h dX6_value_10 (fun t10 p_errors_10 H locs h hP hD hS => ?_)
    have hP : va_P D vwCl [(qp 0, .inr (6, oX6 qp (qb 0) (qr 0) (qv 0) (qh 0) p_kept p_timesKept)), (qb 0, .inr (1, oX1 qb b_now b_shutTill b_shutBy b_z b_waits (qa 0) (qt 0))), (qa 0, .inr (0, oX0 qa a_done)), (qp 5, .inl (cI, 7, .inl p_errors_10)), (qb 7, .inl (cI, 61, .inl b_worths)), (qa 8, .inl (cI, 61, .inl a_sizes)), (qa 9, .inl (cI, 1220, .inl a_cells))] H := hP
    have hD : va_D A [(qp 0, .inr (6, oX6 qp (qb 0) (qr 0) (qv 0) (qh 0) p_kept p_timesKept)), (qb 0, .inr (1, oX1 qb b_now b_shutTill b_shutBy b_z b_waits (qa 0) (qt 0))), (qa 0, .inr (0, oX0 qa a_done)), (qp 5, .inl (cI, 7, .inl p_errors_10)), (qb 7, .inl (cI, 61, .inl b_worths)), (qa 8, .inl (cI, 61, .inl a_sizes)), (qa 9, .inl (cI, 1220, .inl a_cells))] := hD
    exact hret (t10, p_errors_10) _ _ _ _ (vp_nar_int _) h hP hD hS dX6_value_13
set_option maxHeartbeats 4000000 in
set_option maxRecDepth 100000 in
theorem c1_worthiest (l : Launch) (D : va_G) (cI : ClassId) (ad : Nat → Nat) (qb qa qt : Nat → Nat) (b_now b_shutTill b_shutBy b_z b_waits a_done : Int32) (b_worths a_sizes a_cells : Nat → Int32) (n : Nat) (u : Int32) (h : f1_worthiest n a_done b_worths a_sizes a_cells = some u) : q_RO (cE ad) l yX1_worthiest wsX1_worthiest (rmq (2)) D cI [.ref (qb 0)] [(qb 0, .inr (1, oX1 qb b_now b_shutTill b_shutBy b_z b_waits (qa 0) (qt 0))), (qa 0, .inr (0, oX0 qa a_done)), (qb 7, .inl (cI, 61, .inl b_worths)), (qa 8, .inl (cI, 61, .inl a_sizes)), (qa 9, .inl (cI, 1220, .inl a_cells))] u := by
  refine q_startR (cc := cX1_worthiest) (maxL := 5) (ty := .int) (own := RX1) (by decide) rfl rfl (Nat.le_of_ble_eq_true rfl) rfl (fun p e s m args below meth c Q hx hb hml hown hts hP hK hEv hret ls hl => ?_)
  have in0 : ∀ w ∈ wsX00, w ∈ wsX1_worthiest := fun w h => List.mem_cons_of_mem _ (List.mem_append_right _ (h))
  have in1 : ∀ w ∈ wsX10, w ∈ wsX1_worthiest := fun w h => List.mem_cons_of_mem _ (List.mem_append_left _ (List.mem_append_right _ (h)))
  have l25 := hts (.fieldLink RX1 25 "PageWars$Book" "acts" "LPageWars$Acts;") (List.mem_of_getElem? (i := 1) rfl)
  have l111 : (Cond.fieldLinkNest RX1 111 "PageWars$Acts" "done" "I" "PageWars").before args s = true := cE_f1_111 hEv
  have J10 : ∀ (kk10 : Nat) (x1 : Int32) (x2 : Int32) (x3 : Int32) (ls : Array Slot), lv_has ls 5 [(0, .ref (qb 0)), (1, .int x1), (2, .int x2), (3, .int x3)] → f1_worthiest_10 n a_done b_worths a_sizes a_cells kk10 x1 x2 x3 = some u → W p l e (rmq (2)) s m args below meth c s.heap [] 0 0 Q (F0 m 10 ls []) := by
    intro kk10
    induction kk10 with
    | zero => intro x1 x2 x3  ls hl h; exact nomatch (show (none : Option (Int32)) = some u from h)
    | succ kk10 ih10 =>
      have J39 : ∀ (x1 : Int32) (x2 : Int32) (x3 : Int32) (ls : Array Slot), lv_has ls 5 [(0, .ref (qb 0)), (1, .int x1), (2, .int x2), (3, .int x3)] → f1_worthiest_39 n a_done b_worths a_sizes a_cells (f1_worthiest_10 n a_done b_worths a_sizes a_cells kk10) x1 x2 x3 = some u → W p l e (rmq (2)) s m args below meth c s.heap [] 0 0 Q (F0 m 39 ls []) := by
        intro x1 x2 x3  ls hl h
        unfold f1_worthiest_39 at h
        refine q_iinc (fun v => [(3, .int v), (0, .ref (qb 0)), (1, .int x1), (2, .int x2)]) hx hb h dX1_worthiest_39 (by decide) hl (k := 3) rfl (by decide) (fun _ => rfl) (fun x3_39 ls h hl => ?_)
        refine lv_goto (tgt := 10) hx hb dX1_worthiest_42 (by decide) ?_
        exact ih10 x1 x2 x3_39 _ (lv_sub hl [1, 2, 3, 0] rfl) h
      intro x1 x2 x3  ls hl h
      rw [f1_worthiest_10.eq_2] at h
      refine lv_iload_n hx hb dX1_worthiest_10 rfl (lv_at hl 3 rfl) ?_
      refine lv_aload_n hx hb dX1_worthiest_11 rfl (lv_at hl 0 rfl) ?_
      refine va_get (D := D) (ci := 1) (v := .ref (qa 0)) (C := RX1) (T := TX1) (N := 9) hx hb hts in1 hown hK hP 0 rfl rfl 7 (by decide) l25 (fun _ h9 => h9) rfl dX1_worthiest_12 ?_
      refine va_getN (D := D) (ci := 0) (v := .int a_done) (C := RX0) (T := TX0) (N := 10) hx hb hts in0 hown hK hP 1 rfl rfl 0 (by decide) l111 (fun _ h9 => h9) rfl dX1_worthiest_15 ?_
      refine q_cgt hx hb 45 h dX1_worthiest_18 (by decide) (fun h => ?_) (fun h => ?_)
      · refine lv_iload_n hx hb dX1_worthiest_45 rfl (lv_at hl 1 rfl) ?_
        exact hret _ _ _ (vp_nar_int _) h dX1_worthiest_46
      · refine lv_aload_n hx hb dX1_worthiest_21 rfl (lv_at hl 0 rfl) ?_
        refine lv_iload_n hx hb dX1_worthiest_22 rfl (lv_at hl 3 rfl) ?_
        refine q_callR (cEok ad) (rest := []) ⟨hx, hb, hml, hown, hts⟩ (fun r hr => c1_worthOf l D cI ad qb qa qt b_now b_shutTill b_shutBy b_z b_waits a_done b_worths a_sizes a_cells x3 n r hr) (cwV 1 hts gX1_worthiest_X1_worthOf rfl rfl rfl hdX1_worthOf (rmq_ok (Nat.le_of_ble_eq_true rfl) (Nat.le_of_ble_eq_true rfl))) hK hP hEv va_S.rf [0, 1, 2, 3, 4] rfl (va_recv hK hP (ci := 1) (q0 := 0) rfl rfl) rfl rfl hl.1 (Nat.le_of_ble_eq_true rfl) ⟨Nat.zero_le _, Nat.zero_le _⟩ h dX1_worthiest_23 (fun t23 h => ?_)
        refine lv_istore (lv' := [(4, .int t23), (0, .ref (qb 0)), (1, .int x1), (2, .int x2), (3, .int x3)]) hx hb dX1_worthiest_26 hl (by decide) rfl (fun ls hl => ?_)
        refine lv_iload hx hb dX1_worthiest_28 (lv_at hl 0 rfl) ?_
        refine lv_iload_n hx hb dX1_worthiest_30 rfl (lv_at hl 3 rfl) ?_
        refine q_cle hx hb 39 h dX1_worthiest_31 (by decide) (fun h => ?_) (fun h => ?_)
        · exact J39 x1 x2 x3 _ (lv_sub hl [1, 2, 3, 4] rfl) h
        · refine lv_iload hx hb dX1_worthiest_34 (lv_at hl 0 rfl) ?_
          refine lv_istore_n (lv' := [(2, .int t23), (4, .int t23), (0, .ref (qb 0)), (1, .int x1), (3, .int x3)]) hx hb dX1_worthiest_36 rfl hl (by decide) rfl (fun ls hl => ?_)
          refine lv_iload_n hx hb dX1_worthiest_37 rfl (lv_at hl 4 rfl) ?_
          refine lv_istore_n (lv' := [(1, .int x3), (2, .int t23), (4, .int t23), (0, .ref (qb 0)), (3, .int x3)]) hx hb dX1_worthiest_38 rfl hl (by decide) rfl (fun ls hl => ?_)
          exact J39 x3 t23 x3 _ (lv_sub hl [3, 0, 1, 4] rfl) h
  unfold f1_worthiest at h
  refine lv_iconst (v := (0 : Int32)) hx hb dX1_worthiest_0 (by decide) ?_
  refine lv_istore_n (lv' := [(1, .int ((0 : Int32))), (0, .ref (qb 0))]) hx hb dX1_worthiest_1 rfl hl (by decide) rfl (fun ls hl => ?_)
  refine lv_aload_n hx hb dX1_worthiest_2 rfl (lv_at hl 1 rfl) ?_
  refine lv_iconst (v := (0 : Int32)) hx hb dX1_worthiest_3 (by decide) ?_
  refine q_callR (cEok ad) (rest := []) ⟨hx, hb, hml, hown, hts⟩ (fun r hr => c1_worthOf l D cI ad qb qa qt b_now b_shutTill b_shutBy b_z b_waits a_done b_worths a_sizes a_cells ((0 : Int32)) n r hr) (cwV 1 hts gX1_worthiest_X1_worthOf rfl rfl rfl hdX1_worthOf (rmq_ok (Nat.le_of_ble_eq_true rfl) (Nat.le_of_ble_eq_true rfl))) hK hP hEv va_S.rf [0, 1, 2, 3, 4] rfl (va_recv hK hP (ci := 1) (q0 := 0) rfl rfl) rfl rfl hl.1 (Nat.le_of_ble_eq_true rfl) ⟨Nat.zero_le _, Nat.zero_le _⟩ h dX1_worthiest_4 (fun t4 h => ?_)
  refine lv_istore_n (lv' := [(2, .int t4), (1, .int ((0 : Int32))), (0, .ref (qb 0))]) hx hb dX1_worthiest_7 rfl hl (by decide) rfl (fun ls hl => ?_)
  refine lv_iconst (v := (1 : Int32)) hx hb dX1_worthiest_8 (by decide) ?_
  refine lv_istore_n (lv' := [(3, .int ((1 : Int32))), (2, .int t4), (1, .int ((0 : Int32))), (0, .ref (qb 0))]) hx hb dX1_worthiest_9 rfl hl (by decide) rfl (fun ls hl => ?_)
  exact J10 n ((0 : Int32)) t4 ((1 : Int32)) _ (lv_sub hl [3, 2, 1, 0] rfl) h
set_option maxHeartbeats 4000000 in
set_option maxRecDepth 100000 in
theorem c6_best (l : Launch) (D : va_G) (cI : ClassId) (ad : Nat → Nat) (qp qb qa qt qr qv qh : Nat → Nat) (p_kept : Value) (p_timesKept b_now b_shutTill b_shutBy b_z b_waits a_done : Int32) (b_worths a_sizes a_cells : Nat → Int32) (n : Nat) (u : Int32) (h : f6_best n a_done b_worths a_sizes a_cells = some u) : q_RO (cE ad) l yX6_best wsX6_best (rmq (3)) D cI [.ref (qp 0)] [(qp 0, .inr (6, oX6 qp (qb 0) (qr 0) (qv 0) (qh 0) p_kept p_timesKept)), (qb 0, .inr (1, oX1 qb b_now b_shutTill b_shutBy b_z b_waits (qa 0) (qt 0))), (qa 0, .inr (0, oX0 qa a_done)), (qb 7, .inl (cI, 61, .inl b_worths)), (qa 8, .inl (cI, 61, .inl a_sizes)), (qa 9, .inl (cI, 1220, .inl a_cells))] u := by
  refine q_startR (cc := cX6_best) (maxL := 1) (ty := .int) (own := RX6) (by decide) rfl rfl (Nat.le_of_ble_eq_true rfl) rfl (fun p e s m args below meth c Q hx hb hml hown hts hP hK hEv hret ls hl => ?_)
  have in0 : ∀ w ∈ wsX00, w ∈ wsX6_best := fun w h => List.mem_cons_of_mem _ (List.mem_append_right _ (h))
  have in1 : ∀ w ∈ wsX10, w ∈ wsX6_best := fun w h => List.mem_cons_of_mem _ (List.mem_append_left _ (List.mem_append_right _ (h)))
  have in6 : ∀ w ∈ wsX60, w ∈ wsX6_best := fun w h => List.mem_cons_of_mem _ (List.mem_append_left _ (List.mem_append_left _ (List.mem_append_right _ (h))))
  have l10 := hts (.fieldLink RX6 10 "PageWars" "book" "LPageWars$Book;") (List.mem_of_getElem? (i := 1) rfl)
  unfold f6_best at h
  refine lv_aload_n hx hb dX6_best_0 rfl (lv_at hl 0 rfl) ?_
  refine va_get (D := D) (ci := 6) (v := .ref (qb 0)) (C := RX6) (T := TX6) (N := 7) hx hb hts in6 hown hK hP 0 rfl rfl 0 (by decide) l10 (fun _ h9 => h9) rfl dX6_best_1 ?_
  refine q_callR (cEok ad) (rest := []) ⟨hx, hb, hml, hown, hts⟩ (fun r hr => c1_worthiest l D cI ad qb qa qt b_now b_shutTill b_shutBy b_z b_waits a_done b_worths a_sizes a_cells n r hr) (cwV 0 hts gX6_best_X1_worthiest rfl rfl rfl hdX1_worthiest (rmq_ok (Nat.le_of_ble_eq_true rfl) (Nat.le_of_ble_eq_true rfl))) hK hP hEv va_S.rf [1, 2, 3, 4, 5] rfl (va_recv hK hP (ci := 1) (q0 := 1) rfl rfl) rfl rfl hl.1 (Nat.le_of_ble_eq_true rfl) ⟨Nat.zero_le _, Nat.zero_le _⟩ h dX6_best_4 (fun t4 h => ?_)
  exact hret _ _ _ (vp_nar_int _) h dX6_best_7
set_option maxHeartbeats 4000000 in
set_option maxRecDepth 100000 in
theorem c1_worthRead (l : Launch) (D : va_G) (cI : ClassId) (ad : Nat → Nat) (qb qa qt : Nat → Nat) (b_now b_shutTill b_shutBy b_z b_waits a_done : Int32) (b_worths a_minutes a_sizes a_cells : Nat → Int32) (x1 : Int32) (x2 : Int32) (n : Nat) (u : Int32) (h : f1_worthRead n x1 x2 a_done b_worths a_minutes a_sizes a_cells = some u) : q_RO (cE ad) l yX1_worthRead wsX1_worthRead (rmq (2)) D cI [.ref (qb 0), .int x1, .int x2] [(qb 0, .inr (1, oX1 qb b_now b_shutTill b_shutBy b_z b_waits (qa 0) (qt 0))), (qa 0, .inr (0, oX0 qa a_done)), (qb 7, .inl (cI, 61, .inl b_worths)), (qa 4, .inl (cI, 60, .inl a_minutes)), (qa 8, .inl (cI, 61, .inl a_sizes)), (qa 9, .inl (cI, 1220, .inl a_cells))] u := by
  refine q_startR (cc := cX1_worthRead) (maxL := 5) (ty := .int) (own := RX1) (by decide) rfl rfl (Nat.le_of_ble_eq_true rfl) rfl (fun p e s m args below meth c Q hx hb hml hown hts hP hK hEv hret ls hl => ?_)
  have in0 : ∀ w ∈ wsX00, w ∈ wsX1_worthRead := fun w h => List.mem_cons_of_mem _ (List.mem_append_right _ (h))
  have in1 : ∀ w ∈ wsX10, w ∈ wsX1_worthRead := fun w h => List.mem_cons_of_mem _ (List.mem_append_left _ (List.mem_append_right _ (h)))
  have l25 := hts (.fieldLink RX1 25 "PageWars$Book" "acts" "LPageWars$Acts;") (List.mem_of_getElem? (i := 1) rfl)
  have l111 : (Cond.fieldLinkNest RX1 111 "PageWars$Acts" "done" "I" "PageWars").before args s = true := cE_f1_111 hEv
  have J5 : ∀ (kk5 : Nat) (x1 : Int32) (x2 : Int32) (x3 : Int32) (x4 : Int32) (ls : Array Slot), lv_has ls 5 [(0, .ref (qb 0)), (1, .int x1), (2, .int x2), (3, .int x3), (4, .int x4)] → f1_worthRead_5 n a_done b_worths a_minutes a_sizes a_cells kk5 x1 x2 x3 x4 = some u → W p l e (rmq (2)) s m args below meth c s.heap [] 0 0 Q (F0 m 5 ls []) := by
    intro kk5
    induction kk5 with
    | zero => intro x1 x2 x3 x4  ls hl h; exact nomatch (show (none : Option (Int32)) = some u from h)
    | succ kk5 ih5 =>
      intro x1 x2 x3 x4  ls hl h
      rw [f1_worthRead_5.eq_2] at h
      refine lv_iload hx hb dX1_worthRead_5 (lv_at hl 4 rfl) ?_
      refine lv_aload_n hx hb dX1_worthRead_7 rfl (lv_at hl 0 rfl) ?_
      refine va_get (D := D) (ci := 1) (v := .ref (qa 0)) (C := RX1) (T := TX1) (N := 9) hx hb hts in1 hown hK hP 0 rfl rfl 7 (by decide) l25 (fun _ h9 => h9) rfl dX1_worthRead_8 ?_
      refine va_getN (D := D) (ci := 0) (v := .int a_done) (C := RX0) (T := TX0) (N := 10) hx hb hts in0 hown hK hP 1 rfl rfl 0 (by decide) l111 (fun _ h9 => h9) rfl dX1_worthRead_11 ?_
      refine q_cgt hx hb 44 h dX1_worthRead_14 (by decide) (fun h => ?_) (fun h => ?_)
      · refine lv_iload_n hx hb dX1_worthRead_44 rfl (lv_at hl 3 rfl) ?_
        exact hret _ _ _ (vp_nar_int _) h dX1_worthRead_45
      · refine lv_iload_n hx hb dX1_worthRead_17 rfl (lv_at hl 3 rfl) ?_
        refine lv_aload_n hx hb dX1_worthRead_18 rfl (lv_at hl 0 rfl) ?_
        refine lv_iload hx hb dX1_worthRead_19 (lv_at hl 4 rfl) ?_
        refine q_callR (cEok ad) (rest := [.int x3]) ⟨hx, hb, hml, hown, hts⟩ (fun r hr => c1_worthOf l D cI ad qb qa qt b_now b_shutTill b_shutBy b_z b_waits a_done b_worths a_sizes a_cells x4 n r hr) (cwV 1 hts gX1_worthRead_X1_worthOf rfl rfl rfl hdX1_worthOf (rmq_ok (Nat.le_of_ble_eq_true rfl) (Nat.le_of_ble_eq_true rfl))) hK hP hEv va_S.rf [0, 1, 2, 4, 5] rfl (va_recv hK hP (ci := 1) (q0 := 0) rfl rfl) rfl rfl hl.1 (Nat.le_of_ble_eq_true rfl) ⟨Nat.zero_le _, Nat.zero_le _⟩ h dX1_worthRead_21 (fun t21 h => ?_)
        refine lv_aload_n hx hb dX1_worthRead_24 rfl (lv_at hl 0 rfl) ?_
        refine va_get (D := D) (ci := 1) (v := .ref (qa 0)) (C := RX1) (T := TX1) (N := 9) hx hb hts in1 hown hK hP 0 rfl rfl 7 (by decide) l25 (fun _ h9 => h9) rfl dX1_worthRead_25 ?_
        refine lv_iload hx hb dX1_worthRead_28 (lv_at hl 4 rfl) ?_
        refine lv_iload_n hx hb dX1_worthRead_30 rfl (lv_at hl 1 rfl) ?_
        refine lv_iload_n hx hb dX1_worthRead_31 rfl (lv_at hl 2 rfl) ?_
        refine q_callR (cEok ad) (rest := [.int t21, .int x3]) ⟨hx, hb, hml, hown, hts⟩ (fun r hr => c0_minutesThere l D cI ad qa a_done a_minutes x4 x1 x2 r hr) (cwV 3 hts gX1_worthRead_X0_minutesThere rfl rfl rfl hdX0_minutesThere (rmq_ok (Nat.le_of_ble_eq_true rfl) (Nat.le_of_ble_eq_true rfl))) hK hP hEv va_S.rf [1, 3] rfl (va_recv hK hP (ci := 0) (q0 := 1) rfl rfl) rfl rfl hl.1 (Nat.le_of_ble_eq_true rfl) ⟨Nat.zero_le _, Nat.zero_le _⟩ h dX1_worthRead_32 (fun t32 h => ?_)
        refine lv_imul hx hb dX1_worthRead_35 ?_
        refine lv_iadd hx hb dX1_worthRead_36 ?_
        refine q_let h (fun x3_37 h => ?_)
        refine lv_istore_n (lv' := [(3, .int x3_37), (0, .ref (qb 0)), (1, .int x1), (2, .int x2), (4, .int x4)]) hx hb dX1_worthRead_37 rfl hl (by decide) rfl (fun ls hl => ?_)
        refine q_iinc (fun v => [(4, .int v), (3, .int x3_37), (0, .ref (qb 0)), (1, .int x1), (2, .int x2)]) hx hb h dX1_worthRead_38 (by decide) hl (k := 4) rfl (by decide) (fun _ => rfl) (fun x4_38 ls h hl => ?_)
        refine lv_goto (tgt := 5) hx hb dX1_worthRead_41 (by decide) ?_
        exact ih5 x1 x2 x3_37 x4_38 _ (lv_sub hl [2, 3, 4, 1, 0] rfl) h
  unfold f1_worthRead at h
  refine lv_iconst (v := (0 : Int32)) hx hb dX1_worthRead_0 (by decide) ?_
  refine lv_istore_n (lv' := [(3, .int ((0 : Int32))), (0, .ref (qb 0)), (1, .int x1), (2, .int x2)]) hx hb dX1_worthRead_1 rfl hl (by decide) rfl (fun ls hl => ?_)
  refine lv_iconst (v := (0 : Int32)) hx hb dX1_worthRead_2 (by decide) ?_
  refine lv_istore (lv' := [(4, .int ((0 : Int32))), (3, .int ((0 : Int32))), (0, .ref (qb 0)), (1, .int x1), (2, .int x2)]) hx hb dX1_worthRead_3 hl (by decide) rfl (fun ls hl => ?_)
  exact J5 n x1 x2 ((0 : Int32)) ((0 : Int32)) _ (lv_sub hl [2, 3, 4, 1, 0] rfl) h
set_option maxHeartbeats 4000000 in
set_option maxRecDepth 100000 in
theorem c6_got (l : Launch) (D : va_G) (cI : ClassId) (ad : Nat → Nat) (qp qb qa qt qr qv qh : Nat → Nat) (p_kept : Value) (p_timesKept b_now b_shutTill b_shutBy b_z b_waits a_done : Int32) (p_errors b_worths a_minutes a_sizes a_cells : Nat → Int32) (x1 : Int32) (x2 : Int32) (n : Nat) (u : Int32 × (Nat → Int32)) (h : f6_got n x1 x2 b_now a_done p_errors b_worths a_minutes a_sizes a_cells = some u) : q_RW (cE ad) l yX6_got wsX6_got (rmq (3)) D cI [.ref (qp 0), .int x1, .int x2] [(qp 0, .inr (6, oX6 qp (qb 0) (qr 0) (qv 0) (qh 0) p_kept p_timesKept)), (qb 0, .inr (1, oX1 qb b_now b_shutTill b_shutBy b_z b_waits (qa 0) (qt 0))), (qa 0, .inr (0, oX0 qa a_done)), (qp 5, .inl (cI, 7, .inl p_errors)), (qb 7, .inl (cI, 61, .inl b_worths)), (qa 4, .inl (cI, 60, .inl a_minutes)), (qa 8, .inl (cI, 61, .inl a_sizes)), (qa 9, .inl (cI, 1220, .inl a_cells))] [(qp 0, .inr (6, oX6 qp (qb 0) (qr 0) (qv 0) (qh 0) p_kept p_timesKept)), (qb 0, .inr (1, oX1 qb b_now b_shutTill b_shutBy b_z b_waits (qa 0) (qt 0))), (qa 0, .inr (0, oX0 qa a_done)), (qp 5, .inl (cI, 7, .inl u.2)), (qb 7, .inl (cI, 61, .inl b_worths)), (qa 4, .inl (cI, 60, .inl a_minutes)), (qa 8, .inl (cI, 61, .inl a_sizes)), (qa 9, .inl (cI, 1220, .inl a_cells))] u.1 := by
  refine q_startW (fun u : Int32 × (Nat → Int32) => [(qp 0, .inr (6, oX6 qp (qb 0) (qr 0) (qv 0) (qh 0) p_kept p_timesKept)), (qb 0, .inr (1, oX1 qb b_now b_shutTill b_shutBy b_z b_waits (qa 0) (qt 0))), (qa 0, .inr (0, oX0 qa a_done)), (qp 5, .inl (cI, 7, .inl u.2)), (qb 7, .inl (cI, 61, .inl b_worths)), (qa 4, .inl (cI, 60, .inl a_minutes)), (qa 8, .inl (cI, 61, .inl a_sizes)), (qa 9, .inl (cI, 1220, .inl a_cells))]) (fun u => u.1) (cc := cX6_got) (maxL := 3) (ty := .int) (own := RX6) (by decide) rfl rfl (Nat.le_of_ble_eq_true rfl) rfl (fun p e s m args below meth c Q A hx hb hml hown hts hK hEv hA hret hP hD hS ls hl => ?_)
  have in0 : ∀ w ∈ wsX00, w ∈ wsX6_got := fun w h => List.mem_cons_of_mem _ (List.mem_append_right _ (h))
  have in1 : ∀ w ∈ wsX10, w ∈ wsX6_got := fun w h => List.mem_cons_of_mem _ (List.mem_append_left _ (List.mem_append_right _ (h)))
  have in6 : ∀ w ∈ wsX60, w ∈ wsX6_got := fun w h => List.mem_cons_of_mem _ (List.mem_append_left _ (List.mem_append_left _ (List.mem_append_right _ (h))))
  have l10 := hts (.fieldLink RX6 10 "PageWars" "book" "LPageWars$Book;") (List.mem_of_getElem? (i := 1) rfl)
  unfold f6_got at h
  refine lv_aload_n hx hb dX6_got_0 rfl (lv_at hl 0 rfl) ?_
  refine lv_iload_n hx hb dX6_got_1 rfl (lv_at hl 1 rfl) ?_
  refine lv_iload_n hx hb dX6_got_2 rfl (lv_at hl 2 rfl) ?_
  refine q_callR (cEok ad) (rest := []) ⟨hx, hb, hml, hown, hts⟩ (fun r hr => c6_areMinutes l D cI ad qp qb qa qt qr qv qh p_kept p_timesKept b_now b_shutTill b_shutBy b_z b_waits x1 x2 r hr) (cwV 2 hts gX6_got_X6_areMinutes rfl rfl rfl hdX6_areMinutes (rmq_ok (Nat.le_of_ble_eq_true rfl) (Nat.le_of_ble_eq_true rfl))) hK hP hEv hS [0, 1] rfl (va_recv hK hP (ci := 6) (q0 := 0) rfl rfl) rfl rfl hl.1 (Nat.le_of_ble_eq_true rfl) ⟨Nat.zero_le _, Nat.zero_le _⟩ h dX6_got_3 (fun t3 h => ?_)
  refine q_ifne hx hb 15 h dX6_got_6 (by decide) (fun h => ?_) (fun h => ?_)
  · refine lv_aload_n hx hb dX6_got_15 rfl (lv_at hl 0 rfl) ?_
    refine va_get (D := D) (ci := 6) (v := .ref (qb 0)) (C := RX6) (T := TX6) (N := 7) hx hb hts in6 hown hK hP 0 rfl rfl 0 (by decide) l10 (fun _ h9 => h9) rfl dX6_got_16 ?_
    refine lv_iload_n hx hb dX6_got_19 rfl (lv_at hl 1 rfl) ?_
    refine lv_iload_n hx hb dX6_got_20 rfl (lv_at hl 2 rfl) ?_
    refine q_callR (cEok ad) (rest := []) ⟨hx, hb, hml, hown, hts⟩ (fun r hr => c1_worthRead l D cI ad qb qa qt b_now b_shutTill b_shutBy b_z b_waits a_done b_worths a_minutes a_sizes a_cells x1 x2 n r hr) (cwV 2 hts gX6_got_X1_worthRead rfl rfl rfl hdX1_worthRead (rmq_ok (Nat.le_of_ble_eq_true rfl) (Nat.le_of_ble_eq_true rfl))) hK hP hEv hS [1, 2, 4, 5, 6, 7] rfl (va_recv hK hP (ci := 1) (q0 := 1) rfl rfl) rfl rfl hl.1 (Nat.le_of_ble_eq_true rfl) ⟨Nat.zero_le _, Nat.zero_le _⟩ h dX6_got_21 (fun t21 h => ?_)
    exact hret (t21, p_errors) _ _ _ _ (vp_nar_int _) h hP hD hS dX6_got_24
  · refine lv_aload_n hx hb dX6_got_9 rfl (lv_at hl 0 rfl) ?_
    refine lv_iconst (v := (1 : Int32)) hx hb dX6_got_10 (by decide) ?_
    refine q_callW2 (cEok ad) (rest := []) (fun u => [(qp 0, .inr (6, oX6 qp (qb 0) (qr 0) (qv 0) (qh 0) p_kept p_timesKept)), (qp 5, .inl (cI, 7, .inl u.2))]) (fun u => u.1) ⟨hx, hb, hml, hown, hts⟩ (fun u hu => c6_error l D cI ad qp qb qr qv qh p_kept p_timesKept p_errors ((1 : Int32)) u hu) (cwV 1 hts gX6_got_X6_error rfl rfl rfl hdX6_error (rmq_ok (Nat.le_of_ble_eq_true rfl) (Nat.le_of_ble_eq_true rfl))) hK hEv hA hP hD hS [0, 3] (by decide) rfl (fun _ => rfl) (va_recv hK hP (ci := 6) (q0 := 0) rfl rfl) rfl rfl hl.1 (Nat.le_of_ble_eq_true rfl) ⟨Nat.zero_le _, Nat.zero_le _⟩ h dX6_got_11 (fun t11 p_errors_11 H locs h hP hD hS => ?_)
    have hP : va_P D vwCl [(qp 0, .inr (6, oX6 qp (qb 0) (qr 0) (qv 0) (qh 0) p_kept p_timesKept)), (qb 0, .inr (1, oX1 qb b_now b_shutTill b_shutBy b_z b_waits (qa 0) (qt 0))), (qa 0, .inr (0, oX0 qa a_done)), (qp 5, .inl (cI, 7, .inl p_errors_11)), (qb 7, .inl (cI, 61, .inl b_worths)), (qa 4, .inl (cI, 60, .inl a_minutes)), (qa 8, .inl (cI, 61, .inl a_sizes)), (qa 9, .inl (cI, 1220, .inl a_cells))] H := hP
    have hD : va_D A [(qp 0, .inr (6, oX6 qp (qb 0) (qr 0) (qv 0) (qh 0) p_kept p_timesKept)), (qb 0, .inr (1, oX1 qb b_now b_shutTill b_shutBy b_z b_waits (qa 0) (qt 0))), (qa 0, .inr (0, oX0 qa a_done)), (qp 5, .inl (cI, 7, .inl p_errors_11)), (qb 7, .inl (cI, 61, .inl b_worths)), (qa 4, .inl (cI, 60, .inl a_minutes)), (qa 8, .inl (cI, 61, .inl a_sizes)), (qa 9, .inl (cI, 1220, .inl a_cells))] := hD
    exact hret (t11, p_errors_11) _ _ _ _ (vp_nar_int _) h hP hD hS dX6_got_14
set_option maxHeartbeats 4000000 in
set_option maxRecDepth 100000 in
theorem c5_parts (l : Launch) (D : va_G) (cI : ClassId) (ad : Nat → Nat) (qv : Nat → Nat) (v_kind v_number v_writer v_parted v_traced : Int32) (x1 : Int32) (u : Int32 × Int32) (h : f5_parts x1 v_number v_parted = some u) : q_RW (cE ad) l yX5_parts wsX5_parts (rmq (0)) D cI [.ref (qv 0), .int x1] [(qv 0, .inr (5, oX5 qv v_kind v_number v_writer v_parted v_traced))] [(qv 0, .inr (5, oX5 qv v_kind v_number v_writer u.2 v_traced))] u.1 := by
  refine q_startW (fun u : Int32 × Int32 => [(qv 0, .inr (5, oX5 qv v_kind v_number v_writer u.2 v_traced))]) (fun u => u.1) (cc := cX5_parts) (maxL := 3) (ty := .int) (own := RX5) (by decide) rfl rfl (Nat.le_of_ble_eq_true rfl) rfl (fun p e s m args below meth c Q A hx hb hml hown hts hK hEv hA hret hP hD hS ls hl => ?_)
  have in5 : ∀ w ∈ wsX50, w ∈ wsX5_parts := fun w h => List.mem_cons_of_mem _ (List.mem_append_right _ (h))
  have l24 := hts (.fieldLink RX5 24 "PageWars$Voices" "number" "I") (List.mem_of_getElem? (i := 1) rfl)
  have l33 := hts (.fieldLink RX5 33 "PageWars$Voices" "parted" "Z") (List.mem_of_getElem? (i := 2) rfl)
  unfold f5_parts at h
  refine lv_aload_n hx hb dX5_parts_0 rfl (lv_at hl 0 rfl) ?_
  refine va_get (D := D) (ci := 5) (v := .int v_number) (C := RX5) (T := TX5) (N := 6) hx hb hts in5 hown hK hP 0 rfl rfl 1 (by decide) l24 (fun _ h9 => h9) rfl dX5_parts_1 ?_
  refine lv_iconst (v := (2 : Int32)) hx hb dX5_parts_4 (by decide) ?_
  refine lv_isub hx hb dX5_parts_5 ?_
  refine q_let h (fun x2_6 h => ?_)
  refine lv_istore_n (lv' := [(2, .int x2_6), (0, .ref (qv 0)), (1, .int x1)]) hx hb dX5_parts_6 rfl hl (by decide) rfl (fun ls hl => ?_)
  refine lv_iload_n hx hb dX5_parts_7 rfl (lv_at hl 0 rfl) ?_
  refine q_ifne hx hb 18 h dX5_parts_8 (by decide) (fun h => ?_) (fun h => ?_)
  · refine lv_iload_n hx hb dX5_parts_18 rfl (lv_at hl 2 rfl) ?_
    refine lv_iload_n hx hb dX5_parts_19 rfl (lv_at hl 0 rfl) ?_
    refine q_idiv hx hb h dX5_parts_20 (fun h => ?_)
    exact hret (x1 / x2_6, v_parted) _ _ _ _ (vp_nar_int _) h hP hD hS dX5_parts_21
  · refine lv_aload_n hx hb dX5_parts_11 rfl (lv_at hl 1 rfl) ?_
    refine lv_iconst (v := (1 : Int32)) hx hb dX5_parts_12 (by decide) ?_
    obtain ⟨hz, h⟩ := q_bz_of h
    refine va_put (D := D) (ci := 5) (v := .int ((1 : Int32))) (ty := .boolean) (C := RX5) (T := TX5) (N := 6) hx hb hts in5 tyX5 tyX5_ok nmX5 hown hK hP hD hS 0 rfl rfl 3 (by decide) l33 (fun _ h9 => h9) rfl (by decide +kernel) (q_nz hz) (q_fz hz) (Nat.le_of_ble_eq_true rfl) dX5_parts_13 (fun H locs hP hD hS => ?_)
    have hP : va_P D vwCl [(qv 0, .inr (5, oX5 qv v_kind v_number v_writer ((1 : Int32)) v_traced))] H := hP
    have hD : va_D A [(qv 0, .inr (5, oX5 qv v_kind v_number v_writer ((1 : Int32)) v_traced))] := hD
    refine lv_iconst (v := (0 : Int32)) hx hb dX5_parts_16 (by decide) ?_
    exact hret ((0 : Int32), (1 : Int32)) _ _ _ _ (vp_nar_int _) h hP hD hS dX5_parts_17
set_option maxHeartbeats 4000000 in
set_option maxRecDepth 100000 in
theorem c5_says (l : Launch) (D : va_G) (cI : ClassId) (ad : Nat → Nat) (qv : Nat → Nat) (n : Nat) (FS : Int32 → Int32 → Int32 → Int32 → Int32 → Int32 → Int32 → Int32 → Int32 → (Nat → Int32) → Option (Int32 × Int32 × Int32 × (Nat → Int32))) (lv : Nat) (hlv : 8 ≤ lv) (H1 : ∀ (v_kind v_number v_writer v_parted v_traced : Int32) (v_trace : Nat → Int32) (x1 : Int32) (x2 : Int32) (x3 : Int32) (x4 : Int32) (u : Int32 × Int32 × Int32 × (Nat → Int32)), FS x1 x2 x3 x4 v_kind v_number v_writer v_parted v_traced v_trace = some u → q_RW (cE ad) l yX5_speaks wsX5_speaks (rmq (lv)) D cI [.ref (qv 0), .int x1, .int x2, .int x3, .int x4] [(qv 0, .inr (5, oX5 qv v_kind v_number v_writer v_parted v_traced)), (qv 6, .inl (cI, 30, .inl v_trace))] [(qv 0, .inr (5, oX5 qv v_kind v_number v_writer u.2.1 u.2.2.1)), (qv 6, .inl (cI, 30, .inl u.2.2.2))] u.1) (v_kind v_number v_writer v_parted v_traced : Int32) (v_trace : Nat → Int32) (x1 : Int32) (x2 : Int32) (x3 : Int32) (u : Int32 × Int32 × Int32 × (Nat → Int32)) (h : g5_says n FS x1 x2 x3 v_kind v_number v_writer v_parted v_traced v_trace = some u) : q_RW (cE ad) l yX5_says wsX5_says (rmq (lv + 1)) D cI [.ref (qv 0), .int x1, .int x2, .int x3] [(qv 0, .inr (5, oX5 qv v_kind v_number v_writer v_parted v_traced)), (qv 6, .inl (cI, 30, .inl v_trace))] [(qv 0, .inr (5, oX5 qv v_kind v_number v_writer u.2.1 u.2.2.1)), (qv 6, .inl (cI, 30, .inl u.2.2.2))] u.1 := by
  refine q_startW (fun u : Int32 × Int32 × Int32 × (Nat → Int32) => [(qv 0, .inr (5, oX5 qv v_kind v_number v_writer u.2.1 u.2.2.1)), (qv 6, .inl (cI, 30, .inl u.2.2.2))]) (fun u => u.1) (cc := cX5_says) (maxL := 4) (ty := .int) (own := RX5) (by decide) rfl rfl (Nat.le_of_ble_eq_true rfl) rfl (fun p e s m args below meth c Q A hx hb hml hown hts hK hEv hA hret hP hD hS ls hl => ?_)
  have in5 : ∀ w ∈ wsX50, w ∈ wsX5_says := fun w h => List.mem_cons_of_mem _ (List.mem_append_right _ (h))
  have l20 := hts (.fieldLink RX5 20 "PageWars$Voices" "kind" "I") (List.mem_of_getElem? (i := 2) rfl)
  have l24 := hts (.fieldLink RX5 24 "PageWars$Voices" "number" "I") (List.mem_of_getElem? (i := 3) rfl)
  have l30 := hts (.fieldLink RX5 30 "PageWars$Voices" "writer" "I") (List.mem_of_getElem? (i := 1) rfl)
  unfold g5_says at h
  refine lv_iload_n hx hb dX5_says_0 rfl (lv_at hl 1 rfl) ?_
  rcases Decidable.em (x1 = (10 : Int32)) with w0 | w0
  · have h := q_t h w0
    refine lv_tableIn hx hb dX5_says_1 (off := 27) (tgt := 28) (by rw [w0]; decide) (by rw [w0]; decide) (by rw [w0]; rfl) (by decide) ?_
    refine lv_iload_n hx hb dX5_says_28 rfl (lv_at hl 2 rfl) ?_
    refine lv_aload_n hx hb dX5_says_29 rfl (lv_at hl 0 rfl) ?_
    refine va_get (D := D) (ci := 5) (v := .int v_writer) (C := RX5) (T := TX5) (N := 6) hx hb hts in5 hown hK hP 0 rfl rfl 2 (by decide) l30 (fun _ h9 => h9) rfl dX5_says_30 ?_
    refine lv_iadd hx hb dX5_says_33 ?_
    exact hret (x2 + v_writer, v_parted, v_traced, v_trace) _ _ _ _ (vp_nar_int _) h hP hD hS dX5_says_34
  have h := q_f h w0
  rcases Decidable.em (x1 = (11 : Int32)) with w1 | w1
  · have h := q_t h w1
    refine lv_tableIn hx hb dX5_says_1 (off := 34) (tgt := 35) (by rw [w1]; decide) (by rw [w1]; decide) (by rw [w1]; rfl) (by decide) ?_
    refine lv_aload_n hx hb dX5_says_35 rfl (lv_at hl 0 rfl) ?_
    refine lv_aload_n hx hb dX5_says_36 rfl (lv_at hl 0 rfl) ?_
    refine va_get (D := D) (ci := 5) (v := .int v_kind) (C := RX5) (T := TX5) (N := 6) hx hb hts in5 hown hK hP 0 rfl rfl 0 (by decide) l20 (fun _ h9 => h9) rfl dX5_says_37 ?_
    refine lv_iconst (v := (0 : Int32)) hx hb dX5_says_40 (by decide) ?_
    refine lv_iload_n hx hb dX5_says_41 rfl (lv_at hl 2 rfl) ?_
    refine lv_iload_n hx hb dX5_says_42 rfl (lv_at hl 3 rfl) ?_
    refine q_callW4 (cEok ad) (rest := []) (fun u => [(qv 0, .inr (5, oX5 qv v_kind v_number v_writer u.2.1 u.2.2.1)), (qv 6, .inl (cI, 30, .inl u.2.2.2))]) (fun u => u.1) ⟨hx, hb, hml, hown, hts⟩ (fun u hu => H1 v_kind v_number v_writer v_parted v_traced v_trace v_kind ((0 : Int32)) x2 x3 u hu) (cwV 4 hts gX5_says_X5_speaks rfl rfl rfl hdX5_speaks (rmq_ok (by omega) (Nat.le_of_ble_eq_true rfl))) hK hEv hA hP hD hS [0, 1] (by decide) rfl (fun _ => rfl) (va_recv hK hP (ci := 5) (q0 := 0) rfl rfl) rfl rfl hl.1 (Nat.le_of_ble_eq_true rfl) ⟨Nat.zero_le _, Nat.zero_le _⟩ h dX5_says_43 (fun t43 v_parted_43 v_traced_43 v_trace_43 H locs h hP hD hS => ?_)
    have hP : va_P D vwCl [(qv 0, .inr (5, oX5 qv v_kind v_number v_writer v_parted_43 v_traced_43)), (qv 6, .inl (cI, 30, .inl v_trace_43))] H := hP
    have hD : va_D A [(qv 0, .inr (5, oX5 qv v_kind v_number v_writer v_parted_43 v_traced_43)), (qv 6, .inl (cI, 30, .inl v_trace_43))] := hD
    refine lv_iconst (v := (2 : Int32)) hx hb dX5_says_46 (by decide) ?_
    refine lv_imul hx hb dX5_says_47 ?_
    exact hret (t43 * ((2 : Int32)), v_parted_43, v_traced_43, v_trace_43) _ _ _ _ (vp_nar_int _) h hP hD hS dX5_says_48
  have h := q_f h w1
  rcases Decidable.em (x1 = (12 : Int32)) with w2 | w2
  · have h := q_t h w2
    refine lv_tableIn hx hb dX5_says_1 (off := 48) (tgt := 49) (by rw [w2]; decide) (by rw [w2]; decide) (by rw [w2]; rfl) (by decide) ?_
    refine lv_aload_n hx hb dX5_says_49 rfl (lv_at hl 0 rfl) ?_
    refine lv_aload_n hx hb dX5_says_50 rfl (lv_at hl 0 rfl) ?_
    refine va_get (D := D) (ci := 5) (v := .int v_kind) (C := RX5) (T := TX5) (N := 6) hx hb hts in5 hown hK hP 0 rfl rfl 0 (by decide) l20 (fun _ h9 => h9) rfl dX5_says_51 ?_
    refine lv_iconst (v := (1 : Int32)) hx hb dX5_says_54 (by decide) ?_
    refine lv_iload_n hx hb dX5_says_55 rfl (lv_at hl 2 rfl) ?_
    refine lv_iload_n hx hb dX5_says_56 rfl (lv_at hl 3 rfl) ?_
    refine q_callW4 (cEok ad) (rest := []) (fun u => [(qv 0, .inr (5, oX5 qv v_kind v_number v_writer u.2.1 u.2.2.1)), (qv 6, .inl (cI, 30, .inl u.2.2.2))]) (fun u => u.1) ⟨hx, hb, hml, hown, hts⟩ (fun u hu => H1 v_kind v_number v_writer v_parted v_traced v_trace v_kind ((1 : Int32)) x2 x3 u hu) (cwV 4 hts gX5_says_X5_speaks rfl rfl rfl hdX5_speaks (rmq_ok (by omega) (Nat.le_of_ble_eq_true rfl))) hK hEv hA hP hD hS [0, 1] (by decide) rfl (fun _ => rfl) (va_recv hK hP (ci := 5) (q0 := 0) rfl rfl) rfl rfl hl.1 (Nat.le_of_ble_eq_true rfl) ⟨Nat.zero_le _, Nat.zero_le _⟩ h dX5_says_57 (fun t57 v_parted_57 v_traced_57 v_trace_57 H locs h hP hD hS => ?_)
    have hP : va_P D vwCl [(qv 0, .inr (5, oX5 qv v_kind v_number v_writer v_parted_57 v_traced_57)), (qv 6, .inl (cI, 30, .inl v_trace_57))] H := hP
    have hD : va_D A [(qv 0, .inr (5, oX5 qv v_kind v_number v_writer v_parted_57 v_traced_57)), (qv 6, .inl (cI, 30, .inl v_trace_57))] := hD
    refine lv_aload_n hx hb dX5_says_60 rfl (lv_at hl 0 rfl) ?_
    refine va_get (D := D) (ci := 5) (v := .int v_number) (C := RX5) (T := TX5) (N := 6) hx hb hts in5 hown hK hP 0 rfl rfl 1 (by decide) l24 (fun _ h9 => h9) rfl dX5_says_61 ?_
    refine lv_isub hx hb dX5_says_64 ?_
    exact hret (t57 - v_number, v_parted_57, v_traced_57, v_trace_57) _ _ _ _ (vp_nar_int _) h hP hD hS dX5_says_65
  have h := q_f h w2
  refine lv_tableOut hx hb dX5_says_1 (tgt := 66) (q_out (fun k hk e => ?_)) (by decide) ?_
  · rcases (show k = 0 ∨ k = 1 ∨ k = 2 by omega) with rfl | rfl | rfl
    · exact w0 (Int32.toInt_inj.mp (e.trans (by decide)))
    · exact w1 (Int32.toInt_inj.mp (e.trans (by decide)))
    · exact w2 (Int32.toInt_inj.mp (e.trans (by decide)))
  · refine lv_aload_n hx hb dX5_says_66 rfl (lv_at hl 0 rfl) ?_
    refine lv_iload_n hx hb dX5_says_67 rfl (lv_at hl 2 rfl) ?_
    refine q_callW2 (cEok ad) (rest := []) (fun u => [(qv 0, .inr (5, oX5 qv v_kind v_number v_writer u.2 v_traced))]) (fun u => u.1) ⟨hx, hb, hml, hown, hts⟩ (fun u hu => c5_parts l D cI ad qv v_kind v_number v_writer v_parted v_traced x2 u hu) (cwV 1 hts gX5_says_X5_parts rfl rfl rfl hdX5_parts (rmq_ok (by omega) (Nat.le_of_ble_eq_true rfl))) hK hEv hA hP hD hS [0] (by decide) rfl (fun _ => rfl) (va_recv hK hP (ci := 5) (q0 := 0) rfl rfl) rfl rfl hl.1 (Nat.le_of_ble_eq_true rfl) ⟨Nat.zero_le _, Nat.zero_le _⟩ h dX5_says_68 (fun t68 v_parted_68 H locs h hP hD hS => ?_)
    have hP : va_P D vwCl [(qv 0, .inr (5, oX5 qv v_kind v_number v_writer v_parted_68 v_traced)), (qv 6, .inl (cI, 30, .inl v_trace))] H := hP
    have hD : va_D A [(qv 0, .inr (5, oX5 qv v_kind v_number v_writer v_parted_68 v_traced)), (qv 6, .inl (cI, 30, .inl v_trace))] := hD
    exact hret (t68, v_parted_68, v_traced, v_trace) _ _ _ _ (vp_nar_int _) h hP hD hS dX5_says_71
set_option maxHeartbeats 4000000 in
set_option maxRecDepth 100000 in
theorem c5_saysAbove (l : Launch) (D : va_G) (cI : ClassId) (ad : Nat → Nat) (qv : Nat → Nat) (n : Nat) (FS : Int32 → Int32 → Int32 → Int32 → Int32 → Int32 → Int32 → Int32 → Int32 → (Nat → Int32) → Option (Int32 × Int32 × Int32 × (Nat → Int32))) (lv : Nat) (hlv : 8 ≤ lv) (H1 : ∀ (v_kind v_number v_writer v_parted v_traced : Int32) (v_trace : Nat → Int32) (x1 : Int32) (x2 : Int32) (x3 : Int32) (x4 : Int32) (u : Int32 × Int32 × Int32 × (Nat → Int32)), FS x1 x2 x3 x4 v_kind v_number v_writer v_parted v_traced v_trace = some u → q_RW (cE ad) l yX5_speaks wsX5_speaks (rmq (lv)) D cI [.ref (qv 0), .int x1, .int x2, .int x3, .int x4] [(qv 0, .inr (5, oX5 qv v_kind v_number v_writer v_parted v_traced)), (qv 6, .inl (cI, 30, .inl v_trace))] [(qv 0, .inr (5, oX5 qv v_kind v_number v_writer u.2.1 u.2.2.1)), (qv 6, .inl (cI, 30, .inl u.2.2.2))] u.1) (v_kind v_number v_writer v_parted v_traced : Int32) (v_trace : Nat → Int32) (x1 : Int32) (x2 : Int32) (x3 : Int32) (x4 : Int32) (u : Int32 × Int32 × Int32 × (Nat → Int32)) (h : g5_saysAbove n FS x1 x2 x3 x4 v_kind v_number v_writer v_parted v_traced v_trace = some u) : q_RW (cE ad) l yX5_saysAbove wsX5_saysAbove (rmq (lv + 1)) D cI [.ref (qv 0), .int x1, .int x2, .int x3, .int x4] [(qv 0, .inr (5, oX5 qv v_kind v_number v_writer v_parted v_traced)), (qv 6, .inl (cI, 30, .inl v_trace))] [(qv 0, .inr (5, oX5 qv v_kind v_number v_writer u.2.1 u.2.2.1)), (qv 6, .inl (cI, 30, .inl u.2.2.2))] u.1 := by
  refine q_startW (fun u : Int32 × Int32 × Int32 × (Nat → Int32) => [(qv 0, .inr (5, oX5 qv v_kind v_number v_writer u.2.1 u.2.2.1)), (qv 6, .inl (cI, 30, .inl u.2.2.2))]) (fun u => u.1) (cc := cX5_saysAbove) (maxL := 5) (ty := .int) (own := RX5) (by decide) rfl rfl (Nat.le_of_ble_eq_true rfl) rfl (fun p e s m args below meth c Q A hx hb hml hown hts hK hEv hA hret hP hD hS ls hl => ?_)
  have in5 : ∀ w ∈ wsX50, w ∈ wsX5_saysAbove := fun w h => List.mem_cons_of_mem _ (List.mem_append_right _ (h))
  have l20 := hts (.fieldLink RX5 20 "PageWars$Voices" "kind" "I") (List.mem_of_getElem? (i := 2) rfl)
  have l24 := hts (.fieldLink RX5 24 "PageWars$Voices" "number" "I") (List.mem_of_getElem? (i := 3) rfl)
  have l30 := hts (.fieldLink RX5 30 "PageWars$Voices" "writer" "I") (List.mem_of_getElem? (i := 1) rfl)
  unfold g5_saysAbove at h
  refine lv_iload_n hx hb dX5_saysAbove_0 rfl (lv_at hl 1 rfl) ?_
  rcases Decidable.em (x1 = (20 : Int32)) with w0 | w0
  · have h := q_t h w0
    refine lv_lookup hx hb dX5_saysAbove_1 (off := 99) (tgt := 100) (by decide +kernel) (by rw [w0]; decide +kernel) (by decide) ?_
    refine lv_aload_n hx hb dX5_saysAbove_100 rfl (lv_at hl 0 rfl) ?_
    refine lv_iload_n hx hb dX5_saysAbove_101 rfl (lv_at hl 2 rfl) ?_
    refine lv_iconst (v := (0 : Int32)) hx hb dX5_saysAbove_102 (by decide) ?_
    refine lv_iload_n hx hb dX5_saysAbove_103 rfl (lv_at hl 3 rfl) ?_
    refine lv_iload hx hb dX5_saysAbove_104 (lv_at hl 4 rfl) ?_
    refine q_callW4 (cEok ad) (rest := []) (fun u => [(qv 0, .inr (5, oX5 qv v_kind v_number v_writer u.2.1 u.2.2.1)), (qv 6, .inl (cI, 30, .inl u.2.2.2))]) (fun u => u.1) ⟨hx, hb, hml, hown, hts⟩ (fun u hu => H1 v_kind v_number v_writer v_parted v_traced v_trace x2 ((0 : Int32)) x3 x4 u hu) (cwV 4 hts gX5_saysAbove_X5_speaks rfl rfl rfl hdX5_speaks (rmq_ok (by omega) (Nat.le_of_ble_eq_true rfl))) hK hEv hA hP hD hS [0, 1] (by decide) rfl (fun _ => rfl) (va_recv hK hP (ci := 5) (q0 := 0) rfl rfl) rfl rfl hl.1 (Nat.le_of_ble_eq_true rfl) ⟨Nat.zero_le _, Nat.zero_le _⟩ h dX5_saysAbove_106 (fun t106 v_parted_106 v_traced_106 v_trace_106 H locs h hP hD hS => ?_)
    have hP : va_P D vwCl [(qv 0, .inr (5, oX5 qv v_kind v_number v_writer v_parted_106 v_traced_106)), (qv 6, .inl (cI, 30, .inl v_trace_106))] H := hP
    have hD : va_D A [(qv 0, .inr (5, oX5 qv v_kind v_number v_writer v_parted_106 v_traced_106)), (qv 6, .inl (cI, 30, .inl v_trace_106))] := hD
    refine lv_iconst (v := (3 : Int32)) hx hb dX5_saysAbove_109 (by decide) ?_
    refine lv_iadd hx hb dX5_saysAbove_110 ?_
    exact hret (t106 + ((3 : Int32)), v_parted_106, v_traced_106, v_trace_106) _ _ _ _ (vp_nar_int _) h hP hD hS dX5_saysAbove_111
  have h := q_f h w0
  rcases Decidable.em (x1 = (21 : Int32)) with w1 | w1
  · have h := q_t h w1
    refine lv_lookup hx hb dX5_saysAbove_1 (off := 111) (tgt := 112) (by decide +kernel) (by rw [w1]; decide +kernel) (by decide) ?_
    refine lv_aload_n hx hb dX5_saysAbove_112 rfl (lv_at hl 0 rfl) ?_
    refine lv_iload_n hx hb dX5_saysAbove_113 rfl (lv_at hl 2 rfl) ?_
    refine lv_iconst (v := (2 : Int32)) hx hb dX5_saysAbove_114 (by decide) ?_
    refine lv_iload_n hx hb dX5_saysAbove_115 rfl (lv_at hl 3 rfl) ?_
    refine lv_iload hx hb dX5_saysAbove_116 (lv_at hl 4 rfl) ?_
    refine q_callW4 (cEok ad) (rest := []) (fun u => [(qv 0, .inr (5, oX5 qv v_kind v_number v_writer u.2.1 u.2.2.1)), (qv 6, .inl (cI, 30, .inl u.2.2.2))]) (fun u => u.1) ⟨hx, hb, hml, hown, hts⟩ (fun u hu => H1 v_kind v_number v_writer v_parted v_traced v_trace x2 ((2 : Int32)) x3 x4 u hu) (cwV 4 hts gX5_saysAbove_X5_speaks rfl rfl rfl hdX5_speaks (rmq_ok (by omega) (Nat.le_of_ble_eq_true rfl))) hK hEv hA hP hD hS [0, 1] (by decide) rfl (fun _ => rfl) (va_recv hK hP (ci := 5) (q0 := 0) rfl rfl) rfl rfl hl.1 (Nat.le_of_ble_eq_true rfl) ⟨Nat.zero_le _, Nat.zero_le _⟩ h dX5_saysAbove_118 (fun t118 v_parted_118 v_traced_118 v_trace_118 H locs h hP hD hS => ?_)
    have hP : va_P D vwCl [(qv 0, .inr (5, oX5 qv v_kind v_number v_writer v_parted_118 v_traced_118)), (qv 6, .inl (cI, 30, .inl v_trace_118))] H := hP
    have hD : va_D A [(qv 0, .inr (5, oX5 qv v_kind v_number v_writer v_parted_118 v_traced_118)), (qv 6, .inl (cI, 30, .inl v_trace_118))] := hD
    refine lv_aload_n hx hb dX5_saysAbove_121 rfl (lv_at hl 0 rfl) ?_
    refine va_get (D := D) (ci := 5) (v := .int v_writer) (C := RX5) (T := TX5) (N := 6) hx hb hts in5 hown hK hP 0 rfl rfl 2 (by decide) l30 (fun _ h9 => h9) rfl dX5_saysAbove_122 ?_
    refine lv_ixor hx hb dX5_saysAbove_125 ?_
    exact hret (t118 ^^^ v_writer, v_parted_118, v_traced_118, v_trace_118) _ _ _ _ (vp_nar_int _) h hP hD hS dX5_saysAbove_126
  have h := q_f h w1
  rcases Decidable.em (x1 = (30 : Int32)) with w2 | w2
  · have h := q_t h w2
    refine lv_lookup hx hb dX5_saysAbove_1 (off := 126) (tgt := 127) (by decide +kernel) (by rw [w2]; decide +kernel) (by decide) ?_
    refine lv_iconst (v := (0 : Int32)) hx hb dX5_saysAbove_127 (by decide) ?_
    refine lv_aload_n hx hb dX5_saysAbove_128 rfl (lv_at hl 0 rfl) ?_
    refine lv_iload_n hx hb dX5_saysAbove_129 rfl (lv_at hl 2 rfl) ?_
    refine lv_iconst (v := (1 : Int32)) hx hb dX5_saysAbove_130 (by decide) ?_
    refine lv_iload_n hx hb dX5_saysAbove_131 rfl (lv_at hl 3 rfl) ?_
    refine lv_iload hx hb dX5_saysAbove_132 (lv_at hl 4 rfl) ?_
    refine q_callW4 (cEok ad) (rest := [.int ((0 : Int32))]) (fun u => [(qv 0, .inr (5, oX5 qv v_kind v_number v_writer u.2.1 u.2.2.1)), (qv 6, .inl (cI, 30, .inl u.2.2.2))]) (fun u => u.1) ⟨hx, hb, hml, hown, hts⟩ (fun u hu => H1 v_kind v_number v_writer v_parted v_traced v_trace x2 ((1 : Int32)) x3 x4 u hu) (cwV 4 hts gX5_saysAbove_X5_speaks rfl rfl rfl hdX5_speaks (rmq_ok (by omega) (Nat.le_of_ble_eq_true rfl))) hK hEv hA hP hD hS [0, 1] (by decide) rfl (fun _ => rfl) (va_recv hK hP (ci := 5) (q0 := 0) rfl rfl) rfl rfl hl.1 (Nat.le_of_ble_eq_true rfl) ⟨Nat.zero_le _, Nat.zero_le _⟩ h dX5_saysAbove_134 (fun t134 v_parted_134 v_traced_134 v_trace_134 H locs h hP hD hS => ?_)
    have hP : va_P D vwCl [(qv 0, .inr (5, oX5 qv v_kind v_number v_writer v_parted_134 v_traced_134)), (qv 6, .inl (cI, 30, .inl v_trace_134))] H := hP
    have hD : va_D A [(qv 0, .inr (5, oX5 qv v_kind v_number v_writer v_parted_134 v_traced_134)), (qv 6, .inl (cI, 30, .inl v_trace_134))] := hD
    refine lv_isub hx hb dX5_saysAbove_137 ?_
    exact hret (((0 : Int32)) - t134, v_parted_134, v_traced_134, v_trace_134) _ _ _ _ (vp_nar_int _) h hP hD hS dX5_saysAbove_138
  have h := q_f h w2
  rcases Decidable.em (x1 = (31 : Int32)) with w3 | w3
  · have h := q_t h w3
    refine lv_lookup hx hb dX5_saysAbove_1 (off := 138) (tgt := 139) (by decide +kernel) (by rw [w3]; decide +kernel) (by decide) ?_
    refine lv_aload_n hx hb dX5_saysAbove_139 rfl (lv_at hl 0 rfl) ?_
    refine lv_iload_n hx hb dX5_saysAbove_140 rfl (lv_at hl 2 rfl) ?_
    refine lv_iconst (v := (3 : Int32)) hx hb dX5_saysAbove_141 (by decide) ?_
    refine lv_iload_n hx hb dX5_saysAbove_142 rfl (lv_at hl 3 rfl) ?_
    refine lv_iload hx hb dX5_saysAbove_143 (lv_at hl 4 rfl) ?_
    refine q_callW4 (cEok ad) (rest := []) (fun u => [(qv 0, .inr (5, oX5 qv v_kind v_number v_writer u.2.1 u.2.2.1)), (qv 6, .inl (cI, 30, .inl u.2.2.2))]) (fun u => u.1) ⟨hx, hb, hml, hown, hts⟩ (fun u hu => H1 v_kind v_number v_writer v_parted v_traced v_trace x2 ((3 : Int32)) x3 x4 u hu) (cwV 4 hts gX5_saysAbove_X5_speaks rfl rfl rfl hdX5_speaks (rmq_ok (by omega) (Nat.le_of_ble_eq_true rfl))) hK hEv hA hP hD hS [0, 1] (by decide) rfl (fun _ => rfl) (va_recv hK hP (ci := 5) (q0 := 0) rfl rfl) rfl rfl hl.1 (Nat.le_of_ble_eq_true rfl) ⟨Nat.zero_le _, Nat.zero_le _⟩ h dX5_saysAbove_145 (fun t145 v_parted_145 v_traced_145 v_trace_145 H locs h hP hD hS => ?_)
    have hP : va_P D vwCl [(qv 0, .inr (5, oX5 qv v_kind v_number v_writer v_parted_145 v_traced_145)), (qv 6, .inl (cI, 30, .inl v_trace_145))] H := hP
    have hD : va_D A [(qv 0, .inr (5, oX5 qv v_kind v_number v_writer v_parted_145 v_traced_145)), (qv 6, .inl (cI, 30, .inl v_trace_145))] := hD
    refine lv_aload_n hx hb dX5_saysAbove_148 rfl (lv_at hl 0 rfl) ?_
    refine lv_aload_n hx hb dX5_saysAbove_149 rfl (lv_at hl 0 rfl) ?_
    refine va_get (D := D) (ci := 5) (v := .int v_kind) (C := RX5) (T := TX5) (N := 6) hx hb hts in5 hown hK hP 0 rfl rfl 0 (by decide) l20 (fun _ h9 => h9) rfl dX5_saysAbove_150 ?_
    refine lv_iconst (v := (0 : Int32)) hx hb dX5_saysAbove_153 (by decide) ?_
    refine lv_iconst (v := (1 : Int32)) hx hb dX5_saysAbove_154 (by decide) ?_
    refine lv_iload hx hb dX5_saysAbove_155 (lv_at hl 4 rfl) ?_
    refine q_callW4 (cEok ad) (rest := [.int t145]) (fun u => [(qv 0, .inr (5, oX5 qv v_kind v_number v_writer u.2.1 u.2.2.1)), (qv 6, .inl (cI, 30, .inl u.2.2.2))]) (fun u => u.1) ⟨hx, hb, hml, hown, hts⟩ (fun u hu => H1 v_kind v_number v_writer v_parted_145 v_traced_145 v_trace_145 v_kind ((0 : Int32)) ((1 : Int32)) x4 u hu) (cwV 4 hts gX5_saysAbove_X5_speaks rfl rfl rfl hdX5_speaks (rmq_ok (by omega) (Nat.le_of_ble_eq_true rfl))) hK hEv hA hP hD hS [0, 1] (by decide) rfl (fun _ => rfl) (va_recv hK hP (ci := 5) (q0 := 0) rfl rfl) rfl rfl hl.1 (Nat.le_of_ble_eq_true rfl) ⟨Nat.zero_le _, Nat.zero_le _⟩ h dX5_saysAbove_157 (fun t157 v_parted_157 v_traced_157 v_trace_157 H locs h hP hD hS => ?_)
    have hP : va_P D vwCl [(qv 0, .inr (5, oX5 qv v_kind v_number v_writer v_parted_157 v_traced_157)), (qv 6, .inl (cI, 30, .inl v_trace_157))] H := hP
    have hD : va_D A [(qv 0, .inr (5, oX5 qv v_kind v_number v_writer v_parted_157 v_traced_157)), (qv 6, .inl (cI, 30, .inl v_trace_157))] := hD
    refine lv_iadd hx hb dX5_saysAbove_160 ?_
    exact hret (t145 + t157, v_parted_157, v_traced_157, v_trace_157) _ _ _ _ (vp_nar_int _) h hP hD hS dX5_saysAbove_161
  have h := q_f h w3
  rcases Decidable.em (x1 = (40 : Int32)) with w4 | w4
  · have h := q_t h w4
    refine lv_lookup hx hb dX5_saysAbove_1 (off := 161) (tgt := 162) (by decide +kernel) (by rw [w4]; decide +kernel) (by decide) ?_
    refine lv_aload_n hx hb dX5_saysAbove_162 rfl (lv_at hl 0 rfl) ?_
    refine lv_iload_n hx hb dX5_saysAbove_163 rfl (lv_at hl 2 rfl) ?_
    refine lv_iconst (v := (1 : Int32)) hx hb dX5_saysAbove_164 (by decide) ?_
    refine lv_iload_n hx hb dX5_saysAbove_165 rfl (lv_at hl 3 rfl) ?_
    refine lv_iconst (v := (2 : Int32)) hx hb dX5_saysAbove_166 (by decide) ?_
    refine q_idiv hx hb h dX5_saysAbove_167 (fun h => ?_)
    refine lv_iload hx hb dX5_saysAbove_168 (lv_at hl 4 rfl) ?_
    refine q_callW4 (cEok ad) (rest := []) (fun u => [(qv 0, .inr (5, oX5 qv v_kind v_number v_writer u.2.1 u.2.2.1)), (qv 6, .inl (cI, 30, .inl u.2.2.2))]) (fun u => u.1) ⟨hx, hb, hml, hown, hts⟩ (fun u hu => H1 v_kind v_number v_writer v_parted v_traced v_trace x2 ((1 : Int32)) (x3 / ((2 : Int32))) x4 u hu) (cwV 4 hts gX5_saysAbove_X5_speaks rfl rfl rfl hdX5_speaks (rmq_ok (by omega) (Nat.le_of_ble_eq_true rfl))) hK hEv hA hP hD hS [0, 1] (by decide) rfl (fun _ => rfl) (va_recv hK hP (ci := 5) (q0 := 0) rfl rfl) rfl rfl hl.1 (Nat.le_of_ble_eq_true rfl) ⟨Nat.zero_le _, Nat.zero_le _⟩ h dX5_saysAbove_170 (fun t170 v_parted_170 v_traced_170 v_trace_170 H locs h hP hD hS => ?_)
    have hP : va_P D vwCl [(qv 0, .inr (5, oX5 qv v_kind v_number v_writer v_parted_170 v_traced_170)), (qv 6, .inl (cI, 30, .inl v_trace_170))] H := hP
    have hD : va_D A [(qv 0, .inr (5, oX5 qv v_kind v_number v_writer v_parted_170 v_traced_170)), (qv 6, .inl (cI, 30, .inl v_trace_170))] := hD
    exact hret (t170, v_parted_170, v_traced_170, v_trace_170) _ _ _ _ (vp_nar_int _) h hP hD hS dX5_saysAbove_173
  have h := q_f h w4
  rcases Decidable.em (x1 = (41 : Int32)) with w5 | w5
  · have h := q_t h w5
    refine lv_lookup hx hb dX5_saysAbove_1 (off := 173) (tgt := 174) (by decide +kernel) (by rw [w5]; decide +kernel) (by decide) ?_
    refine lv_aload_n hx hb dX5_saysAbove_174 rfl (lv_at hl 0 rfl) ?_
    refine lv_iload_n hx hb dX5_saysAbove_175 rfl (lv_at hl 2 rfl) ?_
    refine lv_iconst (v := (2 : Int32)) hx hb dX5_saysAbove_176 (by decide) ?_
    refine lv_iload_n hx hb dX5_saysAbove_177 rfl (lv_at hl 3 rfl) ?_
    refine lv_iload hx hb dX5_saysAbove_178 (lv_at hl 4 rfl) ?_
    refine q_callW4 (cEok ad) (rest := []) (fun u => [(qv 0, .inr (5, oX5 qv v_kind v_number v_writer u.2.1 u.2.2.1)), (qv 6, .inl (cI, 30, .inl u.2.2.2))]) (fun u => u.1) ⟨hx, hb, hml, hown, hts⟩ (fun u hu => H1 v_kind v_number v_writer v_parted v_traced v_trace x2 ((2 : Int32)) x3 x4 u hu) (cwV 4 hts gX5_saysAbove_X5_speaks rfl rfl rfl hdX5_speaks (rmq_ok (by omega) (Nat.le_of_ble_eq_true rfl))) hK hEv hA hP hD hS [0, 1] (by decide) rfl (fun _ => rfl) (va_recv hK hP (ci := 5) (q0 := 0) rfl rfl) rfl rfl hl.1 (Nat.le_of_ble_eq_true rfl) ⟨Nat.zero_le _, Nat.zero_le _⟩ h dX5_saysAbove_180 (fun t180 v_parted_180 v_traced_180 v_trace_180 H locs h hP hD hS => ?_)
    have hP : va_P D vwCl [(qv 0, .inr (5, oX5 qv v_kind v_number v_writer v_parted_180 v_traced_180)), (qv 6, .inl (cI, 30, .inl v_trace_180))] H := hP
    have hD : va_D A [(qv 0, .inr (5, oX5 qv v_kind v_number v_writer v_parted_180 v_traced_180)), (qv 6, .inl (cI, 30, .inl v_trace_180))] := hD
    refine lv_aload_n hx hb dX5_saysAbove_183 rfl (lv_at hl 0 rfl) ?_
    refine lv_aload_n hx hb dX5_saysAbove_184 rfl (lv_at hl 0 rfl) ?_
    refine va_get (D := D) (ci := 5) (v := .int v_kind) (C := RX5) (T := TX5) (N := 6) hx hb hts in5 hown hK hP 0 rfl rfl 0 (by decide) l20 (fun _ h9 => h9) rfl dX5_saysAbove_185 ?_
    refine lv_iconst (v := (1 : Int32)) hx hb dX5_saysAbove_188 (by decide) ?_
    refine lv_iconst (v := (2 : Int32)) hx hb dX5_saysAbove_189 (by decide) ?_
    refine lv_iload hx hb dX5_saysAbove_190 (lv_at hl 4 rfl) ?_
    refine q_callW4 (cEok ad) (rest := [.int t180]) (fun u => [(qv 0, .inr (5, oX5 qv v_kind v_number v_writer u.2.1 u.2.2.1)), (qv 6, .inl (cI, 30, .inl u.2.2.2))]) (fun u => u.1) ⟨hx, hb, hml, hown, hts⟩ (fun u hu => H1 v_kind v_number v_writer v_parted_180 v_traced_180 v_trace_180 v_kind ((1 : Int32)) ((2 : Int32)) x4 u hu) (cwV 4 hts gX5_saysAbove_X5_speaks rfl rfl rfl hdX5_speaks (rmq_ok (by omega) (Nat.le_of_ble_eq_true rfl))) hK hEv hA hP hD hS [0, 1] (by decide) rfl (fun _ => rfl) (va_recv hK hP (ci := 5) (q0 := 0) rfl rfl) rfl rfl hl.1 (Nat.le_of_ble_eq_true rfl) ⟨Nat.zero_le _, Nat.zero_le _⟩ h dX5_saysAbove_192 (fun t192 v_parted_192 v_traced_192 v_trace_192 H locs h hP hD hS => ?_)
    have hP : va_P D vwCl [(qv 0, .inr (5, oX5 qv v_kind v_number v_writer v_parted_192 v_traced_192)), (qv 6, .inl (cI, 30, .inl v_trace_192))] H := hP
    have hD : va_D A [(qv 0, .inr (5, oX5 qv v_kind v_number v_writer v_parted_192 v_traced_192)), (qv 6, .inl (cI, 30, .inl v_trace_192))] := hD
    refine lv_isub hx hb dX5_saysAbove_195 ?_
    exact hret (t180 - t192, v_parted_192, v_traced_192, v_trace_192) _ _ _ _ (vp_nar_int _) h hP hD hS dX5_saysAbove_196
  have h := q_f h w5
  rcases Decidable.em (x1 = (50 : Int32)) with w6 | w6
  · have h := q_t h w6
    refine lv_lookup hx hb dX5_saysAbove_1 (off := 196) (tgt := 197) (by decide +kernel) (by rw [w6]; decide +kernel) (by decide) ?_
    refine lv_aload_n hx hb dX5_saysAbove_197 rfl (lv_at hl 0 rfl) ?_
    refine lv_iload_n hx hb dX5_saysAbove_198 rfl (lv_at hl 2 rfl) ?_
    refine lv_iconst (v := (0 : Int32)) hx hb dX5_saysAbove_199 (by decide) ?_
    refine lv_iload_n hx hb dX5_saysAbove_200 rfl (lv_at hl 3 rfl) ?_
    refine lv_iload hx hb dX5_saysAbove_201 (lv_at hl 4 rfl) ?_
    refine q_callW4 (cEok ad) (rest := []) (fun u => [(qv 0, .inr (5, oX5 qv v_kind v_number v_writer u.2.1 u.2.2.1)), (qv 6, .inl (cI, 30, .inl u.2.2.2))]) (fun u => u.1) ⟨hx, hb, hml, hown, hts⟩ (fun u hu => H1 v_kind v_number v_writer v_parted v_traced v_trace x2 ((0 : Int32)) x3 x4 u hu) (cwV 4 hts gX5_saysAbove_X5_speaks rfl rfl rfl hdX5_speaks (rmq_ok (by omega) (Nat.le_of_ble_eq_true rfl))) hK hEv hA hP hD hS [0, 1] (by decide) rfl (fun _ => rfl) (va_recv hK hP (ci := 5) (q0 := 0) rfl rfl) rfl rfl hl.1 (Nat.le_of_ble_eq_true rfl) ⟨Nat.zero_le _, Nat.zero_le _⟩ h dX5_saysAbove_203 (fun t203 v_parted_203 v_traced_203 v_trace_203 H locs h hP hD hS => ?_)
    have hP : va_P D vwCl [(qv 0, .inr (5, oX5 qv v_kind v_number v_writer v_parted_203 v_traced_203)), (qv 6, .inl (cI, 30, .inl v_trace_203))] H := hP
    have hD : va_D A [(qv 0, .inr (5, oX5 qv v_kind v_number v_writer v_parted_203 v_traced_203)), (qv 6, .inl (cI, 30, .inl v_trace_203))] := hD
    refine lv_iconst (v := (3 : Int32)) hx hb dX5_saysAbove_206 (by decide) ?_
    refine lv_imul hx hb dX5_saysAbove_207 ?_
    exact hret (t203 * ((3 : Int32)), v_parted_203, v_traced_203, v_trace_203) _ _ _ _ (vp_nar_int _) h hP hD hS dX5_saysAbove_208
  have h := q_f h w6
  rcases Decidable.em (x1 = (60 : Int32)) with w7 | w7
  · have h := q_t h w7
    refine lv_lookup hx hb dX5_saysAbove_1 (off := 208) (tgt := 209) (by decide +kernel) (by rw [w7]; decide +kernel) (by decide) ?_
    refine lv_aload_n hx hb dX5_saysAbove_209 rfl (lv_at hl 0 rfl) ?_
    refine lv_iload_n hx hb dX5_saysAbove_210 rfl (lv_at hl 2 rfl) ?_
    refine lv_iconst (v := (2 : Int32)) hx hb dX5_saysAbove_211 (by decide) ?_
    refine lv_iload_n hx hb dX5_saysAbove_212 rfl (lv_at hl 3 rfl) ?_
    refine lv_iconst (v := (1 : Int32)) hx hb dX5_saysAbove_213 (by decide) ?_
    refine lv_iadd hx hb dX5_saysAbove_214 ?_
    refine lv_iload hx hb dX5_saysAbove_215 (lv_at hl 4 rfl) ?_
    refine q_callW4 (cEok ad) (rest := []) (fun u => [(qv 0, .inr (5, oX5 qv v_kind v_number v_writer u.2.1 u.2.2.1)), (qv 6, .inl (cI, 30, .inl u.2.2.2))]) (fun u => u.1) ⟨hx, hb, hml, hown, hts⟩ (fun u hu => H1 v_kind v_number v_writer v_parted v_traced v_trace x2 ((2 : Int32)) (x3 + ((1 : Int32))) x4 u hu) (cwV 4 hts gX5_saysAbove_X5_speaks rfl rfl rfl hdX5_speaks (rmq_ok (by omega) (Nat.le_of_ble_eq_true rfl))) hK hEv hA hP hD hS [0, 1] (by decide) rfl (fun _ => rfl) (va_recv hK hP (ci := 5) (q0 := 0) rfl rfl) rfl rfl hl.1 (Nat.le_of_ble_eq_true rfl) ⟨Nat.zero_le _, Nat.zero_le _⟩ h dX5_saysAbove_217 (fun t217 v_parted_217 v_traced_217 v_trace_217 H locs h hP hD hS => ?_)
    have hP : va_P D vwCl [(qv 0, .inr (5, oX5 qv v_kind v_number v_writer v_parted_217 v_traced_217)), (qv 6, .inl (cI, 30, .inl v_trace_217))] H := hP
    have hD : va_D A [(qv 0, .inr (5, oX5 qv v_kind v_number v_writer v_parted_217 v_traced_217)), (qv 6, .inl (cI, 30, .inl v_trace_217))] := hD
    exact hret (t217, v_parted_217, v_traced_217, v_trace_217) _ _ _ _ (vp_nar_int _) h hP hD hS dX5_saysAbove_220
  have h := q_f h w7
  rcases Decidable.em (x1 = (61 : Int32)) with w8 | w8
  · have h := q_t h w8
    refine lv_lookup hx hb dX5_saysAbove_1 (off := 220) (tgt := 221) (by decide +kernel) (by rw [w8]; decide +kernel) (by decide) ?_
    refine lv_aload_n hx hb dX5_saysAbove_221 rfl (lv_at hl 0 rfl) ?_
    refine lv_aload_n hx hb dX5_saysAbove_222 rfl (lv_at hl 0 rfl) ?_
    refine va_get (D := D) (ci := 5) (v := .int v_kind) (C := RX5) (T := TX5) (N := 6) hx hb hts in5 hown hK hP 0 rfl rfl 0 (by decide) l20 (fun _ h9 => h9) rfl dX5_saysAbove_223 ?_
    refine lv_iconst (v := (2 : Int32)) hx hb dX5_saysAbove_226 (by decide) ?_
    refine lv_iload_n hx hb dX5_saysAbove_227 rfl (lv_at hl 3 rfl) ?_
    refine lv_iload hx hb dX5_saysAbove_228 (lv_at hl 4 rfl) ?_
    refine q_callW4 (cEok ad) (rest := []) (fun u => [(qv 0, .inr (5, oX5 qv v_kind v_number v_writer u.2.1 u.2.2.1)), (qv 6, .inl (cI, 30, .inl u.2.2.2))]) (fun u => u.1) ⟨hx, hb, hml, hown, hts⟩ (fun u hu => H1 v_kind v_number v_writer v_parted v_traced v_trace v_kind ((2 : Int32)) x3 x4 u hu) (cwV 4 hts gX5_saysAbove_X5_speaks rfl rfl rfl hdX5_speaks (rmq_ok (by omega) (Nat.le_of_ble_eq_true rfl))) hK hEv hA hP hD hS [0, 1] (by decide) rfl (fun _ => rfl) (va_recv hK hP (ci := 5) (q0 := 0) rfl rfl) rfl rfl hl.1 (Nat.le_of_ble_eq_true rfl) ⟨Nat.zero_le _, Nat.zero_le _⟩ h dX5_saysAbove_230 (fun t230 v_parted_230 v_traced_230 v_trace_230 H locs h hP hD hS => ?_)
    have hP : va_P D vwCl [(qv 0, .inr (5, oX5 qv v_kind v_number v_writer v_parted_230 v_traced_230)), (qv 6, .inl (cI, 30, .inl v_trace_230))] H := hP
    have hD : va_D A [(qv 0, .inr (5, oX5 qv v_kind v_number v_writer v_parted_230 v_traced_230)), (qv 6, .inl (cI, 30, .inl v_trace_230))] := hD
    refine lv_aload_n hx hb dX5_saysAbove_233 rfl (lv_at hl 0 rfl) ?_
    refine lv_iload_n hx hb dX5_saysAbove_234 rfl (lv_at hl 2 rfl) ?_
    refine lv_iconst (v := (3 : Int32)) hx hb dX5_saysAbove_235 (by decide) ?_
    refine lv_iload_n hx hb dX5_saysAbove_236 rfl (lv_at hl 3 rfl) ?_
    refine lv_iload hx hb dX5_saysAbove_237 (lv_at hl 4 rfl) ?_
    refine q_callW4 (cEok ad) (rest := [.int t230]) (fun u => [(qv 0, .inr (5, oX5 qv v_kind v_number v_writer u.2.1 u.2.2.1)), (qv 6, .inl (cI, 30, .inl u.2.2.2))]) (fun u => u.1) ⟨hx, hb, hml, hown, hts⟩ (fun u hu => H1 v_kind v_number v_writer v_parted_230 v_traced_230 v_trace_230 x2 ((3 : Int32)) x3 x4 u hu) (cwV 4 hts gX5_saysAbove_X5_speaks rfl rfl rfl hdX5_speaks (rmq_ok (by omega) (Nat.le_of_ble_eq_true rfl))) hK hEv hA hP hD hS [0, 1] (by decide) rfl (fun _ => rfl) (va_recv hK hP (ci := 5) (q0 := 0) rfl rfl) rfl rfl hl.1 (Nat.le_of_ble_eq_true rfl) ⟨Nat.zero_le _, Nat.zero_le _⟩ h dX5_saysAbove_239 (fun t239 v_parted_239 v_traced_239 v_trace_239 H locs h hP hD hS => ?_)
    have hP : va_P D vwCl [(qv 0, .inr (5, oX5 qv v_kind v_number v_writer v_parted_239 v_traced_239)), (qv 6, .inl (cI, 30, .inl v_trace_239))] H := hP
    have hD : va_D A [(qv 0, .inr (5, oX5 qv v_kind v_number v_writer v_parted_239 v_traced_239)), (qv 6, .inl (cI, 30, .inl v_trace_239))] := hD
    refine lv_isub hx hb dX5_saysAbove_242 ?_
    exact hret (t230 - t239, v_parted_239, v_traced_239, v_trace_239) _ _ _ _ (vp_nar_int _) h hP hD hS dX5_saysAbove_243
  have h := q_f h w8
  rcases Decidable.em (x1 = (80 : Int32)) with w9 | w9
  · have h := q_t h w9
    refine lv_lookup hx hb dX5_saysAbove_1 (off := 243) (tgt := 244) (by decide +kernel) (by rw [w9]; decide +kernel) (by decide) ?_
    refine lv_aload_n hx hb dX5_saysAbove_244 rfl (lv_at hl 0 rfl) ?_
    refine lv_iload_n hx hb dX5_saysAbove_245 rfl (lv_at hl 2 rfl) ?_
    refine lv_iconst (v := (1 : Int32)) hx hb dX5_saysAbove_246 (by decide) ?_
    refine lv_iload_n hx hb dX5_saysAbove_247 rfl (lv_at hl 3 rfl) ?_
    refine lv_iload hx hb dX5_saysAbove_248 (lv_at hl 4 rfl) ?_
    refine q_callW4 (cEok ad) (rest := []) (fun u => [(qv 0, .inr (5, oX5 qv v_kind v_number v_writer u.2.1 u.2.2.1)), (qv 6, .inl (cI, 30, .inl u.2.2.2))]) (fun u => u.1) ⟨hx, hb, hml, hown, hts⟩ (fun u hu => H1 v_kind v_number v_writer v_parted v_traced v_trace x2 ((1 : Int32)) x3 x4 u hu) (cwV 4 hts gX5_saysAbove_X5_speaks rfl rfl rfl hdX5_speaks (rmq_ok (by omega) (Nat.le_of_ble_eq_true rfl))) hK hEv hA hP hD hS [0, 1] (by decide) rfl (fun _ => rfl) (va_recv hK hP (ci := 5) (q0 := 0) rfl rfl) rfl rfl hl.1 (Nat.le_of_ble_eq_true rfl) ⟨Nat.zero_le _, Nat.zero_le _⟩ h dX5_saysAbove_250 (fun t250 v_parted_250 v_traced_250 v_trace_250 H locs h hP hD hS => ?_)
    have hP : va_P D vwCl [(qv 0, .inr (5, oX5 qv v_kind v_number v_writer v_parted_250 v_traced_250)), (qv 6, .inl (cI, 30, .inl v_trace_250))] H := hP
    have hD : va_D A [(qv 0, .inr (5, oX5 qv v_kind v_number v_writer v_parted_250 v_traced_250)), (qv 6, .inl (cI, 30, .inl v_trace_250))] := hD
    refine lv_aload_n hx hb dX5_saysAbove_253 rfl (lv_at hl 0 rfl) ?_
    refine va_get (D := D) (ci := 5) (v := .int v_number) (C := RX5) (T := TX5) (N := 6) hx hb hts in5 hown hK hP 0 rfl rfl 1 (by decide) l24 (fun _ h9 => h9) rfl dX5_saysAbove_254 ?_
    refine lv_iadd hx hb dX5_saysAbove_257 ?_
    exact hret (t250 + v_number, v_parted_250, v_traced_250, v_trace_250) _ _ _ _ (vp_nar_int _) h hP hD hS dX5_saysAbove_258
  have h := q_f h w9
  rcases Decidable.em (x1 = (81 : Int32)) with w10 | w10
  · have h := q_t h w10
    refine lv_lookup hx hb dX5_saysAbove_1 (off := 258) (tgt := 259) (by decide +kernel) (by rw [w10]; decide +kernel) (by decide) ?_
    refine lv_aload_n hx hb dX5_saysAbove_259 rfl (lv_at hl 0 rfl) ?_
    refine lv_iload_n hx hb dX5_saysAbove_260 rfl (lv_at hl 2 rfl) ?_
    refine lv_iconst (v := (3 : Int32)) hx hb dX5_saysAbove_261 (by decide) ?_
    refine lv_iload_n hx hb dX5_saysAbove_262 rfl (lv_at hl 3 rfl) ?_
    refine lv_iload hx hb dX5_saysAbove_263 (lv_at hl 4 rfl) ?_
    refine q_callW4 (cEok ad) (rest := []) (fun u => [(qv 0, .inr (5, oX5 qv v_kind v_number v_writer u.2.1 u.2.2.1)), (qv 6, .inl (cI, 30, .inl u.2.2.2))]) (fun u => u.1) ⟨hx, hb, hml, hown, hts⟩ (fun u hu => H1 v_kind v_number v_writer v_parted v_traced v_trace x2 ((3 : Int32)) x3 x4 u hu) (cwV 4 hts gX5_saysAbove_X5_speaks rfl rfl rfl hdX5_speaks (rmq_ok (by omega) (Nat.le_of_ble_eq_true rfl))) hK hEv hA hP hD hS [0, 1] (by decide) rfl (fun _ => rfl) (va_recv hK hP (ci := 5) (q0 := 0) rfl rfl) rfl rfl hl.1 (Nat.le_of_ble_eq_true rfl) ⟨Nat.zero_le _, Nat.zero_le _⟩ h dX5_saysAbove_265 (fun t265 v_parted_265 v_traced_265 v_trace_265 H locs h hP hD hS => ?_)
    have hP : va_P D vwCl [(qv 0, .inr (5, oX5 qv v_kind v_number v_writer v_parted_265 v_traced_265)), (qv 6, .inl (cI, 30, .inl v_trace_265))] H := hP
    have hD : va_D A [(qv 0, .inr (5, oX5 qv v_kind v_number v_writer v_parted_265 v_traced_265)), (qv 6, .inl (cI, 30, .inl v_trace_265))] := hD
    refine lv_iconst (v := (5 : Int32)) hx hb dX5_saysAbove_268 (by decide) ?_
    refine lv_ixor hx hb dX5_saysAbove_269 ?_
    exact hret (t265 ^^^ ((5 : Int32)), v_parted_265, v_traced_265, v_trace_265) _ _ _ _ (vp_nar_int _) h hP hD hS dX5_saysAbove_270
  have h := q_f h w10
  refine lv_lookup hx hb dX5_saysAbove_1 (off := 270) (tgt := 271) (by decide +kernel) (q_look ?_) (by decide) ?_
  · intro q hq e
    have hq : q ∈ ([(20, 99), (21, 111), (30, 126), (31, 138), (40, 161), (41, 173), (50, 196), (60, 208), (61, 220), (80, 243), (81, 258)] : List (Int × Int)) := hq
    simp only [List.mem_cons, List.not_mem_nil, or_false] at hq
    rcases hq with rfl | rfl | rfl | rfl | rfl | rfl | rfl | rfl | rfl | rfl | rfl
    · exact w0 (Int32.toInt_inj.mp (e.trans (by decide)))
    · exact w1 (Int32.toInt_inj.mp (e.trans (by decide)))
    · exact w2 (Int32.toInt_inj.mp (e.trans (by decide)))
    · exact w3 (Int32.toInt_inj.mp (e.trans (by decide)))
    · exact w4 (Int32.toInt_inj.mp (e.trans (by decide)))
    · exact w5 (Int32.toInt_inj.mp (e.trans (by decide)))
    · exact w6 (Int32.toInt_inj.mp (e.trans (by decide)))
    · exact w7 (Int32.toInt_inj.mp (e.trans (by decide)))
    · exact w8 (Int32.toInt_inj.mp (e.trans (by decide)))
    · exact w9 (Int32.toInt_inj.mp (e.trans (by decide)))
    · exact w10 (Int32.toInt_inj.mp (e.trans (by decide)))
  · refine lv_iconst (v := (0 : Int32)) hx hb dX5_saysAbove_271 (by decide) ?_
    exact hret ((0 : Int32), v_parted, v_traced, v_trace) _ _ _ _ (vp_nar_int _) h hP hD hS dX5_saysAbove_272
set_option maxHeartbeats 4000000 in
set_option maxRecDepth 100000 in
theorem c5_speaks (l : Launch) (D : va_G) (cI : ClassId) (ad : Nat → Nat) (qv : Nat → Nat) (n : Nat) : ∀ (d : Nat) (v_kind v_number v_writer v_parted v_traced : Int32) (v_trace : Nat → Int32) (x1 : Int32) (x2 : Int32) (x3 : Int32) (x4 : Int32) (u : Int32 × Int32 × Int32 × (Nat → Int32)), f5_speaks n d x1 x2 x3 x4 v_kind v_number v_writer v_parted v_traced v_trace = some u → q_RW (cE ad) l yX5_speaks wsX5_speaks (rmq (2 * (d) + 8)) D cI [.ref (qv 0), .int x1, .int x2, .int x3, .int x4] [(qv 0, .inr (5, oX5 qv v_kind v_number v_writer v_parted v_traced)), (qv 6, .inl (cI, 30, .inl v_trace))] [(qv 0, .inr (5, oX5 qv v_kind v_number v_writer u.2.1 u.2.2.1)), (qv 6, .inl (cI, 30, .inl u.2.2.2))] u.1 := by
  intro d
  induction d with
  | zero => intro v_kind v_number v_writer v_parted v_traced v_trace x1 x2 x3 x4 u h; exact nomatch (show (none : Option (Int32 × Int32 × Int32 × (Nat → Int32))) = some u from h)
  | succ d ih =>
    intro v_kind v_number v_writer v_parted v_traced v_trace x1 x2 x3 x4 u h
    refine q_startW (fun u : Int32 × Int32 × Int32 × (Nat → Int32) => [(qv 0, .inr (5, oX5 qv v_kind v_number v_writer u.2.1 u.2.2.1)), (qv 6, .inl (cI, 30, .inl u.2.2.2))]) (fun u => u.1) (cc := cX5_speaks) (maxL := 7) (ty := .int) (own := RX5) (by decide) rfl rfl (Nat.le_of_ble_eq_true rfl) rfl (fun p e s m args below meth c Q A hx hb hml hown hts hK hEv hA hret hP hD hS ls hl => ?_)
    have in5 : ∀ w ∈ wsX50, w ∈ wsX5_speaks := fun w h => List.mem_cons_of_mem _ (List.mem_append_right _ (h))
    have l11 := hts (.fieldLink RX5 11 "PageWars$Voices" "trace" "[I") (List.mem_of_getElem? (i := 4) rfl)
    have l33 := hts (.fieldLink RX5 33 "PageWars$Voices" "parted" "Z") (List.mem_of_getElem? (i := 1) rfl)
    have l37 := hts (.fieldLink RX5 37 "PageWars$Voices" "traced" "I") (List.mem_of_getElem? (i := 3) rfl)
    have l44 := hts (.fieldLink RX5 44 "PageWars$Voices" "BODIES" "[I") (List.mem_of_getElem? (i := 2) rfl)
    have l47 : (Cond.fieldLinkNest RX5 47 "PageWars" "KIND_ABOVE" "[I" "PageWars").before args s = true := cE_f5_47 hEv
    have J143 : ∀ (s0 : Int32) (v_parted : Int32) (v_traced : Int32) (v_trace : (Nat → Int32)) (H : Heap) (locs : List Loc) (ls : Array Slot), lv_has ls 7 [(0, .ref (qv 0))] → va_P D vwCl [(qv 0, .inr (5, oX5 qv v_kind v_number v_writer v_parted v_traced)), (qv 6, .inl (cI, 30, .inl v_trace))] H → va_D A [(qv 0, .inr (5, oX5 qv v_kind v_number v_writer v_parted v_traced)), (qv 6, .inl (cI, 30, .inl v_trace))] → va_S A s.heap H locs → f5_speaks_143 n (f5_speaks n d) v_kind v_number v_writer s0 v_parted v_traced v_trace = some u → W p l e (rmq (2 * (d + 1) + 8)) s m args below meth c H locs 0 0 Q (F0 m 143 ls [.int s0]) := by
      intro s0 v_parted v_traced v_trace H locs ls hl hP hD hS h
      unfold f5_speaks_143 at h
      exact hret (s0, v_parted, v_traced, v_trace) _ _ _ _ (vp_nar_int _) h hP hD hS dX5_speaks_143
    have J107 : ∀ (x3 : Int32) (x4 : Int32) (x5 : Int32) (x6 : Int32) (v_parted : Int32) (v_traced : Int32) (v_trace : (Nat → Int32)) (H : Heap) (locs : List Loc) (ls : Array Slot), lv_has ls 7 [(0, .ref (qv 0)), (3, .int x3), (4, .int x4), (5, .int x5), (6, .int x6)] → va_P D vwCl [(qv 0, .inr (5, oX5 qv v_kind v_number v_writer v_parted v_traced)), (qv 6, .inl (cI, 30, .inl v_trace))] H → va_D A [(qv 0, .inr (5, oX5 qv v_kind v_number v_writer v_parted v_traced)), (qv 6, .inl (cI, 30, .inl v_trace))] → va_S A s.heap H locs → f5_speaks_107 n (f5_speaks n d) v_kind v_number v_writer x3 x4 x5 x6 v_parted v_traced v_trace = some u → W p l e (rmq (2 * (d + 1) + 8)) s m args below meth c H locs 0 0 Q (F0 m 107 ls []) := by
      intro x3 x4 x5 x6 v_parted v_traced v_trace H locs ls hl hP hD hS h
      unfold f5_speaks_107 at h
      refine lv_iload hx hb dX5_speaks_107 (lv_at hl 3 rfl) ?_
      refine q_ifne hx hb 126 h dX5_speaks_109 (by decide) (fun h => ?_) (fun h => ?_)
      · refine lv_aload_n hx hb dX5_speaks_126 rfl (lv_at hl 0 rfl) ?_
        refine lv_iload hx hb dX5_speaks_127 (lv_at hl 4 rfl) ?_
        refine va_getsN hx hb (hEv.2.2.1).1 hS hown l47 (fun _ h9 => h9) dX5_speaks_129 ?_
        refine lv_iload hx hb dX5_speaks_132 (lv_at hl 3 rfl) ?_
        refine q_tald hx hb (hEv.2.2.1).2 hS h dX5_speaks_134 (fun t134 h => ?_)
        refine lv_iload_n hx hb dX5_speaks_135 rfl (lv_at hl 1 rfl) ?_
        refine lv_iload hx hb dX5_speaks_136 (lv_at hl 2 rfl) ?_
        refine lv_iconst (v := (1 : Int32)) hx hb dX5_speaks_138 (by decide) ?_
        refine lv_iadd hx hb dX5_speaks_139 ?_
        refine q_callW4 (cEok ad) (rest := []) (fun u => [(qv 0, .inr (5, oX5 qv v_kind v_number v_writer u.2.1 u.2.2.1)), (qv 6, .inl (cI, 30, .inl u.2.2.2))]) (fun u => u.1) ⟨hx, hb, hml, hown, hts⟩ (fun u hu => c5_saysAbove l D cI ad qv n (f5_speaks n d) (2 * d + 8) (by omega) ih v_kind v_number v_writer v_parted v_traced v_trace x6 t134 x3 (x4 + ((1 : Int32))) u hu) (cwV 4 hts gX5_speaks_X5_saysAbove rfl rfl rfl hdX5_saysAbove (rmq_ok (by omega) (Nat.le_of_ble_eq_true rfl))) hK hEv hA hP hD hS [0, 1] (by decide) rfl (fun _ => rfl) (va_recv hK hP (ci := 5) (q0 := 0) rfl rfl) rfl rfl hl.1 (Nat.le_of_ble_eq_true rfl) ⟨Nat.zero_le _, Nat.zero_le _⟩ h dX5_speaks_140 (fun t140 v_parted_140 v_traced_140 v_trace_140 H locs h hP hD hS => ?_)
        have hP : va_P D vwCl [(qv 0, .inr (5, oX5 qv v_kind v_number v_writer v_parted_140 v_traced_140)), (qv 6, .inl (cI, 30, .inl v_trace_140))] H := hP
        have hD : va_D A [(qv 0, .inr (5, oX5 qv v_kind v_number v_writer v_parted_140 v_traced_140)), (qv 6, .inl (cI, 30, .inl v_trace_140))] := hD
        exact J143 t140 v_parted_140 v_traced_140 v_trace_140 _ _ _ (lv_sub hl [0] rfl) hP hD hS h
      · refine lv_aload_n hx hb dX5_speaks_112 rfl (lv_at hl 0 rfl) ?_
        refine lv_iload hx hb dX5_speaks_113 (lv_at hl 4 rfl) ?_
        refine lv_iload_n hx hb dX5_speaks_115 rfl (lv_at hl 1 rfl) ?_
        refine lv_iload hx hb dX5_speaks_116 (lv_at hl 2 rfl) ?_
        refine lv_iconst (v := (1 : Int32)) hx hb dX5_speaks_118 (by decide) ?_
        refine lv_iadd hx hb dX5_speaks_119 ?_
        refine q_callW4 (cEok ad) (rest := []) (fun u => [(qv 0, .inr (5, oX5 qv v_kind v_number v_writer u.2.1 u.2.2.1)), (qv 6, .inl (cI, 30, .inl u.2.2.2))]) (fun u => u.1) ⟨hx, hb, hml, hown, hts⟩ (fun u hu => c5_says l D cI ad qv n (f5_speaks n d) (2 * d + 8) (by omega) ih v_kind v_number v_writer v_parted v_traced v_trace x6 x3 (x4 + ((1 : Int32))) u hu) (cwV 3 hts gX5_speaks_X5_says rfl rfl rfl hdX5_says (rmq_ok (by omega) (Nat.le_of_ble_eq_true rfl))) hK hEv hA hP hD hS [0, 1] (by decide) rfl (fun _ => rfl) (va_recv hK hP (ci := 5) (q0 := 0) rfl rfl) rfl rfl hl.1 (Nat.le_of_ble_eq_true rfl) ⟨Nat.zero_le _, Nat.zero_le _⟩ h dX5_speaks_120 (fun t120 v_parted_120 v_traced_120 v_trace_120 H locs h hP hD hS => ?_)
        have hP : va_P D vwCl [(qv 0, .inr (5, oX5 qv v_kind v_number v_writer v_parted_120 v_traced_120)), (qv 6, .inl (cI, 30, .inl v_trace_120))] H := hP
        have hD : va_D A [(qv 0, .inr (5, oX5 qv v_kind v_number v_writer v_parted_120 v_traced_120)), (qv 6, .inl (cI, 30, .inl v_trace_120))] := hD
        refine lv_goto (tgt := 143) hx hb dX5_speaks_123 (by decide) ?_
        exact J143 t120 v_parted_120 v_traced_120 v_trace_120 _ _ _ (lv_sub hl [0] rfl) hP hD hS h
    have J65 : ∀ (x2 : Int32) (x3 : Int32) (x4 : Int32) (x5 : Int32) (v_parted : Int32) (v_traced : Int32) (v_trace : (Nat → Int32)) (H : Heap) (locs : List Loc) (ls : Array Slot), lv_has ls 7 [(0, .ref (qv 0)), (2, .int x2), (3, .int x3), (4, .int x4), (5, .int x5)] → va_P D vwCl [(qv 0, .inr (5, oX5 qv v_kind v_number v_writer v_parted v_traced)), (qv 6, .inl (cI, 30, .inl v_trace))] H → va_D A [(qv 0, .inr (5, oX5 qv v_kind v_number v_writer v_parted v_traced)), (qv 6, .inl (cI, 30, .inl v_trace))] → va_S A s.heap H locs → f5_speaks_65 n (f5_speaks n d) v_kind v_number v_writer x2 x3 x4 x5 v_parted v_traced v_trace = some u → W p l e (rmq (2 * (d + 1) + 8)) s m args below meth c H locs 0 0 Q (F0 m 65 ls []) := by
      intro x2 x3 x4 x5 v_parted v_traced v_trace H locs ls hl hP hD hS h
      unfold f5_speaks_65 at h
      refine va_gets hx hb (hEv.2.2.2.1).1 hS hown l44 (fun _ h9 => h9) dX5_speaks_65 ?_
      refine lv_iload hx hb dX5_speaks_68 (lv_at hl 4 rfl) ?_
      refine lv_iconst (v := (4 : Int32)) hx hb dX5_speaks_70 (by decide) ?_
      refine lv_imul hx hb dX5_speaks_71 ?_
      refine lv_iload_n hx hb dX5_speaks_72 rfl (lv_at hl 1 rfl) ?_
      refine lv_iadd hx hb dX5_speaks_73 ?_
      refine q_tald hx hb (hEv.2.2.2.1).2 hS h dX5_speaks_74 (fun t74 h => ?_)
      refine lv_istore (lv' := [(6, .int t74), (0, .ref (qv 0)), (2, .int x2), (3, .int x3), (4, .int x4), (5, .int x5)]) hx hb dX5_speaks_75 hl (by decide) rfl (fun ls hl => ?_)
      refine lv_aload_n hx hb dX5_speaks_77 rfl (lv_at hl 1 rfl) ?_
      refine va_get (D := D) (ci := 5) (v := .int v_traced) (C := RX5) (T := TX5) (N := 6) hx hb hts in5 hown hK hP 0 rfl rfl 4 (by decide) l37 (fun _ h9 => h9) rfl dX5_speaks_78 ?_
      refine lv_bipush (v := (30 : Int32)) hx hb dX5_speaks_81 (by decide) ?_
      refine q_cge hx hb 107 h dX5_speaks_83 (by decide) (fun h => ?_) (fun h => ?_)
      · exact J107 x3 x4 x5 t74 v_parted v_traced v_trace _ _ _ (lv_sub hl [1, 3, 4, 5, 0] rfl) hP hD hS h
      · refine lv_aload_n hx hb dX5_speaks_86 rfl (lv_at hl 1 rfl) ?_
        refine va_get (D := D) (ci := 5) (v := .ref (qv 6)) (C := RX5) (T := TX5) (N := 6) hx hb hts in5 hown hK hP 0 rfl rfl 5 (by decide) l11 (fun _ h9 => h9) rfl dX5_speaks_87 ?_
        refine lv_aload_n hx hb dX5_speaks_90 rfl (lv_at hl 1 rfl) ?_
        refine va_get (D := D) (ci := 5) (v := .int v_traced) (C := RX5) (T := TX5) (N := 6) hx hb hts in5 hown hK hP 0 rfl rfl 4 (by decide) l37 (fun _ h9 => h9) rfl dX5_speaks_91 ?_
        refine lv_iload hx hb dX5_speaks_94 (lv_at hl 0 rfl) ?_
        refine q_iast hx hb hK hP hD hS 1 0 rfl rfl h dX5_speaks_96 (fun v_trace_96 H locs h hP hD hS => ?_)
        have hP : va_P D vwCl [(qv 0, .inr (5, oX5 qv v_kind v_number v_writer v_parted v_traced)), (qv 6, .inl (cI, 30, .inl v_trace_96))] H := hP
        have hD : va_D A [(qv 0, .inr (5, oX5 qv v_kind v_number v_writer v_parted v_traced)), (qv 6, .inl (cI, 30, .inl v_trace_96))] := hD
        refine lv_aload_n hx hb dX5_speaks_97 rfl (lv_at hl 1 rfl) ?_
        refine lv_dup hx hb dX5_speaks_98 rfl ?_
        refine va_get (D := D) (ci := 5) (v := .int v_traced) (C := RX5) (T := TX5) (N := 6) hx hb hts in5 hown hK hP 0 rfl rfl 4 (by decide) l37 (fun _ h9 => h9) rfl dX5_speaks_99 ?_
        refine lv_iconst (v := (1 : Int32)) hx hb dX5_speaks_102 (by decide) ?_
        refine lv_iadd hx hb dX5_speaks_103 ?_
        refine q_let h (fun v_traced_104 h => ?_)
        refine va_put (D := D) (ci := 5) (v := .int v_traced_104) (ty := .int) (C := RX5) (T := TX5) (N := 6) hx hb hts in5 tyX5 tyX5_ok nmX5 hown hK hP hD hS 0 rfl rfl 4 (by decide) l37 (fun _ h9 => h9) rfl (by decide +kernel) rfl rfl (Nat.le_of_ble_eq_true rfl) dX5_speaks_104 (fun H locs hP hD hS => ?_)
        have hP : va_P D vwCl [(qv 0, .inr (5, oX5 qv v_kind v_number v_writer v_parted v_traced_104)), (qv 6, .inl (cI, 30, .inl v_trace_96))] H := hP
        have hD : va_D A [(qv 0, .inr (5, oX5 qv v_kind v_number v_writer v_parted v_traced_104)), (qv 6, .inl (cI, 30, .inl v_trace_96))] := hD
        exact J107 x3 x4 x5 t74 v_parted v_traced_104 v_trace_96 _ _ _ (lv_sub hl [1, 3, 4, 5, 0] rfl) hP hD hS h
    have J26 : ∀ (kk26 : Nat) (x2 : Int32) (x3 : Int32) (x4 : Int32) (x5 : Int32) (x6 : Int32) (v_parted : Int32) (v_traced : Int32) (v_trace : (Nat → Int32)) (H : Heap) (locs : List Loc) (ls : Array Slot), lv_has ls 7 [(0, .ref (qv 0)), (2, .int x2), (3, .int x3), (4, .int x4), (5, .int x5), (6, .int x6)] → va_P D vwCl [(qv 0, .inr (5, oX5 qv v_kind v_number v_writer v_parted v_traced)), (qv 6, .inl (cI, 30, .inl v_trace))] H → va_D A [(qv 0, .inr (5, oX5 qv v_kind v_number v_writer v_parted v_traced)), (qv 6, .inl (cI, 30, .inl v_trace))] → va_S A s.heap H locs → f5_speaks_26 n (f5_speaks n d) v_kind v_number v_writer kk26 x2 x3 x4 x5 x6 v_parted v_traced v_trace = some u → W p l e (rmq (2 * (d + 1) + 8)) s m args below meth c H locs 0 0 Q (F0 m 26 ls []) := by
      intro kk26
      induction kk26 with
      | zero => intro x2 x3 x4 x5 x6 v_parted v_traced v_trace H locs ls hl hP hD hS h; exact nomatch (show (none : Option (Int32 × Int32 × Int32 × (Nat → Int32))) = some u from h)
      | succ kk26 ih26 =>
        intro x2 x3 x4 x5 x6 v_parted v_traced v_trace H locs ls hl hP hD hS h
        rw [f5_speaks_26.eq_2] at h
        refine lv_iload hx hb dX5_speaks_26 (lv_at hl 5 rfl) ?_
        refine lv_bipush (v := (8 : Int32)) hx hb dX5_speaks_28 (by decide) ?_
        refine q_cge hx hb 65 h dX5_speaks_30 (by decide) (fun h => ?_) (fun h => ?_)
        · exact J65 x2 x3 x4 x5 v_parted v_traced v_trace _ _ _ (lv_sub hl [0, 1, 2, 3, 4] rfl) hP hD hS h
        · refine lv_iload hx hb dX5_speaks_33 (lv_at hl 4 rfl) ?_
          refine q_ifle hx hb 65 h dX5_speaks_35 (by decide) (fun h => ?_) (fun h => ?_)
          · exact J65 x2 x3 x4 x5 v_parted v_traced v_trace _ _ _ (lv_sub hl [0, 1, 2, 3, 4] rfl) hP hD hS h
          · refine va_gets hx hb (hEv.2.2.2.1).1 hS hown l44 (fun _ h9 => h9) dX5_speaks_38 ?_
            refine lv_iload hx hb dX5_speaks_41 (lv_at hl 4 rfl) ?_
            refine lv_iconst (v := (4 : Int32)) hx hb dX5_speaks_43 (by decide) ?_
            refine lv_imul hx hb dX5_speaks_44 ?_
            refine lv_iload_n hx hb dX5_speaks_45 rfl (lv_at hl 1 rfl) ?_
            refine lv_iadd hx hb dX5_speaks_46 ?_
            refine q_tald hx hb (hEv.2.2.2.1).2 hS h dX5_speaks_47 (fun t47 h => ?_)
            refine q_ifne hx hb 65 h dX5_speaks_48 (by decide) (fun h => ?_) (fun h => ?_)
            · exact J65 x2 x3 x4 x5 v_parted v_traced v_trace _ _ _ (lv_sub hl [0, 1, 2, 3, 4] rfl) hP hD hS h
            · refine va_getsN hx hb (hEv.2.2.1).1 hS hown l47 (fun _ h9 => h9) dX5_speaks_51 ?_
              refine lv_iload hx hb dX5_speaks_54 (lv_at hl 4 rfl) ?_
              refine q_tald hx hb (hEv.2.2.1).2 hS h dX5_speaks_56 (fun t56 h => ?_)
              refine lv_istore (lv' := [(5, .int t56), (0, .ref (qv 0)), (2, .int x2), (3, .int x3), (4, .int x4), (6, .int x6)]) hx hb dX5_speaks_57 hl (by decide) rfl (fun ls hl => ?_)
              refine q_iinc (fun v => [(6, .int v), (5, .int t56), (0, .ref (qv 0)), (2, .int x2), (3, .int x3), (4, .int x4)]) hx hb h dX5_speaks_59 (by decide) hl (k := 5) rfl (by decide) (fun _ => rfl) (fun x6_59 ls h hl => ?_)
              refine lv_goto (tgt := 26) hx hb dX5_speaks_62 (by decide) ?_
              exact ih26 x2 x3 x4 t56 x6_59 v_parted v_traced v_trace _ _ _ (lv_sub hl [2, 3, 4, 5, 1, 0] rfl) hP hD hS h
    have J18 : ∀ (v_parted : Int32) (v_traced : Int32) (v_trace : (Nat → Int32)) (H : Heap) (locs : List Loc) (ls : Array Slot), lv_has ls 7 [(0, .ref (qv 0))] → va_P D vwCl [(qv 0, .inr (5, oX5 qv v_kind v_number v_writer v_parted v_traced)), (qv 6, .inl (cI, 30, .inl v_trace))] H → va_D A [(qv 0, .inr (5, oX5 qv v_kind v_number v_writer v_parted v_traced)), (qv 6, .inl (cI, 30, .inl v_trace))] → va_S A s.heap H locs → f5_speaks_18 n (f5_speaks n d) v_kind v_number v_writer v_parted v_traced v_trace = some u → W p l e (rmq (2 * (d + 1) + 8)) s m args below meth c H locs 0 0 Q (F0 m 18 ls []) := by
      intro v_parted v_traced v_trace H locs ls hl hP hD hS h
      unfold f5_speaks_18 at h
      refine lv_iconst (v := (0 : Int32)) hx hb dX5_speaks_18 (by decide) ?_
      exact hret ((0 : Int32), v_parted, v_traced, v_trace) _ _ _ _ (vp_nar_int _) h hP hD hS dX5_speaks_19
    rw [f5_speaks.eq_2] at h
    refine lv_aload_n hx hb dX5_speaks_0 rfl (lv_at hl 0 rfl) ?_
    refine va_get (D := D) (ci := 5) (v := .int v_parted) (C := RX5) (T := TX5) (N := 6) hx hb hts in5 hown hK hP 0 rfl rfl 3 (by decide) l33 (fun _ h9 => h9) rfl dX5_speaks_1 ?_
    refine q_ifne hx hb 18 h dX5_speaks_4 (by decide) (fun h => ?_) (fun h => ?_)
    · exact J18 v_parted v_traced v_trace _ _ _ (lv_sub hl [0] rfl) hP hD hS h
    · refine lv_iload hx hb dX5_speaks_7 (lv_at hl 4 rfl) ?_
      refine lv_bipush (v := (40 : Int32)) hx hb dX5_speaks_9 (by decide) ?_
      refine q_cgt hx hb 18 h dX5_speaks_11 (by decide) (fun h => ?_) (fun h => ?_)
      · exact J18 v_parted v_traced v_trace _ _ _ (lv_sub hl [0] rfl) hP hD hS h
      · refine lv_iload_n hx hb dX5_speaks_14 rfl (lv_at hl 1 rfl) ?_
        refine q_ifge hx hb 20 h dX5_speaks_15 (by decide) (fun h => ?_) (fun h => ?_)
        · refine lv_iload_n hx hb dX5_speaks_20 rfl (lv_at hl 1 rfl) ?_
          refine lv_istore (lv' := [(5, .int x1), (0, .ref (qv 0)), (1, .int x1), (2, .int x2), (3, .int x3), (4, .int x4)]) hx hb dX5_speaks_21 hl (by decide) rfl (fun ls hl => ?_)
          refine lv_iconst (v := (0 : Int32)) hx hb dX5_speaks_23 (by decide) ?_
          refine lv_istore (lv' := [(6, .int ((0 : Int32))), (5, .int x1), (0, .ref (qv 0)), (1, .int x1), (2, .int x2), (3, .int x3), (4, .int x4)]) hx hb dX5_speaks_24 hl (by decide) rfl (fun ls hl => ?_)
          exact J26 n x2 x3 x4 x1 ((0 : Int32)) v_parted v_traced v_trace _ _ _ (lv_sub hl [2, 4, 5, 6, 1, 0] rfl) hP hD hS h
        · exact J18 v_parted v_traced v_trace _ _ _ (lv_sub hl [0] rfl) hP hD hS h
set_option maxHeartbeats 4000000 in
set_option maxRecDepth 100000 in
theorem c5_heard (l : Launch) (D : va_G) (cI : ClassId) (ad : Nat → Nat) (qa qv : Nat → Nat) (a_done v_kind v_number v_writer v_parted v_traced : Int32) (a_kinds a_writers v_trace : Nat → Int32) (x2 : Int32) (x3 : Int32) (x4 : Int32) (n : Nat) (u : Int32 × Int32 × Int32 × Int32 × Int32 × Int32 × (Nat → Int32)) (h : f5_heard n x2 x3 x4 v_kind v_number v_writer v_parted v_traced a_kinds a_writers v_trace = some u) : q_RW (cE ad) l yX5_heard wsX5_heard (rmq (49)) D cI [.ref (qv 0), .ref (qa 0), .int x2, .int x3, .int x4] [(qa 0, .inr (0, oX0 qa a_done)), (qv 0, .inr (5, oX5 qv v_kind v_number v_writer v_parted v_traced)), (qa 2, .inl (cI, 60, .inl a_kinds)), (qa 3, .inl (cI, 60, .inl a_writers)), (qv 6, .inl (cI, 30, .inl v_trace))] [(qa 0, .inr (0, oX0 qa a_done)), (qv 0, .inr (5, oX5 qv u.2.1 u.2.2.1 u.2.2.2.1 u.2.2.2.2.1 u.2.2.2.2.2.1)), (qa 2, .inl (cI, 60, .inl a_kinds)), (qa 3, .inl (cI, 60, .inl a_writers)), (qv 6, .inl (cI, 30, .inl u.2.2.2.2.2.2))] u.1 := by
  refine q_startW (fun u : Int32 × Int32 × Int32 × Int32 × Int32 × Int32 × (Nat → Int32) => [(qa 0, .inr (0, oX0 qa a_done)), (qv 0, .inr (5, oX5 qv u.2.1 u.2.2.1 u.2.2.2.1 u.2.2.2.2.1 u.2.2.2.2.2.1)), (qa 2, .inl (cI, 60, .inl a_kinds)), (qa 3, .inl (cI, 60, .inl a_writers)), (qv 6, .inl (cI, 30, .inl u.2.2.2.2.2.2))]) (fun u => u.1) (cc := cX5_heard) (maxL := 5) (ty := .int) (own := RX5) (by decide) rfl rfl (Nat.le_of_ble_eq_true rfl) rfl (fun p e s m args below meth c Q A hx hb hml hown hts hK hEv hA hret hP hD hS ls hl => ?_)
  have in0 : ∀ w ∈ wsX00, w ∈ wsX5_heard := fun w h => List.mem_cons_of_mem _ (List.mem_append_left _ (List.mem_append_right _ (h)))
  have in5 : ∀ w ∈ wsX50, w ∈ wsX5_heard := fun w h => List.mem_cons_of_mem _ (List.mem_append_right _ (h))
  have l20 := hts (.fieldLink RX5 20 "PageWars$Voices" "kind" "I") (List.mem_of_getElem? (i := 1) rfl)
  have l24 := hts (.fieldLink RX5 24 "PageWars$Voices" "number" "I") (List.mem_of_getElem? (i := 2) rfl)
  have l30 := hts (.fieldLink RX5 30 "PageWars$Voices" "writer" "I") (List.mem_of_getElem? (i := 3) rfl)
  have l33 := hts (.fieldLink RX5 33 "PageWars$Voices" "parted" "Z") (List.mem_of_getElem? (i := 4) rfl)
  have l37 := hts (.fieldLink RX5 37 "PageWars$Voices" "traced" "I") (List.mem_of_getElem? (i := 5) rfl)
  have l15 : (Cond.fieldLinkNest RX5 15 "PageWars$Acts" "kinds" "[I" "PageWars").before args s = true := cE_f5_15 hEv
  have l27 : (Cond.fieldLinkNest RX5 27 "PageWars$Acts" "writers" "[I" "PageWars").before args s = true := cE_f5_27 hEv
  unfold f5_heard at h
  refine lv_aload_n hx hb dX5_heard_0 rfl (lv_at hl 0 rfl) ?_
  refine lv_aload_n hx hb dX5_heard_1 rfl (lv_at hl 1 rfl) ?_
  refine va_getN (D := D) (ci := 0) (v := .ref (qa 2)) (C := RX0) (T := TX0) (N := 10) hx hb hts in0 hown hK hP 0 rfl rfl 1 (by decide) l15 (fun _ h9 => h9) rfl dX5_heard_2 ?_
  refine lv_iload_n hx hb dX5_heard_5 rfl (lv_at hl 2 rfl) ?_
  refine q_iald hx hb hK hP 2 0 rfl rfl h dX5_heard_6 (fun t6 h => ?_)
  refine va_put (D := D) (ci := 5) (v := .int t6) (ty := .int) (C := RX5) (T := TX5) (N := 6) hx hb hts in5 tyX5 tyX5_ok nmX5 hown hK hP hD hS 1 rfl rfl 0 (by decide) l20 (fun _ h9 => h9) rfl (by decide +kernel) rfl rfl (Nat.le_of_ble_eq_true rfl) dX5_heard_7 (fun H locs hP hD hS => ?_)
  have hP : va_P D vwCl [(qa 0, .inr (0, oX0 qa a_done)), (qv 0, .inr (5, oX5 qv t6 v_number v_writer v_parted v_traced)), (qa 2, .inl (cI, 60, .inl a_kinds)), (qa 3, .inl (cI, 60, .inl a_writers)), (qv 6, .inl (cI, 30, .inl v_trace))] H := hP
  have hD : va_D A [(qa 0, .inr (0, oX0 qa a_done)), (qv 0, .inr (5, oX5 qv t6 v_number v_writer v_parted v_traced)), (qa 2, .inl (cI, 60, .inl a_kinds)), (qa 3, .inl (cI, 60, .inl a_writers)), (qv 6, .inl (cI, 30, .inl v_trace))] := hD
  refine lv_aload_n hx hb dX5_heard_10 rfl (lv_at hl 0 rfl) ?_
  refine lv_iload_n hx hb dX5_heard_11 rfl (lv_at hl 2 rfl) ?_
  refine va_put (D := D) (ci := 5) (v := .int x2) (ty := .int) (C := RX5) (T := TX5) (N := 6) hx hb hts in5 tyX5 tyX5_ok nmX5 hown hK hP hD hS 1 rfl rfl 1 (by decide) l24 (fun _ h9 => h9) rfl (by decide +kernel) rfl rfl (Nat.le_of_ble_eq_true rfl) dX5_heard_12 (fun H locs hP hD hS => ?_)
  have hP : va_P D vwCl [(qa 0, .inr (0, oX0 qa a_done)), (qv 0, .inr (5, oX5 qv t6 x2 v_writer v_parted v_traced)), (qa 2, .inl (cI, 60, .inl a_kinds)), (qa 3, .inl (cI, 60, .inl a_writers)), (qv 6, .inl (cI, 30, .inl v_trace))] H := hP
  have hD : va_D A [(qa 0, .inr (0, oX0 qa a_done)), (qv 0, .inr (5, oX5 qv t6 x2 v_writer v_parted v_traced)), (qa 2, .inl (cI, 60, .inl a_kinds)), (qa 3, .inl (cI, 60, .inl a_writers)), (qv 6, .inl (cI, 30, .inl v_trace))] := hD
  refine lv_aload_n hx hb dX5_heard_15 rfl (lv_at hl 0 rfl) ?_
  refine lv_aload_n hx hb dX5_heard_16 rfl (lv_at hl 1 rfl) ?_
  refine va_getN (D := D) (ci := 0) (v := .ref (qa 3)) (C := RX0) (T := TX0) (N := 10) hx hb hts in0 hown hK hP 0 rfl rfl 2 (by decide) l27 (fun _ h9 => h9) rfl dX5_heard_17 ?_
  refine lv_iload_n hx hb dX5_heard_20 rfl (lv_at hl 2 rfl) ?_
  refine q_iald hx hb hK hP 3 0 rfl rfl h dX5_heard_21 (fun t21 h => ?_)
  refine va_put (D := D) (ci := 5) (v := .int t21) (ty := .int) (C := RX5) (T := TX5) (N := 6) hx hb hts in5 tyX5 tyX5_ok nmX5 hown hK hP hD hS 1 rfl rfl 2 (by decide) l30 (fun _ h9 => h9) rfl (by decide +kernel) rfl rfl (Nat.le_of_ble_eq_true rfl) dX5_heard_22 (fun H locs hP hD hS => ?_)
  have hP : va_P D vwCl [(qa 0, .inr (0, oX0 qa a_done)), (qv 0, .inr (5, oX5 qv t6 x2 t21 v_parted v_traced)), (qa 2, .inl (cI, 60, .inl a_kinds)), (qa 3, .inl (cI, 60, .inl a_writers)), (qv 6, .inl (cI, 30, .inl v_trace))] H := hP
  have hD : va_D A [(qa 0, .inr (0, oX0 qa a_done)), (qv 0, .inr (5, oX5 qv t6 x2 t21 v_parted v_traced)), (qa 2, .inl (cI, 60, .inl a_kinds)), (qa 3, .inl (cI, 60, .inl a_writers)), (qv 6, .inl (cI, 30, .inl v_trace))] := hD
  refine lv_aload_n hx hb dX5_heard_25 rfl (lv_at hl 0 rfl) ?_
  refine lv_iconst (v := (0 : Int32)) hx hb dX5_heard_26 (by decide) ?_
  obtain ⟨hz, h⟩ := q_bz_of h
  refine va_put (D := D) (ci := 5) (v := .int ((0 : Int32))) (ty := .boolean) (C := RX5) (T := TX5) (N := 6) hx hb hts in5 tyX5 tyX5_ok nmX5 hown hK hP hD hS 1 rfl rfl 3 (by decide) l33 (fun _ h9 => h9) rfl (by decide +kernel) (q_nz hz) (q_fz hz) (Nat.le_of_ble_eq_true rfl) dX5_heard_27 (fun H locs hP hD hS => ?_)
  have hP : va_P D vwCl [(qa 0, .inr (0, oX0 qa a_done)), (qv 0, .inr (5, oX5 qv t6 x2 t21 ((0 : Int32)) v_traced)), (qa 2, .inl (cI, 60, .inl a_kinds)), (qa 3, .inl (cI, 60, .inl a_writers)), (qv 6, .inl (cI, 30, .inl v_trace))] H := hP
  have hD : va_D A [(qa 0, .inr (0, oX0 qa a_done)), (qv 0, .inr (5, oX5 qv t6 x2 t21 ((0 : Int32)) v_traced)), (qa 2, .inl (cI, 60, .inl a_kinds)), (qa 3, .inl (cI, 60, .inl a_writers)), (qv 6, .inl (cI, 30, .inl v_trace))] := hD
  refine lv_aload_n hx hb dX5_heard_30 rfl (lv_at hl 0 rfl) ?_
  refine lv_iconst (v := (0 : Int32)) hx hb dX5_heard_31 (by decide) ?_
  refine va_put (D := D) (ci := 5) (v := .int ((0 : Int32))) (ty := .int) (C := RX5) (T := TX5) (N := 6) hx hb hts in5 tyX5 tyX5_ok nmX5 hown hK hP hD hS 1 rfl rfl 4 (by decide) l37 (fun _ h9 => h9) rfl (by decide +kernel) rfl rfl (Nat.le_of_ble_eq_true rfl) dX5_heard_32 (fun H locs hP hD hS => ?_)
  have hP : va_P D vwCl [(qa 0, .inr (0, oX0 qa a_done)), (qv 0, .inr (5, oX5 qv t6 x2 t21 ((0 : Int32)) ((0 : Int32)))), (qa 2, .inl (cI, 60, .inl a_kinds)), (qa 3, .inl (cI, 60, .inl a_writers)), (qv 6, .inl (cI, 30, .inl v_trace))] H := hP
  have hD : va_D A [(qa 0, .inr (0, oX0 qa a_done)), (qv 0, .inr (5, oX5 qv t6 x2 t21 ((0 : Int32)) ((0 : Int32)))), (qa 2, .inl (cI, 60, .inl a_kinds)), (qa 3, .inl (cI, 60, .inl a_writers)), (qv 6, .inl (cI, 30, .inl v_trace))] := hD
  refine lv_aload_n hx hb dX5_heard_35 rfl (lv_at hl 0 rfl) ?_
  refine lv_aload_n hx hb dX5_heard_36 rfl (lv_at hl 0 rfl) ?_
  refine va_get (D := D) (ci := 5) (v := .int t6) (C := RX5) (T := TX5) (N := 6) hx hb hts in5 hown hK hP 1 rfl rfl 0 (by decide) l20 (fun _ h9 => h9) rfl dX5_heard_37 ?_
  refine lv_iload_n hx hb dX5_heard_40 rfl (lv_at hl 3 rfl) ?_
  refine lv_iload hx hb dX5_heard_41 (lv_at hl 4 rfl) ?_
  refine lv_iconst (v := (0 : Int32)) hx hb dX5_heard_43 (by decide) ?_
  refine q_callW4 (cEok ad) (rest := []) (fun u => [(qv 0, .inr (5, oX5 qv t6 x2 t21 u.2.1 u.2.2.1)), (qv 6, .inl (cI, 30, .inl u.2.2.2))]) (fun u => u.1) ⟨hx, hb, hml, hown, hts⟩ (fun u hu => c5_speaks l D cI ad qv n 20 t6 x2 t21 ((0 : Int32)) ((0 : Int32)) v_trace t6 x3 x4 ((0 : Int32)) u hu) (cwV 4 hts gX5_heard_X5_speaks rfl rfl rfl hdX5_speaks (rmq_ok (Nat.le_of_ble_eq_true rfl) (Nat.le_of_ble_eq_true rfl))) hK hEv hA hP hD hS [1, 4] (by decide) rfl (fun _ => rfl) (va_recv hK hP (ci := 5) (q0 := 1) rfl rfl) rfl rfl hl.1 (Nat.le_of_ble_eq_true rfl) ⟨Nat.zero_le _, Nat.zero_le _⟩ h dX5_heard_44 (fun t44 v_parted_44 v_traced_44 v_trace_44 H locs h hP hD hS => ?_)
  have hP : va_P D vwCl [(qa 0, .inr (0, oX0 qa a_done)), (qv 0, .inr (5, oX5 qv t6 x2 t21 v_parted_44 v_traced_44)), (qa 2, .inl (cI, 60, .inl a_kinds)), (qa 3, .inl (cI, 60, .inl a_writers)), (qv 6, .inl (cI, 30, .inl v_trace_44))] H := hP
  have hD : va_D A [(qa 0, .inr (0, oX0 qa a_done)), (qv 0, .inr (5, oX5 qv t6 x2 t21 v_parted_44 v_traced_44)), (qa 2, .inl (cI, 60, .inl a_kinds)), (qa 3, .inl (cI, 60, .inl a_writers)), (qv 6, .inl (cI, 30, .inl v_trace_44))] := hD
  exact hret (t44, t6, x2, t21, v_parted_44, v_traced_44, v_trace_44) _ _ _ _ (vp_nar_int _) h hP hD hS dX5_heard_47
