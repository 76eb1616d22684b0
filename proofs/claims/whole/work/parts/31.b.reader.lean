set_option maxHeartbeats 4000000 in
set_option maxRecDepth 100000 in
theorem c2_readsDenied (l : Launch) (D : va_G) (cI : ClassId) (ad : Nat → Nat) (qr : Nat → Nat) (r_rt r_ni : Nat) (n : Nat) (FS : Int32 → Int32 → Int32 → Int32 → Nat → (Nat → Int32) → (Nat → Int32) → Option (Int32 × Int32 × Int32 × (Nat → Int32))) (lv : Nat) (hlv : 8 ≤ lv) (H1 : ∀ (r_at r_coded r_taped : Int32) (r_tape r_code : Nat → Int32) (x1 : Int32) (u : Int32 × Int32 × Int32 × (Nat → Int32)), FS x1 r_at r_coded r_taped r_ni r_tape r_code = some u → q_RW (cE ad) l yX2_readsInnermost wsX2_readsInnermost (rmq (lv)) D cI [.ref (qr 0), .int x1] [(qr 0, .inr (2, oX2 qr r_at r_coded r_taped r_rt (ad (2 + r_ni)))), (r_rt, .inl (cI, 60, .inl r_tape)), (qr 6, .inl (cI, 60, .inl r_code))] [(qr 0, .inr (2, oX2 qr u.2.1 u.2.2.1 r_taped r_rt (ad (2 + r_ni)))), (r_rt, .inl (cI, 60, .inl r_tape)), (qr 6, .inl (cI, 60, .inl u.2.2.2))] u.1) (r_at r_coded r_taped : Int32) (r_tape r_code : Nat → Int32) (x1 : Int32) (u : Int32 × Int32 × Int32 × (Nat → Int32)) (h : g2_readsDenied n FS x1 r_at r_coded r_taped r_ni r_tape r_code = some u) : q_RW (cE ad) l yX2_readsDenied wsX2_readsDenied (rmq (lv + 1)) D cI [.ref (qr 0), .int x1] [(qr 0, .inr (2, oX2 qr r_at r_coded r_taped r_rt (ad (2 + r_ni)))), (r_rt, .inl (cI, 60, .inl r_tape)), (qr 6, .inl (cI, 60, .inl r_code))] [(qr 0, .inr (2, oX2 qr u.2.1 u.2.2.1 r_taped r_rt (ad (2 + r_ni)))), (r_rt, .inl (cI, 60, .inl r_tape)), (qr 6, .inl (cI, 60, .inl u.2.2.2))] u.1 := by
  refine q_startW (fun u : Int32 × Int32 × Int32 × (Nat → Int32) => [(qr 0, .inr (2, oX2 qr u.2.1 u.2.2.1 r_taped r_rt (ad (2 + r_ni)))), (r_rt, .inl (cI, 60, .inl r_tape)), (qr 6, .inl (cI, 60, .inl u.2.2.2))]) (fun u => u.1) (cc := cX2_readsDenied) (maxL := 2) (ty := .boolean) (own := RX2) (by decide) rfl rfl (Nat.le_of_ble_eq_true rfl) rfl (fun p e s m args below meth c Q A hx hb hml hown hts hK hEv hA hret hP hD hS ls hl => ?_)
  have in2 : ∀ w ∈ wsX20, w ∈ wsX2_readsDenied := fun w h => List.mem_cons_of_mem _ (List.mem_append_right _ (h))
  unfold g2_readsDenied at h
  refine lv_aload_n hx hb dX2_readsDenied_0 rfl (lv_at hl 0 rfl) ?_
  refine lv_iload_n hx hb dX2_readsDenied_1 rfl (lv_at hl 1 rfl) ?_
  refine q_callW4 (cEok ad) (rest := []) (fun u => [(qr 0, .inr (2, oX2 qr u.2.1 u.2.2.1 r_taped r_rt (ad (2 + r_ni)))), (r_rt, .inl (cI, 60, .inl r_tape)), (qr 6, .inl (cI, 60, .inl u.2.2.2))]) (fun u => u.1) ⟨hx, hb, hml, hown, hts⟩ (fun u hu => H1 r_at r_coded r_taped r_tape r_code x1 u hu) (cwV 1 hts gX2_readsDenied_X2_readsInnermost rfl rfl rfl hdX2_readsInnermost (rmq_ok (by omega) (Nat.le_of_ble_eq_true rfl))) hK hEv hA hP hD hS [0, 1, 2] (by decide) rfl (fun _ => rfl) (va_recv hK hP (ci := 2) (q0 := 0) rfl rfl) rfl rfl hl.1 (Nat.le_of_ble_eq_true rfl) ⟨Nat.zero_le _, Nat.zero_le _⟩ h dX2_readsDenied_2 (fun t2 r_at_2 r_coded_2 r_code_2 H locs h hP hD hS => ?_)
  have hP : va_P D vwCl [(qr 0, .inr (2, oX2 qr r_at_2 r_coded_2 r_taped r_rt (ad (2 + r_ni)))), (r_rt, .inl (cI, 60, .inl r_tape)), (qr 6, .inl (cI, 60, .inl r_code_2))] H := hP
  have hD : va_D A [(qr 0, .inr (2, oX2 qr r_at_2 r_coded_2 r_taped r_rt (ad (2 + r_ni)))), (r_rt, .inl (cI, 60, .inl r_tape)), (qr 6, .inl (cI, 60, .inl r_code_2))] := hD
  refine q_ifne hx hb 10 h dX2_readsDenied_5 (by decide) (fun h => ?_) (fun h => ?_)
  · refine lv_aload_n hx hb dX2_readsDenied_10 rfl (lv_at hl 0 rfl) ?_
    refine lv_bipush (v := (-33 : Int32)) hx hb dX2_readsDenied_11 (by decide) ?_
    refine q_callV2 (cEok ad) (rest := []) (fun u => [(qr 0, .inr (2, oX2 qr r_at_2 u.1 r_taped r_rt (ad (2 + r_ni)))), (qr 6, .inl (cI, 60, .inl u.2))]) ⟨hx, hb, hml, hown, hts⟩ (fun u hu => c2_adds l D cI ad qr r_rt r_ni r_at_2 r_coded_2 r_taped r_code_2 ((-33 : Int32)) u hu) (cwV 1 hts gX2_readsDenied_X2_adds rfl rfl rfl hdX2_adds (rmq_ok (by omega) (Nat.le_of_ble_eq_true rfl))) hK hEv hA hP hD hS [0, 2] (by decide) rfl (fun _ => rfl) (va_recv hK hP (ci := 2) (q0 := 0) rfl rfl) rfl rfl hl.1 (Nat.le_of_ble_eq_true rfl) ⟨Nat.zero_le _, Nat.zero_le _⟩ h dX2_readsDenied_13 (fun r_coded_13 r_code_13 H locs h hP hD hS => ?_)
    have hP : va_P D vwCl [(qr 0, .inr (2, oX2 qr r_at_2 r_coded_13 r_taped r_rt (ad (2 + r_ni)))), (r_rt, .inl (cI, 60, .inl r_tape)), (qr 6, .inl (cI, 60, .inl r_code_13))] H := hP
    have hD : va_D A [(qr 0, .inr (2, oX2 qr r_at_2 r_coded_13 r_taped r_rt (ad (2 + r_ni)))), (r_rt, .inl (cI, 60, .inl r_tape)), (qr 6, .inl (cI, 60, .inl r_code_13))] := hD
    refine lv_iconst (v := (1 : Int32)) hx hb dX2_readsDenied_16 (by decide) ?_
    obtain ⟨hz, h⟩ := q_bz_of h
    exact hret ((1 : Int32), r_at_2, r_coded_13, r_code_13) _ _ _ _ (q_nz hz) h hP hD hS dX2_readsDenied_17
  · refine lv_iconst (v := (0 : Int32)) hx hb dX2_readsDenied_8 (by decide) ?_
    obtain ⟨hz, h⟩ := q_bz_of h
    exact hret ((0 : Int32), r_at_2, r_coded_2, r_code_2) _ _ _ _ (q_nz hz) h hP hD hS dX2_readsDenied_9
set_option maxHeartbeats 4000000 in
set_option maxRecDepth 100000 in
theorem c2_readsLevel (l : Launch) (D : va_G) (cI : ClassId) (ad : Nat → Nat) (qr : Nat → Nat) (r_rt r_ni : Nat) (n : Nat) (FS : Int32 → Int32 → Int32 → Int32 → Nat → (Nat → Int32) → (Nat → Int32) → Option (Int32 × Int32 × Int32 × (Nat → Int32))) (lv : Nat) (hlv : 8 ≤ lv) (H1 : ∀ (r_at r_coded r_taped : Int32) (r_tape r_code : Nat → Int32) (x1 : Int32) (u : Int32 × Int32 × Int32 × (Nat → Int32)), FS x1 r_at r_coded r_taped r_ni r_tape r_code = some u → q_RW (cE ad) l yX2_readsInnermost wsX2_readsInnermost (rmq (lv)) D cI [.ref (qr 0), .int x1] [(qr 0, .inr (2, oX2 qr r_at r_coded r_taped r_rt (ad (2 + r_ni)))), (r_rt, .inl (cI, 60, .inl r_tape)), (qr 6, .inl (cI, 60, .inl r_code))] [(qr 0, .inr (2, oX2 qr u.2.1 u.2.2.1 r_taped r_rt (ad (2 + r_ni)))), (r_rt, .inl (cI, 60, .inl r_tape)), (qr 6, .inl (cI, 60, .inl u.2.2.2))] u.1) : ∀ (d : Nat) (r_at r_coded r_taped : Int32) (r_tape r_code : Nat → Int32) (x1 : Int32) (x2 : Int32) (u : Int32 × Int32 × Int32 × (Nat → Int32)), g2_readsLevel n FS d x1 x2 r_at r_coded r_taped r_ni r_tape r_code = some u → q_RW (cE ad) l yX2_readsLevel wsX2_readsLevel (rmq (lv + d + 1)) D cI [.ref (qr 0), .int x1, .int x2] [(qr 0, .inr (2, oX2 qr r_at r_coded r_taped r_rt (ad (2 + r_ni)))), (r_rt, .inl (cI, 60, .inl r_tape)), (qr 6, .inl (cI, 60, .inl r_code))] [(qr 0, .inr (2, oX2 qr u.2.1 u.2.2.1 r_taped r_rt (ad (2 + r_ni)))), (r_rt, .inl (cI, 60, .inl r_tape)), (qr 6, .inl (cI, 60, .inl u.2.2.2))] u.1 := by
  intro d
  induction d with
  | zero => intro r_at r_coded r_taped r_tape r_code x1 x2 u h; exact nomatch (show (none : Option (Int32 × Int32 × Int32 × (Nat → Int32))) = some u from h)
  | succ d ih =>
    intro r_at r_coded r_taped r_tape r_code x1 x2 u h
    refine q_startW (fun u : Int32 × Int32 × Int32 × (Nat → Int32) => [(qr 0, .inr (2, oX2 qr u.2.1 u.2.2.1 r_taped r_rt (ad (2 + r_ni)))), (r_rt, .inl (cI, 60, .inl r_tape)), (qr 6, .inl (cI, 60, .inl u.2.2.2))]) (fun u => u.1) (cc := cX2_readsLevel) (maxL := 6) (ty := .boolean) (own := RX2) (by decide) rfl rfl (Nat.le_of_ble_eq_true rfl) rfl (fun p e s m args below meth c Q A hx hb hml hown hts hK hEv hA hret hP hD hS ls hl => ?_)
    have in2 : ∀ w ∈ wsX20, w ∈ wsX2_readsLevel := fun w h => List.mem_cons_of_mem _ (List.mem_append_right _ (h))
    have l24 := hts (.fieldLink RX2 24 "PageWars$Reader" "at" "I") (List.mem_of_getElem? (i := 1) rfl)
    have J95 : ∀ (r_at : Int32) (r_coded : Int32) (r_code : (Nat → Int32)) (H : Heap) (locs : List Loc) (ls : Array Slot), lv_has ls 6 [(0, .ref (qr 0))] → va_P D vwCl [(qr 0, .inr (2, oX2 qr r_at r_coded r_taped r_rt (ad (2 + r_ni)))), (r_rt, .inl (cI, 60, .inl r_tape)), (qr 6, .inl (cI, 60, .inl r_code))] H → va_D A [(qr 0, .inr (2, oX2 qr r_at r_coded r_taped r_rt (ad (2 + r_ni)))), (r_rt, .inl (cI, 60, .inl r_tape)), (qr 6, .inl (cI, 60, .inl r_code))] → va_S A s.heap H locs → g2_readsLevel_95 n FS (g2_readsLevel n FS d) r_taped r_ni r_tape r_at r_coded r_code = some u → W p l e (rmq (lv + d + 2)) s m args below meth c H locs 0 0 Q (F0 m 95 ls []) := by
      intro r_at r_coded r_code H locs ls hl hP hD hS h
      unfold g2_readsLevel_95 at h
      refine lv_iconst (v := (1 : Int32)) hx hb dX2_readsLevel_95 (by decide) ?_
      obtain ⟨hz, h⟩ := q_bz_of h
      exact hret ((1 : Int32), r_at, r_coded, r_code) _ _ _ _ (q_nz hz) h hP hD hS dX2_readsLevel_96
    have J39 : ∀ (kk39 : Nat) (x1 : Int32) (x2 : Int32) (x3 : Int32) (x4 : Int32) (r_at : Int32) (r_coded : Int32) (r_code : (Nat → Int32)) (H : Heap) (locs : List Loc) (ls : Array Slot), lv_has ls 6 [(0, .ref (qr 0)), (1, .int x1), (2, .int x2), (3, .int x3), (4, .int x4)] → va_P D vwCl [(qr 0, .inr (2, oX2 qr r_at r_coded r_taped r_rt (ad (2 + r_ni)))), (r_rt, .inl (cI, 60, .inl r_tape)), (qr 6, .inl (cI, 60, .inl r_code))] H → va_D A [(qr 0, .inr (2, oX2 qr r_at r_coded r_taped r_rt (ad (2 + r_ni)))), (r_rt, .inl (cI, 60, .inl r_tape)), (qr 6, .inl (cI, 60, .inl r_code))] → va_S A s.heap H locs → g2_readsLevel_39 n FS (g2_readsLevel n FS d) r_taped r_ni r_tape kk39 x1 x2 x3 x4 r_at r_coded r_code = some u → W p l e (rmq (lv + d + 2)) s m args below meth c H locs 0 0 Q (F0 m 39 ls []) := by
      intro kk39
      induction kk39 with
      | zero => intro x1 x2 x3 x4 r_at r_coded r_code H locs ls hl hP hD hS h; exact nomatch (show (none : Option (Int32 × Int32 × Int32 × (Nat → Int32))) = some u from h)
      | succ kk39 ih39 =>
        intro x1 x2 x3 x4 r_at r_coded r_code H locs ls hl hP hD hS h
        rw [g2_readsLevel_39.eq_2] at h
        refine lv_iload hx hb dX2_readsLevel_39 (lv_at hl 4 rfl) ?_
        refine lv_iload_n hx hb dX2_readsLevel_41 rfl (lv_at hl 3 rfl) ?_
        refine q_cge hx hb 95 h dX2_readsLevel_42 (by decide) (fun h => ?_) (fun h => ?_)
        · exact J95 r_at r_coded r_code _ _ _ (lv_sub hl [0] rfl) hP hD hS h
        · refine lv_aload_n hx hb dX2_readsLevel_45 rfl (lv_at hl 0 rfl) ?_
          refine lv_iload_n hx hb dX2_readsLevel_46 rfl (lv_at hl 1 rfl) ?_
          refine q_callR (cEok ad) (rest := []) ⟨hx, hb, hml, hown, hts⟩ (fun r hr => c2_isJoining l D cI ad qr r_rt r_ni r_at r_coded r_taped r_tape x1 r hr) (cwV 1 hts gX2_readsLevel_X2_isJoining rfl rfl rfl hdX2_isJoining (rmq_ok (by omega) (Nat.le_of_ble_eq_true rfl))) hK hP hEv hS [0, 1] rfl (va_recv hK hP (ci := 2) (q0 := 0) rfl rfl) rfl rfl hl.1 (Nat.le_of_ble_eq_true rfl) ⟨Nat.zero_le _, Nat.zero_le _⟩ h dX2_readsLevel_47 (fun t47 h => ?_)
          refine q_ifeq hx hb 95 h dX2_readsLevel_50 (by decide) (fun h => ?_) (fun h => ?_)
          · exact J95 r_at r_coded r_code _ _ _ (lv_sub hl [0] rfl) hP hD hS h
          · refine lv_aload_n hx hb dX2_readsLevel_53 rfl (lv_at hl 0 rfl) ?_
            refine q_callR (cEok ad) (rest := []) ⟨hx, hb, hml, hown, hts⟩ (fun r hr => c2_sign l D cI ad qr r_rt r_ni r_at r_coded r_taped r_tape r hr) (cwV 0 hts gX2_readsLevel_X2_sign rfl rfl rfl hdX2_sign (rmq_ok (by omega) (Nat.le_of_ble_eq_true rfl))) hK hP hEv hS [0, 1] rfl (va_recv hK hP (ci := 2) (q0 := 0) rfl rfl) rfl rfl hl.1 (Nat.le_of_ble_eq_true rfl) ⟨Nat.zero_le _, Nat.zero_le _⟩ h dX2_readsLevel_54 (fun t54 h => ?_)
            refine lv_istore (lv' := [(5, .int t54), (0, .ref (qr 0)), (1, .int x1), (2, .int x2), (3, .int x3), (4, .int x4)]) hx hb dX2_readsLevel_57 hl (by decide) rfl (fun ls hl => ?_)
            refine lv_aload_n hx hb dX2_readsLevel_59 rfl (lv_at hl 1 rfl) ?_
            refine lv_dup hx hb dX2_readsLevel_60 rfl ?_
            refine va_get (D := D) (ci := 2) (v := .int r_at) (C := RX2) (T := TX2) (N := 6) hx hb hts in2 hown hK hP 0 rfl rfl 0 (by decide) l24 (fun _ h9 => h9) rfl dX2_readsLevel_61 ?_
            refine lv_iconst (v := (1 : Int32)) hx hb dX2_readsLevel_64 (by decide) ?_
            refine lv_iadd hx hb dX2_readsLevel_65 ?_
            refine q_let h (fun r_at_66 h => ?_)
            refine va_put (D := D) (ci := 2) (v := .int r_at_66) (ty := .int) (C := RX2) (T := TX2) (N := 6) hx hb hts in2 tyX2 tyX2_ok nmX2 hown hK hP hD hS 0 rfl rfl 0 (by decide) l24 (fun _ h9 => h9) rfl (by decide +kernel) rfl rfl (Nat.le_of_ble_eq_true rfl) dX2_readsLevel_66 (fun H locs hP hD hS => ?_)
            have hP : va_P D vwCl [(qr 0, .inr (2, oX2 qr r_at_66 r_coded r_taped r_rt (ad (2 + r_ni)))), (r_rt, .inl (cI, 60, .inl r_tape)), (qr 6, .inl (cI, 60, .inl r_code))] H := hP
            have hD : va_D A [(qr 0, .inr (2, oX2 qr r_at_66 r_coded r_taped r_rt (ad (2 + r_ni)))), (r_rt, .inl (cI, 60, .inl r_tape)), (qr 6, .inl (cI, 60, .inl r_code))] := hD
            refine lv_aload_n hx hb dX2_readsLevel_69 rfl (lv_at hl 1 rfl) ?_
            refine lv_iload_n hx hb dX2_readsLevel_70 rfl (lv_at hl 2 rfl) ?_
            refine lv_iconst (v := (1 : Int32)) hx hb dX2_readsLevel_71 (by decide) ?_
            refine lv_iadd hx hb dX2_readsLevel_72 ?_
            refine lv_iload_n hx hb dX2_readsLevel_73 rfl (lv_at hl 3 rfl) ?_
            refine q_callW4 (cEok ad) (rest := []) (fun u => [(qr 0, .inr (2, oX2 qr u.2.1 u.2.2.1 r_taped r_rt (ad (2 + r_ni)))), (r_rt, .inl (cI, 60, .inl r_tape)), (qr 6, .inl (cI, 60, .inl u.2.2.2))]) (fun u => u.1) ⟨hx, hb, hml, hown, hts⟩ (fun u hu => ih r_at_66 r_coded r_taped r_tape r_code (x1 + ((1 : Int32))) x2 u hu) (cwV 2 hts gX2_readsLevel_X2_readsLevel rfl rfl rfl hdX2_readsLevel (rmq_ok (by omega) (Nat.le_of_ble_eq_true rfl))) hK hEv hA hP hD hS [0, 1, 2] (by decide) rfl (fun _ => rfl) (va_recv hK hP (ci := 2) (q0 := 0) rfl rfl) rfl rfl hl.1 (Nat.le_of_ble_eq_true rfl) ⟨Nat.zero_le _, Nat.zero_le _⟩ h dX2_readsLevel_74 (fun t74 r_at_74 r_coded_74 r_code_74 H locs h hP hD hS => ?_)
            have hP : va_P D vwCl [(qr 0, .inr (2, oX2 qr r_at_74 r_coded_74 r_taped r_rt (ad (2 + r_ni)))), (r_rt, .inl (cI, 60, .inl r_tape)), (qr 6, .inl (cI, 60, .inl r_code_74))] H := hP
            have hD : va_D A [(qr 0, .inr (2, oX2 qr r_at_74 r_coded_74 r_taped r_rt (ad (2 + r_ni)))), (r_rt, .inl (cI, 60, .inl r_tape)), (qr 6, .inl (cI, 60, .inl r_code_74))] := hD
            refine q_ifne hx hb 82 h dX2_readsLevel_77 (by decide) (fun h => ?_) (fun h => ?_)
            · refine lv_aload_n hx hb dX2_readsLevel_82 rfl (lv_at hl 1 rfl) ?_
              refine lv_iload hx hb dX2_readsLevel_83 (lv_at hl 0 rfl) ?_
              refine lv_ineg hx hb dX2_readsLevel_85 ?_
              refine q_callV2 (cEok ad) (rest := []) (fun u => [(qr 0, .inr (2, oX2 qr r_at_74 u.1 r_taped r_rt (ad (2 + r_ni)))), (qr 6, .inl (cI, 60, .inl u.2))]) ⟨hx, hb, hml, hown, hts⟩ (fun u hu => c2_adds l D cI ad qr r_rt r_ni r_at_74 r_coded_74 r_taped r_code_74 (-t54) u hu) (cwV 1 hts gX2_readsLevel_X2_adds rfl rfl rfl hdX2_adds (rmq_ok (by omega) (Nat.le_of_ble_eq_true rfl))) hK hEv hA hP hD hS [0, 2] (by decide) rfl (fun _ => rfl) (va_recv hK hP (ci := 2) (q0 := 0) rfl rfl) rfl rfl hl.1 (Nat.le_of_ble_eq_true rfl) ⟨Nat.zero_le _, Nat.zero_le _⟩ h dX2_readsLevel_86 (fun r_coded_86 r_code_86 H locs h hP hD hS => ?_)
              have hP : va_P D vwCl [(qr 0, .inr (2, oX2 qr r_at_74 r_coded_86 r_taped r_rt (ad (2 + r_ni)))), (r_rt, .inl (cI, 60, .inl r_tape)), (qr 6, .inl (cI, 60, .inl r_code_86))] H := hP
              have hD : va_D A [(qr 0, .inr (2, oX2 qr r_at_74 r_coded_86 r_taped r_rt (ad (2 + r_ni)))), (r_rt, .inl (cI, 60, .inl r_tape)), (qr 6, .inl (cI, 60, .inl r_code_86))] := hD
              refine q_iinc (fun v => [(4, .int v), (5, .int t54), (0, .ref (qr 0)), (1, .int x1), (2, .int x2), (3, .int x3)]) hx hb h dX2_readsLevel_89 (by decide) hl (k := 5) rfl (by decide) (fun _ => rfl) (fun x4_89 ls h hl => ?_)
              refine lv_goto (tgt := 39) hx hb dX2_readsLevel_92 (by decide) ?_
              exact ih39 x1 x2 x3 x4_89 r_at_74 r_coded_86 r_code_86 _ _ _ (lv_sub hl [2, 3, 4, 5, 0] rfl) hP hD hS h
            · refine lv_iconst (v := (0 : Int32)) hx hb dX2_readsLevel_80 (by decide) ?_
              obtain ⟨hz, h⟩ := q_bz_of h
              exact hret ((0 : Int32), r_at_74, r_coded_74, r_code_74) _ _ _ _ (q_nz hz) h hP hD hS dX2_readsLevel_81
    have J35 : ∀ (x1 : Int32) (x2 : Int32) (s0 : Int32) (r_at : Int32) (r_coded : Int32) (r_code : (Nat → Int32)) (H : Heap) (locs : List Loc) (ls : Array Slot), lv_has ls 6 [(0, .ref (qr 0)), (1, .int x1), (2, .int x2)] → va_P D vwCl [(qr 0, .inr (2, oX2 qr r_at r_coded r_taped r_rt (ad (2 + r_ni)))), (r_rt, .inl (cI, 60, .inl r_tape)), (qr 6, .inl (cI, 60, .inl r_code))] H → va_D A [(qr 0, .inr (2, oX2 qr r_at r_coded r_taped r_rt (ad (2 + r_ni)))), (r_rt, .inl (cI, 60, .inl r_tape)), (qr 6, .inl (cI, 60, .inl r_code))] → va_S A s.heap H locs → g2_readsLevel_35 n FS (g2_readsLevel n FS d) r_taped r_ni r_tape x1 x2 s0 r_at r_coded r_code = some u → W p l e (rmq (lv + d + 2)) s m args below meth c H locs 0 0 Q (F0 m 35 ls [.int s0]) := by
      intro x1 x2 s0 r_at r_coded r_code H locs ls hl hP hD hS h
      unfold g2_readsLevel_35 at h
      refine lv_istore_n (lv' := [(3, .int s0), (0, .ref (qr 0)), (1, .int x1), (2, .int x2)]) hx hb dX2_readsLevel_35 rfl hl (by decide) rfl (fun ls hl => ?_)
      refine lv_iconst (v := (0 : Int32)) hx hb dX2_readsLevel_36 (by decide) ?_
      refine lv_istore (lv' := [(4, .int ((0 : Int32))), (3, .int s0), (0, .ref (qr 0)), (1, .int x1), (2, .int x2)]) hx hb dX2_readsLevel_37 hl (by decide) rfl (fun ls hl => ?_)
      exact J39 n x1 x2 s0 ((0 : Int32)) r_at r_coded r_code _ _ _ (lv_sub hl [2, 3, 4, 1, 0] rfl) hP hD hS h
    rw [g2_readsLevel.eq_2] at h
    refine lv_iload_n hx hb dX2_readsLevel_0 rfl (lv_at hl 1 rfl) ?_
    refine lv_iconst (v := (5 : Int32)) hx hb dX2_readsLevel_1 (by decide) ?_
    refine q_clt hx hb 11 h dX2_readsLevel_2 (by decide) (fun h => ?_) (fun h => ?_)
    · refine lv_aload_n hx hb dX2_readsLevel_11 rfl (lv_at hl 0 rfl) ?_
      refine lv_iload_n hx hb dX2_readsLevel_12 rfl (lv_at hl 1 rfl) ?_
      refine lv_iconst (v := (1 : Int32)) hx hb dX2_readsLevel_13 (by decide) ?_
      refine lv_iadd hx hb dX2_readsLevel_14 ?_
      refine lv_iload_n hx hb dX2_readsLevel_15 rfl (lv_at hl 2 rfl) ?_
      refine q_callW4 (cEok ad) (rest := []) (fun u => [(qr 0, .inr (2, oX2 qr u.2.1 u.2.2.1 r_taped r_rt (ad (2 + r_ni)))), (r_rt, .inl (cI, 60, .inl r_tape)), (qr 6, .inl (cI, 60, .inl u.2.2.2))]) (fun u => u.1) ⟨hx, hb, hml, hown, hts⟩ (fun u hu => ih r_at r_coded r_taped r_tape r_code (x1 + ((1 : Int32))) x2 u hu) (cwV 2 hts gX2_readsLevel_X2_readsLevel rfl rfl rfl hdX2_readsLevel (rmq_ok (by omega) (Nat.le_of_ble_eq_true rfl))) hK hEv hA hP hD hS [0, 1, 2] (by decide) rfl (fun _ => rfl) (va_recv hK hP (ci := 2) (q0 := 0) rfl rfl) rfl rfl hl.1 (Nat.le_of_ble_eq_true rfl) ⟨Nat.zero_le _, Nat.zero_le _⟩ h dX2_readsLevel_16 (fun t16 r_at_16 r_coded_16 r_code_16 H locs h hP hD hS => ?_)
      have hP : va_P D vwCl [(qr 0, .inr (2, oX2 qr r_at_16 r_coded_16 r_taped r_rt (ad (2 + r_ni)))), (r_rt, .inl (cI, 60, .inl r_tape)), (qr 6, .inl (cI, 60, .inl r_code_16))] H := hP
      have hD : va_D A [(qr 0, .inr (2, oX2 qr r_at_16 r_coded_16 r_taped r_rt (ad (2 + r_ni)))), (r_rt, .inl (cI, 60, .inl r_tape)), (qr 6, .inl (cI, 60, .inl r_code_16))] := hD
      refine q_ifne hx hb 24 h dX2_readsLevel_19 (by decide) (fun h => ?_) (fun h => ?_)
      · refine lv_iload_n hx hb dX2_readsLevel_24 rfl (lv_at hl 1 rfl) ?_
        refine lv_iconst (v := (2 : Int32)) hx hb dX2_readsLevel_25 (by decide) ?_
        refine q_cne hx hb 33 h dX2_readsLevel_26 (by decide) (fun h => ?_) (fun h => ?_)
        · refine lv_bipush (v := (60 : Int32)) hx hb dX2_readsLevel_33 (by decide) ?_
          exact J35 x1 x2 ((60 : Int32)) r_at_16 r_coded_16 r_code_16 _ _ _ (lv_sub hl [0, 1, 2] rfl) hP hD hS h
        · refine lv_iconst (v := (1 : Int32)) hx hb dX2_readsLevel_29 (by decide) ?_
          refine lv_goto (tgt := 35) hx hb dX2_readsLevel_30 (by decide) ?_
          exact J35 x1 x2 ((1 : Int32)) r_at_16 r_coded_16 r_code_16 _ _ _ (lv_sub hl [0, 1, 2] rfl) hP hD hS h
      · refine lv_iconst (v := (0 : Int32)) hx hb dX2_readsLevel_22 (by decide) ?_
        obtain ⟨hz, h⟩ := q_bz_of h
        exact hret ((0 : Int32), r_at_16, r_coded_16, r_code_16) _ _ _ _ (q_nz hz) h hP hD hS dX2_readsLevel_23
    · refine lv_aload_n hx hb dX2_readsLevel_5 rfl (lv_at hl 0 rfl) ?_
      refine lv_iload_n hx hb dX2_readsLevel_6 rfl (lv_at hl 2 rfl) ?_
      refine q_callW4 (cEok ad) (rest := []) (fun u => [(qr 0, .inr (2, oX2 qr u.2.1 u.2.2.1 r_taped r_rt (ad (2 + r_ni)))), (r_rt, .inl (cI, 60, .inl r_tape)), (qr 6, .inl (cI, 60, .inl u.2.2.2))]) (fun u => u.1) ⟨hx, hb, hml, hown, hts⟩ (fun u hu => H1 r_at r_coded r_taped r_tape r_code x2 u hu) (cwV 1 hts gX2_readsLevel_X2_readsInnermost rfl rfl rfl hdX2_readsInnermost (rmq_ok (by omega) (Nat.le_of_ble_eq_true rfl))) hK hEv hA hP hD hS [0, 1, 2] (by decide) rfl (fun _ => rfl) (va_recv hK hP (ci := 2) (q0 := 0) rfl rfl) rfl rfl hl.1 (Nat.le_of_ble_eq_true rfl) ⟨Nat.zero_le _, Nat.zero_le _⟩ h dX2_readsLevel_7 (fun t7 r_at_7 r_coded_7 r_code_7 H locs h hP hD hS => ?_)
      have hP : va_P D vwCl [(qr 0, .inr (2, oX2 qr r_at_7 r_coded_7 r_taped r_rt (ad (2 + r_ni)))), (r_rt, .inl (cI, 60, .inl r_tape)), (qr 6, .inl (cI, 60, .inl r_code_7))] H := hP
      have hD : va_D A [(qr 0, .inr (2, oX2 qr r_at_7 r_coded_7 r_taped r_rt (ad (2 + r_ni)))), (r_rt, .inl (cI, 60, .inl r_tape)), (qr 6, .inl (cI, 60, .inl r_code_7))] := hD
      obtain ⟨hz, h⟩ := q_bz_of h
      exact hret (t7, r_at_7, r_coded_7, r_code_7) _ _ _ _ (q_nz hz) h hP hD hS dX2_readsLevel_10
set_option maxHeartbeats 4000000 in
set_option maxRecDepth 100000 in
theorem c2_readsInside (l : Launch) (D : va_G) (cI : ClassId) (ad : Nat → Nat) (qr : Nat → Nat) (r_rt r_ni : Nat) (n : Nat) (FS : Int32 → Int32 → Int32 → Int32 → Nat → (Nat → Int32) → (Nat → Int32) → Option (Int32 × Int32 × Int32 × (Nat → Int32))) (lv : Nat) (hlv : 8 ≤ lv) (H1 : ∀ (r_at r_coded r_taped : Int32) (r_tape r_code : Nat → Int32) (x1 : Int32) (u : Int32 × Int32 × Int32 × (Nat → Int32)), FS x1 r_at r_coded r_taped r_ni r_tape r_code = some u → q_RW (cE ad) l yX2_readsInnermost wsX2_readsInnermost (rmq (lv)) D cI [.ref (qr 0), .int x1] [(qr 0, .inr (2, oX2 qr r_at r_coded r_taped r_rt (ad (2 + r_ni)))), (r_rt, .inl (cI, 60, .inl r_tape)), (qr 6, .inl (cI, 60, .inl r_code))] [(qr 0, .inr (2, oX2 qr u.2.1 u.2.2.1 r_taped r_rt (ad (2 + r_ni)))), (r_rt, .inl (cI, 60, .inl r_tape)), (qr 6, .inl (cI, 60, .inl u.2.2.2))] u.1) (r_at r_coded r_taped : Int32) (r_tape r_code : Nat → Int32) (x1 : Int32) (u : Int32 × Int32 × Int32 × (Nat → Int32)) (h : g2_readsInside n FS x1 r_at r_coded r_taped r_ni r_tape r_code = some u) : q_RW (cE ad) l yX2_readsInside wsX2_readsInside (rmq (lv + 10)) D cI [.ref (qr 0), .int x1] [(qr 0, .inr (2, oX2 qr r_at r_coded r_taped r_rt (ad (2 + r_ni)))), (r_rt, .inl (cI, 60, .inl r_tape)), (qr 6, .inl (cI, 60, .inl r_code))] [(qr 0, .inr (2, oX2 qr u.2.1 u.2.2.1 r_taped r_rt (ad (2 + r_ni)))), (r_rt, .inl (cI, 60, .inl r_tape)), (qr 6, .inl (cI, 60, .inl u.2.2.2))] u.1 := by
  refine q_startW (fun u : Int32 × Int32 × Int32 × (Nat → Int32) => [(qr 0, .inr (2, oX2 qr u.2.1 u.2.2.1 r_taped r_rt (ad (2 + r_ni)))), (r_rt, .inl (cI, 60, .inl r_tape)), (qr 6, .inl (cI, 60, .inl u.2.2.2))]) (fun u => u.1) (cc := cX2_readsInside) (maxL := 2) (ty := .boolean) (own := RX2) (by decide) rfl rfl (Nat.le_of_ble_eq_true rfl) rfl (fun p e s m args below meth c Q A hx hb hml hown hts hK hEv hA hret hP hD hS ls hl => ?_)
  have in2 : ∀ w ∈ wsX20, w ∈ wsX2_readsInside := fun w h => List.mem_cons_of_mem _ (List.mem_append_right _ (h))
  have l24 := hts (.fieldLink RX2 24 "PageWars$Reader" "at" "I") (List.mem_of_getElem? (i := 1) rfl)
  have J18 : ∀ (r_at : Int32) (r_coded : Int32) (r_code : (Nat → Int32)) (H : Heap) (locs : List Loc) (ls : Array Slot), lv_has ls 2 [(0, .ref (qr 0))] → va_P D vwCl [(qr 0, .inr (2, oX2 qr r_at r_coded r_taped r_rt (ad (2 + r_ni)))), (r_rt, .inl (cI, 60, .inl r_tape)), (qr 6, .inl (cI, 60, .inl r_code))] H → va_D A [(qr 0, .inr (2, oX2 qr r_at r_coded r_taped r_rt (ad (2 + r_ni)))), (r_rt, .inl (cI, 60, .inl r_tape)), (qr 6, .inl (cI, 60, .inl r_code))] → va_S A s.heap H locs → g2_readsInside_18 n FS r_taped r_ni r_tape r_at r_coded r_code = some u → W p l e (rmq (lv + 10)) s m args below meth c H locs 0 0 Q (F0 m 18 ls []) := by
    intro r_at r_coded r_code H locs ls hl hP hD hS h
    unfold g2_readsInside_18 at h
    refine lv_iconst (v := (0 : Int32)) hx hb dX2_readsInside_18 (by decide) ?_
    obtain ⟨hz, h⟩ := q_bz_of h
    exact hret ((0 : Int32), r_at, r_coded, r_code) _ _ _ _ (q_nz hz) h hP hD hS dX2_readsInside_19
  unfold g2_readsInside at h
  refine lv_aload_n hx hb dX2_readsInside_0 rfl (lv_at hl 0 rfl) ?_
  refine lv_iconst (v := (0 : Int32)) hx hb dX2_readsInside_1 (by decide) ?_
  refine lv_iload_n hx hb dX2_readsInside_2 rfl (lv_at hl 1 rfl) ?_
  refine q_callW4 (cEok ad) (rest := []) (fun u => [(qr 0, .inr (2, oX2 qr u.2.1 u.2.2.1 r_taped r_rt (ad (2 + r_ni)))), (r_rt, .inl (cI, 60, .inl r_tape)), (qr 6, .inl (cI, 60, .inl u.2.2.2))]) (fun u => u.1) ⟨hx, hb, hml, hown, hts⟩ (fun u hu => c2_readsLevel l D cI ad qr r_rt r_ni n FS lv hlv H1 8 r_at r_coded r_taped r_tape r_code ((0 : Int32)) x1 u hu) (cwV 2 hts gX2_readsInside_X2_readsLevel rfl rfl rfl hdX2_readsLevel (rmq_ok (by omega) (Nat.le_of_ble_eq_true rfl))) hK hEv hA hP hD hS [0, 1, 2] (by decide) rfl (fun _ => rfl) (va_recv hK hP (ci := 2) (q0 := 0) rfl rfl) rfl rfl hl.1 (Nat.le_of_ble_eq_true rfl) ⟨Nat.zero_le _, Nat.zero_le _⟩ h dX2_readsInside_3 (fun t3 r_at_3 r_coded_3 r_code_3 H locs h hP hD hS => ?_)
  have hP : va_P D vwCl [(qr 0, .inr (2, oX2 qr r_at_3 r_coded_3 r_taped r_rt (ad (2 + r_ni)))), (r_rt, .inl (cI, 60, .inl r_tape)), (qr 6, .inl (cI, 60, .inl r_code_3))] H := hP
  have hD : va_D A [(qr 0, .inr (2, oX2 qr r_at_3 r_coded_3 r_taped r_rt (ad (2 + r_ni)))), (r_rt, .inl (cI, 60, .inl r_tape)), (qr 6, .inl (cI, 60, .inl r_code_3))] := hD
  refine q_ifeq hx hb 18 h dX2_readsInside_6 (by decide) (fun h => ?_) (fun h => ?_)
  · exact J18 r_at_3 r_coded_3 r_code_3 _ _ _ (lv_sub hl [0] rfl) hP hD hS h
  · refine lv_aload_n hx hb dX2_readsInside_9 rfl (lv_at hl 0 rfl) ?_
    refine q_callR (cEok ad) (rest := []) ⟨hx, hb, hml, hown, hts⟩ (fun r hr => c2_sign l D cI ad qr r_rt r_ni r_at_3 r_coded_3 r_taped r_tape r hr) (cwV 0 hts gX2_readsInside_X2_sign rfl rfl rfl hdX2_sign (rmq_ok (by omega) (Nat.le_of_ble_eq_true rfl))) hK hP hEv hS [0, 1] rfl (va_recv hK hP (ci := 2) (q0 := 0) rfl rfl) rfl rfl hl.1 (Nat.le_of_ble_eq_true rfl) ⟨Nat.zero_le _, Nat.zero_le _⟩ h dX2_readsInside_10 (fun t10 h => ?_)
    refine lv_bipush (v := (41 : Int32)) hx hb dX2_readsInside_13 (by decide) ?_
    refine q_ceq hx hb 20 h dX2_readsInside_15 (by decide) (fun h => ?_) (fun h => ?_)
    · refine lv_aload_n hx hb dX2_readsInside_20 rfl (lv_at hl 0 rfl) ?_
      refine lv_dup hx hb dX2_readsInside_21 rfl ?_
      refine va_get (D := D) (ci := 2) (v := .int r_at_3) (C := RX2) (T := TX2) (N := 6) hx hb hts in2 hown hK hP 0 rfl rfl 0 (by decide) l24 (fun _ h9 => h9) rfl dX2_readsInside_22 ?_
      refine lv_iconst (v := (1 : Int32)) hx hb dX2_readsInside_25 (by decide) ?_
      refine lv_iadd hx hb dX2_readsInside_26 ?_
      refine q_let h (fun r_at_27 h => ?_)
      refine va_put (D := D) (ci := 2) (v := .int r_at_27) (ty := .int) (C := RX2) (T := TX2) (N := 6) hx hb hts in2 tyX2 tyX2_ok nmX2 hown hK hP hD hS 0 rfl rfl 0 (by decide) l24 (fun _ h9 => h9) rfl (by decide +kernel) rfl rfl (Nat.le_of_ble_eq_true rfl) dX2_readsInside_27 (fun H locs hP hD hS => ?_)
      have hP : va_P D vwCl [(qr 0, .inr (2, oX2 qr r_at_27 r_coded_3 r_taped r_rt (ad (2 + r_ni)))), (r_rt, .inl (cI, 60, .inl r_tape)), (qr 6, .inl (cI, 60, .inl r_code_3))] H := hP
      have hD : va_D A [(qr 0, .inr (2, oX2 qr r_at_27 r_coded_3 r_taped r_rt (ad (2 + r_ni)))), (r_rt, .inl (cI, 60, .inl r_tape)), (qr 6, .inl (cI, 60, .inl r_code_3))] := hD
      refine lv_iconst (v := (1 : Int32)) hx hb dX2_readsInside_30 (by decide) ?_
      obtain ⟨hz, h⟩ := q_bz_of h
      exact hret ((1 : Int32), r_at_27, r_coded_3, r_code_3) _ _ _ _ (q_nz hz) h hP hD hS dX2_readsInside_31
    · exact J18 r_at_3 r_coded_3 r_code_3 _ _ _ (lv_sub hl [0] rfl) hP hD hS h
set_option maxHeartbeats 4000000 in
set_option maxRecDepth 100000 in
theorem c2_readsInnermost (l : Launch) (D : va_G) (cI : ClassId) (ad : Nat → Nat) (qr : Nat → Nat) (r_rt r_ni : Nat) (n : Nat) : ∀ (d : Nat) (r_at r_coded r_taped : Int32) (r_tape r_code : Nat → Int32) (x1 : Int32) (u : Int32 × Int32 × Int32 × (Nat → Int32)), f2_readsInnermost n d x1 r_at r_coded r_taped r_ni r_tape r_code = some u → q_RW (cE ad) l yX2_readsInnermost wsX2_readsInnermost (rmq (11 * (d) + 8)) D cI [.ref (qr 0), .int x1] [(qr 0, .inr (2, oX2 qr r_at r_coded r_taped r_rt (ad (2 + r_ni)))), (r_rt, .inl (cI, 60, .inl r_tape)), (qr 6, .inl (cI, 60, .inl r_code))] [(qr 0, .inr (2, oX2 qr u.2.1 u.2.2.1 r_taped r_rt (ad (2 + r_ni)))), (r_rt, .inl (cI, 60, .inl r_tape)), (qr 6, .inl (cI, 60, .inl u.2.2.2))] u.1 := by
  intro d
  induction d with
  | zero => intro r_at r_coded r_taped r_tape r_code x1 u h; exact nomatch (show (none : Option (Int32 × Int32 × Int32 × (Nat → Int32))) = some u from h)
  | succ d ih =>
    intro r_at r_coded r_taped r_tape r_code x1 u h
    refine q_startW (fun u : Int32 × Int32 × Int32 × (Nat → Int32) => [(qr 0, .inr (2, oX2 qr u.2.1 u.2.2.1 r_taped r_rt (ad (2 + r_ni)))), (r_rt, .inl (cI, 60, .inl r_tape)), (qr 6, .inl (cI, 60, .inl u.2.2.2))]) (fun u => u.1) (cc := cX2_readsInnermost) (maxL := 4) (ty := .boolean) (own := RX2) (by decide) rfl rfl (Nat.le_of_ble_eq_true rfl) rfl (fun p e s m args below meth c Q A hx hb hml hown hts hK hEv hA hret hP hD hS ls hl => ?_)
    have in2 : ∀ w ∈ wsX20, w ∈ wsX2_readsInnermost := fun w h => List.mem_cons_of_mem _ (List.mem_append_right _ (h))
    have l17 := hts (.fieldLink RX2 17 "PageWars$Reader" "names" "Ljava/lang/String;") (List.mem_of_getElem? (i := 1) rfl)
    have l24 := hts (.fieldLink RX2 24 "PageWars$Reader" "at" "I") (List.mem_of_getElem? (i := 2) rfl)
    have J111 : ∀ (s0 : Int32) (r_at : Int32) (r_coded : Int32) (r_code : (Nat → Int32)) (H : Heap) (locs : List Loc) (ls : Array Slot), lv_has ls 4 [(0, .ref (qr 0))] → va_P D vwCl [(qr 0, .inr (2, oX2 qr r_at r_coded r_taped r_rt (ad (2 + r_ni)))), (r_rt, .inl (cI, 60, .inl r_tape)), (qr 6, .inl (cI, 60, .inl r_code))] H → va_D A [(qr 0, .inr (2, oX2 qr r_at r_coded r_taped r_rt (ad (2 + r_ni)))), (r_rt, .inl (cI, 60, .inl r_tape)), (qr 6, .inl (cI, 60, .inl r_code))] → va_S A s.heap H locs → f2_readsInnermost_111 n (f2_readsInnermost n d) r_taped r_ni r_tape s0 r_at r_coded r_code = some u → W p l e (rmq (11 * (d + 1) + 8)) s m args below meth c H locs 0 0 Q (F0 m 111 ls [.int s0]) := by
      intro s0 r_at r_coded r_code H locs ls hl hP hD hS h
      unfold f2_readsInnermost_111 at h
      obtain ⟨hz, h⟩ := q_bz_of h
      exact hret (s0, r_at, r_coded, r_code) _ _ _ _ (q_nz hz) h hP hD hS dX2_readsInnermost_111
    have J78 : ∀ (x1 : Int32) (x2 : Int32) (r_at : Int32) (r_coded : Int32) (r_code : (Nat → Int32)) (H : Heap) (locs : List Loc) (ls : Array Slot), lv_has ls 4 [(0, .ref (qr 0)), (1, .int x1), (2, .int x2)] → va_P D vwCl [(qr 0, .inr (2, oX2 qr r_at r_coded r_taped r_rt (ad (2 + r_ni)))), (r_rt, .inl (cI, 60, .inl r_tape)), (qr 6, .inl (cI, 60, .inl r_code))] H → va_D A [(qr 0, .inr (2, oX2 qr r_at r_coded r_taped r_rt (ad (2 + r_ni)))), (r_rt, .inl (cI, 60, .inl r_tape)), (qr 6, .inl (cI, 60, .inl r_code))] → va_S A s.heap H locs → f2_readsInnermost_78 n (f2_readsInnermost n d) r_taped r_ni r_tape x1 x2 r_at r_coded r_code = some u → W p l e (rmq (11 * (d + 1) + 8)) s m args below meth c H locs 0 0 Q (F0 m 78 ls []) := by
      intro x1 x2 r_at r_coded r_code H locs ls hl hP hD hS h
      unfold f2_readsInnermost_78 at h
      refine lv_aload_n hx hb dX2_readsInnermost_78 rfl (lv_at hl 0 rfl) ?_
      refine lv_dup hx hb dX2_readsInnermost_79 rfl ?_
      refine va_get (D := D) (ci := 2) (v := .int r_at) (C := RX2) (T := TX2) (N := 6) hx hb hts in2 hown hK hP 0 rfl rfl 0 (by decide) l24 (fun _ h9 => h9) rfl dX2_readsInnermost_80 ?_
      refine lv_iconst (v := (1 : Int32)) hx hb dX2_readsInnermost_83 (by decide) ?_
      refine lv_iadd hx hb dX2_readsInnermost_84 ?_
      refine q_let h (fun r_at_85 h => ?_)
      refine va_put (D := D) (ci := 2) (v := .int r_at_85) (ty := .int) (C := RX2) (T := TX2) (N := 6) hx hb hts in2 tyX2 tyX2_ok nmX2 hown hK hP hD hS 0 rfl rfl 0 (by decide) l24 (fun _ h9 => h9) rfl (by decide +kernel) rfl rfl (Nat.le_of_ble_eq_true rfl) dX2_readsInnermost_85 (fun H locs hP hD hS => ?_)
      have hP : va_P D vwCl [(qr 0, .inr (2, oX2 qr r_at_85 r_coded r_taped r_rt (ad (2 + r_ni)))), (r_rt, .inl (cI, 60, .inl r_tape)), (qr 6, .inl (cI, 60, .inl r_code))] H := hP
      have hD : va_D A [(qr 0, .inr (2, oX2 qr r_at_85 r_coded r_taped r_rt (ad (2 + r_ni)))), (r_rt, .inl (cI, 60, .inl r_tape)), (qr 6, .inl (cI, 60, .inl r_code))] := hD
      refine lv_iload_n hx hb dX2_readsInnermost_88 rfl (lv_at hl 2 rfl) ?_
      refine lv_bipush (v := (33 : Int32)) hx hb dX2_readsInnermost_89 (by decide) ?_
      refine q_cne hx hb 104 h dX2_readsInnermost_91 (by decide) (fun h => ?_) (fun h => ?_)
      · refine lv_aload_n hx hb dX2_readsInnermost_104 rfl (lv_at hl 0 rfl) ?_
        refine lv_iload_n hx hb dX2_readsInnermost_105 rfl (lv_at hl 1 rfl) ?_
        refine lv_iconst (v := (1 : Int32)) hx hb dX2_readsInnermost_106 (by decide) ?_
        refine lv_iadd hx hb dX2_readsInnermost_107 ?_
        refine q_callW4 (cEok ad) (rest := []) (fun u => [(qr 0, .inr (2, oX2 qr u.2.1 u.2.2.1 r_taped r_rt (ad (2 + r_ni)))), (r_rt, .inl (cI, 60, .inl r_tape)), (qr 6, .inl (cI, 60, .inl u.2.2.2))]) (fun u => u.1) ⟨hx, hb, hml, hown, hts⟩ (fun u hu => c2_readsInside l D cI ad qr r_rt r_ni n (f2_readsInnermost n d) (11 * d + 8) (by omega) ih r_at_85 r_coded r_taped r_tape r_code (x1 + ((1 : Int32))) u hu) (cwV 1 hts gX2_readsInnermost_X2_readsInside rfl rfl rfl hdX2_readsInside (rmq_ok (by omega) (Nat.le_of_ble_eq_true rfl))) hK hEv hA hP hD hS [0, 1, 2] (by decide) rfl (fun _ => rfl) (va_recv hK hP (ci := 2) (q0 := 0) rfl rfl) rfl rfl hl.1 (Nat.le_of_ble_eq_true rfl) ⟨Nat.zero_le _, Nat.zero_le _⟩ h dX2_readsInnermost_108 (fun t108 r_at_108 r_coded_108 r_code_108 H locs h hP hD hS => ?_)
        have hP : va_P D vwCl [(qr 0, .inr (2, oX2 qr r_at_108 r_coded_108 r_taped r_rt (ad (2 + r_ni)))), (r_rt, .inl (cI, 60, .inl r_tape)), (qr 6, .inl (cI, 60, .inl r_code_108))] H := hP
        have hD : va_D A [(qr 0, .inr (2, oX2 qr r_at_108 r_coded_108 r_taped r_rt (ad (2 + r_ni)))), (r_rt, .inl (cI, 60, .inl r_tape)), (qr 6, .inl (cI, 60, .inl r_code_108))] := hD
        exact J111 t108 r_at_108 r_coded_108 r_code_108 _ _ _ (lv_sub hl [0] rfl) hP hD hS h
      · refine lv_aload_n hx hb dX2_readsInnermost_94 rfl (lv_at hl 0 rfl) ?_
        refine lv_iload_n hx hb dX2_readsInnermost_95 rfl (lv_at hl 1 rfl) ?_
        refine lv_iconst (v := (1 : Int32)) hx hb dX2_readsInnermost_96 (by decide) ?_
        refine lv_iadd hx hb dX2_readsInnermost_97 ?_
        refine q_callW4 (cEok ad) (rest := []) (fun u => [(qr 0, .inr (2, oX2 qr u.2.1 u.2.2.1 r_taped r_rt (ad (2 + r_ni)))), (r_rt, .inl (cI, 60, .inl r_tape)), (qr 6, .inl (cI, 60, .inl u.2.2.2))]) (fun u => u.1) ⟨hx, hb, hml, hown, hts⟩ (fun u hu => c2_readsDenied l D cI ad qr r_rt r_ni n (f2_readsInnermost n d) (11 * d + 8) (by omega) ih r_at_85 r_coded r_taped r_tape r_code (x1 + ((1 : Int32))) u hu) (cwV 1 hts gX2_readsInnermost_X2_readsDenied rfl rfl rfl hdX2_readsDenied (rmq_ok (by omega) (Nat.le_of_ble_eq_true rfl))) hK hEv hA hP hD hS [0, 1, 2] (by decide) rfl (fun _ => rfl) (va_recv hK hP (ci := 2) (q0 := 0) rfl rfl) rfl rfl hl.1 (Nat.le_of_ble_eq_true rfl) ⟨Nat.zero_le _, Nat.zero_le _⟩ h dX2_readsInnermost_98 (fun t98 r_at_98 r_coded_98 r_code_98 H locs h hP hD hS => ?_)
        have hP : va_P D vwCl [(qr 0, .inr (2, oX2 qr r_at_98 r_coded_98 r_taped r_rt (ad (2 + r_ni)))), (r_rt, .inl (cI, 60, .inl r_tape)), (qr 6, .inl (cI, 60, .inl r_code_98))] H := hP
        have hD : va_D A [(qr 0, .inr (2, oX2 qr r_at_98 r_coded_98 r_taped r_rt (ad (2 + r_ni)))), (r_rt, .inl (cI, 60, .inl r_tape)), (qr 6, .inl (cI, 60, .inl r_code_98))] := hD
        refine lv_goto (tgt := 111) hx hb dX2_readsInnermost_101 (by decide) ?_
        exact J111 t98 r_at_98 r_coded_98 r_code_98 _ _ _ (lv_sub hl [0] rfl) hP hD hS h
    have J76 : ∀ (r_at : Int32) (r_coded : Int32) (r_code : (Nat → Int32)) (H : Heap) (locs : List Loc) (ls : Array Slot), lv_has ls 4 [(0, .ref (qr 0))] → va_P D vwCl [(qr 0, .inr (2, oX2 qr r_at r_coded r_taped r_rt (ad (2 + r_ni)))), (r_rt, .inl (cI, 60, .inl r_tape)), (qr 6, .inl (cI, 60, .inl r_code))] H → va_D A [(qr 0, .inr (2, oX2 qr r_at r_coded r_taped r_rt (ad (2 + r_ni)))), (r_rt, .inl (cI, 60, .inl r_tape)), (qr 6, .inl (cI, 60, .inl r_code))] → va_S A s.heap H locs → f2_readsInnermost_76 n (f2_readsInnermost n d) r_taped r_ni r_tape r_at r_coded r_code = some u → W p l e (rmq (11 * (d + 1) + 8)) s m args below meth c H locs 0 0 Q (F0 m 76 ls []) := by
      intro r_at r_coded r_code H locs ls hl hP hD hS h
      unfold f2_readsInnermost_76 at h
      refine lv_iconst (v := (0 : Int32)) hx hb dX2_readsInnermost_76 (by decide) ?_
      obtain ⟨hz, h⟩ := q_bz_of h
      exact hret ((0 : Int32), r_at, r_coded, r_code) _ _ _ _ (q_nz hz) h hP hD hS dX2_readsInnermost_77
    have J35 : ∀ (x1 : Int32) (x2 : Int32) (s0 : Int32) (r_at : Int32) (r_coded : Int32) (r_code : (Nat → Int32)) (H : Heap) (locs : List Loc) (ls : Array Slot), lv_has ls 4 [(0, .ref (qr 0)), (1, .int x1), (2, .int x2)] → va_P D vwCl [(qr 0, .inr (2, oX2 qr r_at r_coded r_taped r_rt (ad (2 + r_ni)))), (r_rt, .inl (cI, 60, .inl r_tape)), (qr 6, .inl (cI, 60, .inl r_code))] H → va_D A [(qr 0, .inr (2, oX2 qr r_at r_coded r_taped r_rt (ad (2 + r_ni)))), (r_rt, .inl (cI, 60, .inl r_tape)), (qr 6, .inl (cI, 60, .inl r_code))] → va_S A s.heap H locs → f2_readsInnermost_35 n (f2_readsInnermost n d) r_taped r_ni r_tape x1 x2 s0 r_at r_coded r_code = some u → W p l e (rmq (11 * (d + 1) + 8)) s m args below meth c H locs 0 0 Q (F0 m 35 ls [.int s0]) := by
      intro x1 x2 s0 r_at r_coded r_code H locs ls hl hP hD hS h
      unfold f2_readsInnermost_35 at h
      refine lv_istore_n (lv' := [(3, .int s0), (0, .ref (qr 0)), (1, .int x1), (2, .int x2)]) hx hb dX2_readsInnermost_35 rfl hl (by decide) rfl (fun ls hl => ?_)
      refine lv_iload_n hx hb dX2_readsInnermost_36 rfl (lv_at hl 0 rfl) ?_
      refine q_iflt hx hb 59 h dX2_readsInnermost_37 (by decide) (fun h => ?_) (fun h => ?_)
      · refine lv_iload_n hx hb dX2_readsInnermost_59 rfl (lv_at hl 2 rfl) ?_
        refine lv_iconst (v := (5 : Int32)) hx hb dX2_readsInnermost_60 (by decide) ?_
        refine q_cge hx hb 76 h dX2_readsInnermost_61 (by decide) (fun h => ?_) (fun h => ?_)
        · exact J76 r_at r_coded r_code _ _ _ (lv_sub hl [1] rfl) hP hD hS h
        · refine lv_iload_n hx hb dX2_readsInnermost_64 rfl (lv_at hl 3 rfl) ?_
          refine lv_bipush (v := (33 : Int32)) hx hb dX2_readsInnermost_65 (by decide) ?_
          refine q_ceq hx hb 78 h dX2_readsInnermost_67 (by decide) (fun h => ?_) (fun h => ?_)
          · exact J78 x1 x2 r_at r_coded r_code _ _ _ (lv_sub hl [1, 2, 3] rfl) hP hD hS h
          · refine lv_iload_n hx hb dX2_readsInnermost_70 rfl (lv_at hl 3 rfl) ?_
            refine lv_bipush (v := (40 : Int32)) hx hb dX2_readsInnermost_71 (by decide) ?_
            refine q_ceq hx hb 78 h dX2_readsInnermost_73 (by decide) (fun h => ?_) (fun h => ?_)
            · exact J78 x1 x2 r_at r_coded r_code _ _ _ (lv_sub hl [1, 2, 3] rfl) hP hD hS h
            · exact J76 r_at r_coded r_code _ _ _ (lv_sub hl [1] rfl) hP hD hS h
      · refine lv_aload_n hx hb dX2_readsInnermost_40 rfl (lv_at hl 1 rfl) ?_
        refine lv_dup hx hb dX2_readsInnermost_41 rfl ?_
        refine va_get (D := D) (ci := 2) (v := .int r_at) (C := RX2) (T := TX2) (N := 6) hx hb hts in2 hown hK hP 0 rfl rfl 0 (by decide) l24 (fun _ h9 => h9) rfl dX2_readsInnermost_42 ?_
        refine lv_iconst (v := (1 : Int32)) hx hb dX2_readsInnermost_45 (by decide) ?_
        refine lv_iadd hx hb dX2_readsInnermost_46 ?_
        refine q_let h (fun r_at_47 h => ?_)
        refine va_put (D := D) (ci := 2) (v := .int r_at_47) (ty := .int) (C := RX2) (T := TX2) (N := 6) hx hb hts in2 tyX2 tyX2_ok nmX2 hown hK hP hD hS 0 rfl rfl 0 (by decide) l24 (fun _ h9 => h9) rfl (by decide +kernel) rfl rfl (Nat.le_of_ble_eq_true rfl) dX2_readsInnermost_47 (fun H locs hP hD hS => ?_)
        have hP : va_P D vwCl [(qr 0, .inr (2, oX2 qr r_at_47 r_coded r_taped r_rt (ad (2 + r_ni)))), (r_rt, .inl (cI, 60, .inl r_tape)), (qr 6, .inl (cI, 60, .inl r_code))] H := hP
        have hD : va_D A [(qr 0, .inr (2, oX2 qr r_at_47 r_coded r_taped r_rt (ad (2 + r_ni)))), (r_rt, .inl (cI, 60, .inl r_tape)), (qr 6, .inl (cI, 60, .inl r_code))] := hD
        refine lv_aload_n hx hb dX2_readsInnermost_50 rfl (lv_at hl 1 rfl) ?_
        refine lv_iconst (v := (-1 : Int32)) hx hb dX2_readsInnermost_51 (by decide) ?_
        refine lv_iload_n hx hb dX2_readsInnermost_52 rfl (lv_at hl 0 rfl) ?_
        refine lv_isub hx hb dX2_readsInnermost_53 ?_
        refine q_callV2 (cEok ad) (rest := []) (fun u => [(qr 0, .inr (2, oX2 qr r_at_47 u.1 r_taped r_rt (ad (2 + r_ni)))), (qr 6, .inl (cI, 60, .inl u.2))]) ⟨hx, hb, hml, hown, hts⟩ (fun u hu => c2_adds l D cI ad qr r_rt r_ni r_at_47 r_coded r_taped r_code (((-1 : Int32)) - s0) u hu) (cwV 1 hts gX2_readsInnermost_X2_adds rfl rfl rfl hdX2_adds (rmq_ok (by omega) (Nat.le_of_ble_eq_true rfl))) hK hEv hA hP hD hS [0, 2] (by decide) rfl (fun _ => rfl) (va_recv hK hP (ci := 2) (q0 := 0) rfl rfl) rfl rfl hl.1 (Nat.le_of_ble_eq_true rfl) ⟨Nat.zero_le _, Nat.zero_le _⟩ h dX2_readsInnermost_54 (fun r_coded_54 r_code_54 H locs h hP hD hS => ?_)
        have hP : va_P D vwCl [(qr 0, .inr (2, oX2 qr r_at_47 r_coded_54 r_taped r_rt (ad (2 + r_ni)))), (r_rt, .inl (cI, 60, .inl r_tape)), (qr 6, .inl (cI, 60, .inl r_code_54))] H := hP
        have hD : va_D A [(qr 0, .inr (2, oX2 qr r_at_47 r_coded_54 r_taped r_rt (ad (2 + r_ni)))), (r_rt, .inl (cI, 60, .inl r_tape)), (qr 6, .inl (cI, 60, .inl r_code_54))] := hD
        refine lv_iconst (v := (1 : Int32)) hx hb dX2_readsInnermost_57 (by decide) ?_
        obtain ⟨hz, h⟩ := q_bz_of h
        exact hret ((1 : Int32), r_at_47, r_coded_54, r_code_54) _ _ _ _ (q_nz hz) h hP hD hS dX2_readsInnermost_58
    rw [f2_readsInnermost.eq_2] at h
    refine lv_aload_n hx hb dX2_readsInnermost_0 rfl (lv_at hl 0 rfl) ?_
    refine q_callR (cEok ad) (rest := []) ⟨hx, hb, hml, hown, hts⟩ (fun r hr => c2_sign l D cI ad qr r_rt r_ni r_at r_coded r_taped r_tape r hr) (cwV 0 hts gX2_readsInnermost_X2_sign rfl rfl rfl hdX2_sign (rmq_ok (by omega) (Nat.le_of_ble_eq_true rfl))) hK hP hEv hS [0, 1] rfl (va_recv hK hP (ci := 2) (q0 := 0) rfl rfl) rfl rfl hl.1 (Nat.le_of_ble_eq_true rfl) ⟨Nat.zero_le _, Nat.zero_le _⟩ h dX2_readsInnermost_1 (fun t1 h => ?_)
    refine lv_istore_n (lv' := [(2, .int t1), (0, .ref (qr 0)), (1, .int x1)]) hx hb dX2_readsInnermost_4 rfl hl (by decide) rfl (fun ls hl => ?_)
    refine lv_iload_n hx hb dX2_readsInnermost_5 rfl (lv_at hl 0 rfl) ?_
    refine q_callRS (cEok ad) (rest := []) ⟨hx, hb, hml, hown, hts⟩ (fun r hr => c2_isDigit l D cI ad t1 r hr) (va_cwS 1 hts gX2_readsInnermost_X2_isDigit rfl rfl rfl hdX2_isDigit (rmq_ok (by omega) (Nat.le_of_ble_eq_true rfl))) hK hP hEv hS [] rfl rfl rfl hl.1 (Nat.le_of_ble_eq_true rfl) ⟨Nat.zero_le _, Nat.zero_le _⟩ h dX2_readsInnermost_6 (fun t6 h => ?_)
    refine q_ifeq hx hb 18 h dX2_readsInnermost_9 (by decide) (fun h => ?_) (fun h => ?_)
    · refine lv_iload_n hx hb dX2_readsInnermost_18 rfl (lv_at hl 0 rfl) ?_
      refine q_ifge hx hb 26 h dX2_readsInnermost_19 (by decide) (fun h => ?_) (fun h => ?_)
      · refine lv_aload_n hx hb dX2_readsInnermost_26 rfl (lv_at hl 1 rfl) ?_
        refine va_get (D := D) (ci := 2) (v := .ref (ad (2 + r_ni))) (C := RX2) (T := TX2) (N := 6) hx hb hts in2 hown hK hP 0 rfl rfl 4 (by decide) l17 (fun _ h9 => h9) rfl dX2_readsInnermost_27 ?_
        refine lv_iload_n hx hb dX2_readsInnermost_30 rfl (lv_at hl 0 rfl) ?_
        refine lv_i2c hx hb dX2_readsInnermost_31 rfl ?_
        refine q_indexOf hx hb hml hown hts gX2_readsInnermost_J0_indexOf_0f7a4 hK hP hEv hS (by show _ ≤ _; omega) (rest := []) hl.1 (Nat.le_of_ble_eq_true rfl) ⟨Nat.zero_le _, Nat.zero_le _⟩ h dX2_readsInnermost_32 (fun t32 h => ?_)
        exact J35 x1 t1 t32 r_at r_coded r_code _ _ _ (lv_sub hl [1, 2, 0] rfl) hP hD hS h
      · refine lv_iconst (v := (-1 : Int32)) hx hb dX2_readsInnermost_22 (by decide) ?_
        refine lv_goto (tgt := 35) hx hb dX2_readsInnermost_23 (by decide) ?_
        exact J35 x1 t1 ((-1 : Int32)) r_at r_coded r_code _ _ _ (lv_sub hl [1, 2, 0] rfl) hP hD hS h
    · refine lv_aload_n hx hb dX2_readsInnermost_12 rfl (lv_at hl 1 rfl) ?_
      refine q_callV3 (cEok ad) (rest := []) (fun u => [(qr 0, .inr (2, oX2 qr u.1 u.2.1 r_taped r_rt (ad (2 + r_ni)))), (r_rt, .inl (cI, 60, .inl r_tape)), (qr 6, .inl (cI, 60, .inl u.2.2))]) ⟨hx, hb, hml, hown, hts⟩ (fun u hu => c2_readsNumber l D cI ad qr r_rt r_ni r_at r_coded r_taped r_tape r_code n u hu) (cwV 0 hts gX2_readsInnermost_X2_readsNumber rfl rfl rfl hdX2_readsNumber (rmq_ok (by omega) (Nat.le_of_ble_eq_true rfl))) hK hEv hA hP hD hS [0, 1, 2] (by decide) rfl (fun _ => rfl) (va_recv hK hP (ci := 2) (q0 := 0) rfl rfl) rfl rfl hl.1 (Nat.le_of_ble_eq_true rfl) ⟨Nat.zero_le _, Nat.zero_le _⟩ h dX2_readsInnermost_13 (fun r_at_13 r_coded_13 r_code_13 H locs h hP hD hS => ?_)
      have hP : va_P D vwCl [(qr 0, .inr (2, oX2 qr r_at_13 r_coded_13 r_taped r_rt (ad (2 + r_ni)))), (r_rt, .inl (cI, 60, .inl r_tape)), (qr 6, .inl (cI, 60, .inl r_code_13))] H := hP
      have hD : va_D A [(qr 0, .inr (2, oX2 qr r_at_13 r_coded_13 r_taped r_rt (ad (2 + r_ni)))), (r_rt, .inl (cI, 60, .inl r_tape)), (qr 6, .inl (cI, 60, .inl r_code_13))] := hD
      refine lv_iconst (v := (1 : Int32)) hx hb dX2_readsInnermost_16 (by decide) ?_
      obtain ⟨hz, h⟩ := q_bz_of h
      exact hret ((1 : Int32), r_at_13, r_coded_13, r_code_13) _ _ _ _ (q_nz hz) h hP hD hS dX2_readsInnermost_17
set_option maxHeartbeats 4000000 in
set_option maxRecDepth 100000 in
theorem c2_reads (l : Launch) (D : va_G) (cI : ClassId) (ad : Nat → Nat) (qt qr : Nat → Nat) (r_rt r_ni : Nat) (t_taped r_at r_coded r_taped : Int32) (t_tape t_codes t_lengths r_code : Nat → Int32) (x2 : Int32) (n : Nat) (u : Int32 × Int32 × Int32 × Int32 × Int32 × Nat × Nat × (Nat → Int32) × (Nat → Int32) × (Nat → Int32)) (h : f2_reads n (qt 2) x2 t_taped r_at r_coded r_taped r_rt r_ni t_tape t_codes t_lengths r_code = some u) : q_RW (cE ad) l yX2_reads wsX2_reads (rmq (106)) D cI [.ref (qr 0), .ref (qt 0), .int x2] [(qt 0, .inr (4, oX4 qt t_taped)), (qr 0, .inr (2, oX2 qr r_at r_coded r_taped r_rt (ad (2 + r_ni)))), (qt 2, .inl (cI, 60, .inl t_tape)), (qt 3, .inl (cI, 480, .inl t_codes)), (qt 4, .inl (cI, 8, .inl t_lengths)), (qr 6, .inl (cI, 60, .inl r_code))] [(qt 0, .inr (4, oX4 qt u.2.1)), (qr 0, .inr (2, oX2 qr u.2.2.1 u.2.2.2.1 u.2.2.2.2.1 u.2.2.2.2.2.1 (ad (2 + u.2.2.2.2.2.2.1)))), (qt 2, .inl (cI, 60, .inl t_tape)), (qt 3, .inl (cI, 480, .inl u.2.2.2.2.2.2.2.1)), (qt 4, .inl (cI, 8, .inl u.2.2.2.2.2.2.2.2.1)), (qr 6, .inl (cI, 60, .inl u.2.2.2.2.2.2.2.2.2))] u.1 := by
  refine q_startW (fun u : Int32 × Int32 × Int32 × Int32 × Int32 × Nat × Nat × (Nat → Int32) × (Nat → Int32) × (Nat → Int32) => [(qt 0, .inr (4, oX4 qt u.2.1)), (qr 0, .inr (2, oX2 qr u.2.2.1 u.2.2.2.1 u.2.2.2.2.1 u.2.2.2.2.2.1 (ad (2 + u.2.2.2.2.2.2.1)))), (qt 2, .inl (cI, 60, .inl t_tape)), (qt 3, .inl (cI, 480, .inl u.2.2.2.2.2.2.2.1)), (qt 4, .inl (cI, 8, .inl u.2.2.2.2.2.2.2.2.1)), (qr 6, .inl (cI, 60, .inl u.2.2.2.2.2.2.2.2.2))]) (fun u => u.1) (cc := cX2_reads) (maxL := 3) (ty := .int) (own := RX2) (by decide) rfl rfl (Nat.le_of_ble_eq_true rfl) rfl (fun p e s m args below meth c Q A hx hb hml hown hts hK hEv hA hret hP hD hS ls hl => ?_)
  have in2 : ∀ w ∈ wsX20, w ∈ wsX2_reads := fun w h => List.mem_cons_of_mem _ (List.mem_append_left _ (List.mem_append_right _ (h)))
  have in4 : ∀ w ∈ wsX40, w ∈ wsX2_reads := fun w h => List.mem_cons_of_mem _ (List.mem_append_right _ (h))
  have l9 := hts (.fieldLink RX2 9 "PageWars$Reader" "tape" "[I") (List.mem_of_getElem? (i := 3) rfl)
  have l17 := hts (.fieldLink RX2 17 "PageWars$Reader" "names" "Ljava/lang/String;") (List.mem_of_getElem? (i := 5) rfl)
  have l21 := hts (.fieldLink RX2 21 "PageWars$Reader" "code" "[I") (List.mem_of_getElem? (i := 6) rfl)
  have l24 := hts (.fieldLink RX2 24 "PageWars$Reader" "at" "I") (List.mem_of_getElem? (i := 1) rfl)
  have l28 := hts (.fieldLink RX2 28 "PageWars$Reader" "coded" "I") (List.mem_of_getElem? (i := 2) rfl)
  have l37 := hts (.fieldLink RX2 37 "PageWars$Reader" "taped" "I") (List.mem_of_getElem? (i := 4) rfl)
  have l31 : (Cond.fieldLinkNest RX2 31 "PageWars$Texts" "tape" "[I" "PageWars").before args s = true := cE_f2_31 hEv
  have l34 : (Cond.fieldLinkNest RX2 34 "PageWars$Texts" "taped" "I" "PageWars").before args s = true := cE_f2_34 hEv
  have J76 : ∀ (t_taped : Int32) (r_at : Int32) (r_coded : Int32) (r_taped : Int32) (r_ni : Nat) (t_codes : (Nat → Int32)) (t_lengths : (Nat → Int32)) (r_code : (Nat → Int32)) (H : Heap) (locs : List Loc) (ls : Array Slot), lv_has ls 3 [(0, .ref (qr 0)), (1, .ref (qt 0))] → va_P D vwCl [(qt 0, .inr (4, oX4 qt t_taped)), (qr 0, .inr (2, oX2 qr r_at r_coded r_taped ((qt 2)) (ad (2 + r_ni)))), (qt 2, .inl (cI, 60, .inl t_tape)), (qt 3, .inl (cI, 480, .inl t_codes)), (qt 4, .inl (cI, 8, .inl t_lengths)), (qr 6, .inl (cI, 60, .inl r_code))] H → va_D A [(qt 0, .inr (4, oX4 qt t_taped)), (qr 0, .inr (2, oX2 qr r_at r_coded r_taped ((qt 2)) (ad (2 + r_ni)))), (qt 2, .inl (cI, 60, .inl t_tape)), (qt 3, .inl (cI, 480, .inl t_codes)), (qt 4, .inl (cI, 8, .inl t_lengths)), (qr 6, .inl (cI, 60, .inl r_code))] → va_S A s.heap H locs → f2_reads_76 n (qt 2) t_tape t_taped r_at r_coded r_taped r_ni t_codes t_lengths r_code = some u → W p l e (rmq (106)) s m args below meth c H locs 0 0 Q (F0 m 76 ls []) := by
    intro t_taped r_at r_coded r_taped r_ni t_codes t_lengths r_code H locs ls hl hP hD hS h
    unfold f2_reads_76 at h
    refine lv_aload_n hx hb dX2_reads_76 rfl (lv_at hl 0 rfl) ?_
    refine va_get (D := D) (ci := 2) (v := .int r_at) (C := RX2) (T := TX2) (N := 6) hx hb hts in2 hown hK hP 1 rfl rfl 0 (by decide) l24 (fun _ h9 => h9) rfl dX2_reads_77 ?_
    exact hret (r_at, t_taped, r_at, r_coded, r_taped, (qt 2), r_ni, t_codes, t_lengths, r_code) _ _ _ _ (vp_nar_int _) h hP hD hS dX2_reads_80
  have J48 : ∀ (x2 : Int32) (s1 : Nat) (t_taped : Int32) (r_at : Int32) (r_coded : Int32) (r_taped : Int32) (r_ni : Nat) (t_codes : (Nat → Int32)) (t_lengths : (Nat → Int32)) (r_code : (Nat → Int32)) (H : Heap) (locs : List Loc) (ls : Array Slot), lv_has ls 3 [(0, .ref (qr 0)), (1, .ref (qt 0)), (2, .int x2)] → va_P D vwCl [(qt 0, .inr (4, oX4 qt t_taped)), (qr 0, .inr (2, oX2 qr r_at r_coded r_taped ((qt 2)) (ad (2 + r_ni)))), (qt 2, .inl (cI, 60, .inl t_tape)), (qt 3, .inl (cI, 480, .inl t_codes)), (qt 4, .inl (cI, 8, .inl t_lengths)), (qr 6, .inl (cI, 60, .inl r_code))] H → va_D A [(qt 0, .inr (4, oX4 qt t_taped)), (qr 0, .inr (2, oX2 qr r_at r_coded r_taped ((qt 2)) (ad (2 + r_ni)))), (qt 2, .inl (cI, 60, .inl t_tape)), (qt 3, .inl (cI, 480, .inl t_codes)), (qt 4, .inl (cI, 8, .inl t_lengths)), (qr 6, .inl (cI, 60, .inl r_code))] → va_S A s.heap H locs → f2_reads_48 n (qt 2) t_tape x2 s1 t_taped r_at r_coded r_taped r_ni t_codes t_lengths r_code = some u → W p l e (rmq (106)) s m args below meth c H locs 0 0 Q (F0 m 48 ls [.ref (ad (2 + s1)), .ref (qr 0)]) := by
    intro x2 s1 t_taped r_at r_coded r_taped r_ni t_codes t_lengths r_code H locs ls hl hP hD hS h
    unfold f2_reads_48 at h
    refine va_put (D := D) (ci := 2) (v := .ref (ad (2 + s1))) (ty := .object "java/lang/String") (C := RX2) (T := TX2) (N := 6) hx hb hts in2 tyX2 tyX2_ok nmX2 hown hK hP hD hS 1 rfl rfl 4 (by decide) l17 (fun _ h9 => h9) rfl (by decide +kernel) rfl rfl (Nat.le_of_ble_eq_true rfl) dX2_reads_48 (fun H locs hP hD hS => ?_)
    have hP : va_P D vwCl [(qt 0, .inr (4, oX4 qt t_taped)), (qr 0, .inr (2, oX2 qr r_at r_coded r_taped ((qt 2)) (ad (2 + s1)))), (qt 2, .inl (cI, 60, .inl t_tape)), (qt 3, .inl (cI, 480, .inl t_codes)), (qt 4, .inl (cI, 8, .inl t_lengths)), (qr 6, .inl (cI, 60, .inl r_code))] H := hP
    have hD : va_D A [(qt 0, .inr (4, oX4 qt t_taped)), (qr 0, .inr (2, oX2 qr r_at r_coded r_taped ((qt 2)) (ad (2 + s1)))), (qt 2, .inl (cI, 60, .inl t_tape)), (qt 3, .inl (cI, 480, .inl t_codes)), (qt 4, .inl (cI, 8, .inl t_lengths)), (qr 6, .inl (cI, 60, .inl r_code))] := hD
    refine lv_aload_n hx hb dX2_reads_51 rfl (lv_at hl 1 rfl) ?_
    refine lv_iconst (v := (0 : Int32)) hx hb dX2_reads_52 (by decide) ?_
    refine va_putN (D := D) (ci := 4) (v := .int ((0 : Int32))) (ty := .int) (C := RX4) (T := TX4) (N := 6) hx hb hts in4 tyX4 tyX4_ok nmX4 hown hK hP hD hS 0 rfl rfl 0 (by decide) l34 (fun _ h9 => h9) rfl (by decide +kernel) rfl rfl (Nat.le_of_ble_eq_true rfl) dX2_reads_53 (fun H locs hP hD hS => ?_)
    have hP : va_P D vwCl [(qt 0, .inr (4, oX4 qt ((0 : Int32)))), (qr 0, .inr (2, oX2 qr r_at r_coded r_taped ((qt 2)) (ad (2 + s1)))), (qt 2, .inl (cI, 60, .inl t_tape)), (qt 3, .inl (cI, 480, .inl t_codes)), (qt 4, .inl (cI, 8, .inl t_lengths)), (qr 6, .inl (cI, 60, .inl r_code))] H := hP
    have hD : va_D A [(qt 0, .inr (4, oX4 qt ((0 : Int32)))), (qr 0, .inr (2, oX2 qr r_at r_coded r_taped ((qt 2)) (ad (2 + s1)))), (qt 2, .inl (cI, 60, .inl t_tape)), (qt 3, .inl (cI, 480, .inl t_codes)), (qt 4, .inl (cI, 8, .inl t_lengths)), (qr 6, .inl (cI, 60, .inl r_code))] := hD
    refine lv_aload_n hx hb dX2_reads_56 rfl (lv_at hl 0 rfl) ?_
    refine lv_iconst (v := (0 : Int32)) hx hb dX2_reads_57 (by decide) ?_
    refine lv_iconst (v := (0 : Int32)) hx hb dX2_reads_58 (by decide) ?_
    refine q_callW4 (cEok ad) (rest := []) (fun u => [(qr 0, .inr (2, oX2 qr u.2.1 u.2.2.1 r_taped ((qt 2)) (ad (2 + s1)))), (qt 2, .inl (cI, 60, .inl t_tape)), (qr 6, .inl (cI, 60, .inl u.2.2.2))]) (fun u => u.1) ⟨hx, hb, hml, hown, hts⟩ (fun u hu => c2_readsLevel l D cI ad qr (qt 2) s1 n (f2_readsInnermost n 8) 96 (by omega) (c2_readsInnermost l D cI ad qr (qt 2) s1 n 8) 8 r_at r_coded r_taped t_tape r_code ((0 : Int32)) ((0 : Int32)) u hu) (cwV 2 hts gX2_reads_X2_readsLevel rfl rfl rfl hdX2_readsLevel (rmq_ok (Nat.le_of_ble_eq_true rfl) (Nat.le_of_ble_eq_true rfl))) hK hEv hA hP hD hS [1, 2, 5] (by decide) rfl (fun _ => rfl) (va_recv hK hP (ci := 2) (q0 := 1) rfl rfl) rfl rfl hl.1 (Nat.le_of_ble_eq_true rfl) ⟨Nat.zero_le _, Nat.zero_le _⟩ h dX2_reads_59 (fun t59 r_at_59 r_coded_59 r_code_59 H locs h hP hD hS => ?_)
    have hP : va_P D vwCl [(qt 0, .inr (4, oX4 qt ((0 : Int32)))), (qr 0, .inr (2, oX2 qr r_at_59 r_coded_59 r_taped ((qt 2)) (ad (2 + s1)))), (qt 2, .inl (cI, 60, .inl t_tape)), (qt 3, .inl (cI, 480, .inl t_codes)), (qt 4, .inl (cI, 8, .inl t_lengths)), (qr 6, .inl (cI, 60, .inl r_code_59))] H := hP
    have hD : va_D A [(qt 0, .inr (4, oX4 qt ((0 : Int32)))), (qr 0, .inr (2, oX2 qr r_at_59 r_coded_59 r_taped ((qt 2)) (ad (2 + s1)))), (qt 2, .inl (cI, 60, .inl t_tape)), (qt 3, .inl (cI, 480, .inl t_codes)), (qt 4, .inl (cI, 8, .inl t_lengths)), (qr 6, .inl (cI, 60, .inl r_code_59))] := hD
    refine q_ifeq hx hb 76 h dX2_reads_62 (by decide) (fun h => ?_) (fun h => ?_)
    · exact J76 ((0 : Int32)) r_at_59 r_coded_59 r_taped s1 t_codes t_lengths r_code_59 _ _ _ (lv_sub hl [0, 1] rfl) hP hD hS h
    · refine lv_aload_n hx hb dX2_reads_65 rfl (lv_at hl 0 rfl) ?_
      refine va_get (D := D) (ci := 2) (v := .int r_at_59) (C := RX2) (T := TX2) (N := 6) hx hb hts in2 hown hK hP 1 rfl rfl 0 (by decide) l24 (fun _ h9 => h9) rfl dX2_reads_66 ?_
      refine lv_aload_n hx hb dX2_reads_69 rfl (lv_at hl 0 rfl) ?_
      refine va_get (D := D) (ci := 2) (v := .int r_taped) (C := RX2) (T := TX2) (N := 6) hx hb hts in2 hown hK hP 1 rfl rfl 2 (by decide) l37 (fun _ h9 => h9) rfl dX2_reads_70 ?_
      refine q_cge hx hb 81 h dX2_reads_73 (by decide) (fun h => ?_) (fun h => ?_)
      · refine lv_aload_n hx hb dX2_reads_81 rfl (lv_at hl 1 rfl) ?_
        refine lv_iload_n hx hb dX2_reads_82 rfl (lv_at hl 2 rfl) ?_
        refine lv_aload_n hx hb dX2_reads_83 rfl (lv_at hl 0 rfl) ?_
        refine va_get (D := D) (ci := 2) (v := .ref (qr 6)) (C := RX2) (T := TX2) (N := 6) hx hb hts in2 hown hK hP 1 rfl rfl 5 (by decide) l21 (fun _ h9 => h9) rfl dX2_reads_84 ?_
        refine lv_aload_n hx hb dX2_reads_87 rfl (lv_at hl 0 rfl) ?_
        refine va_get (D := D) (ci := 2) (v := .int r_coded_59) (C := RX2) (T := TX2) (N := 6) hx hb hts in2 hown hK hP 1 rfl rfl 1 (by decide) l28 (fun _ h9 => h9) rfl dX2_reads_88 ?_
        refine q_callV2 (cEok ad) (rest := []) (fun u => [(qt 0, .inr (4, oX4 qt ((0 : Int32)))), (qt 3, .inl (cI, 480, .inl u.1)), (qt 4, .inl (cI, 8, .inl u.2)), (qr 6, .inl (cI, 60, .inl r_code_59))]) ⟨hx, hb, hml, hown, hts⟩ (fun u hu => c4_keeps l D cI ad qt (qr 6) ((0 : Int32)) t_codes t_lengths r_code_59 x2 r_coded_59 u hu) (cwV 3 hts gX2_reads_X4_keeps rfl rfl rfl hdX4_keeps (rmq_ok (Nat.le_of_ble_eq_true rfl) (Nat.le_of_ble_eq_true rfl))) hK hEv hA hP hD hS [0, 3, 4, 5] (by decide) rfl (fun _ => rfl) (va_recv hK hP (ci := 4) (q0 := 0) rfl rfl) rfl rfl hl.1 (Nat.le_of_ble_eq_true rfl) ⟨Nat.zero_le _, Nat.zero_le _⟩ h dX2_reads_91 (fun t_codes_91 t_lengths_91 H locs h hP hD hS => ?_)
        have hP : va_P D vwCl [(qt 0, .inr (4, oX4 qt ((0 : Int32)))), (qr 0, .inr (2, oX2 qr r_at_59 r_coded_59 r_taped ((qt 2)) (ad (2 + s1)))), (qt 2, .inl (cI, 60, .inl t_tape)), (qt 3, .inl (cI, 480, .inl t_codes_91)), (qt 4, .inl (cI, 8, .inl t_lengths_91)), (qr 6, .inl (cI, 60, .inl r_code_59))] H := hP
        have hD : va_D A [(qt 0, .inr (4, oX4 qt ((0 : Int32)))), (qr 0, .inr (2, oX2 qr r_at_59 r_coded_59 r_taped ((qt 2)) (ad (2 + s1)))), (qt 2, .inl (cI, 60, .inl t_tape)), (qt 3, .inl (cI, 480, .inl t_codes_91)), (qt 4, .inl (cI, 8, .inl t_lengths_91)), (qr 6, .inl (cI, 60, .inl r_code_59))] := hD
        refine lv_iconst (v := (-1 : Int32)) hx hb dX2_reads_94 (by decide) ?_
        exact hret ((-1 : Int32), (0 : Int32), r_at_59, r_coded_59, r_taped, (qt 2), s1, t_codes_91, t_lengths_91, r_code_59) _ _ _ _ (vp_nar_int _) h hP hD hS dX2_reads_95
      · exact J76 ((0 : Int32)) r_at_59 r_coded_59 r_taped s1 t_codes t_lengths r_code_59 _ _ _ (lv_sub hl [0, 1] rfl) hP hD hS h
  unfold f2_reads at h
  refine lv_aload_n hx hb dX2_reads_0 rfl (lv_at hl 0 rfl) ?_
  refine lv_iconst (v := (0 : Int32)) hx hb dX2_reads_1 (by decide) ?_
  refine va_put (D := D) (ci := 2) (v := .int ((0 : Int32))) (ty := .int) (C := RX2) (T := TX2) (N := 6) hx hb hts in2 tyX2 tyX2_ok nmX2 hown hK hP hD hS 1 rfl rfl 0 (by decide) l24 (fun _ h9 => h9) rfl (by decide +kernel) rfl rfl (Nat.le_of_ble_eq_true rfl) dX2_reads_2 (fun H locs hP hD hS => ?_)
  have hP : va_P D vwCl [(qt 0, .inr (4, oX4 qt t_taped)), (qr 0, .inr (2, oX2 qr ((0 : Int32)) r_coded r_taped r_rt (ad (2 + r_ni)))), (qt 2, .inl (cI, 60, .inl t_tape)), (qt 3, .inl (cI, 480, .inl t_codes)), (qt 4, .inl (cI, 8, .inl t_lengths)), (qr 6, .inl (cI, 60, .inl r_code))] H := hP
  have hD : va_D A [(qt 0, .inr (4, oX4 qt t_taped)), (qr 0, .inr (2, oX2 qr ((0 : Int32)) r_coded r_taped r_rt (ad (2 + r_ni)))), (qt 2, .inl (cI, 60, .inl t_tape)), (qt 3, .inl (cI, 480, .inl t_codes)), (qt 4, .inl (cI, 8, .inl t_lengths)), (qr 6, .inl (cI, 60, .inl r_code))] := hD
  refine lv_aload_n hx hb dX2_reads_5 rfl (lv_at hl 0 rfl) ?_
  refine lv_iconst (v := (0 : Int32)) hx hb dX2_reads_6 (by decide) ?_
  refine va_put (D := D) (ci := 2) (v := .int ((0 : Int32))) (ty := .int) (C := RX2) (T := TX2) (N := 6) hx hb hts in2 tyX2 tyX2_ok nmX2 hown hK hP hD hS 1 rfl rfl 1 (by decide) l28 (fun _ h9 => h9) rfl (by decide +kernel) rfl rfl (Nat.le_of_ble_eq_true rfl) dX2_reads_7 (fun H locs hP hD hS => ?_)
  have hP : va_P D vwCl [(qt 0, .inr (4, oX4 qt t_taped)), (qr 0, .inr (2, oX2 qr ((0 : Int32)) ((0 : Int32)) r_taped r_rt (ad (2 + r_ni)))), (qt 2, .inl (cI, 60, .inl t_tape)), (qt 3, .inl (cI, 480, .inl t_codes)), (qt 4, .inl (cI, 8, .inl t_lengths)), (qr 6, .inl (cI, 60, .inl r_code))] H := hP
  have hD : va_D A [(qt 0, .inr (4, oX4 qt t_taped)), (qr 0, .inr (2, oX2 qr ((0 : Int32)) ((0 : Int32)) r_taped r_rt (ad (2 + r_ni)))), (qt 2, .inl (cI, 60, .inl t_tape)), (qt 3, .inl (cI, 480, .inl t_codes)), (qt 4, .inl (cI, 8, .inl t_lengths)), (qr 6, .inl (cI, 60, .inl r_code))] := hD
  refine lv_aload_n hx hb dX2_reads_10 rfl (lv_at hl 0 rfl) ?_
  refine lv_aload_n hx hb dX2_reads_11 rfl (lv_at hl 1 rfl) ?_
  refine va_getN (D := D) (ci := 4) (v := .ref (qt 2)) (C := RX4) (T := TX4) (N := 6) hx hb hts in4 hown hK hP 0 rfl rfl 1 (by decide) l31 (fun _ h9 => h9) rfl dX2_reads_12 ?_
  refine va_put (D := D) (ci := 2) (v := .ref (qt 2)) (ty := .array .int) (C := RX2) (T := TX2) (N := 6) hx hb hts in2 tyX2 tyX2_ok nmX2 hown hK hP hD hS 1 rfl rfl 3 (by decide) l9 (fun _ h9 => h9) rfl (by decide +kernel) rfl rfl (Nat.le_of_ble_eq_true rfl) dX2_reads_15 (fun H locs hP hD hS => ?_)
  have hP : va_P D vwCl [(qt 0, .inr (4, oX4 qt t_taped)), (qr 0, .inr (2, oX2 qr ((0 : Int32)) ((0 : Int32)) r_taped ((qt 2)) (ad (2 + r_ni)))), (qt 2, .inl (cI, 60, .inl t_tape)), (qt 3, .inl (cI, 480, .inl t_codes)), (qt 4, .inl (cI, 8, .inl t_lengths)), (qr 6, .inl (cI, 60, .inl r_code))] H := hP
  have hD : va_D A [(qt 0, .inr (4, oX4 qt t_taped)), (qr 0, .inr (2, oX2 qr ((0 : Int32)) ((0 : Int32)) r_taped ((qt 2)) (ad (2 + r_ni)))), (qt 2, .inl (cI, 60, .inl t_tape)), (qt 3, .inl (cI, 480, .inl t_codes)), (qt 4, .inl (cI, 8, .inl t_lengths)), (qr 6, .inl (cI, 60, .inl r_code))] := hD
  refine lv_aload_n hx hb dX2_reads_18 rfl (lv_at hl 0 rfl) ?_
  refine lv_aload_n hx hb dX2_reads_19 rfl (lv_at hl 1 rfl) ?_
  refine va_getN (D := D) (ci := 4) (v := .int t_taped) (C := RX4) (T := TX4) (N := 6) hx hb hts in4 hown hK hP 0 rfl rfl 0 (by decide) l34 (fun _ h9 => h9) rfl dX2_reads_20 ?_
  refine va_put (D := D) (ci := 2) (v := .int t_taped) (ty := .int) (C := RX2) (T := TX2) (N := 6) hx hb hts in2 tyX2 tyX2_ok nmX2 hown hK hP hD hS 1 rfl rfl 2 (by decide) l37 (fun _ h9 => h9) rfl (by decide +kernel) rfl rfl (Nat.le_of_ble_eq_true rfl) dX2_reads_23 (fun H locs hP hD hS => ?_)
  have hP : va_P D vwCl [(qt 0, .inr (4, oX4 qt t_taped)), (qr 0, .inr (2, oX2 qr ((0 : Int32)) ((0 : Int32)) t_taped ((qt 2)) (ad (2 + r_ni)))), (qt 2, .inl (cI, 60, .inl t_tape)), (qt 3, .inl (cI, 480, .inl t_codes)), (qt 4, .inl (cI, 8, .inl t_lengths)), (qr 6, .inl (cI, 60, .inl r_code))] H := hP
  have hD : va_D A [(qt 0, .inr (4, oX4 qt t_taped)), (qr 0, .inr (2, oX2 qr ((0 : Int32)) ((0 : Int32)) t_taped ((qt 2)) (ad (2 + r_ni)))), (qt 2, .inl (cI, 60, .inl t_tape)), (qt 3, .inl (cI, 480, .inl t_codes)), (qt 4, .inl (cI, 8, .inl t_lengths)), (qr 6, .inl (cI, 60, .inl r_code))] := hD
  refine lv_aload_n hx hb dX2_reads_26 rfl (lv_at hl 0 rfl) ?_
  refine lv_iload_n hx hb dX2_reads_27 rfl (lv_at hl 2 rfl) ?_
  refine q_ifne hx hb 36 h dX2_reads_28 (by decide) (fun h => ?_) (fun h => ?_)
  · refine lv_iload_n hx hb dX2_reads_36 rfl (lv_at hl 2 rfl) ?_
    refine lv_iconst (v := (1 : Int32)) hx hb dX2_reads_37 (by decide) ?_
    refine q_cne hx hb 46 h dX2_reads_38 (by decide) (fun h => ?_) (fun h => ?_)
    · refine va_ldcS hx hb hown (hEv.2.2.2.2.2.2.2) dX2_reads_46 ?_
      exact J48 x2 2 t_taped ((0 : Int32)) ((0 : Int32)) t_taped r_ni t_codes t_lengths r_code _ _ _ (lv_sub hl [0, 1, 2] rfl) hP hD hS h
    · refine va_ldcS hx hb hown (hEv.2.2.2.2.2.2.1) dX2_reads_41 ?_
      refine lv_goto (tgt := 48) hx hb dX2_reads_43 (by decide) ?_
      exact J48 x2 1 t_taped ((0 : Int32)) ((0 : Int32)) t_taped r_ni t_codes t_lengths r_code _ _ _ (lv_sub hl [0, 1, 2] rfl) hP hD hS h
  · refine va_ldcS hx hb hown (hEv.2.2.2.2.2.1) dX2_reads_31 ?_
    refine lv_goto (tgt := 48) hx hb dX2_reads_33 (by decide) ?_
    exact J48 x2 0 t_taped ((0 : Int32)) ((0 : Int32)) t_taped r_ni t_codes t_lengths r_code _ _ _ (lv_sub hl [0, 1, 2] rfl) hP hD hS h
set_option maxHeartbeats 4000000 in
set_option maxRecDepth 100000 in
theorem c6_text (l : Launch) (D : va_G) (cI : ClassId) (ad : Nat → Nat) (qp qb qa qt qr qv qh : Nat → Nat) (p_kept : Value) (r_rt r_ni : Nat) (p_timesKept b_now b_shutTill b_shutBy b_z b_waits t_taped r_at r_coded r_taped : Int32) (p_errors t_tape t_codes t_lengths r_code : Nat → Int32) (x1 : Int32) (n : Nat) (u : Int32 × Int32 × Int32 × Int32 × Int32 × Nat × Nat × (Nat → Int32) × (Nat → Int32) × (Nat → Int32) × (Nat → Int32)) (h : f6_text n (qt 2) x1 t_taped r_at r_coded r_taped r_rt r_ni p_errors t_tape t_codes t_lengths r_code = some u) : q_RW (cE ad) l yX6_text wsX6_text (rmq (107)) D cI [.ref (qp 0), .int x1] [(qp 0, .inr (6, oX6 qp (qb 0) (qr 0) (qv 0) (qh 0) p_kept p_timesKept)), (qb 0, .inr (1, oX1 qb b_now b_shutTill b_shutBy b_z b_waits (qa 0) (qt 0))), (qt 0, .inr (4, oX4 qt t_taped)), (qr 0, .inr (2, oX2 qr r_at r_coded r_taped r_rt (ad (2 + r_ni)))), (qp 5, .inl (cI, 7, .inl p_errors)), (qt 2, .inl (cI, 60, .inl t_tape)), (qt 3, .inl (cI, 480, .inl t_codes)), (qt 4, .inl (cI, 8, .inl t_lengths)), (qr 6, .inl (cI, 60, .inl r_code))] [(qp 0, .inr (6, oX6 qp (qb 0) (qr 0) (qv 0) (qh 0) p_kept p_timesKept)), (qb 0, .inr (1, oX1 qb b_now b_shutTill b_shutBy b_z b_waits (qa 0) (qt 0))), (qt 0, .inr (4, oX4 qt u.2.1)), (qr 0, .inr (2, oX2 qr u.2.2.1 u.2.2.2.1 u.2.2.2.2.1 u.2.2.2.2.2.1 (ad (2 + u.2.2.2.2.2.2.1)))), (qp 5, .inl (cI, 7, .inl u.2.2.2.2.2.2.2.1)), (qt 2, .inl (cI, 60, .inl t_tape)), (qt 3, .inl (cI, 480, .inl u.2.2.2.2.2.2.2.2.1)), (qt 4, .inl (cI, 8, .inl u.2.2.2.2.2.2.2.2.2.1)), (qr 6, .inl (cI, 60, .inl u.2.2.2.2.2.2.2.2.2.2))] u.1 := by
  refine q_startW (fun u : Int32 × Int32 × Int32 × Int32 × Int32 × Nat × Nat × (Nat → Int32) × (Nat → Int32) × (Nat → Int32) × (Nat → Int32) => [(qp 0, .inr (6, oX6 qp (qb 0) (qr 0) (qv 0) (qh 0) p_kept p_timesKept)), (qb 0, .inr (1, oX1 qb b_now b_shutTill b_shutBy b_z b_waits (qa 0) (qt 0))), (qt 0, .inr (4, oX4 qt u.2.1)), (qr 0, .inr (2, oX2 qr u.2.2.1 u.2.2.2.1 u.2.2.2.2.1 u.2.2.2.2.2.1 (ad (2 + u.2.2.2.2.2.2.1)))), (qp 5, .inl (cI, 7, .inl u.2.2.2.2.2.2.2.1)), (qt 2, .inl (cI, 60, .inl t_tape)), (qt 3, .inl (cI, 480, .inl u.2.2.2.2.2.2.2.2.1)), (qt 4, .inl (cI, 8, .inl u.2.2.2.2.2.2.2.2.2.1)), (qr 6, .inl (cI, 60, .inl u.2.2.2.2.2.2.2.2.2.2))]) (fun u => u.1) (cc := cX6_text) (maxL := 3) (ty := .int) (own := RX6) (by decide) rfl rfl (Nat.le_of_ble_eq_true rfl) rfl (fun p e s m args below meth c Q A hx hb hml hown hts hK hEv hA hret hP hD hS ls hl => ?_)
  have in1 : ∀ w ∈ wsX10, w ∈ wsX6_text := fun w h => List.mem_cons_of_mem _ (List.mem_append_left _ (List.mem_append_left _ (List.mem_append_right _ (h))))
  have in2 : ∀ w ∈ wsX20, w ∈ wsX6_text := fun w h => List.mem_cons_of_mem _ (List.mem_append_left _ (List.mem_append_right _ (h)))
  have in4 : ∀ w ∈ wsX40, w ∈ wsX6_text := fun w h => List.mem_cons_of_mem _ (List.mem_append_right _ (h))
  have in6 : ∀ w ∈ wsX60, w ∈ wsX6_text := fun w h => List.mem_cons_of_mem _ (List.mem_append_left _ (List.mem_append_left _ (List.mem_append_left _ (List.mem_append_right _ (h)))))
  have l10 := hts (.fieldLink RX6 10 "PageWars" "book" "LPageWars$Book;") (List.mem_of_getElem? (i := 2) rfl)
  have l19 := hts (.fieldLink RX6 19 "PageWars" "reader" "LPageWars$Reader;") (List.mem_of_getElem? (i := 1) rfl)
  have l133 : (Cond.fieldLinkNest RX6 133 "PageWars$Book" "texts" "LPageWars$Texts;" "PageWars").before args s = true := cE_f6_133 hEv
  have J41 : ∀ (s0 : Int32) (t_taped : Int32) (r_at : Int32) (r_coded : Int32) (r_taped : Int32) (r_rt : Nat) (r_ni : Nat) (p_errors : (Nat → Int32)) (t_codes : (Nat → Int32)) (t_lengths : (Nat → Int32)) (r_code : (Nat → Int32)) (H : Heap) (locs : List Loc) (ls : Array Slot), lv_has ls 3 [(0, .ref (qp 0))] → va_P D vwCl [(qp 0, .inr (6, oX6 qp (qb 0) (qr 0) (qv 0) (qh 0) p_kept p_timesKept)), (qb 0, .inr (1, oX1 qb b_now b_shutTill b_shutBy b_z b_waits (qa 0) (qt 0))), (qt 0, .inr (4, oX4 qt t_taped)), (qr 0, .inr (2, oX2 qr r_at r_coded r_taped r_rt (ad (2 + r_ni)))), (qp 5, .inl (cI, 7, .inl p_errors)), (qt 2, .inl (cI, 60, .inl t_tape)), (qt 3, .inl (cI, 480, .inl t_codes)), (qt 4, .inl (cI, 8, .inl t_lengths)), (qr 6, .inl (cI, 60, .inl r_code))] H → va_D A [(qp 0, .inr (6, oX6 qp (qb 0) (qr 0) (qv 0) (qh 0) p_kept p_timesKept)), (qb 0, .inr (1, oX1 qb b_now b_shutTill b_shutBy b_z b_waits (qa 0) (qt 0))), (qt 0, .inr (4, oX4 qt t_taped)), (qr 0, .inr (2, oX2 qr r_at r_coded r_taped r_rt (ad (2 + r_ni)))), (qp 5, .inl (cI, 7, .inl p_errors)), (qt 2, .inl (cI, 60, .inl t_tape)), (qt 3, .inl (cI, 480, .inl t_codes)), (qt 4, .inl (cI, 8, .inl t_lengths)), (qr 6, .inl (cI, 60, .inl r_code))] → va_S A s.heap H locs → f6_text_41 n (qt 2) t_tape s0 t_taped r_at r_coded r_taped r_rt r_ni p_errors t_codes t_lengths r_code = some u → W p l e (rmq (107)) s m args below meth c H locs 0 0 Q (F0 m 41 ls [.int s0]) := by
    intro s0 t_taped r_at r_coded r_taped r_rt r_ni p_errors t_codes t_lengths r_code H locs ls hl hP hD hS h
    unfold f6_text_41 at h
    exact hret (s0, t_taped, r_at, r_coded, r_taped, r_rt, r_ni, p_errors, t_codes, t_lengths, r_code) _ _ _ _ (vp_nar_int _) h hP hD hS dX6_text_41
  unfold f6_text at h
  refine lv_iload_n hx hb dX6_text_0 rfl (lv_at hl 1 rfl) ?_
  refine q_callRS (cEok ad) (rest := []) ⟨hx, hb, hml, hown, hts⟩ (fun r hr => c6_isUse l D cI ad x1 r hr) (va_cwS 1 hts gX6_text_X6_isUse rfl rfl rfl hdX6_isUse (rmq_ok (Nat.le_of_ble_eq_true rfl) (Nat.le_of_ble_eq_true rfl))) hK hP hEv hS [] rfl rfl rfl hl.1 (Nat.le_of_ble_eq_true rfl) ⟨Nat.zero_le _, Nat.zero_le _⟩ h dX6_text_1 (fun t1 h => ?_)
  refine q_ifne hx hb 13 h dX6_text_4 (by decide) (fun h => ?_) (fun h => ?_)
  · refine lv_aload_n hx hb dX6_text_13 rfl (lv_at hl 0 rfl) ?_
    refine va_get (D := D) (ci := 6) (v := .ref (qr 0)) (C := RX6) (T := TX6) (N := 7) hx hb hts in6 hown hK hP 0 rfl rfl 1 (by decide) l19 (fun _ h9 => h9) rfl dX6_text_14 ?_
    refine lv_aload_n hx hb dX6_text_17 rfl (lv_at hl 0 rfl) ?_
    refine va_get (D := D) (ci := 6) (v := .ref (qb 0)) (C := RX6) (T := TX6) (N := 7) hx hb hts in6 hown hK hP 0 rfl rfl 0 (by decide) l10 (fun _ h9 => h9) rfl dX6_text_18 ?_
    refine va_getN (D := D) (ci := 1) (v := .ref (qt 0)) (C := RX1) (T := TX1) (N := 9) hx hb hts in1 hown hK hP 1 rfl rfl 8 (by decide) l133 (fun _ h9 => h9) rfl dX6_text_21 ?_
    refine lv_iload_n hx hb dX6_text_24 rfl (lv_at hl 1 rfl) ?_
    refine q_callW10 (cEok ad) (rest := []) (fun u => [(qt 0, .inr (4, oX4 qt u.2.1)), (qr 0, .inr (2, oX2 qr u.2.2.1 u.2.2.2.1 u.2.2.2.2.1 u.2.2.2.2.2.1 (ad (2 + u.2.2.2.2.2.2.1)))), (qt 2, .inl (cI, 60, .inl t_tape)), (qt 3, .inl (cI, 480, .inl u.2.2.2.2.2.2.2.1)), (qt 4, .inl (cI, 8, .inl u.2.2.2.2.2.2.2.2.1)), (qr 6, .inl (cI, 60, .inl u.2.2.2.2.2.2.2.2.2))]) (fun u => u.1) ⟨hx, hb, hml, hown, hts⟩ (fun u hu => c2_reads l D cI ad qt qr r_rt r_ni t_taped r_at r_coded r_taped t_tape t_codes t_lengths r_code x1 n u hu) (cwV 2 hts gX6_text_X2_reads rfl rfl rfl hdX2_reads (rmq_ok (Nat.le_of_ble_eq_true rfl) (Nat.le_of_ble_eq_true rfl))) hK hEv hA hP hD hS [2, 3, 5, 6, 7, 8] (by decide) rfl (fun _ => rfl) (va_recv hK hP (ci := 2) (q0 := 3) rfl rfl) rfl rfl hl.1 (Nat.le_of_ble_eq_true rfl) ⟨Nat.zero_le _, Nat.zero_le _⟩ h dX6_text_25 (fun t25 t_taped_25 r_at_25 r_coded_25 r_taped_25 r_rt_25 r_ni_25 t_codes_25 t_lengths_25 r_code_25 H locs h hP hD hS => ?_)
    have hP : va_P D vwCl [(qp 0, .inr (6, oX6 qp (qb 0) (qr 0) (qv 0) (qh 0) p_kept p_timesKept)), (qb 0, .inr (1, oX1 qb b_now b_shutTill b_shutBy b_z b_waits (qa 0) (qt 0))), (qt 0, .inr (4, oX4 qt t_taped_25)), (qr 0, .inr (2, oX2 qr r_at_25 r_coded_25 r_taped_25 r_rt_25 (ad (2 + r_ni_25)))), (qp 5, .inl (cI, 7, .inl p_errors)), (qt 2, .inl (cI, 60, .inl t_tape)), (qt 3, .inl (cI, 480, .inl t_codes_25)), (qt 4, .inl (cI, 8, .inl t_lengths_25)), (qr 6, .inl (cI, 60, .inl r_code_25))] H := hP
    have hD : va_D A [(qp 0, .inr (6, oX6 qp (qb 0) (qr 0) (qv 0) (qh 0) p_kept p_timesKept)), (qb 0, .inr (1, oX1 qb b_now b_shutTill b_shutBy b_z b_waits (qa 0) (qt 0))), (qt 0, .inr (4, oX4 qt t_taped_25)), (qr 0, .inr (2, oX2 qr r_at_25 r_coded_25 r_taped_25 r_rt_25 (ad (2 + r_ni_25)))), (qp 5, .inl (cI, 7, .inl p_errors)), (qt 2, .inl (cI, 60, .inl t_tape)), (qt 3, .inl (cI, 480, .inl t_codes_25)), (qt 4, .inl (cI, 8, .inl t_lengths_25)), (qr 6, .inl (cI, 60, .inl r_code_25))] := hD
    refine lv_istore_n (lv' := [(2, .int t25), (0, .ref (qp 0)), (1, .int x1)]) hx hb dX6_text_28 rfl hl (by decide) rfl (fun ls hl => ?_)
    refine lv_iload_n hx hb dX6_text_29 rfl (lv_at hl 0 rfl) ?_
    refine q_ifge hx hb 37 h dX6_text_30 (by decide) (fun h => ?_) (fun h => ?_)
    · refine lv_bipush (v := (-10 : Int32)) hx hb dX6_text_37 (by decide) ?_
      refine lv_iload_n hx hb dX6_text_39 rfl (lv_at hl 0 rfl) ?_
      refine lv_isub hx hb dX6_text_40 ?_
      exact J41 (((-10 : Int32)) - t25) t_taped_25 r_at_25 r_coded_25 r_taped_25 r_rt_25 r_ni_25 p_errors t_codes_25 t_lengths_25 r_code_25 _ _ _ (lv_sub hl [1] rfl) hP hD hS h
    · refine lv_iconst (v := (1 : Int32)) hx hb dX6_text_33 (by decide) ?_
      refine lv_goto (tgt := 41) hx hb dX6_text_34 (by decide) ?_
      exact J41 ((1 : Int32)) t_taped_25 r_at_25 r_coded_25 r_taped_25 r_rt_25 r_ni_25 p_errors t_codes_25 t_lengths_25 r_code_25 _ _ _ (lv_sub hl [1] rfl) hP hD hS h
  · refine lv_aload_n hx hb dX6_text_7 rfl (lv_at hl 0 rfl) ?_
    refine lv_iconst (v := (1 : Int32)) hx hb dX6_text_8 (by decide) ?_
    refine q_callW2 (cEok ad) (rest := []) (fun u => [(qp 0, .inr (6, oX6 qp (qb 0) (qr 0) (qv 0) (qh 0) p_kept p_timesKept)), (qp 5, .inl (cI, 7, .inl u.2))]) (fun u => u.1) ⟨hx, hb, hml, hown, hts⟩ (fun u hu => c6_error l D cI ad qp qb qr qv qh p_kept p_timesKept p_errors ((1 : Int32)) u hu) (cwV 1 hts gX6_text_X6_error rfl rfl rfl hdX6_error (rmq_ok (Nat.le_of_ble_eq_true rfl) (Nat.le_of_ble_eq_true rfl))) hK hEv hA hP hD hS [0, 4] (by decide) rfl (fun _ => rfl) (va_recv hK hP (ci := 6) (q0 := 0) rfl rfl) rfl rfl hl.1 (Nat.le_of_ble_eq_true rfl) ⟨Nat.zero_le _, Nat.zero_le _⟩ h dX6_text_9 (fun t9 p_errors_9 H locs h hP hD hS => ?_)
    have hP : va_P D vwCl [(qp 0, .inr (6, oX6 qp (qb 0) (qr 0) (qv 0) (qh 0) p_kept p_timesKept)), (qb 0, .inr (1, oX1 qb b_now b_shutTill b_shutBy b_z b_waits (qa 0) (qt 0))), (qt 0, .inr (4, oX4 qt t_taped)), (qr 0, .inr (2, oX2 qr r_at r_coded r_taped r_rt (ad (2 + r_ni)))), (qp 5, .inl (cI, 7, .inl p_errors_9)), (qt 2, .inl (cI, 60, .inl t_tape)), (qt 3, .inl (cI, 480, .inl t_codes)), (qt 4, .inl (cI, 8, .inl t_lengths)), (qr 6, .inl (cI, 60, .inl r_code))] H := hP
    have hD : va_D A [(qp 0, .inr (6, oX6 qp (qb 0) (qr 0) (qv 0) (qh 0) p_kept p_timesKept)), (qb 0, .inr (1, oX1 qb b_now b_shutTill b_shutBy b_z b_waits (qa 0) (qt 0))), (qt 0, .inr (4, oX4 qt t_taped)), (qr 0, .inr (2, oX2 qr r_at r_coded r_taped r_rt (ad (2 + r_ni)))), (qp 5, .inl (cI, 7, .inl p_errors_9)), (qt 2, .inl (cI, 60, .inl t_tape)), (qt 3, .inl (cI, 480, .inl t_codes)), (qt 4, .inl (cI, 8, .inl t_lengths)), (qr 6, .inl (cI, 60, .inl r_code))] := hD
    exact hret (t9, t_taped, r_at, r_coded, r_taped, r_rt, r_ni, p_errors_9, t_codes, t_lengths, r_code) _ _ _ _ (vp_nar_int _) h hP hD hS dX6_text_12
