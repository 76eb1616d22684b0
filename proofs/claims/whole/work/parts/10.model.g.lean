set_option maxHeartbeats 4000000 in
set_option maxRecDepth 100000 in
theorem c7_likenessOf (l : Launch) (D : va_G) (cI : ClassId) (qm : Nat → Nat) (m_images m_newMany m_at m_open m_steps m_use m_traced m_speaks m_isParted : Int32) (m_s m_common : Nat → Int32) (x1 : Int32) (x2 : Int32) (n : Nat) (u : Int32 × (Nat → Int32)) (h : f7_likenessOf n x1 x2 m_s m_common = some u) : q_RW q_E0 l yX7_likenessOf wsX7_likenessOf (rmq (1)) D cI [.ref (qm 0), .int x1, .int x2] [(qm 0, .inr (7, oX7 qm m_images m_newMany m_at m_open m_steps m_use m_traced m_speaks m_isParted)), (qm 1, .inl (cI, 3974, .inl m_s)), (qm 15, .inl (cI, 21, .inl m_common))] [(qm 0, .inr (7, oX7 qm m_images m_newMany m_at m_open m_steps m_use m_traced m_speaks m_isParted)), (qm 1, .inl (cI, 3974, .inl m_s)), (qm 15, .inl (cI, 21, .inl u.2))] u.1 := by
  refine q_startW (fun u : Int32 × (Nat → Int32) => [(qm 0, .inr (7, oX7 qm m_images m_newMany m_at m_open m_steps m_use m_traced m_speaks m_isParted)), (qm 1, .inl (cI, 3974, .inl m_s)), (qm 15, .inl (cI, 21, .inl u.2))]) (fun u => u.1) (cc := cX7_likenessOf) (maxL := 10) (ty := .int) (own := RX7) (by decide) rfl rfl (Nat.le_of_ble_eq_true rfl) rfl (fun p e s m args below meth c Q A hx hb hml hown hts hK hEv hA hret hP hD hS ls hl => ?_)
  have in7 : ∀ w ∈ wsX70, w ∈ wsX7_likenessOf := fun w h => List.mem_cons_of_mem _ (List.mem_append_right _ (h))
  have l34 := hts (.fieldLink RX7 34 "PageWarsModel" "common" "[I") (List.mem_of_getElem? (i := 1) rfl)
  have J181 : ∀ (s0 : Int32) (s1 : Int32) (m_common : (Nat → Int32)) (H : Heap) (locs : List Loc) (ls : Array Slot), lv_has ls 10 [(0, .ref (qm 0))] → va_P D vwCl [(qm 0, .inr (7, oX7 qm m_images m_newMany m_at m_open m_steps m_use m_traced m_speaks m_isParted)), (qm 1, .inl (cI, 3974, .inl m_s)), (qm 15, .inl (cI, 21, .inl m_common))] H → va_D A [(qm 0, .inr (7, oX7 qm m_images m_newMany m_at m_open m_steps m_use m_traced m_speaks m_isParted)), (qm 1, .inl (cI, 3974, .inl m_s)), (qm 15, .inl (cI, 21, .inl m_common))] → va_S A s.heap H locs → f7_likenessOf_181 n m_s s0 s1 m_common = some u → W p l e (rmq (1)) s m args below meth c H locs 0 0 Q (F0 m 181 ls [.int s1, .int s0]) := by
    intro s0 s1 m_common H locs ls hl hP hD hS h
    unfold f7_likenessOf_181 at h
    refine q_idiv hx hb h dX7_likenessOf_181 (fun h => ?_)
    exact hret (s0 / s1, m_common) _ _ _ _ (vp_nar_int _) h hP hD hS dX7_likenessOf_182
  have J50 : ∀ (kk50 : Nat) (x1 : Int32) (x2 : Int32) (x3 : Int32) (x4 : Int32) (x5 : Int32) (m_common : (Nat → Int32)) (H : Heap) (locs : List Loc) (ls : Array Slot), lv_has ls 10 [(0, .ref (qm 0)), (1, .int x1), (2, .int x2), (3, .int x3), (4, .int x4), (5, .int x5)] → va_P D vwCl [(qm 0, .inr (7, oX7 qm m_images m_newMany m_at m_open m_steps m_use m_traced m_speaks m_isParted)), (qm 1, .inl (cI, 3974, .inl m_s)), (qm 15, .inl (cI, 21, .inl m_common))] H → va_D A [(qm 0, .inr (7, oX7 qm m_images m_newMany m_at m_open m_steps m_use m_traced m_speaks m_isParted)), (qm 1, .inl (cI, 3974, .inl m_s)), (qm 15, .inl (cI, 21, .inl m_common))] → va_S A s.heap H locs → f7_likenessOf_50 n m_s kk50 x1 x2 x3 x4 x5 m_common = some u → W p l e (rmq (1)) s m args below meth c H locs 0 0 Q (F0 m 50 ls []) := by
    intro kk50
    induction kk50 with
    | zero => intro x1 x2 x3 x4 x5 m_common H locs ls hl hP hD hS h; exact nomatch (show (none : Option (Int32 × (Nat → Int32))) = some u from h)
    | succ kk50 ih50 =>
      have J62 : ∀ (kk62 : Nat) (x1 : Int32) (x2 : Int32) (x3 : Int32) (x4 : Int32) (x5 : Int32) (x6 : Int32) (x7 : Int32) (m_common : (Nat → Int32)) (H : Heap) (locs : List Loc) (ls : Array Slot), lv_has ls 10 [(0, .ref (qm 0)), (1, .int x1), (2, .int x2), (3, .int x3), (4, .int x4), (5, .int x5), (6, .int x6), (7, .int x7)] → va_P D vwCl [(qm 0, .inr (7, oX7 qm m_images m_newMany m_at m_open m_steps m_use m_traced m_speaks m_isParted)), (qm 1, .inl (cI, 3974, .inl m_s)), (qm 15, .inl (cI, 21, .inl m_common))] H → va_D A [(qm 0, .inr (7, oX7 qm m_images m_newMany m_at m_open m_steps m_use m_traced m_speaks m_isParted)), (qm 1, .inl (cI, 3974, .inl m_s)), (qm 15, .inl (cI, 21, .inl m_common))] → va_S A s.heap H locs → f7_likenessOf_62 n m_s (f7_likenessOf_50 n m_s kk50) kk62 x1 x2 x3 x4 x5 x6 x7 m_common = some u → W p l e (rmq (1)) s m args below meth c H locs 0 0 Q (F0 m 62 ls []) := by
        intro kk62
        induction kk62 with
        | zero => intro x1 x2 x3 x4 x5 x6 x7 m_common H locs ls hl hP hD hS h; exact nomatch (show (none : Option (Int32 × (Nat → Int32))) = some u from h)
        | succ kk62 ih62 =>
          have J142 : ∀ (x1 : Int32) (x2 : Int32) (x3 : Int32) (x4 : Int32) (x5 : Int32) (x7 : Int32) (x8 : Int32) (s1 : Int32) (s2 : Int32) (m_common : (Nat → Int32)) (H : Heap) (locs : List Loc) (ls : Array Slot), lv_has ls 10 [(0, .ref (qm 0)), (1, .int x1), (2, .int x2), (3, .int x3), (4, .int x4), (5, .int x5), (7, .int x7), (8, .int x8)] → va_P D vwCl [(qm 0, .inr (7, oX7 qm m_images m_newMany m_at m_open m_steps m_use m_traced m_speaks m_isParted)), (qm 1, .inl (cI, 3974, .inl m_s)), (qm 15, .inl (cI, 21, .inl m_common))] H → va_D A [(qm 0, .inr (7, oX7 qm m_images m_newMany m_at m_open m_steps m_use m_traced m_speaks m_isParted)), (qm 1, .inl (cI, 3974, .inl m_s)), (qm 15, .inl (cI, 21, .inl m_common))] → va_S A s.heap H locs → f7_likenessOf_142 n m_s (f7_likenessOf_50 n m_s kk50) (f7_likenessOf_62 n m_s (f7_likenessOf_50 n m_s kk50) kk62) x1 x2 x3 x4 x5 x7 x8 s1 s2 m_common = some u → W p l e (rmq (1)) s m args below meth c H locs 0 0 Q (F0 m 142 ls [.int s2, .int s1, .ref (qm 15)]) := by
            intro x1 x2 x3 x4 x5 x7 x8 s1 s2 m_common H locs ls hl hP hD hS h
            unfold f7_likenessOf_142 at h
            refine q_iast hx hb hK hP hD hS 2 0 rfl rfl h dX7_likenessOf_142 (fun m_common_142 H locs h hP hD hS => ?_)
            have hP : va_P D vwCl [(qm 0, .inr (7, oX7 qm m_images m_newMany m_at m_open m_steps m_use m_traced m_speaks m_isParted)), (qm 1, .inl (cI, 3974, .inl m_s)), (qm 15, .inl (cI, 21, .inl m_common_142))] H := hP
            have hD : va_D A [(qm 0, .inr (7, oX7 qm m_images m_newMany m_at m_open m_steps m_use m_traced m_speaks m_isParted)), (qm 1, .inl (cI, 3974, .inl m_s)), (qm 15, .inl (cI, 21, .inl m_common_142))] := hD
            refine lv_iload hx hb dX7_likenessOf_143 (lv_at hl 7 rfl) ?_
            refine lv_istore (lv' := [(6, .int x8), (0, .ref (qm 0)), (1, .int x1), (2, .int x2), (3, .int x3), (4, .int x4), (5, .int x5), (7, .int x7), (8, .int x8)]) hx hb dX7_likenessOf_145 hl (by decide) rfl (fun ls hl => ?_)
            refine q_iinc (fun v => [(7, .int v), (6, .int x8), (0, .ref (qm 0)), (1, .int x1), (2, .int x2), (3, .int x3), (4, .int x4), (5, .int x5), (8, .int x8)]) hx hb h dX7_likenessOf_147 (by decide) hl (k := 7) rfl (by decide) (fun _ => rfl) (fun x7_147 ls h hl => ?_)
            refine lv_goto (tgt := 62) hx hb dX7_likenessOf_150 (by decide) ?_
            exact ih62 x1 x2 x3 x4 x5 x8 x7_147 m_common_142 _ _ _ (lv_sub hl [2, 3, 4, 5, 6, 7, 1, 0] rfl) hP hD hS h
          have J106 : ∀ (x1 : Int32) (x2 : Int32) (x3 : Int32) (x4 : Int32) (x5 : Int32) (x6 : Int32) (x7 : Int32) (x8 : Int32) (s0 : Int32) (m_common : (Nat → Int32)) (H : Heap) (locs : List Loc) (ls : Array Slot), lv_has ls 10 [(0, .ref (qm 0)), (1, .int x1), (2, .int x2), (3, .int x3), (4, .int x4), (5, .int x5), (6, .int x6), (7, .int x7), (8, .int x8)] → va_P D vwCl [(qm 0, .inr (7, oX7 qm m_images m_newMany m_at m_open m_steps m_use m_traced m_speaks m_isParted)), (qm 1, .inl (cI, 3974, .inl m_s)), (qm 15, .inl (cI, 21, .inl m_common))] H → va_D A [(qm 0, .inr (7, oX7 qm m_images m_newMany m_at m_open m_steps m_use m_traced m_speaks m_isParted)), (qm 1, .inl (cI, 3974, .inl m_s)), (qm 15, .inl (cI, 21, .inl m_common))] → va_S A s.heap H locs → f7_likenessOf_106 n m_s (f7_likenessOf_50 n m_s kk50) (f7_likenessOf_62 n m_s (f7_likenessOf_50 n m_s kk50) kk62) x1 x2 x3 x4 x5 x6 x7 x8 s0 m_common = some u → W p l e (rmq (1)) s m args below meth c H locs 0 0 Q (F0 m 106 ls [.int s0]) := by
            intro x1 x2 x3 x4 x5 x6 x7 x8 s0 m_common H locs ls hl hP hD hS h
            unfold f7_likenessOf_106 at h
            refine lv_istore (lv' := [(9, .int s0), (0, .ref (qm 0)), (1, .int x1), (2, .int x2), (3, .int x3), (4, .int x4), (5, .int x5), (6, .int x6), (7, .int x7), (8, .int x8)]) hx hb dX7_likenessOf_106 hl (by decide) rfl (fun ls hl => ?_)
            refine lv_aload_n hx hb dX7_likenessOf_108 rfl (lv_at hl 1 rfl) ?_
            refine va_get (D := D) (ci := 7) (v := .ref (qm 15)) (C := RX7) (T := TX7) (N := 24) hx hb hts in7 hown hK hP 0 rfl rfl 14 (by decide) l34 (fun _ h9 => h9) rfl dX7_likenessOf_109 ?_
            refine lv_iload hx hb dX7_likenessOf_112 (lv_at hl 8 rfl) ?_
            refine lv_aload_n hx hb dX7_likenessOf_114 rfl (lv_at hl 1 rfl) ?_
            refine lv_iload_n hx hb dX7_likenessOf_115 rfl (lv_at hl 2 rfl) ?_
            refine lv_iload hx hb dX7_likenessOf_116 (lv_at hl 6 rfl) ?_
            refine q_callR q_E0ok (rest := [.int x7, .ref (qm 15)]) ⟨hx, hb, hml, hown, hts⟩ (fun r hr => c7_wordAt l D cI qm m_images m_newMany m_at m_open m_steps m_use m_traced m_speaks m_isParted m_s x1 x5 r hr) (cwV 2 hts gX7_likenessOf_X7_wordAt rfl rfl rfl hdX7_wordAt (rmq_ok (Nat.le_of_ble_eq_true rfl) (Nat.le_of_ble_eq_true rfl))) hK hP hEv hS [0, 1] rfl (va_recv hK hP (ci := 7) (q0 := 0) rfl rfl) rfl rfl hl.1 (Nat.le_of_ble_eq_true rfl) ⟨Nat.zero_le _, Nat.zero_le _⟩ h dX7_likenessOf_118 (fun t118 h => ?_)
            refine lv_aload_n hx hb dX7_likenessOf_121 rfl (lv_at hl 1 rfl) ?_
            refine lv_iload_n hx hb dX7_likenessOf_122 rfl (lv_at hl 3 rfl) ?_
            refine lv_iload hx hb dX7_likenessOf_123 (lv_at hl 8 rfl) ?_
            refine lv_iconst (v := (1 : Int32)) hx hb dX7_likenessOf_125 (by decide) ?_
            refine lv_isub hx hb dX7_likenessOf_126 ?_
            refine q_callR q_E0ok (rest := [.int t118, .int x7, .ref (qm 15)]) ⟨hx, hb, hml, hown, hts⟩ (fun r hr => c7_wordAt l D cI qm m_images m_newMany m_at m_open m_steps m_use m_traced m_speaks m_isParted m_s x2 (x7 - ((1 : Int32))) r hr) (cwV 2 hts gX7_likenessOf_X7_wordAt rfl rfl rfl hdX7_wordAt (rmq_ok (Nat.le_of_ble_eq_true rfl) (Nat.le_of_ble_eq_true rfl))) hK hP hEv hS [0, 1] rfl (va_recv hK hP (ci := 7) (q0 := 0) rfl rfl) rfl rfl hl.1 (Nat.le_of_ble_eq_true rfl) ⟨Nat.zero_le _, Nat.zero_le _⟩ h dX7_likenessOf_127 (fun t127 h => ?_)
            refine q_cne hx hb 140 h dX7_likenessOf_130 (by decide) (fun h => ?_) (fun h => ?_)
            · refine lv_iload hx hb dX7_likenessOf_140 (lv_at hl 0 rfl) ?_
              exact J142 x1 x2 x3 x4 x5 x7 x8 x7 s0 m_common _ _ _ (lv_sub hl [1, 2, 3, 4, 5, 6, 8, 9] rfl) hP hD hS h
            · refine lv_iload hx hb dX7_likenessOf_133 (lv_at hl 7 rfl) ?_
              refine lv_iconst (v := (1 : Int32)) hx hb dX7_likenessOf_135 (by decide) ?_
              refine lv_iadd hx hb dX7_likenessOf_136 ?_
              refine lv_goto (tgt := 142) hx hb dX7_likenessOf_137 (by decide) ?_
              exact J142 x1 x2 x3 x4 x5 x7 x8 x7 (x6 + ((1 : Int32))) m_common _ _ _ (lv_sub hl [1, 2, 3, 4, 5, 6, 8, 9] rfl) hP hD hS h
          intro x1 x2 x3 x4 x5 x6 x7 m_common H locs ls hl hP hD hS h
          rw [f7_likenessOf_62.eq_2] at h
          refine lv_iload hx hb dX7_likenessOf_62 (lv_at hl 7 rfl) ?_
          refine lv_iload hx hb dX7_likenessOf_64 (lv_at hl 4 rfl) ?_
          refine q_cgt hx hb 153 h dX7_likenessOf_66 (by decide) (fun h => ?_) (fun h => ?_)
          · refine q_iinc (fun v => [(5, .int v), (0, .ref (qm 0)), (1, .int x1), (2, .int x2), (3, .int x3), (4, .int x4), (6, .int x6), (7, .int x7)]) hx hb h dX7_likenessOf_153 (by decide) hl (k := 5) rfl (by decide) (fun _ => rfl) (fun x5_153 ls h hl => ?_)
            refine lv_goto (tgt := 50) hx hb dX7_likenessOf_156 (by decide) ?_
            exact ih50 x1 x2 x3 x4 x5_153 m_common _ _ _ (lv_sub hl [1, 2, 3, 4, 5, 0] rfl) hP hD hS h
          · refine lv_aload_n hx hb dX7_likenessOf_69 rfl (lv_at hl 0 rfl) ?_
            refine va_get (D := D) (ci := 7) (v := .ref (qm 15)) (C := RX7) (T := TX7) (N := 24) hx hb hts in7 hown hK hP 0 rfl rfl 14 (by decide) l34 (fun _ h9 => h9) rfl dX7_likenessOf_70 ?_
            refine lv_iload hx hb dX7_likenessOf_73 (lv_at hl 7 rfl) ?_
            refine q_iald hx hb hK hP 2 0 rfl rfl h dX7_likenessOf_75 (fun t75 h => ?_)
            refine lv_istore (lv' := [(8, .int t75), (0, .ref (qm 0)), (1, .int x1), (2, .int x2), (3, .int x3), (4, .int x4), (5, .int x5), (6, .int x6), (7, .int x7)]) hx hb dX7_likenessOf_76 hl (by decide) rfl (fun ls hl => ?_)
            refine lv_aload_n hx hb dX7_likenessOf_78 rfl (lv_at hl 1 rfl) ?_
            refine va_get (D := D) (ci := 7) (v := .ref (qm 15)) (C := RX7) (T := TX7) (N := 24) hx hb hts in7 hown hK hP 0 rfl rfl 14 (by decide) l34 (fun _ h9 => h9) rfl dX7_likenessOf_79 ?_
            refine lv_iload hx hb dX7_likenessOf_82 (lv_at hl 8 rfl) ?_
            refine lv_iconst (v := (1 : Int32)) hx hb dX7_likenessOf_84 (by decide) ?_
            refine lv_isub hx hb dX7_likenessOf_85 ?_
            refine q_iald hx hb hK hP 2 0 rfl rfl h dX7_likenessOf_86 (fun t86 h => ?_)
            refine lv_iload hx hb dX7_likenessOf_87 (lv_at hl 0 rfl) ?_
            refine q_cle hx hb 104 h dX7_likenessOf_89 (by decide) (fun h => ?_) (fun h => ?_)
            · refine lv_iload hx hb dX7_likenessOf_104 (lv_at hl 0 rfl) ?_
              exact J106 x1 x2 x3 x4 x5 x6 x7 t75 t75 m_common _ _ _ (lv_sub hl [1, 2, 3, 4, 5, 6, 7, 8, 0] rfl) hP hD hS h
            · refine lv_aload_n hx hb dX7_likenessOf_92 rfl (lv_at hl 1 rfl) ?_
              refine va_get (D := D) (ci := 7) (v := .ref (qm 15)) (C := RX7) (T := TX7) (N := 24) hx hb hts in7 hown hK hP 0 rfl rfl 14 (by decide) l34 (fun _ h9 => h9) rfl dX7_likenessOf_93 ?_
              refine lv_iload hx hb dX7_likenessOf_96 (lv_at hl 8 rfl) ?_
              refine lv_iconst (v := (1 : Int32)) hx hb dX7_likenessOf_98 (by decide) ?_
              refine lv_isub hx hb dX7_likenessOf_99 ?_
              refine q_iald hx hb hK hP 2 0 rfl rfl h dX7_likenessOf_100 (fun t100 h => ?_)
              refine lv_goto (tgt := 106) hx hb dX7_likenessOf_101 (by decide) ?_
              exact J106 x1 x2 x3 x4 x5 x6 x7 t75 t100 m_common _ _ _ (lv_sub hl [1, 2, 3, 4, 5, 6, 7, 8, 0] rfl) hP hD hS h
      intro x1 x2 x3 x4 x5 m_common H locs ls hl hP hD hS h
      rw [f7_likenessOf_50.eq_2] at h
      refine lv_iload hx hb dX7_likenessOf_50 (lv_at hl 5 rfl) ?_
      refine lv_iload_n hx hb dX7_likenessOf_52 rfl (lv_at hl 3 rfl) ?_
      refine q_cge hx hb 159 h dX7_likenessOf_53 (by decide) (fun h => ?_) (fun h => ?_)
      · refine lv_bipush (v := (100 : Int32)) hx hb dX7_likenessOf_159 (by decide) ?_
        refine lv_aload_n hx hb dX7_likenessOf_161 rfl (lv_at hl 0 rfl) ?_
        refine va_get (D := D) (ci := 7) (v := .ref (qm 15)) (C := RX7) (T := TX7) (N := 24) hx hb hts in7 hown hK hP 0 rfl rfl 14 (by decide) l34 (fun _ h9 => h9) rfl dX7_likenessOf_162 ?_
        refine lv_iload hx hb dX7_likenessOf_165 (lv_at hl 4 rfl) ?_
        refine q_iald hx hb hK hP 2 0 rfl rfl h dX7_likenessOf_167 (fun t167 h => ?_)
        refine lv_imul hx hb dX7_likenessOf_168 ?_
        refine lv_iload_n hx hb dX7_likenessOf_169 rfl (lv_at hl 3 rfl) ?_
        refine lv_iload hx hb dX7_likenessOf_170 (lv_at hl 4 rfl) ?_
        refine q_cle hx hb 179 h dX7_likenessOf_172 (by decide) (fun h => ?_) (fun h => ?_)
        · refine lv_iload hx hb dX7_likenessOf_179 (lv_at hl 4 rfl) ?_
          exact J181 (((100 : Int32)) * t167) x4 m_common _ _ _ (lv_sub hl [0] rfl) hP hD hS h
        · refine lv_iload_n hx hb dX7_likenessOf_175 rfl (lv_at hl 3 rfl) ?_
          refine lv_goto (tgt := 181) hx hb dX7_likenessOf_176 (by decide) ?_
          exact J181 (((100 : Int32)) * t167) x3 m_common _ _ _ (lv_sub hl [0] rfl) hP hD hS h
      · refine lv_iconst (v := (0 : Int32)) hx hb dX7_likenessOf_56 (by decide) ?_
        refine lv_istore (lv' := [(6, .int ((0 : Int32))), (0, .ref (qm 0)), (1, .int x1), (2, .int x2), (3, .int x3), (4, .int x4), (5, .int x5)]) hx hb dX7_likenessOf_57 hl (by decide) rfl (fun ls hl => ?_)
        refine lv_iconst (v := (1 : Int32)) hx hb dX7_likenessOf_59 (by decide) ?_
        refine lv_istore (lv' := [(7, .int ((1 : Int32))), (6, .int ((0 : Int32))), (0, .ref (qm 0)), (1, .int x1), (2, .int x2), (3, .int x3), (4, .int x4), (5, .int x5)]) hx hb dX7_likenessOf_60 hl (by decide) rfl (fun ls hl => ?_)
        exact J62 n x1 x2 x3 x4 x5 ((0 : Int32)) ((1 : Int32)) m_common _ _ _ (lv_sub hl [2, 3, 4, 5, 6, 7, 1, 0] rfl) hP hD hS h
  have J26 : ∀ (kk26 : Nat) (x1 : Int32) (x2 : Int32) (x3 : Int32) (x4 : Int32) (x5 : Int32) (m_common : (Nat → Int32)) (H : Heap) (locs : List Loc) (ls : Array Slot), lv_has ls 10 [(0, .ref (qm 0)), (1, .int x1), (2, .int x2), (3, .int x3), (4, .int x4), (5, .int x5)] → va_P D vwCl [(qm 0, .inr (7, oX7 qm m_images m_newMany m_at m_open m_steps m_use m_traced m_speaks m_isParted)), (qm 1, .inl (cI, 3974, .inl m_s)), (qm 15, .inl (cI, 21, .inl m_common))] H → va_D A [(qm 0, .inr (7, oX7 qm m_images m_newMany m_at m_open m_steps m_use m_traced m_speaks m_isParted)), (qm 1, .inl (cI, 3974, .inl m_s)), (qm 15, .inl (cI, 21, .inl m_common))] → va_S A s.heap H locs → f7_likenessOf_26 n m_s kk26 x1 x2 x3 x4 x5 m_common = some u → W p l e (rmq (1)) s m args below meth c H locs 0 0 Q (F0 m 26 ls []) := by
    intro kk26
    induction kk26 with
    | zero => intro x1 x2 x3 x4 x5 m_common H locs ls hl hP hD hS h; exact nomatch (show (none : Option (Int32 × (Nat → Int32))) = some u from h)
    | succ kk26 ih26 =>
      intro x1 x2 x3 x4 x5 m_common H locs ls hl hP hD hS h
      rw [f7_likenessOf_26.eq_2] at h
      refine lv_iload hx hb dX7_likenessOf_26 (lv_at hl 5 rfl) ?_
      refine lv_iload hx hb dX7_likenessOf_28 (lv_at hl 4 rfl) ?_
      refine q_cgt hx hb 47 h dX7_likenessOf_30 (by decide) (fun h => ?_) (fun h => ?_)
      · refine lv_iconst (v := (0 : Int32)) hx hb dX7_likenessOf_47 (by decide) ?_
        refine lv_istore (lv' := [(5, .int ((0 : Int32))), (0, .ref (qm 0)), (1, .int x1), (2, .int x2), (3, .int x3), (4, .int x4)]) hx hb dX7_likenessOf_48 hl (by decide) rfl (fun ls hl => ?_)
        exact J50 n x1 x2 x3 x4 ((0 : Int32)) m_common _ _ _ (lv_sub hl [1, 2, 3, 4, 5, 0] rfl) hP hD hS h
      · refine lv_aload_n hx hb dX7_likenessOf_33 rfl (lv_at hl 0 rfl) ?_
        refine va_get (D := D) (ci := 7) (v := .ref (qm 15)) (C := RX7) (T := TX7) (N := 24) hx hb hts in7 hown hK hP 0 rfl rfl 14 (by decide) l34 (fun _ h9 => h9) rfl dX7_likenessOf_34 ?_
        refine lv_iload hx hb dX7_likenessOf_37 (lv_at hl 5 rfl) ?_
        refine lv_iconst (v := (0 : Int32)) hx hb dX7_likenessOf_39 (by decide) ?_
        refine q_iast hx hb hK hP hD hS 2 0 rfl rfl h dX7_likenessOf_40 (fun m_common_40 H locs h hP hD hS => ?_)
        have hP : va_P D vwCl [(qm 0, .inr (7, oX7 qm m_images m_newMany m_at m_open m_steps m_use m_traced m_speaks m_isParted)), (qm 1, .inl (cI, 3974, .inl m_s)), (qm 15, .inl (cI, 21, .inl m_common_40))] H := hP
        have hD : va_D A [(qm 0, .inr (7, oX7 qm m_images m_newMany m_at m_open m_steps m_use m_traced m_speaks m_isParted)), (qm 1, .inl (cI, 3974, .inl m_s)), (qm 15, .inl (cI, 21, .inl m_common_40))] := hD
        refine q_iinc (fun v => [(5, .int v), (0, .ref (qm 0)), (1, .int x1), (2, .int x2), (3, .int x3), (4, .int x4)]) hx hb h dX7_likenessOf_41 (by decide) hl (k := 5) rfl (by decide) (fun _ => rfl) (fun x5_41 ls h hl => ?_)
        refine lv_goto (tgt := 26) hx hb dX7_likenessOf_44 (by decide) ?_
        exact ih26 x1 x2 x3 x4 x5_41 m_common_40 _ _ _ (lv_sub hl [1, 2, 3, 4, 5, 0] rfl) hP hD hS h
  unfold f7_likenessOf at h
  refine lv_aload_n hx hb dX7_likenessOf_0 rfl (lv_at hl 0 rfl) ?_
  refine lv_iload_n hx hb dX7_likenessOf_1 rfl (lv_at hl 1 rfl) ?_
  refine q_callR q_E0ok (rest := []) ⟨hx, hb, hml, hown, hts⟩ (fun r hr => c7_sizeOf l D cI qm m_images m_newMany m_at m_open m_steps m_use m_traced m_speaks m_isParted m_s x1 r hr) (cwV 1 hts gX7_likenessOf_X7_sizeOf rfl rfl rfl hdX7_sizeOf (rmq_ok (Nat.le_of_ble_eq_true rfl) (Nat.le_of_ble_eq_true rfl))) hK hP hEv hS [0, 1] rfl (va_recv hK hP (ci := 7) (q0 := 0) rfl rfl) rfl rfl hl.1 (Nat.le_of_ble_eq_true rfl) ⟨Nat.zero_le _, Nat.zero_le _⟩ h dX7_likenessOf_2 (fun t2 h => ?_)
  refine lv_istore_n (lv' := [(3, .int t2), (0, .ref (qm 0)), (1, .int x1), (2, .int x2)]) hx hb dX7_likenessOf_5 rfl hl (by decide) rfl (fun ls hl => ?_)
  refine lv_aload_n hx hb dX7_likenessOf_6 rfl (lv_at hl 1 rfl) ?_
  refine lv_iload_n hx hb dX7_likenessOf_7 rfl (lv_at hl 3 rfl) ?_
  refine q_callR q_E0ok (rest := []) ⟨hx, hb, hml, hown, hts⟩ (fun r hr => c7_sizeOf l D cI qm m_images m_newMany m_at m_open m_steps m_use m_traced m_speaks m_isParted m_s x2 r hr) (cwV 1 hts gX7_likenessOf_X7_sizeOf rfl rfl rfl hdX7_sizeOf (rmq_ok (Nat.le_of_ble_eq_true rfl) (Nat.le_of_ble_eq_true rfl))) hK hP hEv hS [0, 1] rfl (va_recv hK hP (ci := 7) (q0 := 0) rfl rfl) rfl rfl hl.1 (Nat.le_of_ble_eq_true rfl) ⟨Nat.zero_le _, Nat.zero_le _⟩ h dX7_likenessOf_8 (fun t8 h => ?_)
  refine lv_istore (lv' := [(4, .int t8), (3, .int t2), (0, .ref (qm 0)), (1, .int x1), (2, .int x2)]) hx hb dX7_likenessOf_11 hl (by decide) rfl (fun ls hl => ?_)
  refine lv_iload_n hx hb dX7_likenessOf_13 rfl (lv_at hl 1 rfl) ?_
  refine lv_iload hx hb dX7_likenessOf_14 (lv_at hl 0 rfl) ?_
  refine lv_iadd hx hb dX7_likenessOf_16 ?_
  refine q_ifne hx hb 23 h dX7_likenessOf_17 (by decide) (fun h => ?_) (fun h => ?_)
  · refine lv_iconst (v := (0 : Int32)) hx hb dX7_likenessOf_23 (by decide) ?_
    refine lv_istore (lv' := [(5, .int ((0 : Int32))), (4, .int t8), (3, .int t2), (0, .ref (qm 0)), (1, .int x1), (2, .int x2)]) hx hb dX7_likenessOf_24 hl (by decide) rfl (fun ls hl => ?_)
    exact J26 n x1 x2 t2 t8 ((0 : Int32)) m_common _ _ _ (lv_sub hl [3, 4, 5, 2, 1, 0] rfl) hP hD hS h
  · refine lv_bipush (v := (100 : Int32)) hx hb dX7_likenessOf_20 (by decide) ?_
    exact hret ((100 : Int32), m_common) _ _ _ _ (vp_nar_int _) h hP hD hS dX7_likenessOf_22
set_option maxHeartbeats 4000000 in
set_option maxRecDepth 100000 in
theorem c7_likeness (l : Launch) (D : va_G) (cI : ClassId) (qm : Nat → Nat) (m_images m_newMany m_at m_open m_steps m_use m_traced m_speaks m_isParted : Int32) (m_s m_errors m_common : Nat → Int32) (x1 : Int32) (x2 : Int32) (n : Nat) (u : Int32 × (Nat → Int32) × (Nat → Int32)) (h : f7_likeness n x1 x2 m_s m_errors m_common = some u) : q_RW q_E0 l yX7_likeness wsX7_likeness (rmq (2)) D cI [.ref (qm 0), .int x1, .int x2] [(qm 0, .inr (7, oX7 qm m_images m_newMany m_at m_open m_steps m_use m_traced m_speaks m_isParted)), (qm 1, .inl (cI, 3974, .inl m_s)), (qm 4, .inl (cI, 7, .inl m_errors)), (qm 15, .inl (cI, 21, .inl m_common))] [(qm 0, .inr (7, oX7 qm m_images m_newMany m_at m_open m_steps m_use m_traced m_speaks m_isParted)), (qm 1, .inl (cI, 3974, .inl m_s)), (qm 4, .inl (cI, 7, .inl u.2.1)), (qm 15, .inl (cI, 21, .inl u.2.2))] u.1 := by
  refine q_startW (fun u : Int32 × (Nat → Int32) × (Nat → Int32) => [(qm 0, .inr (7, oX7 qm m_images m_newMany m_at m_open m_steps m_use m_traced m_speaks m_isParted)), (qm 1, .inl (cI, 3974, .inl m_s)), (qm 4, .inl (cI, 7, .inl u.2.1)), (qm 15, .inl (cI, 21, .inl u.2.2))]) (fun u => u.1) (cc := cX7_likeness) (maxL := 3) (ty := .int) (own := RX7) (by decide) rfl rfl (Nat.le_of_ble_eq_true rfl) rfl (fun p e s m args below meth c Q A hx hb hml hown hts hK hEv hA hret hP hD hS ls hl => ?_)
  have in7 : ∀ w ∈ wsX70, w ∈ wsX7_likeness := fun w h => List.mem_cons_of_mem _ (List.mem_append_right _ (h))
  have J30 : ∀ (s0 : Int32) (m_errors : (Nat → Int32)) (m_common : (Nat → Int32)) (H : Heap) (locs : List Loc) (ls : Array Slot), lv_has ls 3 [(0, .ref (qm 0))] → va_P D vwCl [(qm 0, .inr (7, oX7 qm m_images m_newMany m_at m_open m_steps m_use m_traced m_speaks m_isParted)), (qm 1, .inl (cI, 3974, .inl m_s)), (qm 4, .inl (cI, 7, .inl m_errors)), (qm 15, .inl (cI, 21, .inl m_common))] H → va_D A [(qm 0, .inr (7, oX7 qm m_images m_newMany m_at m_open m_steps m_use m_traced m_speaks m_isParted)), (qm 1, .inl (cI, 3974, .inl m_s)), (qm 4, .inl (cI, 7, .inl m_errors)), (qm 15, .inl (cI, 21, .inl m_common))] → va_S A s.heap H locs → f7_likeness_30 n m_s s0 m_errors m_common = some u → W p l e (rmq (2)) s m args below meth c H locs 0 0 Q (F0 m 30 ls [.int s0]) := by
    intro s0 m_errors m_common H locs ls hl hP hD hS h
    unfold f7_likeness_30 at h
    exact hret (s0, m_errors, m_common) _ _ _ _ (vp_nar_int _) h hP hD hS dX7_likeness_30
  have J25 : ∀ (m_errors : (Nat → Int32)) (m_common : (Nat → Int32)) (H : Heap) (locs : List Loc) (ls : Array Slot), lv_has ls 3 [(0, .ref (qm 0))] → va_P D vwCl [(qm 0, .inr (7, oX7 qm m_images m_newMany m_at m_open m_steps m_use m_traced m_speaks m_isParted)), (qm 1, .inl (cI, 3974, .inl m_s)), (qm 4, .inl (cI, 7, .inl m_errors)), (qm 15, .inl (cI, 21, .inl m_common))] H → va_D A [(qm 0, .inr (7, oX7 qm m_images m_newMany m_at m_open m_steps m_use m_traced m_speaks m_isParted)), (qm 1, .inl (cI, 3974, .inl m_s)), (qm 4, .inl (cI, 7, .inl m_errors)), (qm 15, .inl (cI, 21, .inl m_common))] → va_S A s.heap H locs → f7_likeness_25 n m_s m_errors m_common = some u → W p l e (rmq (2)) s m args below meth c H locs 0 0 Q (F0 m 25 ls []) := by
    intro m_errors m_common H locs ls hl hP hD hS h
    unfold f7_likeness_25 at h
    refine lv_aload_n hx hb dX7_likeness_25 rfl (lv_at hl 0 rfl) ?_
    refine lv_iconst (v := (1 : Int32)) hx hb dX7_likeness_26 (by decide) ?_
    refine q_callW2 q_E0ok (rest := []) (fun u => [(qm 0, .inr (7, oX7 qm m_images m_newMany m_at m_open m_steps m_use m_traced m_speaks m_isParted)), (qm 4, .inl (cI, 7, .inl u.2))]) (fun u => u.1) ⟨hx, hb, hml, hown, hts⟩ (fun u hu => c7_error l D cI qm m_images m_newMany m_at m_open m_steps m_use m_traced m_speaks m_isParted m_errors ((1 : Int32)) u hu) (cwV 1 hts gX7_likeness_X7_error rfl rfl rfl hdX7_error (rmq_ok (Nat.le_of_ble_eq_true rfl) (Nat.le_of_ble_eq_true rfl))) hK hEv hA hP hD hS [0, 2] (by decide) rfl (fun _ => rfl) (va_recv hK hP (ci := 7) (q0 := 0) rfl rfl) rfl rfl hl.1 (Nat.le_of_ble_eq_true rfl) ⟨Nat.zero_le _, Nat.zero_le _⟩ h dX7_likeness_27 (fun t27 m_errors_27 H locs h hP hD hS => ?_)
    have hP : va_P D vwCl [(qm 0, .inr (7, oX7 qm m_images m_newMany m_at m_open m_steps m_use m_traced m_speaks m_isParted)), (qm 1, .inl (cI, 3974, .inl m_s)), (qm 4, .inl (cI, 7, .inl m_errors_27)), (qm 15, .inl (cI, 21, .inl m_common))] H := hP
    have hD : va_D A [(qm 0, .inr (7, oX7 qm m_images m_newMany m_at m_open m_steps m_use m_traced m_speaks m_isParted)), (qm 1, .inl (cI, 3974, .inl m_s)), (qm 4, .inl (cI, 7, .inl m_errors_27)), (qm 15, .inl (cI, 21, .inl m_common))] := hD
    exact J30 t27 m_errors_27 m_common _ _ _ (lv_sub hl [0] rfl) hP hD hS h
  unfold f7_likeness at h
  refine lv_aload_n hx hb dX7_likeness_0 rfl (lv_at hl 0 rfl) ?_
  refine lv_iload_n hx hb dX7_likeness_1 rfl (lv_at hl 1 rfl) ?_
  refine q_callR q_E0ok (rest := []) ⟨hx, hb, hml, hown, hts⟩ (fun r hr => c7_isVersion l D cI qm m_images m_newMany m_at m_open m_steps m_use m_traced m_speaks m_isParted m_s x1 r hr) (cwV 1 hts gX7_likeness_X7_isVersion rfl rfl rfl hdX7_isVersion (rmq_ok (Nat.le_of_ble_eq_true rfl) (Nat.le_of_ble_eq_true rfl))) hK hP hEv hS [0, 1] rfl (va_recv hK hP (ci := 7) (q0 := 0) rfl rfl) rfl rfl hl.1 (Nat.le_of_ble_eq_true rfl) ⟨Nat.zero_le _, Nat.zero_le _⟩ h dX7_likeness_2 (fun t2 h => ?_)
  refine q_ifeq hx hb 25 h dX7_likeness_5 (by decide) (fun h => ?_) (fun h => ?_)
  · exact J25 m_errors m_common _ _ _ (lv_sub hl [0] rfl) hP hD hS h
  · refine lv_aload_n hx hb dX7_likeness_8 rfl (lv_at hl 0 rfl) ?_
    refine lv_iload_n hx hb dX7_likeness_9 rfl (lv_at hl 2 rfl) ?_
    refine q_callR q_E0ok (rest := []) ⟨hx, hb, hml, hown, hts⟩ (fun r hr => c7_isVersion l D cI qm m_images m_newMany m_at m_open m_steps m_use m_traced m_speaks m_isParted m_s x2 r hr) (cwV 1 hts gX7_likeness_X7_isVersion rfl rfl rfl hdX7_isVersion (rmq_ok (Nat.le_of_ble_eq_true rfl) (Nat.le_of_ble_eq_true rfl))) hK hP hEv hS [0, 1] rfl (va_recv hK hP (ci := 7) (q0 := 0) rfl rfl) rfl rfl hl.1 (Nat.le_of_ble_eq_true rfl) ⟨Nat.zero_le _, Nat.zero_le _⟩ h dX7_likeness_10 (fun t10 h => ?_)
    refine q_ifeq hx hb 25 h dX7_likeness_13 (by decide) (fun h => ?_) (fun h => ?_)
    · exact J25 m_errors m_common _ _ _ (lv_sub hl [0] rfl) hP hD hS h
    · refine lv_aload_n hx hb dX7_likeness_16 rfl (lv_at hl 0 rfl) ?_
      refine lv_iload_n hx hb dX7_likeness_17 rfl (lv_at hl 1 rfl) ?_
      refine lv_iload_n hx hb dX7_likeness_18 rfl (lv_at hl 2 rfl) ?_
      refine q_callW2 q_E0ok (rest := []) (fun u => [(qm 0, .inr (7, oX7 qm m_images m_newMany m_at m_open m_steps m_use m_traced m_speaks m_isParted)), (qm 1, .inl (cI, 3974, .inl m_s)), (qm 15, .inl (cI, 21, .inl u.2))]) (fun u => u.1) ⟨hx, hb, hml, hown, hts⟩ (fun u hu => c7_likenessOf l D cI qm m_images m_newMany m_at m_open m_steps m_use m_traced m_speaks m_isParted m_s m_common x1 x2 n u hu) (cwV 2 hts gX7_likeness_X7_likenessOf rfl rfl rfl hdX7_likenessOf (rmq_ok (Nat.le_of_ble_eq_true rfl) (Nat.le_of_ble_eq_true rfl))) hK hEv hA hP hD hS [0, 1, 3] (by decide) rfl (fun _ => rfl) (va_recv hK hP (ci := 7) (q0 := 0) rfl rfl) rfl rfl hl.1 (Nat.le_of_ble_eq_true rfl) ⟨Nat.zero_le _, Nat.zero_le _⟩ h dX7_likeness_19 (fun t19 m_common_19 H locs h hP hD hS => ?_)
      have hP : va_P D vwCl [(qm 0, .inr (7, oX7 qm m_images m_newMany m_at m_open m_steps m_use m_traced m_speaks m_isParted)), (qm 1, .inl (cI, 3974, .inl m_s)), (qm 4, .inl (cI, 7, .inl m_errors)), (qm 15, .inl (cI, 21, .inl m_common_19))] H := hP
      have hD : va_D A [(qm 0, .inr (7, oX7 qm m_images m_newMany m_at m_open m_steps m_use m_traced m_speaks m_isParted)), (qm 1, .inl (cI, 3974, .inl m_s)), (qm 4, .inl (cI, 7, .inl m_errors)), (qm 15, .inl (cI, 21, .inl m_common_19))] := hD
      refine lv_goto (tgt := 30) hx hb dX7_likeness_22 (by decide) ?_
      exact J30 t19 m_errors m_common_19 _ _ _ (lv_sub hl [0] rfl) hP hD hS h
set_option maxHeartbeats 4000000 in
set_option maxRecDepth 100000 in
theorem c7_from (l : Launch) (D : va_G) (cI : ClassId) (qm : Nat → Nat) (m_images m_newMany m_at m_open m_steps m_use m_traced m_speaks m_isParted : Int32) (m_s m_errors m_common : Nat → Int32) (x1 : Int32) (n : Nat) (u : Int32 × (Nat → Int32) × (Nat → Int32)) (h : f7_from n x1 m_s m_errors m_common = some u) : q_RW q_E0 l yX7_from wsX7_from (rmq (2)) D cI [.ref (qm 0), .int x1] [(qm 0, .inr (7, oX7 qm m_images m_newMany m_at m_open m_steps m_use m_traced m_speaks m_isParted)), (qm 1, .inl (cI, 3974, .inl m_s)), (qm 4, .inl (cI, 7, .inl m_errors)), (qm 15, .inl (cI, 21, .inl m_common))] [(qm 0, .inr (7, oX7 qm m_images m_newMany m_at m_open m_steps m_use m_traced m_speaks m_isParted)), (qm 1, .inl (cI, 3974, .inl m_s)), (qm 4, .inl (cI, 7, .inl u.2.1)), (qm 15, .inl (cI, 21, .inl u.2.2))] u.1 := by
  refine q_startW (fun u : Int32 × (Nat → Int32) × (Nat → Int32) => [(qm 0, .inr (7, oX7 qm m_images m_newMany m_at m_open m_steps m_use m_traced m_speaks m_isParted)), (qm 1, .inl (cI, 3974, .inl m_s)), (qm 4, .inl (cI, 7, .inl u.2.1)), (qm 15, .inl (cI, 21, .inl u.2.2))]) (fun u => u.1) (cc := cX7_from) (maxL := 4) (ty := .int) (own := RX7) (by decide) rfl rfl (Nat.le_of_ble_eq_true rfl) rfl (fun p e s m args below meth c Q A hx hb hml hown hts hK hEv hA hret hP hD hS ls hl => ?_)
  have in7 : ∀ w ∈ wsX70, w ∈ wsX7_from := fun w h => List.mem_cons_of_mem _ (List.mem_append_right _ (h))
  have J29 : ∀ (kk29 : Nat) (x1 : Int32) (x2 : Int32) (x3 : Int32) (m_errors : (Nat → Int32)) (m_common : (Nat → Int32)) (H : Heap) (locs : List Loc) (ls : Array Slot), lv_has ls 4 [(0, .ref (qm 0)), (1, .int x1), (2, .int x2), (3, .int x3)] → va_P D vwCl [(qm 0, .inr (7, oX7 qm m_images m_newMany m_at m_open m_steps m_use m_traced m_speaks m_isParted)), (qm 1, .inl (cI, 3974, .inl m_s)), (qm 4, .inl (cI, 7, .inl m_errors)), (qm 15, .inl (cI, 21, .inl m_common))] H → va_D A [(qm 0, .inr (7, oX7 qm m_images m_newMany m_at m_open m_steps m_use m_traced m_speaks m_isParted)), (qm 1, .inl (cI, 3974, .inl m_s)), (qm 4, .inl (cI, 7, .inl m_errors)), (qm 15, .inl (cI, 21, .inl m_common))] → va_S A s.heap H locs → f7_from_29 n m_s kk29 x1 x2 x3 m_errors m_common = some u → W p l e (rmq (2)) s m args below meth c H locs 0 0 Q (F0 m 29 ls []) := by
    intro kk29
    induction kk29 with
    | zero => intro x1 x2 x3 m_errors m_common H locs ls hl hP hD hS h; exact nomatch (show (none : Option (Int32 × (Nat → Int32) × (Nat → Int32))) = some u from h)
    | succ kk29 ih29 =>
      have J56 : ∀ (x1 : Int32) (x3 : Int32) (s0 : Int32) (m_errors : (Nat → Int32)) (m_common : (Nat → Int32)) (H : Heap) (locs : List Loc) (ls : Array Slot), lv_has ls 4 [(0, .ref (qm 0)), (1, .int x1), (3, .int x3)] → va_P D vwCl [(qm 0, .inr (7, oX7 qm m_images m_newMany m_at m_open m_steps m_use m_traced m_speaks m_isParted)), (qm 1, .inl (cI, 3974, .inl m_s)), (qm 4, .inl (cI, 7, .inl m_errors)), (qm 15, .inl (cI, 21, .inl m_common))] H → va_D A [(qm 0, .inr (7, oX7 qm m_images m_newMany m_at m_open m_steps m_use m_traced m_speaks m_isParted)), (qm 1, .inl (cI, 3974, .inl m_s)), (qm 4, .inl (cI, 7, .inl m_errors)), (qm 15, .inl (cI, 21, .inl m_common))] → va_S A s.heap H locs → f7_from_56 n m_s (f7_from_29 n m_s kk29) x1 x3 s0 m_errors m_common = some u → W p l e (rmq (2)) s m args below meth c H locs 0 0 Q (F0 m 56 ls [.int s0]) := by
        intro x1 x3 s0 m_errors m_common H locs ls hl hP hD hS h
        unfold f7_from_56 at h
        refine lv_istore_n (lv' := [(2, .int s0), (0, .ref (qm 0)), (1, .int x1), (3, .int x3)]) hx hb dX7_from_56 rfl hl (by decide) rfl (fun ls hl => ?_)
        refine q_iinc (fun v => [(3, .int v), (2, .int s0), (0, .ref (qm 0)), (1, .int x1)]) hx hb h dX7_from_57 (by decide) hl (k := 3) rfl (by decide) (fun _ => rfl) (fun x3_57 ls h hl => ?_)
        refine lv_goto (tgt := 29) hx hb dX7_from_60 (by decide) ?_
        exact ih29 x1 s0 x3_57 m_errors m_common _ _ _ (lv_sub hl [2, 3, 1, 0] rfl) hP hD hS h
      intro x1 x2 x3 m_errors m_common H locs ls hl hP hD hS h
      rw [f7_from_29.eq_2] at h
      refine lv_iload_n hx hb dX7_from_29 rfl (lv_at hl 3 rfl) ?_
      refine lv_iload_n hx hb dX7_from_30 rfl (lv_at hl 1 rfl) ?_
      refine lv_iconst (v := (1 : Int32)) hx hb dX7_from_31 (by decide) ?_
      refine lv_isub hx hb dX7_from_32 ?_
      refine q_cge hx hb 63 h dX7_from_33 (by decide) (fun h => ?_) (fun h => ?_)
      · refine lv_iload_n hx hb dX7_from_63 rfl (lv_at hl 2 rfl) ?_
        exact hret (x2, m_errors, m_common) _ _ _ _ (vp_nar_int _) h hP hD hS dX7_from_64
      · refine lv_aload_n hx hb dX7_from_36 rfl (lv_at hl 0 rfl) ?_
        refine lv_iload_n hx hb dX7_from_37 rfl (lv_at hl 1 rfl) ?_
        refine lv_iload_n hx hb dX7_from_38 rfl (lv_at hl 3 rfl) ?_
        refine q_callW2 q_E0ok (rest := []) (fun u => [(qm 0, .inr (7, oX7 qm m_images m_newMany m_at m_open m_steps m_use m_traced m_speaks m_isParted)), (qm 1, .inl (cI, 3974, .inl m_s)), (qm 15, .inl (cI, 21, .inl u.2))]) (fun u => u.1) ⟨hx, hb, hml, hown, hts⟩ (fun u hu => c7_likenessOf l D cI qm m_images m_newMany m_at m_open m_steps m_use m_traced m_speaks m_isParted m_s m_common x1 x3 n u hu) (cwV 2 hts gX7_from_X7_likenessOf rfl rfl rfl hdX7_likenessOf (rmq_ok (Nat.le_of_ble_eq_true rfl) (Nat.le_of_ble_eq_true rfl))) hK hEv hA hP hD hS [0, 1, 3] (by decide) rfl (fun _ => rfl) (va_recv hK hP (ci := 7) (q0 := 0) rfl rfl) rfl rfl hl.1 (Nat.le_of_ble_eq_true rfl) ⟨Nat.zero_le _, Nat.zero_le _⟩ h dX7_from_39 (fun t39 m_common_39 H locs h hP hD hS => ?_)
        have hP : va_P D vwCl [(qm 0, .inr (7, oX7 qm m_images m_newMany m_at m_open m_steps m_use m_traced m_speaks m_isParted)), (qm 1, .inl (cI, 3974, .inl m_s)), (qm 4, .inl (cI, 7, .inl m_errors)), (qm 15, .inl (cI, 21, .inl m_common_39))] H := hP
        have hD : va_D A [(qm 0, .inr (7, oX7 qm m_images m_newMany m_at m_open m_steps m_use m_traced m_speaks m_isParted)), (qm 1, .inl (cI, 3974, .inl m_s)), (qm 4, .inl (cI, 7, .inl m_errors)), (qm 15, .inl (cI, 21, .inl m_common_39))] := hD
        refine lv_aload_n hx hb dX7_from_42 rfl (lv_at hl 0 rfl) ?_
        refine lv_iload_n hx hb dX7_from_43 rfl (lv_at hl 1 rfl) ?_
        refine lv_iload_n hx hb dX7_from_44 rfl (lv_at hl 2 rfl) ?_
        refine q_callW2 q_E0ok (rest := [.int t39]) (fun u => [(qm 0, .inr (7, oX7 qm m_images m_newMany m_at m_open m_steps m_use m_traced m_speaks m_isParted)), (qm 1, .inl (cI, 3974, .inl m_s)), (qm 15, .inl (cI, 21, .inl u.2))]) (fun u => u.1) ⟨hx, hb, hml, hown, hts⟩ (fun u hu => c7_likenessOf l D cI qm m_images m_newMany m_at m_open m_steps m_use m_traced m_speaks m_isParted m_s m_common_39 x1 x2 n u hu) (cwV 2 hts gX7_from_X7_likenessOf rfl rfl rfl hdX7_likenessOf (rmq_ok (Nat.le_of_ble_eq_true rfl) (Nat.le_of_ble_eq_true rfl))) hK hEv hA hP hD hS [0, 1, 3] (by decide) rfl (fun _ => rfl) (va_recv hK hP (ci := 7) (q0 := 0) rfl rfl) rfl rfl hl.1 (Nat.le_of_ble_eq_true rfl) ⟨Nat.zero_le _, Nat.zero_le _⟩ h dX7_from_45 (fun t45 m_common_45 H locs h hP hD hS => ?_)
        have hP : va_P D vwCl [(qm 0, .inr (7, oX7 qm m_images m_newMany m_at m_open m_steps m_use m_traced m_speaks m_isParted)), (qm 1, .inl (cI, 3974, .inl m_s)), (qm 4, .inl (cI, 7, .inl m_errors)), (qm 15, .inl (cI, 21, .inl m_common_45))] H := hP
        have hD : va_D A [(qm 0, .inr (7, oX7 qm m_images m_newMany m_at m_open m_steps m_use m_traced m_speaks m_isParted)), (qm 1, .inl (cI, 3974, .inl m_s)), (qm 4, .inl (cI, 7, .inl m_errors)), (qm 15, .inl (cI, 21, .inl m_common_45))] := hD
        refine q_clt hx hb 55 h dX7_from_48 (by decide) (fun h => ?_) (fun h => ?_)
        · refine lv_iload_n hx hb dX7_from_55 rfl (lv_at hl 2 rfl) ?_
          exact J56 x1 x3 x2 m_errors m_common_45 _ _ _ (lv_sub hl [0, 1, 3] rfl) hP hD hS h
        · refine lv_iload_n hx hb dX7_from_51 rfl (lv_at hl 3 rfl) ?_
          refine lv_goto (tgt := 56) hx hb dX7_from_52 (by decide) ?_
          exact J56 x1 x3 x3 m_errors m_common_45 _ _ _ (lv_sub hl [0, 1, 3] rfl) hP hD hS h
  unfold f7_from at h
  refine lv_aload_n hx hb dX7_from_0 rfl (lv_at hl 0 rfl) ?_
  refine lv_iload_n hx hb dX7_from_1 rfl (lv_at hl 1 rfl) ?_
  refine q_callR q_E0ok (rest := []) ⟨hx, hb, hml, hown, hts⟩ (fun r hr => c7_isVersion l D cI qm m_images m_newMany m_at m_open m_steps m_use m_traced m_speaks m_isParted m_s x1 r hr) (cwV 1 hts gX7_from_X7_isVersion rfl rfl rfl hdX7_isVersion (rmq_ok (Nat.le_of_ble_eq_true rfl) (Nat.le_of_ble_eq_true rfl))) hK hP hEv hS [0, 1] rfl (va_recv hK hP (ci := 7) (q0 := 0) rfl rfl) rfl rfl hl.1 (Nat.le_of_ble_eq_true rfl) ⟨Nat.zero_le _, Nat.zero_le _⟩ h dX7_from_2 (fun t2 h => ?_)
  refine q_ifne hx hb 14 h dX7_from_5 (by decide) (fun h => ?_) (fun h => ?_)
  · refine lv_iload_n hx hb dX7_from_14 rfl (lv_at hl 1 rfl) ?_
    refine lv_iconst (v := (2 : Int32)) hx hb dX7_from_15 (by decide) ?_
    refine q_cge hx hb 25 h dX7_from_16 (by decide) (fun h => ?_) (fun h => ?_)
    · refine lv_iconst (v := (0 : Int32)) hx hb dX7_from_25 (by decide) ?_
      refine lv_istore_n (lv' := [(2, .int ((0 : Int32))), (0, .ref (qm 0)), (1, .int x1)]) hx hb dX7_from_26 rfl hl (by decide) rfl (fun ls hl => ?_)
      refine lv_iconst (v := (1 : Int32)) hx hb dX7_from_27 (by decide) ?_
      refine lv_istore_n (lv' := [(3, .int ((1 : Int32))), (2, .int ((0 : Int32))), (0, .ref (qm 0)), (1, .int x1)]) hx hb dX7_from_28 rfl hl (by decide) rfl (fun ls hl => ?_)
      exact J29 n x1 ((0 : Int32)) ((1 : Int32)) m_errors m_common _ _ _ (lv_sub hl [2, 3, 1, 0] rfl) hP hD hS h
    · refine lv_aload_n hx hb dX7_from_19 rfl (lv_at hl 0 rfl) ?_
      refine lv_iconst (v := (2 : Int32)) hx hb dX7_from_20 (by decide) ?_
      refine q_callW2 q_E0ok (rest := []) (fun u => [(qm 0, .inr (7, oX7 qm m_images m_newMany m_at m_open m_steps m_use m_traced m_speaks m_isParted)), (qm 4, .inl (cI, 7, .inl u.2))]) (fun u => u.1) ⟨hx, hb, hml, hown, hts⟩ (fun u hu => c7_error l D cI qm m_images m_newMany m_at m_open m_steps m_use m_traced m_speaks m_isParted m_errors ((2 : Int32)) u hu) (cwV 1 hts gX7_from_X7_error rfl rfl rfl hdX7_error (rmq_ok (Nat.le_of_ble_eq_true rfl) (Nat.le_of_ble_eq_true rfl))) hK hEv hA hP hD hS [0, 2] (by decide) rfl (fun _ => rfl) (va_recv hK hP (ci := 7) (q0 := 0) rfl rfl) rfl rfl hl.1 (Nat.le_of_ble_eq_true rfl) ⟨Nat.zero_le _, Nat.zero_le _⟩ h dX7_from_21 (fun t21 m_errors_21 H locs h hP hD hS => ?_)
      have hP : va_P D vwCl [(qm 0, .inr (7, oX7 qm m_images m_newMany m_at m_open m_steps m_use m_traced m_speaks m_isParted)), (qm 1, .inl (cI, 3974, .inl m_s)), (qm 4, .inl (cI, 7, .inl m_errors_21)), (qm 15, .inl (cI, 21, .inl m_common))] H := hP
      have hD : va_D A [(qm 0, .inr (7, oX7 qm m_images m_newMany m_at m_open m_steps m_use m_traced m_speaks m_isParted)), (qm 1, .inl (cI, 3974, .inl m_s)), (qm 4, .inl (cI, 7, .inl m_errors_21)), (qm 15, .inl (cI, 21, .inl m_common))] := hD
      exact hret (t21, m_errors_21, m_common) _ _ _ _ (vp_nar_int _) h hP hD hS dX7_from_24
  · refine lv_aload_n hx hb dX7_from_8 rfl (lv_at hl 0 rfl) ?_
    refine lv_iconst (v := (1 : Int32)) hx hb dX7_from_9 (by decide) ?_
    refine q_callW2 q_E0ok (rest := []) (fun u => [(qm 0, .inr (7, oX7 qm m_images m_newMany m_at m_open m_steps m_use m_traced m_speaks m_isParted)), (qm 4, .inl (cI, 7, .inl u.2))]) (fun u => u.1) ⟨hx, hb, hml, hown, hts⟩ (fun u hu => c7_error l D cI qm m_images m_newMany m_at m_open m_steps m_use m_traced m_speaks m_isParted m_errors ((1 : Int32)) u hu) (cwV 1 hts gX7_from_X7_error rfl rfl rfl hdX7_error (rmq_ok (Nat.le_of_ble_eq_true rfl) (Nat.le_of_ble_eq_true rfl))) hK hEv hA hP hD hS [0, 2] (by decide) rfl (fun _ => rfl) (va_recv hK hP (ci := 7) (q0 := 0) rfl rfl) rfl rfl hl.1 (Nat.le_of_ble_eq_true rfl) ⟨Nat.zero_le _, Nat.zero_le _⟩ h dX7_from_10 (fun t10 m_errors_10 H locs h hP hD hS => ?_)
    have hP : va_P D vwCl [(qm 0, .inr (7, oX7 qm m_images m_newMany m_at m_open m_steps m_use m_traced m_speaks m_isParted)), (qm 1, .inl (cI, 3974, .inl m_s)), (qm 4, .inl (cI, 7, .inl m_errors_10)), (qm 15, .inl (cI, 21, .inl m_common))] H := hP
    have hD : va_D A [(qm 0, .inr (7, oX7 qm m_images m_newMany m_at m_open m_steps m_use m_traced m_speaks m_isParted)), (qm 1, .inl (cI, 3974, .inl m_s)), (qm 4, .inl (cI, 7, .inl m_errors_10)), (qm 15, .inl (cI, 21, .inl m_common))] := hD
    exact hret (t10, m_errors_10, m_common) _ _ _ _ (vp_nar_int _) h hP hD hS dX7_from_13
set_option maxHeartbeats 4000000 in
set_option maxRecDepth 100000 in
theorem c7_warOf (l : Launch) (D : va_G) (cI : ClassId) (qm : Nat → Nat) (m_images m_newMany m_at m_open m_steps m_use m_traced m_speaks m_isParted : Int32) (m_s m_undoneBy : Nat → Int32) (x1 : Int32) (x2 : Int32) (n : Nat) (u : Int32) (h : f7_warOf n x1 x2 m_s m_undoneBy = some u) : q_RO q_E0 l yX7_warOf wsX7_warOf (rmq (1)) D cI [.ref (qm 0), .int x1, .int x2] [(qm 0, .inr (7, oX7 qm m_images m_newMany m_at m_open m_steps m_use m_traced m_speaks m_isParted)), (qm 1, .inl (cI, 3974, .inl m_s)), (qm 16, .inl (cI, 60, .inl m_undoneBy))] u := by
  refine q_startR (cc := cX7_warOf) (maxL := 9) (ty := .int) (own := RX7) (by decide) rfl rfl (Nat.le_of_ble_eq_true rfl) rfl (fun p e s m args below meth c Q hx hb hml hown hts hP hK hEv hret ls hl => ?_)
  have in7 : ∀ w ∈ wsX70, w ∈ wsX7_warOf := fun w h => List.mem_cons_of_mem _ (List.mem_append_right _ (h))
  have l37 := hts (.fieldLink RX7 37 "PageWarsModel" "undoneBy" "[I") (List.mem_of_getElem? (i := 1) rfl)
  have J114 : ∀ (s0 : Int32) (ls : Array Slot), lv_has ls 9 [(0, .ref (qm 0))] → f7_warOf_114 n m_s m_undoneBy s0 = some u → W p l e (rmq (1)) s m args below meth c s.heap [] 0 0 Q (F0 m 114 ls [.int s0]) := by
    intro s0  ls hl h
    unfold f7_warOf_114 at h
    exact hret _ _ _ (vp_nar_int _) h dX7_warOf_114
  have J14 : ∀ (kk14 : Nat) (x2 : Int32) (x3 : Int32) (x4 : Int32) (x5 : Int32) (x6 : Int32) (x7 : Int32) (ls : Array Slot), lv_has ls 9 [(0, .ref (qm 0)), (2, .int x2), (3, .int x3), (4, .int x4), (5, .int x5), (6, .int x6), (7, .int x7)] → f7_warOf_14 n m_s m_undoneBy kk14 x2 x3 x4 x5 x6 x7 = some u → W p l e (rmq (1)) s m args below meth c s.heap [] 0 0 Q (F0 m 14 ls []) := by
    intro kk14
    induction kk14 with
    | zero => intro x2 x3 x4 x5 x6 x7  ls hl h; exact nomatch (show (none : Option (Int32)) = some u from h)
    | succ kk14 ih14 =>
      have J62 : ∀ (x2 : Int32) (x3 : Int32) (x5 : Int32) (x7 : Int32) (s0 : Int32) (s1 : Int32) (ls : Array Slot), lv_has ls 9 [(0, .ref (qm 0)), (2, .int x2), (3, .int x3), (5, .int x5), (7, .int x7)] → f7_warOf_62 n m_s m_undoneBy (f7_warOf_14 n m_s m_undoneBy kk14) x2 x3 x5 x7 s0 s1 = some u → W p l e (rmq (1)) s m args below meth c s.heap [] 0 0 Q (F0 m 62 ls [.int s1, .int s0]) := by
        intro x2 x3 x5 x7 s0 s1  ls hl h
        unfold f7_warOf_62 at h
        refine lv_ior hx hb dX7_warOf_62 ?_
        refine q_let h (fun x6_63 h => ?_)
        refine lv_istore (lv' := [(6, .int x6_63), (0, .ref (qm 0)), (2, .int x2), (3, .int x3), (5, .int x5), (7, .int x7)]) hx hb dX7_warOf_63 hl (by decide) rfl (fun ls hl => ?_)
        refine lv_iload hx hb dX7_warOf_65 (lv_at hl 5 rfl) ?_
        refine lv_istore (lv' := [(4, .int x7), (6, .int x6_63), (0, .ref (qm 0)), (2, .int x2), (3, .int x3), (5, .int x5), (7, .int x7)]) hx hb dX7_warOf_67 hl (by decide) rfl (fun ls hl => ?_)
        refine q_iinc (fun v => [(3, .int v), (4, .int x7), (6, .int x6_63), (0, .ref (qm 0)), (2, .int x2), (5, .int x5), (7, .int x7)]) hx hb h dX7_warOf_69 (by decide) hl (k := 4) rfl (by decide) (fun _ => rfl) (fun x3_69 ls h hl => ?_)
        refine lv_aload_n hx hb dX7_warOf_72 rfl (lv_at hl 3 rfl) ?_
        refine va_get (D := D) (ci := 7) (v := .ref (qm 16)) (C := RX7) (T := TX7) (N := 24) hx hb hts in7 hown hK hP 0 rfl rfl 15 (by decide) l37 (fun _ h9 => h9) rfl dX7_warOf_73 ?_
        refine lv_iload hx hb dX7_warOf_76 (lv_at hl 6 rfl) ?_
        refine q_iald hx hb hK hP 2 0 rfl rfl h dX7_warOf_78 (fun t78 h => ?_)
        refine lv_istore (lv' := [(7, .int t78), (3, .int x3_69), (4, .int x7), (6, .int x6_63), (0, .ref (qm 0)), (2, .int x2), (5, .int x5)]) hx hb dX7_warOf_79 hl (by decide) rfl (fun ls hl => ?_)
        refine lv_goto (tgt := 14) hx hb dX7_warOf_81 (by decide) ?_
        exact ih14 x2 x3_69 x7 x5 x6_63 t78 _ (lv_sub hl [4, 5, 1, 2, 6, 3, 0] rfl) h
      have J44 : ∀ (x2 : Int32) (x3 : Int32) (x6 : Int32) (x7 : Int32) (x8 : Int32) (s0 : Int32) (s1 : Int32) (ls : Array Slot), lv_has ls 9 [(0, .ref (qm 0)), (2, .int x2), (3, .int x3), (6, .int x6), (7, .int x7), (8, .int x8)] → f7_warOf_44 n m_s m_undoneBy (f7_warOf_14 n m_s m_undoneBy kk14) x2 x3 x6 x7 x8 s0 s1 = some u → W p l e (rmq (1)) s m args below meth c s.heap [] 0 0 Q (F0 m 44 ls [.int s1, .int s0]) := by
        intro x2 x3 x6 x7 x8 s0 s1  ls hl h
        unfold f7_warOf_44 at h
        refine lv_ior hx hb dX7_warOf_44 ?_
        refine q_let h (fun x5_45 h => ?_)
        refine lv_istore (lv' := [(5, .int x5_45), (0, .ref (qm 0)), (2, .int x2), (3, .int x3), (6, .int x6), (7, .int x7), (8, .int x8)]) hx hb dX7_warOf_45 hl (by decide) rfl (fun ls hl => ?_)
        refine lv_iload hx hb dX7_warOf_47 (lv_at hl 4 rfl) ?_
        refine lv_iload_n hx hb dX7_warOf_49 rfl (lv_at hl 3 rfl) ?_
        refine lv_iconst (v := (2 : Int32)) hx hb dX7_warOf_50 (by decide) ?_
        refine q_irem hx hb h dX7_warOf_51 (fun h => ?_)
        refine lv_iconst (v := (1 : Int32)) hx hb dX7_warOf_52 (by decide) ?_
        refine q_cne hx hb 61 h dX7_warOf_53 (by decide) (fun h => ?_) (fun h => ?_)
        · refine lv_iconst (v := (0 : Int32)) hx hb dX7_warOf_61 (by decide) ?_
          exact J62 x2 x3 x5_45 x7 x6 ((0 : Int32)) _ (lv_sub hl [1, 2, 3, 0, 5] rfl) h
        · refine lv_iload hx hb dX7_warOf_56 (lv_at hl 6 rfl) ?_
          refine lv_goto (tgt := 62) hx hb dX7_warOf_58 (by decide) ?_
          exact J62 x2 x3 x5_45 x7 x6 x8 _ (lv_sub hl [1, 2, 3, 0, 5] rfl) h
      intro x2 x3 x4 x5 x6 x7  ls hl h
      rw [f7_warOf_14.eq_2] at h
      refine lv_iload hx hb dX7_warOf_14 (lv_at hl 6 rfl) ?_
      refine q_iflt hx hb 84 h dX7_warOf_16 (by decide) (fun h => ?_) (fun h => ?_)
      · refine lv_iload_n hx hb dX7_warOf_84 rfl (lv_at hl 1 rfl) ?_
        refine q_ifne hx hb 92 h dX7_warOf_85 (by decide) (fun h => ?_) (fun h => ?_)
        · refine lv_iload_n hx hb dX7_warOf_92 rfl (lv_at hl 1 rfl) ?_
          refine lv_iconst (v := (1 : Int32)) hx hb dX7_warOf_93 (by decide) ?_
          refine q_cne hx hb 102 h dX7_warOf_94 (by decide) (fun h => ?_) (fun h => ?_)
          · refine lv_iload_n hx hb dX7_warOf_102 rfl (lv_at hl 1 rfl) ?_
            refine lv_iconst (v := (2 : Int32)) hx hb dX7_warOf_103 (by decide) ?_
            refine q_cne hx hb 112 h dX7_warOf_104 (by decide) (fun h => ?_) (fun h => ?_)
            · refine lv_iload hx hb dX7_warOf_112 (lv_at hl 5 rfl) ?_
              exact J114 x6 _ (lv_sub hl [0] rfl) h
            · refine lv_iload hx hb dX7_warOf_107 (lv_at hl 4 rfl) ?_
              refine lv_goto (tgt := 114) hx hb dX7_warOf_109 (by decide) ?_
              exact J114 x5 _ (lv_sub hl [0] rfl) h
          · refine lv_iload hx hb dX7_warOf_97 (lv_at hl 3 rfl) ?_
            refine lv_goto (tgt := 114) hx hb dX7_warOf_99 (by decide) ?_
            exact J114 x4 _ (lv_sub hl [0] rfl) h
        · refine lv_iload_n hx hb dX7_warOf_88 rfl (lv_at hl 2 rfl) ?_
          refine lv_goto (tgt := 114) hx hb dX7_warOf_89 (by decide) ?_
          exact J114 x3 _ (lv_sub hl [0] rfl) h
      · refine lv_iconst (v := (1 : Int32)) hx hb dX7_warOf_19 (by decide) ?_
        refine lv_aload_n hx hb dX7_warOf_20 rfl (lv_at hl 0 rfl) ?_
        refine lv_iload hx hb dX7_warOf_21 (lv_at hl 6 rfl) ?_
        refine lv_iconst (v := (1 : Int32)) hx hb dX7_warOf_23 (by decide) ?_
        refine q_callR q_E0ok (rest := [.int ((1 : Int32))]) ⟨hx, hb, hml, hown, hts⟩ (fun r hr => c7_actIs1 l D cI qm m_images m_newMany m_at m_open m_steps m_use m_traced m_speaks m_isParted m_s x7 ((1 : Int32)) r hr) (cwV 2 hts gX7_warOf_X7_actIs1 rfl rfl rfl hdX7_actIs1 (rmq_ok (Nat.le_of_ble_eq_true rfl) (Nat.le_of_ble_eq_true rfl))) hK hP hEv va_S.rf [0, 1] rfl (va_recv hK hP (ci := 7) (q0 := 0) rfl rfl) rfl rfl hl.1 (Nat.le_of_ble_eq_true rfl) ⟨Nat.zero_le _, Nat.zero_le _⟩ h dX7_warOf_24 (fun t24 h => ?_)
        refine lv_ishl hx hb dX7_warOf_27 ?_
        refine q_let h (fun x8_28 h => ?_)
        refine lv_istore (lv' := [(8, .int x8_28), (0, .ref (qm 0)), (2, .int x2), (3, .int x3), (4, .int x4), (5, .int x5), (6, .int x6), (7, .int x7)]) hx hb dX7_warOf_28 hl (by decide) rfl (fun ls hl => ?_)
        refine lv_iload hx hb dX7_warOf_30 (lv_at hl 5 rfl) ?_
        refine lv_iload_n hx hb dX7_warOf_32 rfl (lv_at hl 3 rfl) ?_
        refine lv_iconst (v := (2 : Int32)) hx hb dX7_warOf_33 (by decide) ?_
        refine q_irem hx hb h dX7_warOf_34 (fun h => ?_)
        refine q_ifne hx hb 43 h dX7_warOf_35 (by decide) (fun h => ?_) (fun h => ?_)
        · refine lv_iconst (v := (0 : Int32)) hx hb dX7_warOf_43 (by decide) ?_
          exact J44 x2 x3 x6 x7 x8_28 x5 ((0 : Int32)) _ (lv_sub hl [1, 2, 3, 6, 7, 0] rfl) h
        · refine lv_iload hx hb dX7_warOf_38 (lv_at hl 0 rfl) ?_
          refine lv_goto (tgt := 44) hx hb dX7_warOf_40 (by decide) ?_
          exact J44 x2 x3 x6 x7 x8_28 x5 x8_28 _ (lv_sub hl [1, 2, 3, 6, 7, 0] rfl) h
  unfold f7_warOf at h
  refine lv_iconst (v := (0 : Int32)) hx hb dX7_warOf_0 (by decide) ?_
  refine lv_istore_n (lv' := [(3, .int ((0 : Int32))), (0, .ref (qm 0)), (1, .int x1), (2, .int x2)]) hx hb dX7_warOf_1 rfl hl (by decide) rfl (fun ls hl => ?_)
  refine lv_iload_n hx hb dX7_warOf_2 rfl (lv_at hl 2 rfl) ?_
  refine lv_istore (lv' := [(4, .int x1), (3, .int ((0 : Int32))), (0, .ref (qm 0)), (1, .int x1), (2, .int x2)]) hx hb dX7_warOf_3 hl (by decide) rfl (fun ls hl => ?_)
  refine lv_iconst (v := (0 : Int32)) hx hb dX7_warOf_5 (by decide) ?_
  refine lv_istore (lv' := [(5, .int ((0 : Int32))), (4, .int x1), (3, .int ((0 : Int32))), (0, .ref (qm 0)), (1, .int x1), (2, .int x2)]) hx hb dX7_warOf_6 hl (by decide) rfl (fun ls hl => ?_)
  refine lv_iconst (v := (0 : Int32)) hx hb dX7_warOf_8 (by decide) ?_
  refine lv_istore (lv' := [(6, .int ((0 : Int32))), (5, .int ((0 : Int32))), (4, .int x1), (3, .int ((0 : Int32))), (0, .ref (qm 0)), (1, .int x1), (2, .int x2)]) hx hb dX7_warOf_9 hl (by decide) rfl (fun ls hl => ?_)
  refine lv_iload_n hx hb dX7_warOf_11 rfl (lv_at hl 5 rfl) ?_
  refine lv_istore (lv' := [(7, .int x1), (6, .int ((0 : Int32))), (5, .int ((0 : Int32))), (4, .int x1), (3, .int ((0 : Int32))), (0, .ref (qm 0)), (1, .int x1), (2, .int x2)]) hx hb dX7_warOf_12 hl (by decide) rfl (fun ls hl => ?_)
  exact J14 n x2 ((0 : Int32)) x1 ((0 : Int32)) ((0 : Int32)) x1 _ (lv_sub hl [5, 7, 4, 3, 2, 1, 0] rfl) h
set_option maxHeartbeats 4000000 in
set_option maxRecDepth 100000 in
theorem c7_war (l : Launch) (D : va_G) (cI : ClassId) (qm : Nat → Nat) (m_images m_newMany m_at m_open m_steps m_use m_traced m_speaks m_isParted : Int32) (m_s m_errors m_undoneBy : Nat → Int32) (x1 : Int32) (x2 : Int32) (n : Nat) (u : Int32 × (Nat → Int32) × (Nat → Int32)) (h : f7_war n x1 x2 m_s m_errors m_undoneBy = some u) : q_RW q_E0 l yX7_war wsX7_war (rmq (3)) D cI [.ref (qm 0), .int x1, .int x2] [(qm 0, .inr (7, oX7 qm m_images m_newMany m_at m_open m_steps m_use m_traced m_speaks m_isParted)), (qm 1, .inl (cI, 3974, .inl m_s)), (qm 4, .inl (cI, 7, .inl m_errors)), (qm 16, .inl (cI, 60, .inl m_undoneBy))] [(qm 0, .inr (7, oX7 qm m_images m_newMany m_at m_open m_steps m_use m_traced m_speaks m_isParted)), (qm 1, .inl (cI, 3974, .inl m_s)), (qm 4, .inl (cI, 7, .inl u.2.1)), (qm 16, .inl (cI, 60, .inl u.2.2))] u.1 := by
  refine q_startW (fun u : Int32 × (Nat → Int32) × (Nat → Int32) => [(qm 0, .inr (7, oX7 qm m_images m_newMany m_at m_open m_steps m_use m_traced m_speaks m_isParted)), (qm 1, .inl (cI, 3974, .inl m_s)), (qm 4, .inl (cI, 7, .inl u.2.1)), (qm 16, .inl (cI, 60, .inl u.2.2))]) (fun u => u.1) (cc := cX7_war) (maxL := 3) (ty := .int) (own := RX7) (by decide) rfl rfl (Nat.le_of_ble_eq_true rfl) rfl (fun p e s m args below meth c Q A hx hb hml hown hts hK hEv hA hret hP hD hS ls hl => ?_)
  have in7 : ∀ w ∈ wsX70, w ∈ wsX7_war := fun w h => List.mem_cons_of_mem _ (List.mem_append_right _ (h))
  have J17 : ∀ (m_errors : (Nat → Int32)) (m_undoneBy : (Nat → Int32)) (H : Heap) (locs : List Loc) (ls : Array Slot), lv_has ls 3 [(0, .ref (qm 0))] → va_P D vwCl [(qm 0, .inr (7, oX7 qm m_images m_newMany m_at m_open m_steps m_use m_traced m_speaks m_isParted)), (qm 1, .inl (cI, 3974, .inl m_s)), (qm 4, .inl (cI, 7, .inl m_errors)), (qm 16, .inl (cI, 60, .inl m_undoneBy))] H → va_D A [(qm 0, .inr (7, oX7 qm m_images m_newMany m_at m_open m_steps m_use m_traced m_speaks m_isParted)), (qm 1, .inl (cI, 3974, .inl m_s)), (qm 4, .inl (cI, 7, .inl m_errors)), (qm 16, .inl (cI, 60, .inl m_undoneBy))] → va_S A s.heap H locs → f7_war_17 n m_s m_errors m_undoneBy = some u → W p l e (rmq (3)) s m args below meth c H locs 0 0 Q (F0 m 17 ls []) := by
    intro m_errors m_undoneBy H locs ls hl hP hD hS h
    unfold f7_war_17 at h
    refine lv_aload_n hx hb dX7_war_17 rfl (lv_at hl 0 rfl) ?_
    refine lv_iconst (v := (1 : Int32)) hx hb dX7_war_18 (by decide) ?_
    refine q_callW2 q_E0ok (rest := []) (fun u => [(qm 0, .inr (7, oX7 qm m_images m_newMany m_at m_open m_steps m_use m_traced m_speaks m_isParted)), (qm 4, .inl (cI, 7, .inl u.2))]) (fun u => u.1) ⟨hx, hb, hml, hown, hts⟩ (fun u hu => c7_error l D cI qm m_images m_newMany m_at m_open m_steps m_use m_traced m_speaks m_isParted m_errors ((1 : Int32)) u hu) (cwV 1 hts gX7_war_X7_error rfl rfl rfl hdX7_error (rmq_ok (Nat.le_of_ble_eq_true rfl) (Nat.le_of_ble_eq_true rfl))) hK hEv hA hP hD hS [0, 2] (by decide) rfl (fun _ => rfl) (va_recv hK hP (ci := 7) (q0 := 0) rfl rfl) rfl rfl hl.1 (Nat.le_of_ble_eq_true rfl) ⟨Nat.zero_le _, Nat.zero_le _⟩ h dX7_war_19 (fun t19 m_errors_19 H locs h hP hD hS => ?_)
    have hP : va_P D vwCl [(qm 0, .inr (7, oX7 qm m_images m_newMany m_at m_open m_steps m_use m_traced m_speaks m_isParted)), (qm 1, .inl (cI, 3974, .inl m_s)), (qm 4, .inl (cI, 7, .inl m_errors_19)), (qm 16, .inl (cI, 60, .inl m_undoneBy))] H := hP
    have hD : va_D A [(qm 0, .inr (7, oX7 qm m_images m_newMany m_at m_open m_steps m_use m_traced m_speaks m_isParted)), (qm 1, .inl (cI, 3974, .inl m_s)), (qm 4, .inl (cI, 7, .inl m_errors_19)), (qm 16, .inl (cI, 60, .inl m_undoneBy))] := hD
    exact hret (t19, m_errors_19, m_undoneBy) _ _ _ _ (vp_nar_int _) h hP hD hS dX7_war_22
  unfold f7_war at h
  refine lv_aload_n hx hb dX7_war_0 rfl (lv_at hl 0 rfl) ?_
  refine lv_iload_n hx hb dX7_war_1 rfl (lv_at hl 1 rfl) ?_
  refine q_callR q_E0ok (rest := []) ⟨hx, hb, hml, hown, hts⟩ (fun r hr => c7_isAct l D cI qm m_images m_newMany m_at m_open m_steps m_use m_traced m_speaks m_isParted m_s x1 r hr) (cwV 1 hts gX7_war_X7_isAct rfl rfl rfl hdX7_isAct (rmq_ok (Nat.le_of_ble_eq_true rfl) (Nat.le_of_ble_eq_true rfl))) hK hP hEv hS [0, 1] rfl (va_recv hK hP (ci := 7) (q0 := 0) rfl rfl) rfl rfl hl.1 (Nat.le_of_ble_eq_true rfl) ⟨Nat.zero_le _, Nat.zero_le _⟩ h dX7_war_2 (fun t2 h => ?_)
  refine q_ifeq hx hb 17 h dX7_war_5 (by decide) (fun h => ?_) (fun h => ?_)
  · exact J17 m_errors m_undoneBy _ _ _ (lv_sub hl [0] rfl) hP hD hS h
  · refine lv_iload_n hx hb dX7_war_8 rfl (lv_at hl 2 rfl) ?_
    refine lv_iconst (v := (0 : Int32)) hx hb dX7_war_9 (by decide) ?_
    refine lv_iconst (v := (3 : Int32)) hx hb dX7_war_10 (by decide) ?_
    refine q_callRS q_E0ok (rest := []) ⟨hx, hb, hml, hown, hts⟩ (fun r hr => c7_in l D cI x2 ((0 : Int32)) ((3 : Int32)) r hr) (va_cwS 3 hts gX7_war_X7_in rfl rfl rfl hdX7_in (rmq_ok (Nat.le_of_ble_eq_true rfl) (Nat.le_of_ble_eq_true rfl))) hK hP hEv hS [] rfl rfl rfl hl.1 (Nat.le_of_ble_eq_true rfl) ⟨Nat.zero_le _, Nat.zero_le _⟩ h dX7_war_11 (fun t11 h => ?_)
    refine q_ifne hx hb 23 h dX7_war_14 (by decide) (fun h => ?_) (fun h => ?_)
    · refine lv_aload_n hx hb dX7_war_23 rfl (lv_at hl 0 rfl) ?_
      refine q_callV1 q_E0ok (rest := []) (fun u => [(qm 0, .inr (7, oX7 qm m_images m_newMany m_at m_open m_steps m_use m_traced m_speaks m_isParted)), (qm 1, .inl (cI, 3974, .inl m_s)), (qm 16, .inl (cI, 60, .inl u))]) ⟨hx, hb, hml, hown, hts⟩ (fun u hu => c7_findUndone l D cI qm m_images m_newMany m_at m_open m_steps m_use m_traced m_speaks m_isParted m_s m_undoneBy n u hu) (cwV 0 hts gX7_war_X7_findUndone rfl rfl rfl hdX7_findUndone (rmq_ok (Nat.le_of_ble_eq_true rfl) (Nat.le_of_ble_eq_true rfl))) hK hEv hA hP hD hS [0, 1, 3] (by decide) rfl (fun _ => rfl) (va_recv hK hP (ci := 7) (q0 := 0) rfl rfl) rfl rfl hl.1 (Nat.le_of_ble_eq_true rfl) ⟨Nat.zero_le _, Nat.zero_le _⟩ h dX7_war_24 (fun m_undoneBy_24 H locs h hP hD hS => ?_)
      have hP : va_P D vwCl [(qm 0, .inr (7, oX7 qm m_images m_newMany m_at m_open m_steps m_use m_traced m_speaks m_isParted)), (qm 1, .inl (cI, 3974, .inl m_s)), (qm 4, .inl (cI, 7, .inl m_errors)), (qm 16, .inl (cI, 60, .inl m_undoneBy_24))] H := hP
      have hD : va_D A [(qm 0, .inr (7, oX7 qm m_images m_newMany m_at m_open m_steps m_use m_traced m_speaks m_isParted)), (qm 1, .inl (cI, 3974, .inl m_s)), (qm 4, .inl (cI, 7, .inl m_errors)), (qm 16, .inl (cI, 60, .inl m_undoneBy_24))] := hD
      refine lv_aload_n hx hb dX7_war_27 rfl (lv_at hl 0 rfl) ?_
      refine lv_iload_n hx hb dX7_war_28 rfl (lv_at hl 1 rfl) ?_
      refine lv_iload_n hx hb dX7_war_29 rfl (lv_at hl 2 rfl) ?_
      refine q_callR q_E0ok (rest := []) ⟨hx, hb, hml, hown, hts⟩ (fun r hr => c7_warOf l D cI qm m_images m_newMany m_at m_open m_steps m_use m_traced m_speaks m_isParted m_s m_undoneBy_24 x1 x2 n r hr) (cwV 2 hts gX7_war_X7_warOf rfl rfl rfl hdX7_warOf (rmq_ok (Nat.le_of_ble_eq_true rfl) (Nat.le_of_ble_eq_true rfl))) hK hP hEv hS [0, 1, 3] rfl (va_recv hK hP (ci := 7) (q0 := 0) rfl rfl) rfl rfl hl.1 (Nat.le_of_ble_eq_true rfl) ⟨Nat.zero_le _, Nat.zero_le _⟩ h dX7_war_30 (fun t30 h => ?_)
      exact hret (t30, m_errors, m_undoneBy_24) _ _ _ _ (vp_nar_int _) h hP hD hS dX7_war_33
    · exact J17 m_errors m_undoneBy _ _ _ (lv_sub hl [0] rfl) hP hD hS h
set_option maxHeartbeats 4000000 in
set_option maxRecDepth 100000 in
theorem c7_longest (l : Launch) (D : va_G) (cI : ClassId) (qm : Nat → Nat) (m_images m_newMany m_at m_open m_steps m_use m_traced m_speaks m_isParted : Int32) (m_s m_errors m_undoneBy : Nat → Int32) (n : Nat) (u : Int32 × (Nat → Int32) × (Nat → Int32)) (h : f7_longest n m_s m_errors m_undoneBy = some u) : q_RW q_E0 l yX7_longest wsX7_longest (rmq (3)) D cI [.ref (qm 0)] [(qm 0, .inr (7, oX7 qm m_images m_newMany m_at m_open m_steps m_use m_traced m_speaks m_isParted)), (qm 1, .inl (cI, 3974, .inl m_s)), (qm 4, .inl (cI, 7, .inl m_errors)), (qm 16, .inl (cI, 60, .inl m_undoneBy))] [(qm 0, .inr (7, oX7 qm m_images m_newMany m_at m_open m_steps m_use m_traced m_speaks m_isParted)), (qm 1, .inl (cI, 3974, .inl m_s)), (qm 4, .inl (cI, 7, .inl u.2.1)), (qm 16, .inl (cI, 60, .inl u.2.2))] u.1 := by
  refine q_startW (fun u : Int32 × (Nat → Int32) × (Nat → Int32) => [(qm 0, .inr (7, oX7 qm m_images m_newMany m_at m_open m_steps m_use m_traced m_speaks m_isParted)), (qm 1, .inl (cI, 3974, .inl m_s)), (qm 4, .inl (cI, 7, .inl u.2.1)), (qm 16, .inl (cI, 60, .inl u.2.2))]) (fun u => u.1) (cc := cX7_longest) (maxL := 3) (ty := .int) (own := RX7) (by decide) rfl rfl (Nat.le_of_ble_eq_true rfl) rfl (fun p e s m args below meth c Q A hx hb hml hown hts hK hEv hA hret hP hD hS ls hl => ?_)
  have in7 : ∀ w ∈ wsX70, w ∈ wsX7_longest := fun w h => List.mem_cons_of_mem _ (List.mem_append_right _ (h))
  have l7 := hts (.fieldLink RX7 7 "PageWarsModel" "s" "[I") (List.mem_of_getElem? (i := 1) rfl)
  have J23 : ∀ (kk23 : Nat) (x1 : Int32) (x2 : Int32) (m_errors : (Nat → Int32)) (m_undoneBy : (Nat → Int32)) (H : Heap) (locs : List Loc) (ls : Array Slot), lv_has ls 3 [(0, .ref (qm 0)), (1, .int x1), (2, .int x2)] → va_P D vwCl [(qm 0, .inr (7, oX7 qm m_images m_newMany m_at m_open m_steps m_use m_traced m_speaks m_isParted)), (qm 1, .inl (cI, 3974, .inl m_s)), (qm 4, .inl (cI, 7, .inl m_errors)), (qm 16, .inl (cI, 60, .inl m_undoneBy))] H → va_D A [(qm 0, .inr (7, oX7 qm m_images m_newMany m_at m_open m_steps m_use m_traced m_speaks m_isParted)), (qm 1, .inl (cI, 3974, .inl m_s)), (qm 4, .inl (cI, 7, .inl m_errors)), (qm 16, .inl (cI, 60, .inl m_undoneBy))] → va_S A s.heap H locs → f7_longest_23 n m_s kk23 x1 x2 m_errors m_undoneBy = some u → W p l e (rmq (3)) s m args below meth c H locs 0 0 Q (F0 m 23 ls []) := by
    intro kk23
    induction kk23 with
    | zero => intro x1 x2 m_errors m_undoneBy H locs ls hl hP hD hS h; exact nomatch (show (none : Option (Int32 × (Nat → Int32) × (Nat → Int32))) = some u from h)
    | succ kk23 ih23 =>
      have J53 : ∀ (x2 : Int32) (s0 : Int32) (m_errors : (Nat → Int32)) (m_undoneBy : (Nat → Int32)) (H : Heap) (locs : List Loc) (ls : Array Slot), lv_has ls 3 [(0, .ref (qm 0)), (2, .int x2)] → va_P D vwCl [(qm 0, .inr (7, oX7 qm m_images m_newMany m_at m_open m_steps m_use m_traced m_speaks m_isParted)), (qm 1, .inl (cI, 3974, .inl m_s)), (qm 4, .inl (cI, 7, .inl m_errors)), (qm 16, .inl (cI, 60, .inl m_undoneBy))] H → va_D A [(qm 0, .inr (7, oX7 qm m_images m_newMany m_at m_open m_steps m_use m_traced m_speaks m_isParted)), (qm 1, .inl (cI, 3974, .inl m_s)), (qm 4, .inl (cI, 7, .inl m_errors)), (qm 16, .inl (cI, 60, .inl m_undoneBy))] → va_S A s.heap H locs → f7_longest_53 n m_s (f7_longest_23 n m_s kk23) x2 s0 m_errors m_undoneBy = some u → W p l e (rmq (3)) s m args below meth c H locs 0 0 Q (F0 m 53 ls [.int s0]) := by
        intro x2 s0 m_errors m_undoneBy H locs ls hl hP hD hS h
        unfold f7_longest_53 at h
        refine lv_istore_n (lv' := [(1, .int s0), (0, .ref (qm 0)), (2, .int x2)]) hx hb dX7_longest_53 rfl hl (by decide) rfl (fun ls hl => ?_)
        refine q_iinc (fun v => [(2, .int v), (1, .int s0), (0, .ref (qm 0))]) hx hb h dX7_longest_54 (by decide) hl (k := 2) rfl (by decide) (fun _ => rfl) (fun x2_54 ls h hl => ?_)
        refine lv_goto (tgt := 23) hx hb dX7_longest_57 (by decide) ?_
        exact ih23 s0 x2_54 m_errors m_undoneBy _ _ _ (lv_sub hl [2, 1, 0] rfl) hP hD hS h
      intro x1 x2 m_errors m_undoneBy H locs ls hl hP hD hS h
      rw [f7_longest_23.eq_2] at h
      refine lv_iload_n hx hb dX7_longest_23 rfl (lv_at hl 2 rfl) ?_
      refine lv_aload_n hx hb dX7_longest_24 rfl (lv_at hl 0 rfl) ?_
      refine va_get (D := D) (ci := 7) (v := .ref (qm 1)) (C := RX7) (T := TX7) (N := 24) hx hb hts in7 hown hK hP 0 rfl rfl 0 (by decide) l7 (fun _ h9 => h9) rfl dX7_longest_25 ?_
      refine lv_iconst (v := (1 : Int32)) hx hb dX7_longest_28 (by decide) ?_
      refine q_iald hx hb hK hP 1 0 rfl rfl h dX7_longest_29 (fun t29 h => ?_)
      refine q_cge hx hb 60 h dX7_longest_30 (by decide) (fun h => ?_) (fun h => ?_)
      · refine lv_iload_n hx hb dX7_longest_60 rfl (lv_at hl 1 rfl) ?_
        exact hret (x1, m_errors, m_undoneBy) _ _ _ _ (vp_nar_int _) h hP hD hS dX7_longest_61
      · refine lv_aload_n hx hb dX7_longest_33 rfl (lv_at hl 0 rfl) ?_
        refine lv_iload_n hx hb dX7_longest_34 rfl (lv_at hl 2 rfl) ?_
        refine lv_iconst (v := (0 : Int32)) hx hb dX7_longest_35 (by decide) ?_
        refine q_callR q_E0ok (rest := []) ⟨hx, hb, hml, hown, hts⟩ (fun r hr => c7_warOf l D cI qm m_images m_newMany m_at m_open m_steps m_use m_traced m_speaks m_isParted m_s m_undoneBy x2 ((0 : Int32)) n r hr) (cwV 2 hts gX7_longest_X7_warOf rfl rfl rfl hdX7_warOf (rmq_ok (Nat.le_of_ble_eq_true rfl) (Nat.le_of_ble_eq_true rfl))) hK hP hEv hS [0, 1, 3] rfl (va_recv hK hP (ci := 7) (q0 := 0) rfl rfl) rfl rfl hl.1 (Nat.le_of_ble_eq_true rfl) ⟨Nat.zero_le _, Nat.zero_le _⟩ h dX7_longest_36 (fun t36 h => ?_)
        refine lv_aload_n hx hb dX7_longest_39 rfl (lv_at hl 0 rfl) ?_
        refine lv_iload_n hx hb dX7_longest_40 rfl (lv_at hl 1 rfl) ?_
        refine lv_iconst (v := (0 : Int32)) hx hb dX7_longest_41 (by decide) ?_
        refine q_callR q_E0ok (rest := [.int t36]) ⟨hx, hb, hml, hown, hts⟩ (fun r hr => c7_warOf l D cI qm m_images m_newMany m_at m_open m_steps m_use m_traced m_speaks m_isParted m_s m_undoneBy x1 ((0 : Int32)) n r hr) (cwV 2 hts gX7_longest_X7_warOf rfl rfl rfl hdX7_warOf (rmq_ok (Nat.le_of_ble_eq_true rfl) (Nat.le_of_ble_eq_true rfl))) hK hP hEv hS [0, 1, 3] rfl (va_recv hK hP (ci := 7) (q0 := 0) rfl rfl) rfl rfl hl.1 (Nat.le_of_ble_eq_true rfl) ⟨Nat.zero_le _, Nat.zero_le _⟩ h dX7_longest_42 (fun t42 h => ?_)
        refine q_cle hx hb 52 h dX7_longest_45 (by decide) (fun h => ?_) (fun h => ?_)
        · refine lv_iload_n hx hb dX7_longest_52 rfl (lv_at hl 1 rfl) ?_
          exact J53 x2 x1 m_errors m_undoneBy _ _ _ (lv_sub hl [0, 2] rfl) hP hD hS h
        · refine lv_iload_n hx hb dX7_longest_48 rfl (lv_at hl 2 rfl) ?_
          refine lv_goto (tgt := 53) hx hb dX7_longest_49 (by decide) ?_
          exact J53 x2 x2 m_errors m_undoneBy _ _ _ (lv_sub hl [0, 2] rfl) hP hD hS h
  unfold f7_longest at h
  refine lv_aload_n hx hb dX7_longest_0 rfl (lv_at hl 0 rfl) ?_
  refine va_get (D := D) (ci := 7) (v := .ref (qm 1)) (C := RX7) (T := TX7) (N := 24) hx hb hts in7 hown hK hP 0 rfl rfl 0 (by decide) l7 (fun _ h9 => h9) rfl dX7_longest_1 ?_
  refine lv_iconst (v := (1 : Int32)) hx hb dX7_longest_4 (by decide) ?_
  refine q_iald hx hb hK hP 1 0 rfl rfl h dX7_longest_5 (fun t5 h => ?_)
  refine q_ifne hx hb 15 h dX7_longest_6 (by decide) (fun h => ?_) (fun h => ?_)
  · refine lv_aload_n hx hb dX7_longest_15 rfl (lv_at hl 0 rfl) ?_
    refine q_callV1 q_E0ok (rest := []) (fun u => [(qm 0, .inr (7, oX7 qm m_images m_newMany m_at m_open m_steps m_use m_traced m_speaks m_isParted)), (qm 1, .inl (cI, 3974, .inl m_s)), (qm 16, .inl (cI, 60, .inl u))]) ⟨hx, hb, hml, hown, hts⟩ (fun u hu => c7_findUndone l D cI qm m_images m_newMany m_at m_open m_steps m_use m_traced m_speaks m_isParted m_s m_undoneBy n u hu) (cwV 0 hts gX7_longest_X7_findUndone rfl rfl rfl hdX7_findUndone (rmq_ok (Nat.le_of_ble_eq_true rfl) (Nat.le_of_ble_eq_true rfl))) hK hEv hA hP hD hS [0, 1, 3] (by decide) rfl (fun _ => rfl) (va_recv hK hP (ci := 7) (q0 := 0) rfl rfl) rfl rfl hl.1 (Nat.le_of_ble_eq_true rfl) ⟨Nat.zero_le _, Nat.zero_le _⟩ h dX7_longest_16 (fun m_undoneBy_16 H locs h hP hD hS => ?_)
    have hP : va_P D vwCl [(qm 0, .inr (7, oX7 qm m_images m_newMany m_at m_open m_steps m_use m_traced m_speaks m_isParted)), (qm 1, .inl (cI, 3974, .inl m_s)), (qm 4, .inl (cI, 7, .inl m_errors)), (qm 16, .inl (cI, 60, .inl m_undoneBy_16))] H := hP
    have hD : va_D A [(qm 0, .inr (7, oX7 qm m_images m_newMany m_at m_open m_steps m_use m_traced m_speaks m_isParted)), (qm 1, .inl (cI, 3974, .inl m_s)), (qm 4, .inl (cI, 7, .inl m_errors)), (qm 16, .inl (cI, 60, .inl m_undoneBy_16))] := hD
    refine lv_iconst (v := (0 : Int32)) hx hb dX7_longest_19 (by decide) ?_
    refine lv_istore_n (lv' := [(1, .int ((0 : Int32))), (0, .ref (qm 0))]) hx hb dX7_longest_20 rfl hl (by decide) rfl (fun ls hl => ?_)
    refine lv_iconst (v := (1 : Int32)) hx hb dX7_longest_21 (by decide) ?_
    refine lv_istore_n (lv' := [(2, .int ((1 : Int32))), (1, .int ((0 : Int32))), (0, .ref (qm 0))]) hx hb dX7_longest_22 rfl hl (by decide) rfl (fun ls hl => ?_)
    exact J23 n ((0 : Int32)) ((1 : Int32)) m_errors m_undoneBy_16 _ _ _ (lv_sub hl [2, 1, 0] rfl) hP hD hS h
  · refine lv_aload_n hx hb dX7_longest_9 rfl (lv_at hl 0 rfl) ?_
    refine lv_iconst (v := (2 : Int32)) hx hb dX7_longest_10 (by decide) ?_
    refine q_callW2 q_E0ok (rest := []) (fun u => [(qm 0, .inr (7, oX7 qm m_images m_newMany m_at m_open m_steps m_use m_traced m_speaks m_isParted)), (qm 4, .inl (cI, 7, .inl u.2))]) (fun u => u.1) ⟨hx, hb, hml, hown, hts⟩ (fun u hu => c7_error l D cI qm m_images m_newMany m_at m_open m_steps m_use m_traced m_speaks m_isParted m_errors ((2 : Int32)) u hu) (cwV 1 hts gX7_longest_X7_error rfl rfl rfl hdX7_error (rmq_ok (Nat.le_of_ble_eq_true rfl) (Nat.le_of_ble_eq_true rfl))) hK hEv hA hP hD hS [0, 2] (by decide) rfl (fun _ => rfl) (va_recv hK hP (ci := 7) (q0 := 0) rfl rfl) rfl rfl hl.1 (Nat.le_of_ble_eq_true rfl) ⟨Nat.zero_le _, Nat.zero_le _⟩ h dX7_longest_11 (fun t11 m_errors_11 H locs h hP hD hS => ?_)
    have hP : va_P D vwCl [(qm 0, .inr (7, oX7 qm m_images m_newMany m_at m_open m_steps m_use m_traced m_speaks m_isParted)), (qm 1, .inl (cI, 3974, .inl m_s)), (qm 4, .inl (cI, 7, .inl m_errors_11)), (qm 16, .inl (cI, 60, .inl m_undoneBy))] H := hP
    have hD : va_D A [(qm 0, .inr (7, oX7 qm m_images m_newMany m_at m_open m_steps m_use m_traced m_speaks m_isParted)), (qm 1, .inl (cI, 3974, .inl m_s)), (qm 4, .inl (cI, 7, .inl m_errors_11)), (qm 16, .inl (cI, 60, .inl m_undoneBy))] := hD
    exact hret (t11, m_errors_11, m_undoneBy) _ _ _ _ (vp_nar_int _) h hP hD hS dX7_longest_14
set_option maxHeartbeats 4000000 in
set_option maxRecDepth 100000 in
theorem c7_minutesOf (l : Launch) (D : va_G) (cI : ClassId) (qm : Nat → Nat) (m_images m_newMany m_at m_open m_steps m_use m_traced m_speaks m_isParted : Int32) (m_s : Nat → Int32) (x1 : Int32) (u : Int32) (h : f7_minutesOf x1 m_s = some u) : q_RO q_E0 l yX7_minutesOf wsX7_minutesOf (rmq (1)) D cI [.ref (qm 0), .int x1] [(qm 0, .inr (7, oX7 qm m_images m_newMany m_at m_open m_steps m_use m_traced m_speaks m_isParted)), (qm 1, .inl (cI, 3974, .inl m_s))] u := by
  refine q_startR (cc := cX7_minutesOf) (maxL := 4) (ty := .int) (own := RX7) (by decide) rfl rfl (Nat.le_of_ble_eq_true rfl) rfl (fun p e s m args below meth c Q hx hb hml hown hts hP hK hEv hret ls hl => ?_)
  have in7 : ∀ w ∈ wsX70, w ∈ wsX7_minutesOf := fun w h => List.mem_cons_of_mem _ (List.mem_append_right _ (h))
  have l7 := hts (.fieldLink RX7 7 "PageWarsModel" "s" "[I") (List.mem_of_getElem? (i := 1) rfl)
  have J42 : ∀ (x2 : Int32) (s0 : Int32) (ls : Array Slot), lv_has ls 4 [(0, .ref (qm 0)), (2, .int x2)] → f7_minutesOf_42 m_s x2 s0 = some u → W p l e (rmq (1)) s m args below meth c s.heap [] 0 0 Q (F0 m 42 ls [.int s0]) := by
    intro x2 s0  ls hl h
    unfold f7_minutesOf_42 at h
    refine lv_istore_n (lv' := [(3, .int s0), (0, .ref (qm 0)), (2, .int x2)]) hx hb dX7_minutesOf_42 rfl hl (by decide) rfl (fun ls hl => ?_)
    refine lv_iload_n hx hb dX7_minutesOf_43 rfl (lv_at hl 0 rfl) ?_
    refine lv_iload_n hx hb dX7_minutesOf_44 rfl (lv_at hl 2 rfl) ?_
    refine lv_isub hx hb dX7_minutesOf_45 ?_
    exact hret _ _ _ (vp_nar_int _) h dX7_minutesOf_46
  have J16 : ∀ (x1 : Int32) (s0 : Int32) (ls : Array Slot), lv_has ls 4 [(0, .ref (qm 0)), (1, .int x1)] → f7_minutesOf_16 m_s x1 s0 = some u → W p l e (rmq (1)) s m args below meth c s.heap [] 0 0 Q (F0 m 16 ls [.int s0]) := by
    intro x1 s0  ls hl h
    unfold f7_minutesOf_16 at h
    refine lv_istore_n (lv' := [(2, .int s0), (0, .ref (qm 0)), (1, .int x1)]) hx hb dX7_minutesOf_16 rfl hl (by decide) rfl (fun ls hl => ?_)
    refine lv_iload_n hx hb dX7_minutesOf_17 rfl (lv_at hl 2 rfl) ?_
    refine lv_aload_n hx hb dX7_minutesOf_18 rfl (lv_at hl 1 rfl) ?_
    refine va_get (D := D) (ci := 7) (v := .ref (qm 1)) (C := RX7) (T := TX7) (N := 24) hx hb hts in7 hown hK hP 0 rfl rfl 0 (by decide) l7 (fun _ h9 => h9) rfl dX7_minutesOf_19 ?_
    refine lv_iconst (v := (1 : Int32)) hx hb dX7_minutesOf_22 (by decide) ?_
    refine q_iald hx hb hK hP 1 0 rfl rfl h dX7_minutesOf_23 (fun t23 h => ?_)
    refine q_cne hx hb 36 h dX7_minutesOf_24 (by decide) (fun h => ?_) (fun h => ?_)
    · refine lv_aload_n hx hb dX7_minutesOf_36 rfl (lv_at hl 1 rfl) ?_
      refine lv_iload_n hx hb dX7_minutesOf_37 rfl (lv_at hl 2 rfl) ?_
      refine lv_iconst (v := (2 : Int32)) hx hb dX7_minutesOf_38 (by decide) ?_
      refine q_callR q_E0ok (rest := []) ⟨hx, hb, hml, hown, hts⟩ (fun r hr => c7_actIs1 l D cI qm m_images m_newMany m_at m_open m_steps m_use m_traced m_speaks m_isParted m_s x1 ((2 : Int32)) r hr) (cwV 2 hts gX7_minutesOf_X7_actIs1 rfl rfl rfl hdX7_actIs1 (rmq_ok (Nat.le_of_ble_eq_true rfl) (Nat.le_of_ble_eq_true rfl))) hK hP hEv va_S.rf [0, 1] rfl (va_recv hK hP (ci := 7) (q0 := 0) rfl rfl) rfl rfl hl.1 (Nat.le_of_ble_eq_true rfl) ⟨Nat.zero_le _, Nat.zero_le _⟩ h dX7_minutesOf_39 (fun t39 h => ?_)
      exact J42 s0 t39 _ (lv_sub hl [1, 0] rfl) h
    · refine lv_aload_n hx hb dX7_minutesOf_27 rfl (lv_at hl 1 rfl) ?_
      refine va_get (D := D) (ci := 7) (v := .ref (qm 1)) (C := RX7) (T := TX7) (N := 24) hx hb hts in7 hown hK hP 0 rfl rfl 0 (by decide) l7 (fun _ h9 => h9) rfl dX7_minutesOf_28 ?_
      refine lv_iconst (v := (0 : Int32)) hx hb dX7_minutesOf_31 (by decide) ?_
      refine q_iald hx hb hK hP 1 0 rfl rfl h dX7_minutesOf_32 (fun t32 h => ?_)
      refine lv_goto (tgt := 42) hx hb dX7_minutesOf_33 (by decide) ?_
      exact J42 s0 t32 _ (lv_sub hl [1, 0] rfl) h
  unfold f7_minutesOf at h
  refine lv_iload_n hx hb dX7_minutesOf_0 rfl (lv_at hl 1 rfl) ?_
  refine q_ifne hx hb 8 h dX7_minutesOf_1 (by decide) (fun h => ?_) (fun h => ?_)
  · refine lv_aload_n hx hb dX7_minutesOf_8 rfl (lv_at hl 0 rfl) ?_
    refine lv_iload_n hx hb dX7_minutesOf_9 rfl (lv_at hl 1 rfl) ?_
    refine lv_iconst (v := (1 : Int32)) hx hb dX7_minutesOf_10 (by decide) ?_
    refine lv_isub hx hb dX7_minutesOf_11 ?_
    refine lv_iconst (v := (2 : Int32)) hx hb dX7_minutesOf_12 (by decide) ?_
    refine q_callR q_E0ok (rest := []) ⟨hx, hb, hml, hown, hts⟩ (fun r hr => c7_actIs1 l D cI qm m_images m_newMany m_at m_open m_steps m_use m_traced m_speaks m_isParted m_s (x1 - ((1 : Int32))) ((2 : Int32)) r hr) (cwV 2 hts gX7_minutesOf_X7_actIs1 rfl rfl rfl hdX7_actIs1 (rmq_ok (Nat.le_of_ble_eq_true rfl) (Nat.le_of_ble_eq_true rfl))) hK hP hEv va_S.rf [0, 1] rfl (va_recv hK hP (ci := 7) (q0 := 0) rfl rfl) rfl rfl hl.1 (Nat.le_of_ble_eq_true rfl) ⟨Nat.zero_le _, Nat.zero_le _⟩ h dX7_minutesOf_13 (fun t13 h => ?_)
    exact J16 x1 t13 _ (lv_sub hl [0, 1] rfl) h
  · refine lv_iconst (v := (0 : Int32)) hx hb dX7_minutesOf_4 (by decide) ?_
    refine lv_goto (tgt := 16) hx hb dX7_minutesOf_5 (by decide) ?_
    exact J16 x1 ((0 : Int32)) _ (lv_sub hl [0, 1] rfl) h
set_option maxHeartbeats 4000000 in
set_option maxRecDepth 100000 in
theorem c7_staysOf (l : Launch) (D : va_G) (cI : ClassId) (qm : Nat → Nat) (m_images m_newMany m_at m_open m_steps m_use m_traced m_speaks m_isParted : Int32) (m_s : Nat → Int32) (x1 : Int32) (n : Nat) (u : Int32) (h : f7_staysOf n x1 m_s = some u) : q_RO q_E0 l yX7_staysOf wsX7_staysOf (rmq (2)) D cI [.ref (qm 0), .int x1] [(qm 0, .inr (7, oX7 qm m_images m_newMany m_at m_open m_steps m_use m_traced m_speaks m_isParted)), (qm 1, .inl (cI, 3974, .inl m_s))] u := by
  refine q_startR (cc := cX7_staysOf) (maxL := 5) (ty := .int) (own := RX7) (by decide) rfl rfl (Nat.le_of_ble_eq_true rfl) rfl (fun p e s m args below meth c Q hx hb hml hown hts hP hK hEv hret ls hl => ?_)
  have in7 : ∀ w ∈ wsX70, w ∈ wsX7_staysOf := fun w h => List.mem_cons_of_mem _ (List.mem_append_right _ (h))
  have l7 := hts (.fieldLink RX7 7 "PageWarsModel" "s" "[I") (List.mem_of_getElem? (i := 1) rfl)
  have J6 : ∀ (kk6 : Nat) (x1 : Int32) (x2 : Int32) (x3 : Int32) (ls : Array Slot), lv_has ls 5 [(0, .ref (qm 0)), (1, .int x1), (2, .int x2), (3, .int x3)] → f7_staysOf_6 n m_s kk6 x1 x2 x3 = some u → W p l e (rmq (2)) s m args below meth c s.heap [] 0 0 Q (F0 m 6 ls []) := by
    intro kk6
    induction kk6 with
    | zero => intro x1 x2 x3  ls hl h; exact nomatch (show (none : Option (Int32)) = some u from h)
    | succ kk6 ih6 =>
      have J19 : ∀ (kk19 : Nat) (x1 : Int32) (x2 : Int32) (x3 : Int32) (x4 : Int32) (ls : Array Slot), lv_has ls 5 [(0, .ref (qm 0)), (1, .int x1), (2, .int x2), (3, .int x3), (4, .int x4)] → f7_staysOf_19 n m_s (f7_staysOf_6 n m_s kk6) kk19 x1 x2 x3 x4 = some u → W p l e (rmq (2)) s m args below meth c s.heap [] 0 0 Q (F0 m 19 ls []) := by
        intro kk19
        induction kk19 with
        | zero => intro x1 x2 x3 x4  ls hl h; exact nomatch (show (none : Option (Int32)) = some u from h)
        | succ kk19 ih19 =>
          have J50 : ∀ (x1 : Int32) (x3 : Int32) (x4 : Int32) (s0 : Int32) (s1 : Int32) (ls : Array Slot), lv_has ls 5 [(0, .ref (qm 0)), (1, .int x1), (3, .int x3), (4, .int x4)] → f7_staysOf_50 n m_s (f7_staysOf_6 n m_s kk6) (f7_staysOf_19 n m_s (f7_staysOf_6 n m_s kk6) kk19) x1 x3 x4 s0 s1 = some u → W p l e (rmq (2)) s m args below meth c s.heap [] 0 0 Q (F0 m 50 ls [.int s1, .int s0]) := by
            intro x1 x3 x4 s0 s1  ls hl h
            unfold f7_staysOf_50 at h
            refine lv_iadd hx hb dX7_staysOf_50 ?_
            refine q_let h (fun x2_51 h => ?_)
            refine lv_istore_n (lv' := [(2, .int x2_51), (0, .ref (qm 0)), (1, .int x1), (3, .int x3), (4, .int x4)]) hx hb dX7_staysOf_51 rfl hl (by decide) rfl (fun ls hl => ?_)
            refine q_iinc (fun v => [(4, .int v), (2, .int x2_51), (0, .ref (qm 0)), (1, .int x1), (3, .int x3)]) hx hb h dX7_staysOf_52 (by decide) hl (k := 4) rfl (by decide) (fun _ => rfl) (fun x4_52 ls h hl => ?_)
            refine lv_goto (tgt := 19) hx hb dX7_staysOf_55 (by decide) ?_
            exact ih19 x1 x2_51 x3 x4_52 _ (lv_sub hl [2, 3, 1, 4, 0] rfl) h
          intro x1 x2 x3 x4  ls hl h
          rw [f7_staysOf_19.eq_2] at h
          refine lv_iload hx hb dX7_staysOf_19 (lv_at hl 4 rfl) ?_
          refine lv_aload_n hx hb dX7_staysOf_21 rfl (lv_at hl 0 rfl) ?_
          refine lv_iload_n hx hb dX7_staysOf_22 rfl (lv_at hl 3 rfl) ?_
          refine q_callR q_E0ok (rest := [.int x4]) ⟨hx, hb, hml, hown, hts⟩ (fun r hr => c7_sizeOf l D cI qm m_images m_newMany m_at m_open m_steps m_use m_traced m_speaks m_isParted m_s x3 r hr) (cwV 1 hts gX7_staysOf_X7_sizeOf rfl rfl rfl hdX7_sizeOf (rmq_ok (Nat.le_of_ble_eq_true rfl) (Nat.le_of_ble_eq_true rfl))) hK hP hEv va_S.rf [0, 1] rfl (va_recv hK hP (ci := 7) (q0 := 0) rfl rfl) rfl rfl hl.1 (Nat.le_of_ble_eq_true rfl) ⟨Nat.zero_le _, Nat.zero_le _⟩ h dX7_staysOf_23 (fun t23 h => ?_)
          refine q_cge hx hb 58 h dX7_staysOf_26 (by decide) (fun h => ?_) (fun h => ?_)
          · refine q_iinc (fun v => [(3, .int v), (0, .ref (qm 0)), (1, .int x1), (2, .int x2), (4, .int x4)]) hx hb h dX7_staysOf_58 (by decide) hl (k := 3) rfl (by decide) (fun _ => rfl) (fun x3_58 ls h hl => ?_)
            refine lv_goto (tgt := 6) hx hb dX7_staysOf_61 (by decide) ?_
            exact ih6 x1 x2 x3_58 _ (lv_sub hl [1, 2, 3, 0] rfl) h
          · refine lv_iload_n hx hb dX7_staysOf_29 rfl (lv_at hl 2 rfl) ?_
            refine lv_aload_n hx hb dX7_staysOf_30 rfl (lv_at hl 0 rfl) ?_
            refine lv_iload_n hx hb dX7_staysOf_31 rfl (lv_at hl 3 rfl) ?_
            refine lv_iload hx hb dX7_staysOf_32 (lv_at hl 4 rfl) ?_
            refine q_callR q_E0ok (rest := [.int x2]) ⟨hx, hb, hml, hown, hts⟩ (fun r hr => c7_originAt l D cI qm m_images m_newMany m_at m_open m_steps m_use m_traced m_speaks m_isParted m_s x3 x4 r hr) (cwV 2 hts gX7_staysOf_X7_originAt rfl rfl rfl hdX7_originAt (rmq_ok (Nat.le_of_ble_eq_true rfl) (Nat.le_of_ble_eq_true rfl))) hK hP hEv va_S.rf [0, 1] rfl (va_recv hK hP (ci := 7) (q0 := 0) rfl rfl) rfl rfl hl.1 (Nat.le_of_ble_eq_true rfl) ⟨Nat.zero_le _, Nat.zero_le _⟩ h dX7_staysOf_34 (fun t34 h => ?_)
            refine lv_iload_n hx hb dX7_staysOf_37 rfl (lv_at hl 1 rfl) ?_
            refine q_cne hx hb 49 h dX7_staysOf_38 (by decide) (fun h => ?_) (fun h => ?_)
            · refine lv_iconst (v := (0 : Int32)) hx hb dX7_staysOf_49 (by decide) ?_
              exact J50 x1 x3 x4 x2 ((0 : Int32)) _ (lv_sub hl [0, 1, 3, 4] rfl) h
            · refine lv_aload_n hx hb dX7_staysOf_41 rfl (lv_at hl 0 rfl) ?_
              refine lv_iload_n hx hb dX7_staysOf_42 rfl (lv_at hl 3 rfl) ?_
              refine q_callR q_E0ok (rest := [.int x2]) ⟨hx, hb, hml, hown, hts⟩ (fun r hr => c7_minutesOf l D cI qm m_images m_newMany m_at m_open m_steps m_use m_traced m_speaks m_isParted m_s x3 r hr) (cwV 1 hts gX7_staysOf_X7_minutesOf rfl rfl rfl hdX7_minutesOf (rmq_ok (Nat.le_of_ble_eq_true rfl) (Nat.le_of_ble_eq_true rfl))) hK hP hEv va_S.rf [0, 1] rfl (va_recv hK hP (ci := 7) (q0 := 0) rfl rfl) rfl rfl hl.1 (Nat.le_of_ble_eq_true rfl) ⟨Nat.zero_le _, Nat.zero_le _⟩ h dX7_staysOf_43 (fun t43 h => ?_)
              refine lv_goto (tgt := 50) hx hb dX7_staysOf_46 (by decide) ?_
              exact J50 x1 x3 x4 x2 t43 _ (lv_sub hl [0, 1, 3, 4] rfl) h
      intro x1 x2 x3  ls hl h
      rw [f7_staysOf_6.eq_2] at h
      refine lv_iload_n hx hb dX7_staysOf_6 rfl (lv_at hl 3 rfl) ?_
      refine lv_aload_n hx hb dX7_staysOf_7 rfl (lv_at hl 0 rfl) ?_
      refine va_get (D := D) (ci := 7) (v := .ref (qm 1)) (C := RX7) (T := TX7) (N := 24) hx hb hts in7 hown hK hP 0 rfl rfl 0 (by decide) l7 (fun _ h9 => h9) rfl dX7_staysOf_8 ?_
      refine lv_iconst (v := (1 : Int32)) hx hb dX7_staysOf_11 (by decide) ?_
      refine q_iald hx hb hK hP 1 0 rfl rfl h dX7_staysOf_12 (fun t12 h => ?_)
      refine q_cgt hx hb 64 h dX7_staysOf_13 (by decide) (fun h => ?_) (fun h => ?_)
      · refine lv_iload_n hx hb dX7_staysOf_64 rfl (lv_at hl 2 rfl) ?_
        exact hret _ _ _ (vp_nar_int _) h dX7_staysOf_65
      · refine lv_iconst (v := (0 : Int32)) hx hb dX7_staysOf_16 (by decide) ?_
        refine lv_istore (lv' := [(4, .int ((0 : Int32))), (0, .ref (qm 0)), (1, .int x1), (2, .int x2), (3, .int x3)]) hx hb dX7_staysOf_17 hl (by decide) rfl (fun ls hl => ?_)
        exact J19 n x1 x2 x3 ((0 : Int32)) _ (lv_sub hl [1, 2, 3, 4, 0] rfl) h
  unfold f7_staysOf at h
  refine lv_iconst (v := (0 : Int32)) hx hb dX7_staysOf_0 (by decide) ?_
  refine lv_istore_n (lv' := [(2, .int ((0 : Int32))), (0, .ref (qm 0)), (1, .int x1)]) hx hb dX7_staysOf_1 rfl hl (by decide) rfl (fun ls hl => ?_)
  refine lv_iload_n hx hb dX7_staysOf_2 rfl (lv_at hl 2 rfl) ?_
  refine lv_iconst (v := (1 : Int32)) hx hb dX7_staysOf_3 (by decide) ?_
  refine lv_iadd hx hb dX7_staysOf_4 ?_
  refine q_let h (fun x3_5 h => ?_)
  refine lv_istore_n (lv' := [(3, .int x3_5), (2, .int ((0 : Int32))), (0, .ref (qm 0)), (1, .int x1)]) hx hb dX7_staysOf_5 rfl hl (by decide) rfl (fun ls hl => ?_)
  exact J6 n x1 ((0 : Int32)) x3_5 _ (lv_sub hl [2, 3, 1, 0] rfl) h
set_option maxHeartbeats 4000000 in
set_option maxRecDepth 100000 in
theorem c7_stays (l : Launch) (D : va_G) (cI : ClassId) (qm : Nat → Nat) (m_images m_newMany m_at m_open m_steps m_use m_traced m_speaks m_isParted : Int32) (m_s m_errors : Nat → Int32) (x1 : Int32) (n : Nat) (u : Int32 × (Nat → Int32)) (h : f7_stays n x1 m_s m_errors = some u) : q_RW q_E0 l yX7_stays wsX7_stays (rmq (3)) D cI [.ref (qm 0), .int x1] [(qm 0, .inr (7, oX7 qm m_images m_newMany m_at m_open m_steps m_use m_traced m_speaks m_isParted)), (qm 1, .inl (cI, 3974, .inl m_s)), (qm 4, .inl (cI, 7, .inl m_errors))] [(qm 0, .inr (7, oX7 qm m_images m_newMany m_at m_open m_steps m_use m_traced m_speaks m_isParted)), (qm 1, .inl (cI, 3974, .inl m_s)), (qm 4, .inl (cI, 7, .inl u.2))] u.1 := by
  refine q_startW (fun u : Int32 × (Nat → Int32) => [(qm 0, .inr (7, oX7 qm m_images m_newMany m_at m_open m_steps m_use m_traced m_speaks m_isParted)), (qm 1, .inl (cI, 3974, .inl m_s)), (qm 4, .inl (cI, 7, .inl u.2))]) (fun u => u.1) (cc := cX7_stays) (maxL := 2) (ty := .int) (own := RX7) (by decide) rfl rfl (Nat.le_of_ble_eq_true rfl) rfl (fun p e s m args below meth c Q A hx hb hml hown hts hK hEv hA hret hP hD hS ls hl => ?_)
  have in7 : ∀ w ∈ wsX70, w ∈ wsX7_stays := fun w h => List.mem_cons_of_mem _ (List.mem_append_right _ (h))
  have J21 : ∀ (s0 : Int32) (m_errors : (Nat → Int32)) (H : Heap) (locs : List Loc) (ls : Array Slot), lv_has ls 2 [(0, .ref (qm 0))] → va_P D vwCl [(qm 0, .inr (7, oX7 qm m_images m_newMany m_at m_open m_steps m_use m_traced m_speaks m_isParted)), (qm 1, .inl (cI, 3974, .inl m_s)), (qm 4, .inl (cI, 7, .inl m_errors))] H → va_D A [(qm 0, .inr (7, oX7 qm m_images m_newMany m_at m_open m_steps m_use m_traced m_speaks m_isParted)), (qm 1, .inl (cI, 3974, .inl m_s)), (qm 4, .inl (cI, 7, .inl m_errors))] → va_S A s.heap H locs → f7_stays_21 n m_s s0 m_errors = some u → W p l e (rmq (3)) s m args below meth c H locs 0 0 Q (F0 m 21 ls [.int s0]) := by
    intro s0 m_errors H locs ls hl hP hD hS h
    unfold f7_stays_21 at h
    exact hret (s0, m_errors) _ _ _ _ (vp_nar_int _) h hP hD hS dX7_stays_21
  unfold f7_stays at h
  refine lv_aload_n hx hb dX7_stays_0 rfl (lv_at hl 0 rfl) ?_
  refine lv_iload_n hx hb dX7_stays_1 rfl (lv_at hl 1 rfl) ?_
  refine q_callR q_E0ok (rest := []) ⟨hx, hb, hml, hown, hts⟩ (fun r hr => c7_isAct l D cI qm m_images m_newMany m_at m_open m_steps m_use m_traced m_speaks m_isParted m_s x1 r hr) (cwV 1 hts gX7_stays_X7_isAct rfl rfl rfl hdX7_isAct (rmq_ok (Nat.le_of_ble_eq_true rfl) (Nat.le_of_ble_eq_true rfl))) hK hP hEv hS [0, 1] rfl (va_recv hK hP (ci := 7) (q0 := 0) rfl rfl) rfl rfl hl.1 (Nat.le_of_ble_eq_true rfl) ⟨Nat.zero_le _, Nat.zero_le _⟩ h dX7_stays_2 (fun t2 h => ?_)
  refine q_ifeq hx hb 16 h dX7_stays_5 (by decide) (fun h => ?_) (fun h => ?_)
  · refine lv_aload_n hx hb dX7_stays_16 rfl (lv_at hl 0 rfl) ?_
    refine lv_iconst (v := (1 : Int32)) hx hb dX7_stays_17 (by decide) ?_
    refine q_callW2 q_E0ok (rest := []) (fun u => [(qm 0, .inr (7, oX7 qm m_images m_newMany m_at m_open m_steps m_use m_traced m_speaks m_isParted)), (qm 4, .inl (cI, 7, .inl u.2))]) (fun u => u.1) ⟨hx, hb, hml, hown, hts⟩ (fun u hu => c7_error l D cI qm m_images m_newMany m_at m_open m_steps m_use m_traced m_speaks m_isParted m_errors ((1 : Int32)) u hu) (cwV 1 hts gX7_stays_X7_error rfl rfl rfl hdX7_error (rmq_ok (Nat.le_of_ble_eq_true rfl) (Nat.le_of_ble_eq_true rfl))) hK hEv hA hP hD hS [0, 2] (by decide) rfl (fun _ => rfl) (va_recv hK hP (ci := 7) (q0 := 0) rfl rfl) rfl rfl hl.1 (Nat.le_of_ble_eq_true rfl) ⟨Nat.zero_le _, Nat.zero_le _⟩ h dX7_stays_18 (fun t18 m_errors_18 H locs h hP hD hS => ?_)
    have hP : va_P D vwCl [(qm 0, .inr (7, oX7 qm m_images m_newMany m_at m_open m_steps m_use m_traced m_speaks m_isParted)), (qm 1, .inl (cI, 3974, .inl m_s)), (qm 4, .inl (cI, 7, .inl m_errors_18))] H := hP
    have hD : va_D A [(qm 0, .inr (7, oX7 qm m_images m_newMany m_at m_open m_steps m_use m_traced m_speaks m_isParted)), (qm 1, .inl (cI, 3974, .inl m_s)), (qm 4, .inl (cI, 7, .inl m_errors_18))] := hD
    exact J21 t18 m_errors_18 _ _ _ (lv_sub hl [0] rfl) hP hD hS h
  · refine lv_aload_n hx hb dX7_stays_8 rfl (lv_at hl 0 rfl) ?_
    refine lv_iload_n hx hb dX7_stays_9 rfl (lv_at hl 1 rfl) ?_
    refine q_callR q_E0ok (rest := []) ⟨hx, hb, hml, hown, hts⟩ (fun r hr => c7_staysOf l D cI qm m_images m_newMany m_at m_open m_steps m_use m_traced m_speaks m_isParted m_s x1 n r hr) (cwV 1 hts gX7_stays_X7_staysOf rfl rfl rfl hdX7_staysOf (rmq_ok (Nat.le_of_ble_eq_true rfl) (Nat.le_of_ble_eq_true rfl))) hK hP hEv hS [0, 1] rfl (va_recv hK hP (ci := 7) (q0 := 0) rfl rfl) rfl rfl hl.1 (Nat.le_of_ble_eq_true rfl) ⟨Nat.zero_le _, Nat.zero_le _⟩ h dX7_stays_10 (fun t10 h => ?_)
    refine lv_goto (tgt := 21) hx hb dX7_stays_13 (by decide) ?_
    exact J21 t10 m_errors _ _ _ (lv_sub hl [0] rfl) hP hD hS h
set_option maxHeartbeats 4000000 in
set_option maxRecDepth 100000 in
theorem c7_offSince (l : Launch) (D : va_G) (cI : ClassId) (qm : Nat → Nat) (m_images m_newMany m_at m_open m_steps m_use m_traced m_speaks m_isParted : Int32) (m_s m_undoneBy : Nat → Int32) (x1 : Int32) (n : Nat) (u : Int32) (h : f7_offSince n x1 m_s m_undoneBy = some u) : q_RO q_E0 l yX7_offSince wsX7_offSince (rmq (1)) D cI [.ref (qm 0), .int x1] [(qm 0, .inr (7, oX7 qm m_images m_newMany m_at m_open m_steps m_use m_traced m_speaks m_isParted)), (qm 1, .inl (cI, 3974, .inl m_s)), (qm 16, .inl (cI, 60, .inl m_undoneBy))] u := by
  refine q_startR (cc := cX7_offSince) (maxL := 5) (ty := .int) (own := RX7) (by decide) rfl rfl (Nat.le_of_ble_eq_true rfl) rfl (fun p e s m args below meth c Q hx hb hml hown hts hP hK hEv hret ls hl => ?_)
  have in7 : ∀ w ∈ wsX70, w ∈ wsX7_offSince := fun w h => List.mem_cons_of_mem _ (List.mem_append_right _ (h))
  have l7 := hts (.fieldLink RX7 7 "PageWarsModel" "s" "[I") (List.mem_of_getElem? (i := 1) rfl)
  have l37 := hts (.fieldLink RX7 37 "PageWarsModel" "undoneBy" "[I") (List.mem_of_getElem? (i := 2) rfl)
  have J4 : ∀ (kk4 : Nat) (x1 : Int32) (x2 : Int32) (x3 : Int32) (ls : Array Slot), lv_has ls 5 [(0, .ref (qm 0)), (1, .int x1), (2, .int x2), (3, .int x3)] → f7_offSince_4 n m_s m_undoneBy kk4 x1 x2 x3 = some u → W p l e (rmq (1)) s m args below meth c s.heap [] 0 0 Q (F0 m 4 ls []) := by
    intro kk4
    induction kk4 with
    | zero => intro x1 x2 x3  ls hl h; exact nomatch (show (none : Option (Int32)) = some u from h)
    | succ kk4 ih4 =>
      have J17 : ∀ (kk17 : Nat) (x1 : Int32) (x2 : Int32) (x3 : Int32) (x4 : Int32) (ls : Array Slot), lv_has ls 5 [(0, .ref (qm 0)), (1, .int x1), (2, .int x2), (3, .int x3), (4, .int x4)] → f7_offSince_17 n m_s m_undoneBy (f7_offSince_4 n m_s m_undoneBy kk4) kk17 x1 x2 x3 x4 = some u → W p l e (rmq (1)) s m args below meth c s.heap [] 0 0 Q (F0 m 17 ls []) := by
        intro kk17
        induction kk17 with
        | zero => intro x1 x2 x3 x4  ls hl h; exact nomatch (show (none : Option (Int32)) = some u from h)
        | succ kk17 ih17 =>
          have J69 : ∀ (x1 : Int32) (x2 : Int32) (x3 : Int32) (ls : Array Slot), lv_has ls 5 [(0, .ref (qm 0)), (1, .int x1), (2, .int x2), (3, .int x3)] → f7_offSince_69 n m_s m_undoneBy (f7_offSince_4 n m_s m_undoneBy kk4) (f7_offSince_17 n m_s m_undoneBy (f7_offSince_4 n m_s m_undoneBy kk4) kk17) x1 x2 x3 = some u → W p l e (rmq (1)) s m args below meth c s.heap [] 0 0 Q (F0 m 69 ls []) := by
            intro x1 x2 x3  ls hl h
            unfold f7_offSince_69 at h
            refine lv_iload_n hx hb dX7_offSince_69 rfl (lv_at hl 2 rfl) ?_
            refine lv_iconst (v := (3 : Int32)) hx hb dX7_offSince_70 (by decide) ?_
            refine q_clt hx hb 81 h dX7_offSince_71 (by decide) (fun h => ?_) (fun h => ?_)
            · refine q_iinc (fun v => [(3, .int v), (0, .ref (qm 0)), (1, .int x1), (2, .int x2)]) hx hb h dX7_offSince_81 (by decide) hl (k := 3) rfl (by decide) (fun _ => rfl) (fun x3_81 ls h hl => ?_)
              refine lv_goto (tgt := 4) hx hb dX7_offSince_84 (by decide) ?_
              exact ih4 x1 x2 x3_81 _ (lv_sub hl [1, 2, 3, 0] rfl) h
            · refine lv_aload_n hx hb dX7_offSince_74 rfl (lv_at hl 0 rfl) ?_
              refine lv_iload_n hx hb dX7_offSince_75 rfl (lv_at hl 3 rfl) ?_
              refine lv_iconst (v := (2 : Int32)) hx hb dX7_offSince_76 (by decide) ?_
              refine q_callR q_E0ok (rest := []) ⟨hx, hb, hml, hown, hts⟩ (fun r hr => c7_actIs1 l D cI qm m_images m_newMany m_at m_open m_steps m_use m_traced m_speaks m_isParted m_s x3 ((2 : Int32)) r hr) (cwV 2 hts gX7_offSince_X7_actIs1 rfl rfl rfl hdX7_actIs1 (rmq_ok (Nat.le_of_ble_eq_true rfl) (Nat.le_of_ble_eq_true rfl))) hK hP hEv va_S.rf [0, 1] rfl (va_recv hK hP (ci := 7) (q0 := 0) rfl rfl) rfl rfl hl.1 (Nat.le_of_ble_eq_true rfl) ⟨Nat.zero_le _, Nat.zero_le _⟩ h dX7_offSince_77 (fun t77 h => ?_)
              exact hret _ _ _ (vp_nar_int _) h dX7_offSince_80
          have J61 : ∀ (x1 : Int32) (x3 : Int32) (x4 : Int32) (s0 : Int32) (s1 : Int32) (ls : Array Slot), lv_has ls 5 [(0, .ref (qm 0)), (1, .int x1), (3, .int x3), (4, .int x4)] → f7_offSince_61 n m_s m_undoneBy (f7_offSince_4 n m_s m_undoneBy kk4) (f7_offSince_17 n m_s m_undoneBy (f7_offSince_4 n m_s m_undoneBy kk4) kk17) x1 x3 x4 s0 s1 = some u → W p l e (rmq (1)) s m args below meth c s.heap [] 0 0 Q (F0 m 61 ls [.int s1, .int s0]) := by
            intro x1 x3 x4 s0 s1  ls hl h
            unfold f7_offSince_61 at h
            refine lv_iadd hx hb dX7_offSince_61 ?_
            refine q_let h (fun x2_62 h => ?_)
            refine lv_istore_n (lv' := [(2, .int x2_62), (0, .ref (qm 0)), (1, .int x1), (3, .int x3), (4, .int x4)]) hx hb dX7_offSince_62 rfl hl (by decide) rfl (fun ls hl => ?_)
            refine q_iinc (fun v => [(4, .int v), (2, .int x2_62), (0, .ref (qm 0)), (1, .int x1), (3, .int x3)]) hx hb h dX7_offSince_63 (by decide) hl (k := 4) rfl (by decide) (fun _ => rfl) (fun x4_63 ls h hl => ?_)
            refine lv_goto (tgt := 17) hx hb dX7_offSince_66 (by decide) ?_
            exact ih17 x1 x2_62 x3 x4_63 _ (lv_sub hl [2, 3, 1, 4, 0] rfl) h
          have J60 : ∀ (x1 : Int32) (x3 : Int32) (x4 : Int32) (s0 : Int32) (ls : Array Slot), lv_has ls 5 [(0, .ref (qm 0)), (1, .int x1), (3, .int x3), (4, .int x4)] → f7_offSince_60 n m_s m_undoneBy (f7_offSince_4 n m_s m_undoneBy kk4) (f7_offSince_17 n m_s m_undoneBy (f7_offSince_4 n m_s m_undoneBy kk4) kk17) x1 x3 x4 s0 = some u → W p l e (rmq (1)) s m args below meth c s.heap [] 0 0 Q (F0 m 60 ls [.int s0]) := by
            intro x1 x3 x4 s0  ls hl h
            unfold f7_offSince_60 at h
            refine lv_iconst (v := (0 : Int32)) hx hb dX7_offSince_60 (by decide) ?_
            exact J61 x1 x3 x4 s0 ((0 : Int32)) _ (lv_sub hl [0, 1, 2, 3] rfl) h
          intro x1 x2 x3 x4  ls hl h
          rw [f7_offSince_17.eq_2] at h
          refine lv_iload hx hb dX7_offSince_17 (lv_at hl 4 rfl) ?_
          refine lv_iload_n hx hb dX7_offSince_19 rfl (lv_at hl 3 rfl) ?_
          refine q_cge hx hb 69 h dX7_offSince_20 (by decide) (fun h => ?_) (fun h => ?_)
          · exact J69 x1 x2 x3 _ (lv_sub hl [0, 1, 2, 3] rfl) h
          · refine lv_aload_n hx hb dX7_offSince_23 rfl (lv_at hl 0 rfl) ?_
            refine lv_iload_n hx hb dX7_offSince_24 rfl (lv_at hl 3 rfl) ?_
            refine lv_iconst (v := (1 : Int32)) hx hb dX7_offSince_25 (by decide) ?_
            refine q_callR q_E0ok (rest := []) ⟨hx, hb, hml, hown, hts⟩ (fun r hr => c7_actIs1 l D cI qm m_images m_newMany m_at m_open m_steps m_use m_traced m_speaks m_isParted m_s x3 ((1 : Int32)) r hr) (cwV 2 hts gX7_offSince_X7_actIs1 rfl rfl rfl hdX7_actIs1 (rmq_ok (Nat.le_of_ble_eq_true rfl) (Nat.le_of_ble_eq_true rfl))) hK hP hEv va_S.rf [0, 1] rfl (va_recv hK hP (ci := 7) (q0 := 0) rfl rfl) rfl rfl hl.1 (Nat.le_of_ble_eq_true rfl) ⟨Nat.zero_le _, Nat.zero_le _⟩ h dX7_offSince_26 (fun t26 h => ?_)
            refine lv_iload_n hx hb dX7_offSince_29 rfl (lv_at hl 1 rfl) ?_
            refine q_ceq hx hb 69 h dX7_offSince_30 (by decide) (fun h => ?_) (fun h => ?_)
            · exact J69 x1 x2 x3 _ (lv_sub hl [0, 1, 2, 3] rfl) h
            · refine lv_iload_n hx hb dX7_offSince_33 rfl (lv_at hl 2 rfl) ?_
              refine lv_aload_n hx hb dX7_offSince_34 rfl (lv_at hl 0 rfl) ?_
              refine va_get (D := D) (ci := 7) (v := .ref (qm 16)) (C := RX7) (T := TX7) (N := 24) hx hb hts in7 hown hK hP 0 rfl rfl 15 (by decide) l37 (fun _ h9 => h9) rfl dX7_offSince_35 ?_
              refine lv_iload hx hb dX7_offSince_38 (lv_at hl 4 rfl) ?_
              refine q_iald hx hb hK hP 2 0 rfl rfl h dX7_offSince_40 (fun t40 h => ?_)
              refine lv_iload_n hx hb dX7_offSince_41 rfl (lv_at hl 3 rfl) ?_
              refine q_cne hx hb 60 h dX7_offSince_42 (by decide) (fun h => ?_) (fun h => ?_)
              · exact J60 x1 x3 x4 x2 _ (lv_sub hl [0, 1, 3, 4] rfl) h
              · refine lv_aload_n hx hb dX7_offSince_45 rfl (lv_at hl 0 rfl) ?_
                refine lv_iload hx hb dX7_offSince_46 (lv_at hl 4 rfl) ?_
                refine lv_iconst (v := (1 : Int32)) hx hb dX7_offSince_48 (by decide) ?_
                refine q_callR q_E0ok (rest := [.int x2]) ⟨hx, hb, hml, hown, hts⟩ (fun r hr => c7_actIs1 l D cI qm m_images m_newMany m_at m_open m_steps m_use m_traced m_speaks m_isParted m_s x4 ((1 : Int32)) r hr) (cwV 2 hts gX7_offSince_X7_actIs1 rfl rfl rfl hdX7_actIs1 (rmq_ok (Nat.le_of_ble_eq_true rfl) (Nat.le_of_ble_eq_true rfl))) hK hP hEv va_S.rf [0, 1] rfl (va_recv hK hP (ci := 7) (q0 := 0) rfl rfl) rfl rfl hl.1 (Nat.le_of_ble_eq_true rfl) ⟨Nat.zero_le _, Nat.zero_le _⟩ h dX7_offSince_49 (fun t49 h => ?_)
                refine lv_iload_n hx hb dX7_offSince_52 rfl (lv_at hl 1 rfl) ?_
                refine q_cne hx hb 60 h dX7_offSince_53 (by decide) (fun h => ?_) (fun h => ?_)
                · exact J60 x1 x3 x4 x2 _ (lv_sub hl [0, 1, 3, 4] rfl) h
                · refine lv_iconst (v := (1 : Int32)) hx hb dX7_offSince_56 (by decide) ?_
                  refine lv_goto (tgt := 61) hx hb dX7_offSince_57 (by decide) ?_
                  exact J61 x1 x3 x4 x2 ((1 : Int32)) _ (lv_sub hl [0, 1, 3, 4] rfl) h
      intro x1 x2 x3  ls hl h
      rw [f7_offSince_4.eq_2] at h
      refine lv_iload_n hx hb dX7_offSince_4 rfl (lv_at hl 3 rfl) ?_
      refine lv_aload_n hx hb dX7_offSince_5 rfl (lv_at hl 0 rfl) ?_
      refine va_get (D := D) (ci := 7) (v := .ref (qm 1)) (C := RX7) (T := TX7) (N := 24) hx hb hts in7 hown hK hP 0 rfl rfl 0 (by decide) l7 (fun _ h9 => h9) rfl dX7_offSince_6 ?_
      refine lv_iconst (v := (1 : Int32)) hx hb dX7_offSince_9 (by decide) ?_
      refine q_iald hx hb hK hP 1 0 rfl rfl h dX7_offSince_10 (fun t10 h => ?_)
      refine q_cge hx hb 87 h dX7_offSince_11 (by decide) (fun h => ?_) (fun h => ?_)
      · refine lv_iconst (v := (-1 : Int32)) hx hb dX7_offSince_87 (by decide) ?_
        exact hret _ _ _ (vp_nar_int _) h dX7_offSince_88
      · refine lv_iconst (v := (0 : Int32)) hx hb dX7_offSince_14 (by decide) ?_
        refine lv_istore (lv' := [(4, .int ((0 : Int32))), (0, .ref (qm 0)), (1, .int x1), (2, .int x2), (3, .int x3)]) hx hb dX7_offSince_15 hl (by decide) rfl (fun ls hl => ?_)
        exact J17 n x1 x2 x3 ((0 : Int32)) _ (lv_sub hl [1, 2, 3, 4, 0] rfl) h
  unfold f7_offSince at h
  refine lv_iconst (v := (0 : Int32)) hx hb dX7_offSince_0 (by decide) ?_
  refine lv_istore_n (lv' := [(2, .int ((0 : Int32))), (0, .ref (qm 0)), (1, .int x1)]) hx hb dX7_offSince_1 rfl hl (by decide) rfl (fun ls hl => ?_)
  refine lv_iconst (v := (0 : Int32)) hx hb dX7_offSince_2 (by decide) ?_
  refine lv_istore_n (lv' := [(3, .int ((0 : Int32))), (2, .int ((0 : Int32))), (0, .ref (qm 0)), (1, .int x1)]) hx hb dX7_offSince_3 rfl hl (by decide) rfl (fun ls hl => ?_)
  exact J4 n x1 ((0 : Int32)) ((0 : Int32)) _ (lv_sub hl [2, 3, 1, 0] rfl) h
