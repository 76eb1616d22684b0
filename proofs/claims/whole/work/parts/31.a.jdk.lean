/-! ===== String.indexOf of one of the class's three texts ===== -/
section QD
variable {p : Program} {l : Launch} {e : Env} {R : Room} {s : State} {m : MethodId} {args : Array Value} {below : List Frame} {meth : Method} {c : Code} {H : Heap} {locs : List Loc} {cells slots : Nat} {Q : State → Prop}
variable {cc : ByteArray} {pc : Nat} {ls : Array Slot} {rest : List Value} {D : va_G} {A : Nat → Prop} {cI : ClassId} {ws : va_W} {E : q_Env} {y : MethodName} {bytes : ByteArray} {maxL nL n index : Nat} {ret : Option FieldType} {wsC Ts : List Cond} {rm : Room} {own C : String} {b : Addr} {As st0 : List Value} {wc : va_W}
theorem q_callRd (hE : q_EOk E) {r : Int32} (S : CallFix p m c cc nL s args Ts own) (hM : q_RO E l y wsC rm D cI (.ref b :: As) wc r) (cw : CallW R s args own C index y bytes maxL ret wsC rm 0 0 n) (hK : va_K D vwCl [(cI, .int)] s) (hP : va_P D vwCl ws H) (hEv : E A s s.heap) (hS : va_S A s.heap H locs) (is : List Nat) (hs : is.filterMap (fun i => ws[i]?) = wc) (rc : ∃ cell : Cell, H[b]? = some cell ∧ cell.vm.isStatics = false ∧ s.vm.findClass C = some cell.cls) (hst : st0 = As.reverse ++ .ref b :: rest) (hn : As.length = n) (hl : ls.size = nL) (hroom : (rest.map fun v => v.category).sum ≤ 8) (hf : cells ≤ R.cells ∧ slots ≤ R.slots) (hdg : decode cc pc = .ok (.invokevirtual index, 3))
    (kk : W p l e R s m args below meth c H locs cells slots Q (F0 m (pc + 3) ls (.int r :: rest))) : W p l e R s m args below meth c H locs cells slots Q (F0 m pc ls st0) :=
  q_callR hE (F := some r) (K := fun x => some x) (o := r) S (fun r' h => by cases h; exact hM) cw hK hP hEv hS is hs rc hst hn hl hroom hf rfl hdg (fun y hy => by cases hy; exact kk)
theorem q_callRSd (hE : q_EOk E) {r : Int32} (S : CallFix p m c cc nL s args Ts own) (hM : q_RO E l y wsC rm D cI As wc r) (cw : CallB R s args own index y bytes maxL ret wsC rm 0 0 n ∧ (Cond.static y).before args s = true) (hK : va_K D vwCl [(cI, .int)] s) (hP : va_P D vwCl ws H) (hEv : E A s s.heap) (hS : va_S A s.heap H locs) (is : List Nat) (hs : is.filterMap (fun i => ws[i]?) = wc) (hst : st0 = As.reverse ++ rest) (hn : As.length = n) (hl : ls.size = nL) (hroom : (rest.map fun v => v.category).sum ≤ 8) (hf : cells ≤ R.cells ∧ slots ≤ R.slots) (hdg : decode cc pc = .ok (.invokestatic index, 3))
    (kk : W p l e R s m args below meth c H locs cells slots Q (F0 m (pc + 3) ls (.int r :: rest))) : W p l e R s m args below meth c H locs cells slots Q (F0 m pc ls st0) :=
  q_callRS hE (F := some r) (K := fun x => some x) (o := r) S (fun r' h => by cases h; exact hM) cw hK hP hEv hS is hs hst hn hl hroom hf rfl hdg (fun y hy => by cases hy; exact kk)
end QD
theorem jd_len {ni : Nat} (h : ni < 3) : t_len.getD ni 0 = 5 := by
  match ni, h with
  | 0, _ => rfl
  | 1, _ => rfl
  | 2, _ => rfl
theorem jd_byt {ni : Nat} (h : ni < 3) : (t_byt.getD ni []).length = 5 ∧ ∀ b ∈ t_byt.getD ni [], ∃ k : Nat, k < 128 ∧ b = nI k := by
  match ni, h with
  | 0, _ => exact ⟨rfl, by intro b hb; simp [t_byt] at hb; rcases hb with rfl | rfl | rfl | rfl | rfl <;> exact ⟨_, by decide, rfl⟩⟩
  | 1, _ => exact ⟨rfl, by intro b hb; simp [t_byt] at hb; rcases hb with rfl | rfl | rfl | rfl | rfl <;> exact ⟨_, by decide, rfl⟩⟩
  | 2, _ => exact ⟨rfl, by intro b hb; simp [t_byt] at hb; rcases hb with rfl | rfl | rfl | rfl | rfl <;> exact ⟨_, by decide, rfl⟩⟩
theorem jd_8 : ∀ k : Nat, k < 256 → ∀ j : Nat, j < 128 → ((nI j = (nI k).toInt8.toInt32) ↔ j = k) := by decide +kernel
theorem jd_out {c : Int32} (h : c < 0 ∨ 255 < c) : ∀ (l : List Int32) (k : Nat), (∀ b ∈ l, ∃ j : Nat, j < 128 ∧ b = nI j) → t_ix l k c = -1
  | [], _, _ => rfl
  | b :: r, k, hb => by
    show (if b = c then nI k else t_ix r (k + 1) c) = -1
    obtain ⟨j, hj, e⟩ := hb b List.mem_cons_self
    rw [if_neg, jd_out h r (k + 1) (fun z hz => hb z (List.mem_cons_of_mem _ hz))]
    intro e2
    rw [← e2, e] at h
    rcases h with h | h
    · exact nI_pos (by omega) h
    · exact nI_nlt (a := 255) (b := j) (by omega) (by omega) h
set_option maxRecDepth 100000 in
theorem jd_coder (l : Launch) (D : va_G) (cI : ClassId) (ad : Nat → Nat) (ni : Nat) (hni : ni < 3) : q_RO (cE ad) l yJ0_coder_7d493 wsJ0_coder_7d493 (rmq 0) D cI [.ref (ad (2 + ni))] [] 0 := by
  refine q_startR (cc := cJ0_coder_7d493) (maxL := 1) (ty := .byte) (own := RJ0) (by decide) rfl rfl (Nat.le_of_ble_eq_true rfl) rfl (fun p e s m args below meth c Q hx hb hml hown hts hP hK hEv hret ls hl => ?_)
  obtain ⟨hO, hco, hva, hT⟩ := hEv.2.2.2.2.1.2.1 ni hni
  have l38 := hts (.fieldLink RJ0 38 "java/lang/String" "COMPACT_STRINGS" "Z") (List.mem_of_getElem? (i := 1) rfl)
  have l15 := hts (.fieldLink RJ0 15 "java/lang/String" "coder" "B") (List.mem_of_getElem? (i := 2) rfl)
  refine va_gets hx hb hEv.2.2.2.2.1.1 va_S.rf hown l38 (fun _ h9 => h9) dJ0_coder_7d493_0 ?_
  refine lv_if_eq hx hb (tgt := 13) dJ0_coder_7d493_3 (by decide) (fun h => absurd h (by decide)) (fun _ => ?_)
  refine lv_aload_n hx hb dJ0_coder_7d493_6 rfl (lv_at hl 0 rfl) ?_
  refine vk_getf hx hb hco va_S.rf hown l15 (fun _ h9 => h9) dJ0_coder_7d493_7 ?_
  refine lv_goto (tgt := 14) hx hb dJ0_coder_7d493_10 (by decide) ?_
  exact hret _ _ _ rfl rfl dJ0_coder_7d493_14
set_option maxRecDepth 100000 in
theorem jd_latin (l : Launch) (D : va_G) (cI : ClassId) (ad : Nat → Nat) (ni : Nat) (hni : ni < 3) : q_RO (cE ad) l yJ0_isLatin1_aae02 wsJ0_isLatin1_aae02 (rmq 0) D cI [.ref (ad (2 + ni))] [] 1 := by
  refine q_startR (cc := cJ0_isLatin1_aae02) (maxL := 1) (ty := .boolean) (own := RJ0) (by decide) rfl rfl (Nat.le_of_ble_eq_true rfl) rfl (fun p e s m args below meth c Q hx hb hml hown hts hP hK hEv hret ls hl => ?_)
  obtain ⟨hO, hco, hva, hT⟩ := hEv.2.2.2.2.1.2.1 ni hni
  have l38 := hts (.fieldLink RJ0 38 "java/lang/String" "COMPACT_STRINGS" "Z") (List.mem_of_getElem? (i := 1) rfl)
  have l15 := hts (.fieldLink RJ0 15 "java/lang/String" "coder" "B") (List.mem_of_getElem? (i := 2) rfl)
  refine va_gets hx hb hEv.2.2.2.2.1.1 va_S.rf hown l38 (fun _ h9 => h9) dJ0_isLatin1_aae02_0 ?_
  refine lv_if_eq hx hb (tgt := 17) dJ0_isLatin1_aae02_3 (by decide) (fun h => absurd h (by decide)) (fun _ => ?_)
  refine lv_aload_n hx hb dJ0_isLatin1_aae02_6 rfl (lv_at hl 0 rfl) ?_
  refine vk_getf hx hb hco va_S.rf hown l15 (fun _ h9 => h9) dJ0_isLatin1_aae02_7 ?_
  refine lv_if_ne hx hb (tgt := 17) dJ0_isLatin1_aae02_10 (by decide) (fun h => absurd rfl h) (fun _ => ?_)
  refine lv_iconst (v := (1 : Int32)) hx hb dJ0_isLatin1_aae02_13 (by decide) ?_
  refine lv_goto (tgt := 18) hx hb dJ0_isLatin1_aae02_14 (by decide) ?_
  exact hret _ _ _ rfl rfl dJ0_isLatin1_aae02_18
theorem hdJ0_coder : yJ0_coder_7d493.cls = RJ0 ∧ yJ0_coder_7d493.cls ≠ "java/lang/invoke/MethodHandle" ∧ yJ0_coder_7d493.cls ≠ "java/lang/invoke/VarHandle" ∧ (parseMethodDescriptor yJ0_coder_7d493.desc).map (fun d => d.parameters.length) = some 0 := by decide +kernel
theorem hdJ0_latin : yJ0_isLatin1_aae02.cls = RJ0 ∧ yJ0_isLatin1_aae02.cls ≠ "java/lang/invoke/MethodHandle" ∧ yJ0_isLatin1_aae02.cls ≠ "java/lang/invoke/VarHandle" ∧ (parseMethodDescriptor yJ0_isLatin1_aae02.desc).map (fun d => d.parameters.length) = some 0 := by decide +kernel
theorem hdJ0_length : yJ0_length_8abf5.cls = RJ0 ∧ yJ0_length_8abf5.cls ≠ "java/lang/invoke/MethodHandle" ∧ yJ0_length_8abf5.cls ≠ "java/lang/invoke/VarHandle" ∧ (parseMethodDescriptor yJ0_length_8abf5.desc).map (fun d => d.parameters.length) = some 0 := by decide +kernel
theorem hdJ0_ix2 : yJ0_indexOf_7cf53.cls = RJ0 ∧ yJ0_indexOf_7cf53.cls ≠ "java/lang/invoke/MethodHandle" ∧ yJ0_indexOf_7cf53.cls ≠ "java/lang/invoke/VarHandle" ∧ (parseMethodDescriptor yJ0_indexOf_7cf53.desc).map (fun d => d.parameters.length) = some 2 := by decide +kernel
theorem hdJ0_ix1 : yJ0_indexOf_0f7a4.cls = RJ0 ∧ yJ0_indexOf_0f7a4.cls ≠ "java/lang/invoke/MethodHandle" ∧ yJ0_indexOf_0f7a4.cls ≠ "java/lang/invoke/VarHandle" ∧ (parseMethodDescriptor yJ0_indexOf_0f7a4.desc).map (fun d => d.parameters.length) = some 1 := by decide +kernel
theorem hdJ1_can : yJ1_canEncode_9a6ad.cls ≠ "java/lang/invoke/MethodHandle" ∧ yJ1_canEncode_9a6ad.cls ≠ "java/lang/invoke/VarHandle" ∧ (parseMethodDescriptor yJ1_canEncode_9a6ad.desc).map (fun d => d.parameters.length) = some 1 := by decide +kernel
theorem hdJ1_ixc : yJ1_indexOfChar_4cfef.cls ≠ "java/lang/invoke/MethodHandle" ∧ yJ1_indexOfChar_4cfef.cls ≠ "java/lang/invoke/VarHandle" ∧ (parseMethodDescriptor yJ1_indexOfChar_4cfef.desc).map (fun d => d.parameters.length) = some 4 := by decide +kernel
theorem hdJ1_ix : yJ1_indexOf_4cfef.cls ≠ "java/lang/invoke/MethodHandle" ∧ yJ1_indexOf_4cfef.cls ≠ "java/lang/invoke/VarHandle" ∧ (parseMethodDescriptor yJ1_indexOf_4cfef.desc).map (fun d => d.parameters.length) = some 4 := by decide +kernel
set_option maxRecDepth 100000 in
theorem jd_length (l : Launch) (D : va_G) (cI : ClassId) (ad : Nat → Nat) (ni : Nat) (hni : ni < 3) : q_RO (cE ad) l yJ0_length_8abf5 wsJ0_length_8abf5 (rmq 1) D cI [.ref (ad (2 + ni))] [] 5 := by
  refine q_startR (cc := cJ0_length_8abf5) (maxL := 1) (ty := .int) (own := RJ0) (by decide) rfl rfl (Nat.le_of_ble_eq_true rfl) rfl (fun p e s m args below meth c Q hx hb hml hown hts hP hK hEv hret ls hl => ?_)
  have hSS := hEv.2.2.2.2.1.2
  obtain ⟨hO, hco, hva, hT⟩ := hSS.1 ni hni
  have l9 := hts (.fieldLink RJ0 9 "java/lang/String" "value" "[B") (List.mem_of_getElem? (i := 1) rfl)
  refine lv_aload_n hx hb dJ0_length_8abf5_0 rfl (lv_at hl 0 rfl) ?_
  refine vk_getf hx hb hva va_S.rf hown l9 (fun _ h9 => h9) dJ0_length_8abf5_1 ?_
  refine va_tlen hx hb hT va_S.rf (v := 5) (by rw [jd_len hni]; rfl) dJ0_length_8abf5_4 ?_
  refine lv_aload_n hx hb dJ0_length_8abf5_5 rfl (lv_at hl 0 rfl) ?_
  refine q_callRd (cEok ad) (rest := [.int 5]) ⟨hx, hb, hml, hown, hts⟩ (jd_coder l D cI ad ni hni) (cwV 0 hts gJ0_length_8abf5_J0_coder_7d493 rfl rfl rfl hdJ0_coder (rmq_ok (Nat.le_of_ble_eq_true rfl) (Nat.le_of_ble_eq_true rfl))) hK hP hEv va_S.rf [] rfl (vk_recv (adK := fun i => ad (2 + i)) (i := ni) hSS hni va_S.rf) rfl rfl hl.1 (Nat.le_of_ble_eq_true rfl) ⟨Nat.zero_le _, Nat.zero_le _⟩ dJ0_length_8abf5_6 ?_
  refine lv_ishr hx hb dJ0_length_8abf5_9 ?_
  exact hret _ _ _ (vp_nar_int _) (by decide) dJ0_length_8abf5_10
set_option maxRecDepth 100000 in
theorem jd_can (l : Launch) (D : va_G) (cI : ClassId) (ad : Nat → Nat) (x : Int32) : q_RO (cE ad) l yJ1_canEncode_9a6ad wsJ1_canEncode_9a6ad (rmq 0) D cI [.int x] [] (if x < 0 then 0 else if 255 < x then 0 else 1) := by
  refine q_startR (cc := cJ1_canEncode_9a6ad) (maxL := 1) (ty := .boolean) (own := RJ1) (by decide) rfl rfl (Nat.le_of_ble_eq_true rfl) rfl (fun p e s m args below meth c Q hx hb hml hown hts hP hK hEv hret ls hl => ?_)
  refine lv_iload_n hx hb dJ1_canEncode_9a6ad_0 rfl (lv_at hl 0 rfl) ?_
  refine lv_if_lt hx hb (tgt := 15) dJ1_canEncode_9a6ad_1 (by decide) (fun h => ?_) (fun h => ?_)
  · refine lv_iconst (v := (0 : Int32)) hx hb dJ1_canEncode_9a6ad_15 (by decide) ?_
    exact hret _ _ _ rfl (by rw [if_pos h]) dJ1_canEncode_9a6ad_16
  · refine lv_iload_n hx hb dJ1_canEncode_9a6ad_4 rfl (lv_at hl 0 rfl) ?_
    refine lv_sipush (v := (255 : Int32)) hx hb dJ1_canEncode_9a6ad_5 (by decide) ?_
    refine lv_icmp_gt hx hb (tgt := 15) dJ1_canEncode_9a6ad_8 (by decide) (fun h2 => ?_) (fun h2 => ?_)
    · refine lv_iconst (v := (0 : Int32)) hx hb dJ1_canEncode_9a6ad_15 (by decide) ?_
      exact hret _ _ _ rfl (by rw [if_neg h, if_pos h2]) dJ1_canEncode_9a6ad_16
    · refine lv_iconst (v := (1 : Int32)) hx hb dJ1_canEncode_9a6ad_11 (by decide) ?_
      refine lv_goto (tgt := 16) hx hb dJ1_canEncode_9a6ad_12 (by decide) ?_
      exact hret _ _ _ rfl (by rw [if_neg h, if_neg h2]) dJ1_canEncode_9a6ad_16
set_option maxRecDepth 100000 in
theorem jd_ixc (l : Launch) (D : va_G) (cI : ClassId) (ad : Nat → Nat) (ni : Nat) (hni : ni < 3) (k : Nat) (hk : k < 256) : q_RO (cE ad) l yJ1_indexOfChar_4cfef wsJ1_indexOfChar_4cfef (rmq 0) D cI [.ref (ad (5 + ni)), .int (nI k), .int 0, .int 5] [] (t_ix (t_byt.getD ni []) 0 (nI k)) := by
  refine q_startR (cc := cJ1_indexOfChar_4cfef) (maxL := 6) (ty := .int) (own := RJ1) (by decide) rfl rfl (Nat.le_of_ble_eq_true rfl) rfl (fun p e s m args below meth c Q hx hb hml hown hts hP hK hEv hret ls hl => ?_)
  obtain ⟨hO, hco, hva, hT⟩ := hEv.2.2.2.2.1.2.1 ni hni
  obtain ⟨hlen, hby⟩ := jd_byt hni
  generalize t_byt.getD ni [] = B at hT hlen hby hret
  generalize hz : (nI k).toInt8.toInt32 = z
  have J : ∀ (n j : Nat), j + n = 5 → ∀ ls, lv_has ls 6 [(5, .int (nI j)), (4, .int z), (0, .ref (ad (5 + ni))), (1, .int (nI k)), (2, .int 0), (3, .int 5)] → t_ix (B.drop j) j (nI k) = t_ix B 0 (nI k) → W p l e (rmq 0) s m args below meth c s.heap [] 0 0 Q (F0 m 7 ls []) := by
    intro n
    induction n with
    | zero =>
      intro j hj ls hl h
      have e : j = 5 := by omega
      subst e
      refine lv_iload hx hb dJ1_indexOfChar_4cfef_7 (lv_at hl 0 rfl) ?_
      refine lv_iload_n hx hb dJ1_indexOfChar_4cfef_9 rfl (lv_at hl 5 rfl) ?_
      refine lv_icmp_ge hx hb (tgt := 31) dJ1_indexOfChar_4cfef_10 (by decide) (fun _ => ?_) (fun h2 => absurd (by decide) h2)
      refine lv_iconst (v := (-1 : Int32)) hx hb dJ1_indexOfChar_4cfef_31 (by decide) ?_
      refine hret _ _ _ (vp_nar_int _) ?_ dJ1_indexOfChar_4cfef_32
      rw [← h, List.drop_eq_nil_of_le (by omega)]
      rfl
    | succ n ih =>
      intro j hj ls hl h
      have hjl : j < B.length := by omega
      refine lv_iload hx hb dJ1_indexOfChar_4cfef_7 (lv_at hl 0 rfl) ?_
      refine lv_iload_n hx hb dJ1_indexOfChar_4cfef_9 rfl (lv_at hl 5 rfl) ?_
      refine lv_icmp_ge hx hb (tgt := 31) dJ1_indexOfChar_4cfef_10 (by decide) (fun h2 => absurd h2 (nI_ge (a := j) (b := 5) (by omega) (by omega))) (fun _ => ?_)
      refine lv_aload_n hx hb dJ1_indexOfChar_4cfef_13 rfl (lv_at hl 2 rfl) ?_
      refine lv_iload hx hb dJ1_indexOfChar_4cfef_14 (lv_at hl 0 rfl) ?_
      refine va_tb hx hb hT va_S.rf (vp_in_nI (by rw [jd_len hni]; omega) (by rw [jd_len hni]; omega)) rfl dJ1_indexOfChar_4cfef_16 ?_
      rw [nI_clamp (by omega)]
      refine lv_iload hx hb dJ1_indexOfChar_4cfef_17 (lv_at hl 1 rfl) ?_
      have hd : B.drop j = B.getD j 0 :: B.drop (j + 1) := by
        rw [List.drop_eq_getElem_cons hjl]
        congr 1
        simp [List.getD_eq_getElem?_getD, hjl]
      rw [hd] at h
      obtain ⟨q, hq, eq⟩ := hby (B.getD j 0) (List.mem_of_getElem? (i := j) (by simp [List.getD_eq_getElem?_getD, hjl]))
      have hq2 : B.getD j 0 = z ↔ q = k := by rw [eq, ← hz]; exact jd_8 k hk q hq
      have hq3 : B.getD j 0 = nI k ↔ q = k := by rw [eq]; exact nI_eq (by omega) (by omega)
      refine lv_icmp_ne hx hb (tgt := 25) dJ1_indexOfChar_4cfef_19 (by decide) (fun h2 => ?_) (fun h2 => ?_)
      · obtain ⟨w, ew⟩ : ∃ w : Int32, w = nI j + 1 := ⟨_, rfl⟩
        refine lv_iinc (v := w) (lv' := [(5, .int w), (4, .int z), (0, .ref (ad (5 + ni))), (1, .int (nI k)), (2, .int 0), (3, .int 5)]) hx hb dJ1_indexOfChar_4cfef_25 hl (k := 0) rfl (by rw [ew]; rfl) (by decide) rfl (fun ls hl => ?_)
        refine lv_goto (tgt := 7) hx hb dJ1_indexOfChar_4cfef_28 (by decide) ?_
        rw [ew, nI_1] at hl
        refine ih (j + 1) (by omega) ls hl ?_
        rw [← h]
        show _ = if B.getD j 0 = nI k then nI j else t_ix (B.drop (j + 1)) (j + 1) (nI k)
        rw [if_neg (fun e => h2 (hq2.mpr (hq3.mp e)))]
      · refine lv_iload hx hb dJ1_indexOfChar_4cfef_22 (lv_at hl 0 rfl) ?_
        refine hret _ _ _ (vp_nar_int _) ?_ dJ1_indexOfChar_4cfef_24
        rw [← h]
        show some (nI j) = some (if B.getD j 0 = nI k then nI j else t_ix (B.drop (j + 1)) (j + 1) (nI k))
        rw [if_pos (hq3.mpr (hq2.mp h2))]
  refine lv_iload_n hx hb dJ1_indexOfChar_4cfef_0 rfl (lv_at hl 1 rfl) ?_
  refine lv_i2b hx hb dJ1_indexOfChar_4cfef_1 hz ?_
  refine lv_istore (lv' := [(4, .int z), (0, .ref (ad (5 + ni))), (1, .int (nI k)), (2, .int 0), (3, .int 5)]) hx hb dJ1_indexOfChar_4cfef_2 hl (by decide) rfl (fun ls hl => ?_)
  refine lv_iload_n hx hb dJ1_indexOfChar_4cfef_4 rfl (lv_at hl 3 rfl) ?_
  refine lv_istore (lv' := [(5, .int 0), (4, .int z), (0, .ref (ad (5 + ni))), (1, .int (nI k)), (2, .int 0), (3, .int 5)]) hx hb dJ1_indexOfChar_4cfef_5 hl (by decide) rfl (fun ls hl => ?_)
  exact J 5 0 rfl ls hl rfl
set_option maxRecDepth 100000 in
theorem jd_ix (l : Launch) (D : va_G) (cI : ClassId) (ad : Nat → Nat) (ni : Nat) (hni : ni < 3) (x : Int32) : q_RO (cE ad) l yJ1_indexOf_4cfef wsJ1_indexOf_4cfef (rmq 1) D cI [.ref (ad (5 + ni)), .int x, .int 0, .int 5] [] (t_ix (t_byt.getD ni []) 0 x) := by
  refine q_startR (cc := cJ1_indexOf_4cfef) (maxL := 4) (ty := .int) (own := RJ1) (by decide) rfl rfl (Nat.le_of_ble_eq_true rfl) rfl (fun p e s m args below meth c Q hx hb hml hown hts hP hK hEv hret ls hl => ?_)
  obtain ⟨hO, hco, hva, hT⟩ := hEv.2.2.2.2.1.2.1 ni hni
  obtain ⟨hlen, hby⟩ := jd_byt hni
  refine lv_iload_n hx hb dJ1_indexOf_4cfef_0 rfl (lv_at hl 1 rfl) ?_
  refine q_callRSd (cEok ad) (rest := []) ⟨hx, hb, hml, hown, hts⟩ (jd_can l D cI ad x) (va_cwS 1 hts gJ1_indexOf_4cfef_J1_canEncode_9a6ad rfl rfl rfl hdJ1_can (rmq_ok (Nat.le_of_ble_eq_true rfl) (Nat.le_of_ble_eq_true rfl))) hK hP hEv va_S.rf [] rfl rfl rfl hl.1 (Nat.le_of_ble_eq_true rfl) ⟨Nat.zero_le _, Nat.zero_le _⟩ dJ1_indexOf_4cfef_1 ?_
  refine lv_if_ne hx hb (tgt := 9) dJ1_indexOf_4cfef_4 (by decide) (fun h => ?_) (fun h => ?_)
  · have h0 : ¬ x < 0 := fun q => h (by rw [if_pos q])
    have h1 : ¬ 255 < x := fun q => h (by rw [if_neg h0, if_pos q])
    obtain ⟨k, hk, rfl⟩ := nI_of2 (M := 255) (n := 255) rfl h0 (Int32.not_lt.mp h1)
    refine lv_iload_n hx hb dJ1_indexOf_4cfef_9 rfl (lv_at hl 2 rfl) ?_
    refine lv_iconst (v := (0 : Int32)) hx hb dJ1_indexOf_4cfef_10 (by decide) ?_
    refine va_mmax hx hb (hml.trans hl.1.symm) hown (hts (.methodLink RJ1 92 Lib.Math.max.name) (List.mem_of_getElem? (i := 1) rfl)) (hts (.static Lib.Math.max.name) (List.mem_of_getElem? (i := 2) rfl)) (hts (.initialized "java/lang/Math") (List.mem_of_getElem? (i := 3) rfl)) (hts (.code Lib.Math.max.name Lib.Math.max.code 2 (some .int)) (List.mem_of_getElem? (i := 4) rfl)) (Nat.le_of_ble_eq_true rfl) (Nat.le_of_ble_eq_true rfl) (Nat.zero_le _) (Nat.zero_le _) dJ1_indexOf_4cfef_11 ?_
    rw [if_neg (show ¬ (0 : Int32) < 0 by decide)]
    refine lv_istore_n (lv' := [(2, .int 0), (0, .ref (ad (5 + ni))), (1, .int (nI k)), (3, .int 5)]) hx hb dJ1_indexOf_4cfef_14 rfl hl (by decide) rfl (fun ls hl => ?_)
    refine lv_iload_n hx hb dJ1_indexOf_4cfef_15 rfl (lv_at hl 3 rfl) ?_
    refine lv_aload_n hx hb dJ1_indexOf_4cfef_16 rfl (lv_at hl 1 rfl) ?_
    refine va_tlen hx hb hT va_S.rf (v := 5) (by rw [jd_len hni]; rfl) dJ1_indexOf_4cfef_17 ?_
    refine va_mmin hx hb (hml.trans hl.1.symm) hown (hts (.methodLink RJ1 38 Lib.Math.min.name) (List.mem_of_getElem? (i := 5) rfl)) (hts (.static Lib.Math.min.name) (List.mem_of_getElem? (i := 6) rfl)) (hts (.initialized "java/lang/Math") (List.mem_of_getElem? (i := 3) rfl)) (hts (.code Lib.Math.min.name Lib.Math.min.code 2 (some .int)) (List.mem_of_getElem? (i := 7) rfl)) (Nat.le_of_ble_eq_true rfl) (Nat.le_of_ble_eq_true rfl) (Nat.zero_le _) (Nat.zero_le _) dJ1_indexOf_4cfef_18 ?_
    rw [if_neg (show ¬ (5 : Int32) < 5 by decide)]
    refine lv_istore_n (lv' := [(3, .int 5), (2, .int 0), (0, .ref (ad (5 + ni))), (1, .int (nI k))]) hx hb dJ1_indexOf_4cfef_21 rfl hl (by decide) rfl (fun ls hl => ?_)
    refine lv_iload_n hx hb dJ1_indexOf_4cfef_22 rfl (lv_at hl 1 rfl) ?_
    refine lv_iload_n hx hb dJ1_indexOf_4cfef_23 rfl (lv_at hl 0 rfl) ?_
    refine lv_icmp_lt hx hb (tgt := 29) dJ1_indexOf_4cfef_24 (by decide) (fun _ => ?_) (fun h2 => absurd (by decide) h2)
    refine lv_aload_n hx hb dJ1_indexOf_4cfef_29 rfl (lv_at hl 2 rfl) ?_
    refine lv_iload_n hx hb dJ1_indexOf_4cfef_30 rfl (lv_at hl 3 rfl) ?_
    refine lv_iload_n hx hb dJ1_indexOf_4cfef_31 rfl (lv_at hl 1 rfl) ?_
    refine lv_iload_n hx hb dJ1_indexOf_4cfef_32 rfl (lv_at hl 0 rfl) ?_
    refine q_callRSd (cEok ad) (rest := []) ⟨hx, hb, hml, hown, hts⟩ (jd_ixc l D cI ad ni hni k (by omega)) (va_cwS 4 hts gJ1_indexOf_4cfef_J1_indexOfChar_4cfef rfl rfl rfl hdJ1_ixc (rmq_ok (Nat.le_of_ble_eq_true rfl) (Nat.le_of_ble_eq_true rfl))) hK hP hEv va_S.rf [] rfl rfl rfl hl.1 (Nat.le_of_ble_eq_true rfl) ⟨Nat.zero_le _, Nat.zero_le _⟩ dJ1_indexOf_4cfef_33 ?_
    exact hret _ _ _ (vp_nar_int _) rfl dJ1_indexOf_4cfef_36
  · refine lv_iconst (v := (-1 : Int32)) hx hb dJ1_indexOf_4cfef_7 (by decide) ?_
    refine hret _ _ _ (vp_nar_int _) ?_ dJ1_indexOf_4cfef_8
    rw [jd_out ?_ _ 0 hby]
    by_cases h0 : x < 0
    · exact Or.inl h0
    · by_cases h1 : 255 < x
      · exact Or.inr h1
      · rw [if_neg h0, if_neg h1] at h
        exact absurd h (by decide)
set_option maxRecDepth 100000 in
theorem jd_ix2 (l : Launch) (D : va_G) (cI : ClassId) (ad : Nat → Nat) (ni : Nat) (hni : ni < 3) (x : Int32) : q_RO (cE ad) l yJ0_indexOf_7cf53 wsJ0_indexOf_7cf53 (rmq 2) D cI [.ref (ad (2 + ni)), .int x, .int 0] [] (t_ix (t_byt.getD ni []) 0 x) := by
  refine q_startR (cc := cJ0_indexOf_7cf53) (maxL := 3) (ty := .int) (own := RJ0) (by decide) rfl rfl (Nat.le_of_ble_eq_true rfl) rfl (fun p e s m args below meth c Q hx hb hml hown hts hP hK hEv hret ls hl => ?_)
  have hSS := hEv.2.2.2.2.1.2
  obtain ⟨hO, hco, hva, hT⟩ := hSS.1 ni hni
  have l9 := hts (.fieldLink RJ0 9 "java/lang/String" "value" "[B") (by decide +kernel)
  refine lv_aload_n hx hb dJ0_indexOf_7cf53_0 rfl (lv_at hl 0 rfl) ?_
  refine q_callRd (cEok ad) (rest := []) ⟨hx, hb, hml, hown, hts⟩ (jd_latin l D cI ad ni hni) (cwV 0 hts gJ0_indexOf_7cf53_J0_isLatin1_aae02 rfl rfl rfl hdJ0_latin (rmq_ok (Nat.le_of_ble_eq_true rfl) (Nat.le_of_ble_eq_true rfl))) hK hP hEv va_S.rf [] rfl (vk_recv (adK := fun i => ad (2 + i)) (i := ni) hSS hni va_S.rf) rfl rfl hl.1 (Nat.le_of_ble_eq_true rfl) ⟨Nat.zero_le _, Nat.zero_le _⟩ dJ0_indexOf_7cf53_1 ?_
  refine lv_if_eq hx hb (tgt := 23) dJ0_indexOf_7cf53_4 (by decide) (fun h => absurd h (by decide)) (fun _ => ?_)
  refine lv_aload_n hx hb dJ0_indexOf_7cf53_7 rfl (lv_at hl 0 rfl) ?_
  refine vk_getf hx hb hva va_S.rf hown l9 (fun _ h9 => h9) dJ0_indexOf_7cf53_8 ?_
  refine lv_iload_n hx hb dJ0_indexOf_7cf53_11 rfl (lv_at hl 1 rfl) ?_
  refine lv_iload_n hx hb dJ0_indexOf_7cf53_12 rfl (lv_at hl 2 rfl) ?_
  refine lv_aload_n hx hb dJ0_indexOf_7cf53_13 rfl (lv_at hl 0 rfl) ?_
  refine q_callRd (cEok ad) (rest := [.int 0, .int x, .ref (ad (5 + ni))]) ⟨hx, hb, hml, hown, hts⟩ (jd_length l D cI ad ni hni) (cwV 0 hts gJ0_indexOf_7cf53_J0_length_8abf5 rfl rfl rfl hdJ0_length (rmq_ok (Nat.le_of_ble_eq_true rfl) (Nat.le_of_ble_eq_true rfl))) hK hP hEv va_S.rf [] rfl (vk_recv (adK := fun i => ad (2 + i)) (i := ni) hSS hni va_S.rf) rfl rfl hl.1 (Nat.le_of_ble_eq_true rfl) ⟨Nat.zero_le _, Nat.zero_le _⟩ dJ0_indexOf_7cf53_14 ?_
  refine q_callRSd (cEok ad) (rest := []) ⟨hx, hb, hml, hown, hts⟩ (jd_ix l D cI ad ni hni x) (va_cwS 4 hts gJ0_indexOf_7cf53_J1_indexOf_4cfef rfl rfl rfl hdJ1_ix (rmq_ok (Nat.le_of_ble_eq_true rfl) (Nat.le_of_ble_eq_true rfl))) hK hP hEv va_S.rf [] rfl rfl rfl hl.1 (Nat.le_of_ble_eq_true rfl) ⟨Nat.zero_le _, Nat.zero_le _⟩ dJ0_indexOf_7cf53_17 ?_
  refine lv_goto (tgt := 36) hx hb dJ0_indexOf_7cf53_20 (by decide) ?_
  exact hret _ _ _ (vp_nar_int _) rfl dJ0_indexOf_7cf53_36
set_option maxRecDepth 100000 in
theorem jd_ix1 (l : Launch) (D : va_G) (cI : ClassId) (ad : Nat → Nat) (ni : Nat) (hni : ni < 3) (x : Int32) : q_RO (cE ad) l yJ0_indexOf_0f7a4 wsJ0_indexOf_0f7a4 (rmq 3) D cI [.ref (ad (2 + ni)), .int x] [] (t_ix (t_byt.getD ni []) 0 x) := by
  refine q_startR (cc := cJ0_indexOf_0f7a4) (maxL := 2) (ty := .int) (own := RJ0) (by decide) rfl rfl (Nat.le_of_ble_eq_true rfl) rfl (fun p e s m args below meth c Q hx hb hml hown hts hP hK hEv hret ls hl => ?_)
  have hSS := hEv.2.2.2.2.1.2
  refine lv_aload_n hx hb dJ0_indexOf_0f7a4_0 rfl (lv_at hl 0 rfl) ?_
  refine lv_iload_n hx hb dJ0_indexOf_0f7a4_1 rfl (lv_at hl 1 rfl) ?_
  refine lv_iconst (v := (0 : Int32)) hx hb dJ0_indexOf_0f7a4_2 (by decide) ?_
  refine q_callRd (cEok ad) (rest := []) ⟨hx, hb, hml, hown, hts⟩ (jd_ix2 l D cI ad ni hni x) (cwV 2 hts gJ0_indexOf_0f7a4_J0_indexOf_7cf53 rfl rfl rfl hdJ0_ix2 (rmq_ok (Nat.le_of_ble_eq_true rfl) (Nat.le_of_ble_eq_true rfl))) hK hP hEv va_S.rf [] rfl (vk_recv (adK := fun i => ad (2 + i)) (i := ni) hSS hni va_S.rf) rfl rfl hl.1 (Nat.le_of_ble_eq_true rfl) ⟨Nat.zero_le _, Nat.zero_le _⟩ dJ0_indexOf_0f7a4_3 ?_
  exact hret _ _ _ (vp_nar_int _) rfl dJ0_indexOf_0f7a4_6
/-- indexOf on the Reader's names, out of a method of the class -/
theorem q_indexOf {p : Program} {l : Launch} {e : Env} {k : Nat} {s : State} {m : MethodId} {args : Array Value} {below : List Frame} {meth : Method} {c : Code} {H : Heap} {locs : List Loc} {cells slots : Nat} {Q : State → Prop} {cc : ByteArray} {pc nL : Nat} {ls : Array Slot} {rest : List Value} {D : va_G} {A : Nat → Prop} {cI : ClassId} {ws : va_W} {α : Type} {o : α} {ad : Nat → Nat} {ni : Nat} {x : Int32} {K : Int32 → Option α} {Ts : List Cond} {own : String} {index : Nat}
    (hx : p.tables.exec = Jvm.exec) (hb : c.code = cc) (hml : c.maxLocals = nL) (hown : s.vm.findClass own = some m.cls) (hts : ∀ w ∈ Ts, w.before args s = true) (hG : GoodIn Ts (wsV own index RJ0 yJ0_indexOf_0f7a4 wsJ0_indexOf_0f7a4)) (hK : va_K D vwCl [(cI, .int)] s) (hP : va_P D vwCl ws H) (hEv : cE ad A s s.heap) (hS : va_S A s.heap H locs) (hk : 4 ≤ k) (hl : ls.size = nL) (hroom : (rest.map fun v => v.category).sum ≤ 8) (hf : cells ≤ (rmq k).cells ∧ slots ≤ (rmq k).slots) (h : q_ix ni x K = some o) (hdg : decode cc pc = .ok (.invokevirtual index, 3))
    (kk : ∀ y : Int32, K y = some o → W p l e (rmq k) s m args below meth c H locs cells slots Q (F0 m (pc + 3) ls (.int y :: rest))) : W p l e (rmq k) s m args below meth c H locs cells slots Q (F0 m pc ls (.int x :: .ref (ad (2 + ni)) :: rest)) := by
  obtain ⟨hni, h2⟩ := q_ix_of h
  exact q_callRd (cEok ad) (rest := rest) (As := [.int x]) ⟨hx, hb, hml, hown, hts⟩ (jd_ix1 l D cI ad ni hni x) (cwV 1 hts hG rfl rfl rfl hdJ0_ix1 (rmq_ok hk (Nat.le_of_ble_eq_true rfl))) hK hP hEv hS [] rfl (vk_recv (adK := fun i => ad (2 + i)) (i := ni) hEv.2.2.2.2.1.2 hni hS) rfl rfl hl hroom hf hdg (kk _ h2)
