set_option maxHeartbeats 4000000 in
set_option maxRecDepth 100000 in
theorem start_K {s : State} {args : Array Value} (hts : ∀ w ∈ wsL_law, w.before args s = true) : ∃ (D : va_G) (cI : ClassId), va_K D vwCl [(cI, .int)] s := by
  obtain ⟨c0, i0, k0⟩ := u_known (C := RX0) (T := TX0) (N := 10) (n := 10) hts (fun w h => List.mem_append_left _ (List.mem_append_left _ (List.mem_append_right _ h))) (hts (.instantiable RX0 10) (List.mem_of_getElem? (i := 38) rfl))
  obtain ⟨c1, i1, k1⟩ := u_known (C := RX1) (T := TX1) (N := 9) (n := 9) hts (fun w h => List.mem_append_left _ (List.mem_append_left _ (List.mem_append_left _ (List.mem_append_left _ (List.mem_append_left _ (List.mem_append_left _ (List.mem_append_right _ h))))))) (hts (.instantiable RX1 9) (List.mem_of_getElem? (i := 14) rfl))
  obtain ⟨c2, i2, k2⟩ := u_known (C := RX2) (T := TX2) (N := 6) (n := 6) hts (fun w h => List.mem_append_left _ (List.mem_append_left _ (List.mem_append_left _ (List.mem_append_left _ (List.mem_append_left _ (List.mem_append_right _ h)))))) (hts (.instantiable RX2 6) (List.mem_of_getElem? (i := 18) rfl))
  obtain ⟨c3, i3, k3⟩ := u_known (C := RX3) (T := TX3) (N := 3) (n := 3) hts (fun w h => List.mem_append_left _ (List.mem_append_left _ (List.mem_append_left _ (List.mem_append_right _ h)))) (hts (.instantiable RX3 3) (List.mem_of_getElem? (i := 26) rfl))
  obtain ⟨c4, i4, k4⟩ := u_known (C := RX4) (T := TX4) (N := 6) (n := 6) hts (fun w h => List.mem_append_left _ (List.mem_append_right _ h)) (hts (.instantiable RX4 6) (List.mem_of_getElem? (i := 42) rfl))
  obtain ⟨c5, i5, k5⟩ := u_known (C := RX5) (T := TX5) (N := 6) (n := 6) hts (fun w h => List.mem_append_left _ (List.mem_append_left _ (List.mem_append_left _ (List.mem_append_left _ (List.mem_append_right _ h))))) (hts (.instantiable RX5 6) (List.mem_of_getElem? (i := 22) rfl))
  obtain ⟨c6, i6, k6⟩ := u_known (C := RX6) (T := TX6) (N := 7) (n := 7) hts (fun w h => List.mem_append_left _ (List.mem_append_left _ (List.mem_append_left _ (List.mem_append_left _ (List.mem_append_left _ (List.mem_append_left _ (List.mem_append_left _ (List.mem_append_left _ (List.mem_append_right _ h))))))))) (hts (.instantiable RX6 7) (List.mem_of_getElem? (i := 1) rfl))
  obtain ⟨c7, i7, k7⟩ := u_known (C := RX7) (T := TX7) (N := 24) (n := 24) hts (fun w h => List.mem_append_left _ (List.mem_append_left _ (List.mem_append_left _ (List.mem_append_left _ (List.mem_append_left _ (List.mem_append_left _ (List.mem_append_left _ (List.mem_append_right _ h)))))))) (hts (.instantiable RX7 24) (List.mem_of_getElem? (i := 4) rfl))
  obtain ⟨cI, kA, comp, h1, h2, h3⟩ := Cond.arrayClass_spec (hts (.arrayClass .int) (List.mem_of_getElem? (i := 29) rfl))
  refine ⟨(fun k => match k with | 0 => c0 | 1 => c1 | 2 => c2 | 3 => c3 | 4 => c4 | 5 => c5 | 6 => c6 | _ => c7, fun k => match k with | 0 => i0 | 1 => i1 | 2 => i2 | 3 => i3 | 4 => i4 | 5 => i5 | 6 => i6 | _ => i7), cI, fun k q hq => ?_, fun k q hq => ?_⟩
  · match k, hq with
    | 0, hq => cases hq; exact k0
    | 1, hq => cases hq; exact k1
    | 2, hq => cases hq; exact k2
    | 3, hq => cases hq; exact k3
    | 4, hq => cases hq; exact k4
    | 5, hq => cases hq; exact k5
    | 6, hq => cases hq; exact k6
    | 7, hq => cases hq; exact k7
    | k + 8, hq => exact absurd hq (by simp)
  · match k, hq with
    | 0, hq => cases hq; exact ⟨fun n z => ⟨fun k h => (by cases h), kA, h2, comp, h3⟩, h1⟩
    | k + 1, hq => exact absurd hq (by simp)
theorem t_ix2 {P : Nat → Prop} (h0 : P 0) (h1 : P 1) (h2 : P 2) : ∀ i, i < 3 → P i := fun i hi => match i, hi with | 0, _ => h0 | 1, _ => h1 | 2, _ => h2 | k + 3, h => absurd h (by omega)
def st_tm : Nat → Term := fun i => match i with | 0 => .string "PageWars$Reader" 38 | 1 => .string "PageWars$Reader" 40 | _ => .string "PageWars$Reader" 15
/-- the parts of what the Statement gives -/
abbrev st_fl : List Cond := flatC (Jvm.Cond.and given_1 narrow_1)
theorem st_mK : ∀ j : Nat, j < 8 → Cond.eq (.elem (.static "PageWars" "KIND_ABOVE" "[I") (.int (Int32.ofNat j))) (.int (t_KIND_ABOVE j)) ∈ st_fl := by decide +kernel
theorem st_mB : ∀ j : Nat, j < 32 → Cond.eq (.elem (.static "PageWars$Voices" "BODIES" "[I") (.int (Int32.ofNat j))) (.int (t_BODIES j)) ∈ st_fl := by decide +kernel
theorem st_nF : ∀ q ∈ nwF, Cond.fieldLinkNest q.1 q.2.1 q.2.2.1 q.2.2.2.1 q.2.2.2.2.1 q.2.2.2.2.2 ∈ lw_tbl := by decide +kernel
theorem st_nM : ∀ q ∈ nwM, Cond.methodLinkNest q.1 q.2.1 q.2.2.1 q.2.2.2 ∈ lw_tbl := by decide +kernel
theorem st_m1 : ∀ i : Nat, i < 3 → Cond.exactly (st_tm i) "java/lang/String" ∈ st_fl := by decide +kernel
theorem st_m2 : ∀ i : Nat, i < 3 → Cond.eq (.field (st_tm i) "java/lang/String" "coder" "B") (.int 0) ∈ st_fl := by decide +kernel
theorem st_m3 : ∀ i : Nat, i < 3 → Cond.arrayOf (.field (st_tm i) "java/lang/String" "value" "[B") .byte ∈ st_fl := by decide +kernel
theorem st_m4 : ∀ i : Nat, i < 3 → Cond.eq (.length (.field (st_tm i) "java/lang/String" "value" "[B")) (.int (Int32.ofNat (t_len.getD i 0))) ∈ st_fl := by decide +kernel
theorem st_m5 : ∀ i : Nat, i < 3 → ∀ j : Nat, j < t_len.getD i 0 → Cond.eq (.elem (.field (st_tm i) "java/lang/String" "value" "[B") (.int (Int32.ofNat j))) (.int ((t_byt.getD i []).getD j 0)) ∈ st_fl := by decide +kernel
theorem st_m6 : ∀ i : Nat, i < 3 → ∀ j : Nat, j < 3 → i ≠ j → Cond.not (Cond.eq (st_tm i) (st_tm j)) ∈ st_fl ∨ Cond.not (Cond.eq (st_tm j) (st_tm i)) ∈ st_fl := by decide +kernel
set_option maxHeartbeats 4000000 in
set_option maxRecDepth 100000 in
theorem start_E {s : State} {b : Nat} (hts : ∀ w ∈ lw_tbl, w.before #[Value.ref b] s = true) (hgv : (Jvm.Cond.and given_1 narrow_1).before #[Value.ref b] s = true) : ∃ ad : Nat → Nat, cE ad (lA s) s s.heap := by
  have hs := flat_of_before _ hgv
  have hA : ∀ a : Nat, a < s.heap.size → ¬ lA s a := fun a h => Nat.not_le.mpr h
  obtain ⟨a0, e0, T0⟩ := va_Tof (tm := .static "PageWars" "KIND_ABOVE" "[I") (ty := .int) (N := 8) (f := fun j => .int (t_KIND_ABOVE j)) (A := lA s) (by decide) (hs _ (by decide +kernel)) (va_eqt (hs (.eq (.length (.static "PageWars" "KIND_ABOVE" "[I")) (.int 8)) (by decide +kernel))) (fun j hj => va_eqt (hs (.eq (.elem (.static "PageWars" "KIND_ABOVE" "[I") (.int (Int32.ofNat j))) (.int (t_KIND_ABOVE j))) (st_mK j hj))) hA
  obtain ⟨a1, e1, T1⟩ := va_Tof (tm := .static "PageWars$Voices" "BODIES" "[I") (ty := .int) (N := 32) (f := fun j => .int (t_BODIES j)) (A := lA s) (by decide) (hs _ (by decide +kernel)) (va_eqt (hs (.eq (.length (.static "PageWars$Voices" "BODIES" "[I")) (.int 32)) (by decide +kernel))) (fun j hj => va_eqt (hs (.eq (.elem (.static "PageWars$Voices" "BODIES" "[I") (.int (Int32.ofNat j))) (.int (t_BODIES j))) (st_mB j hj))) hA
  have Z0 := va_Zof (A := lA s) (hts (.laysStatic "PageWars" "KIND_ABOVE" "[I") (by decide +kernel)) (hts (.initialized "PageWars") (by decide +kernel)) e0 hA
  have Z1 := va_Zof (A := lA s) (hts (.laysStatic "PageWars$Voices" "BODIES" "[I") (by decide +kernel)) (hts (.initialized "PageWars$Voices") (by decide +kernel)) e1 hA
  have Z2 := va_Zof (A := lA s) (hts (.laysStatic "java/lang/String" "COMPACT_STRINGS" "Z") (by decide +kernel)) (hts (.initialized "java/lang/String") (by decide +kernel)) (va_eqt (hs (.eq (.static "java/lang/String" "COMPACT_STRINGS" "Z") (.int 1)) (by decide +kernel))) hA
  obtain ⟨adK, adV, hS, hE⟩ := vk_Sof (args := #[Value.ref b]) (s := s) (N := 3) (tm := st_tm) (len := t_len) (byt := t_byt) (A := lA s) (by decide) (fun i hi => hs _ (st_m1 i hi)) (fun i hi => hs _ (st_m2 i hi)) (fun i hi => hs _ (st_m3 i hi)) (fun i hi => hs _ (st_m4 i hi)) (fun i hi j hj => hs _ (st_m5 i hi j hj)) (fun i j hi hj hij => (st_m6 i hi j hj hij).imp (fun h => hs _ h) (fun h => hs _ h)) hA
  refine ⟨fun k => match k with | 0 => a0 | 1 => a1 | 2 => adK 0 | 3 => adK 1 | 4 => adK 2 | 5 => adV 0 | 6 => adV 1 | _ => adV 2, fun q hq => va_Nw.of rfl (hts _ (st_nF q hq)), fun q hq => va_Nw.of rfl (hts _ (st_nM q hq)), ⟨Z0, T0⟩, ⟨Z1, T1⟩, ⟨Z2, ?_, ?_⟩, ?_, ?_, ?_⟩
  · exact t_ix2 (hS.1 0 (by decide)) (hS.1 1 (by decide)) (hS.1 2 (by decide))
  · intro i j hi hj
    match i, hi, j, hj with
    | 0, _, 0, _ => exact hS.2 0 0 (by decide) (by decide)
    | 0, _, 1, _ => exact hS.2 0 1 (by decide) (by decide)
    | 0, _, 2, _ => exact hS.2 0 2 (by decide) (by decide)
    | 1, _, 0, _ => exact hS.2 1 0 (by decide) (by decide)
    | 1, _, 1, _ => exact hS.2 1 1 (by decide) (by decide)
    | 1, _, 2, _ => exact hS.2 1 2 (by decide) (by decide)
    | 2, _, 0, _ => exact hS.2 2 0 (by decide) (by decide)
    | 2, _, 1, _ => exact hS.2 2 1 (by decide) (by decide)
    | 2, _, 2, _ => exact hS.2 2 2 (by decide) (by decide)
    | k + 3, h, _, _ => exact absurd h (by omega)
    | 0, _, k + 3, h => exact absurd h (by omega)
    | 1, _, k + 3, h => exact absurd h (by omega)
    | 2, _, k + 3, h => exact absurd h (by omega)
  · exact vk_R.of (A := #[Value.ref b]) (hts (.stringRef RX2 38 "bwmla") (by decide +kernel)) (hE 0 (by decide))
  · exact vk_R.of (A := #[Value.ref b]) (hts (.stringRef RX2 40 "kwldu") (by decide +kernel)) (hE 1 (by decide))
  · exact vk_R.of (A := #[Value.ref b]) (hts (.stringRef RX2 15 "lmbor") (by decide +kernel)) (hE 2 (by decide))
theorem whole_start {p : Program} {e : Env} {s : State} {m : MethodId} {below : List Frame} {meth : Method} {c : Code} (l : Launch) (hflags : l.flags = flags0) {b L : Nat} {xs : Nat → Int32} (hL : L ≤ 384) (C0 : lw_At p s m meth c b L xs) : W p l e room_1 s m #[Value.ref b] below meth c s.heap [] 0 0 (lw_Z below #[Value.ref b] s) (entryFrame m ([Value.ref b] : List Value).toArray 4) := by
  obtain ⟨hx, hb, hr, hml, hown, hts, hX, hbl, hlocks, hgv⟩ := C0
  have htl : ∀ w ∈ wsL_law, w.before #[Value.ref b] s = true := fun w h => hts w (wsL_law_in w h)
  obtain ⟨D, cI, hK⟩ := start_K htl
  obtain ⟨ad, hE⟩ := start_E hts hgv
  exact law_run l hr hlocks ⟨hx, hb, hml, hown, htl, hK, hE, hX, hbl⟩ hL
