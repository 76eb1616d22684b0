/-! ===== voices of both sides ===== -/
theorem ab_0 : f7_above (nI 0) = some (nI 0) := by decide
theorem ab_1 : f7_above (nI 1) = some (nI 0) := by decide
theorem ab_2 : f7_above (nI 2) = some (nI 0) := by decide
theorem ab_3 : f7_above (nI 3) = some (nI 2) := by decide
theorem ab_4 : f7_above (nI 4) = some (nI 1) := by decide
theorem ab_5 : f7_above (nI 5) = some (nI 1) := by decide
theorem ab_6 : f7_above (nI 6) = some (nI 0) := by decide
theorem ab_7 : f7_above (nI 7) = some (nI 0) := by decide
theorem ex4 {a b c : Int32} {e : Nat → Int32} : (q_c4 (some (a, b, c, e)) fun a b c e => some (a, b, c, e)) = some (a, b, c, e) := by rw [q_c4_some]
theorem ne8 {a b : Nat} (h : a ≠ b) (ha : a < 100) (hb : b < 100) : ¬ nI a = nI b := fun q => h ((nI_eq (by omega) (by omega)).mp q)
theorem rd_0 {s tr : Nat → Int32} {t e : Nat} {x w sp : Int32}  (hw : f7_writerNow sp s = some w) (ht : t ≤ 27) : f7_does (e + 1) (nI 0) x (nI t) sp s tr = some (x + w, nI (t + 1), upd tr t (nI 10)) := by
  rw [f7_does.eq_2, if_pos (show nI 0 = 0 from rfl), show f7_begins 10 (nI t) tr = _ from r_begins (b := 10) (by omega) tr, q_c2_some, hw, q_c_some]
theorem rd_1 {s tr : Nat → Int32} {t e : Nat} {x w sp : Int32}  (hw : f7_writerNow sp s = some w) (ht : t ≤ 26) : f7_does (e + 2) (nI 1) x (nI t) sp s tr = some (x + w + nI 3, nI (t + 1 + 1), upd (upd tr t (nI 20)) (t + 1) (nI 10)) := by
  rw [f7_does.eq_2, if_neg (show ¬ nI 1 = 0 by decide), if_pos (show nI 1 = 1 from rfl), show f7_begins 20 (nI t) tr = _ from r_begins (b := 20) (by omega) tr, q_c2_some, show f7_above 1 = _ from ab_1, q_c_some, rd_0 hw (t := t + 1) (by omega), q_c3_some]
  rw [show (3 : Int32) = nI 3 from by decide]
theorem rd_2 {s tr : Nat → Int32} {t e : Nat} {x w sp : Int32}  (hw : f7_writerNow sp s = some w) (ht : t ≤ 27) : f7_does (e + 2) (nI 2) x (nI t) sp s tr = some (x + w, nI (t + 1), upd tr t (nI 10)) := by
  rw [f7_does.eq_2, if_neg (show ¬ nI 2 = 0 by decide), if_neg (show ¬ nI 2 = 1 by decide), if_pos (show nI 2 = 2 from rfl), f7_does_101, ab_2, q_c_some, rd_0 hw ht, q_c3_some]
theorem rd_3 {s tr : Nat → Int32} {t e : Nat} {x w sp : Int32}  (hw : f7_writerNow sp s = some w) (ht : t ≤ 27) : f7_does (e + 3) (nI 3) x (nI t) sp s tr = some (x + w, nI (t + 1), upd tr t (nI 10)) := by
  rw [f7_does.eq_2, if_neg (show ¬ nI 3 = 0 by decide), if_neg (show ¬ nI 3 = 1 by decide), if_neg (show ¬ nI 3 = 2 by decide), if_pos (show nI 3 = 3 from rfl), f7_does_101, ab_3, q_c_some, rd_2 hw ht, q_c3_some]
theorem rd_4 {s tr : Nat → Int32} {t e : Nat} {x w sp : Int32}  (hw : f7_writerNow sp s = some w) (ht : t ≤ 25) : f7_does (e + 3) (nI 4) x (nI t) sp s tr = some ((x + w + nI 3) * nI 3, nI (t + 1 + 1 + 1), upd (upd (upd tr t (nI 50)) (t + 1) (nI 20)) (t + 1 + 1) (nI 10)) := by
  rw [f7_does.eq_2, if_neg (show ¬ nI 4 = 0 by decide), if_neg (show ¬ nI 4 = 1 by decide), if_neg (show ¬ nI 4 = 2 by decide), if_neg (show ¬ nI 4 = 3 by decide), if_pos (show nI 4 = 4 from rfl), show f7_begins 50 (nI t) tr = _ from r_begins (b := 50) (by omega) tr, q_c2_some, show f7_above 4 = _ from ab_4, q_c_some, rd_1 hw (t := t + 1) (by omega), q_c3_some]
  rw [show (3 : Int32) = nI 3 from by decide]
theorem rd_5 {s tr : Nat → Int32} {t e : Nat} {x w sp : Int32}  (hw : f7_writerNow sp s = some w) (ht : t ≤ 26) : f7_does (e + 3) (nI 5) x (nI t) sp s tr = some (x + w + nI 3, nI (t + 1 + 1), upd (upd tr t (nI 20)) (t + 1) (nI 10)) := by
  rw [f7_does.eq_2, if_neg (show ¬ nI 5 = 0 by decide), if_neg (show ¬ nI 5 = 1 by decide), if_neg (show ¬ nI 5 = 2 by decide), if_neg (show ¬ nI 5 = 3 by decide), if_neg (show ¬ nI 5 = 4 by decide), if_pos (show nI 5 = 5 from rfl), f7_does_101, ab_5, q_c_some, rd_1 hw ht, q_c3_some]
theorem rd_6 {s tr : Nat → Int32} {t e : Nat} {x w sp : Int32}  (ht : t ≤ 27) : f7_does (e + 1) (nI 6) x (nI t) sp s tr = some (nI 0, nI (t + 1), upd tr t (nI 70)) := by
  rw [f7_does.eq_2, if_neg (show ¬ nI 6 = 0 by decide), if_neg (show ¬ nI 6 = 1 by decide), if_neg (show ¬ nI 6 = 2 by decide), if_neg (show ¬ nI 6 = 3 by decide), if_neg (show ¬ nI 6 = 4 by decide), if_neg (show ¬ nI 6 = 5 by decide), if_pos (show nI 6 = 6 from rfl), show f7_begins 70 (nI t) tr = _ from r_begins (b := 70) (by omega) tr, q_c2_some]
  rw [show (0 : Int32) = nI 0 from by decide]
theorem rd_7 {s tr : Nat → Int32} {t e : Nat} {x w sp : Int32}  (hw : f7_writerNow sp s = some w) (ht : t ≤ 27) : f7_does (e + 2) (nI 7) x (nI t) sp s tr = some (x + w, nI (t + 1), upd tr t (nI 10)) := by
  rw [f7_does.eq_2, if_neg (show ¬ nI 7 = 0 by decide), if_neg (show ¬ nI 7 = 1 by decide), if_neg (show ¬ nI 7 = 2 by decide), if_neg (show ¬ nI 7 = 3 by decide), if_neg (show ¬ nI 7 = 4 by decide), if_neg (show ¬ nI 7 = 5 by decide), if_neg (show ¬ nI 7 = 6 by decide), f7_does_101, ab_7, q_c_some, rd_0 hw ht, q_c3_some]
theorem r_does {s tr : Nat → Int32} {t e k : Nat} {x w sp : Int32} (hk : k ≤ 7) (hw : f7_writerNow sp s = some w) (ht : t ≤ 25) : f7_does (e + 3) (nI k) x (nI t) sp s tr = some (dV w x k, nI (t + (dl k).length), apl tr t (dl k)) := by
  obtain rfl | rfl | rfl | rfl | rfl | rfl | rfl | rfl : k = 0 ∨ k = 1 ∨ k = 2 ∨ k = 3 ∨ k = 4 ∨ k = 5 ∨ k = 6 ∨ k = 7 := by omega
  · exact rd_0 (e := e + 2) hw (by omega)
  · exact rd_1 (e := e + 1) hw (by omega)
  · exact rd_2 (e := e + 1) hw (by omega)
  · exact rd_3 hw (by omega)
  · exact rd_4 hw (by omega)
  · exact rd_5 hw (by omega)
  · exact rd_6 (e := e + 2) (w := w) (by omega)
  · exact rd_7 (e := e + 1) hw (by omega)
theorem kd_0 {n d q t : Nat} (hn : 4100 ≤ n) (x K num w : Int32) (tr : Nat → Int32) (hq : q ≤ 40) (ht : t < 30) : f5_speaks n (d + 1) (nI 0) (nI 0) x (nI q) K num w 0 (nI t) tr = some (x + w, 0, nI (t + 1), upd tr t (nI 10)) := by
  rw [sp_0_0 hn hq ht, g5_says, if_pos (show nI 10 = 10 from rfl), ex4]
theorem kd_1 {n d q t : Nat} (hn : 4100 ≤ n) (x K num w : Int32) (tr : Nat → Int32) (hq : q ≤ 39) (ht : t < 29) : f5_speaks n (d + 2) (nI 1) (nI 0) x (nI q) K num w 0 (nI t) tr = some (x + w + nI 3, 0, nI (t + 1 + 1), upd (upd tr t (nI 20)) (t + 1) (nI 10)) := by
  rw [sp_1_0 hn (by omega) (by omega), g5_saysAbove, if_pos (show nI 20 = 20 from rfl), show f5_speaks n (d + 1) (nI 0) 0 x (nI (q + 1)) K num w 0 (nI (t + 1)) (upd tr t (nI 20)) = _ from kd_0 hn x K num w _ (by omega) (by omega), q_c4_some, show (3 : Int32) = nI 3 from by decide, ex4]
theorem kd_4 {n d q t : Nat} (hn : 4100 ≤ n) (x K num w : Int32) (tr : Nat → Int32) (hq : q ≤ 38) (ht : t < 28) : f5_speaks n (d + 3) (nI 4) (nI 0) x (nI q) K num w 0 (nI t) tr = some ((x + w + nI 3) * nI 3, 0, nI (t + 1 + 1 + 1), upd (upd (upd tr t (nI 50)) (t + 1) (nI 20)) (t + 1 + 1) (nI 10)) := by
  rw [sp_4_0 hn (by omega) (by omega), g5_saysAbove, if_neg (show ¬ nI 50 = 20 by decide), if_neg (show ¬ nI 50 = 21 by decide), if_neg (show ¬ nI 50 = 30 by decide), if_neg (show ¬ nI 50 = 31 by decide), if_neg (show ¬ nI 50 = 40 by decide), if_neg (show ¬ nI 50 = 41 by decide), if_pos (show nI 50 = 50 from rfl), show f5_speaks n (d + 2) (nI 1) 0 x (nI (q + 1)) K num w 0 (nI (t + 1)) (upd tr t (nI 50)) = _ from kd_1 hn x K num w _ (by omega) (by omega), q_c4_some, show (3 : Int32) = nI 3 from by decide, ex4]
theorem k_does {n d q t k : Nat} (hn : 4100 ≤ n) (x K num w : Int32) (tr : Nat → Int32) (hk : k ≤ 7) (hq : q ≤ 38) (ht : t ≤ 25) : f5_speaks n (d + 3) (nI k) (nI 0) x (nI q) K num w 0 (nI t) tr = some (dV w x k, 0, nI (t + (dl k).length), apl tr t (dl k)) := by
  have c0 : ∀ (y : Int32), (q_c4 (g5_says n (f5_speaks n (d + 2)) (nI 10) x (nI (q + 1)) K num w 0 (nI (t + 1)) (upd tr t (nI 10))) fun a b c e => some (a, b, c, e)) = some (x + w, 0, nI (t + 1), upd tr t (nI 10)) := fun _ => by
    rw [g5_says, if_pos (show nI 10 = 10 from rfl), ex4]
  obtain rfl | rfl | rfl | rfl | rfl | rfl | rfl | rfl : k = 0 ∨ k = 1 ∨ k = 2 ∨ k = 3 ∨ k = 4 ∨ k = 5 ∨ k = 6 ∨ k = 7 := by omega
  · exact kd_0 (d := d + 2) hn x K num w tr (by omega) (by omega)
  · exact kd_1 (d := d + 1) hn x K num w tr (by omega) (by omega)
  · exact (sp_2_0 hn (by omega) (by omega) x K num w tr).trans (c0 0)
  · exact (sp_3_0 hn (by omega) (by omega) x K num w tr).trans (c0 0)
  · exact kd_4 hn x K num w tr (by omega) (by omega)
  · rw [sp_5_0 hn (by omega) (by omega), g5_saysAbove, if_pos (show nI 20 = 20 from rfl), show f5_speaks n (d + 2) (nI 0) 0 x (nI (q + 1)) K num w 0 (nI (t + 1)) (upd tr t (nI 20)) = _ from kd_0 (d := d + 1) hn x K num w _ (by omega) (by omega), q_c4_some, show (3 : Int32) = nI 3 from by decide, ex4]
    rfl
  · rw [sp_6_0 hn (by omega) (by omega), g5_saysAbove, if_neg (show ¬ nI 70 = 20 by decide), if_neg (show ¬ nI 70 = 21 by decide), if_neg (show ¬ nI 70 = 30 by decide), if_neg (show ¬ nI 70 = 31 by decide), if_neg (show ¬ nI 70 = 40 by decide), if_neg (show ¬ nI 70 = 41 by decide), if_neg (show ¬ nI 70 = 50 by decide), if_neg (show ¬ nI 70 = 60 by decide), if_neg (show ¬ nI 70 = 61 by decide), if_neg (show ¬ nI 70 = 80 by decide), if_neg (show ¬ nI 70 = 81 by decide), show (0 : Int32) = nI 0 from by decide, ex4]
    rfl
  · exact (sp_7_0 hn (by omega) (by omega) x K num w tr).trans (c0 0)
def ul (K : Nat) : Nat → List Nat
  | 2 => 30 :: 11 :: dl K
  | 3 => 40 :: 30 :: 11 :: dl K
  | 7 => 80 :: 11 :: dl K
  | _ => 11 :: dl K
def uV (w num : Int32) (K : Nat) (x : Int32) : Nat → Int32
  | 2 => nI 0 - dV w x K * nI 2
  | 3 => nI 0 - dV w (x / nI 2) K * nI 2
  | 7 => dV w x K * nI 2 + num
  | _ => dV w x K * nI 2
theorem ul_len (K k : Nat) : (ul K k).length ≤ 6 := by
  have := dl_len K
  unfold ul
  split <;> simp only [List.length_cons] <;> omega
theorem q_dv2 {α : Type} {K : Option α} : q_dv 2 K = K := by
  unfold q_dv
  rw [if_neg (by decide)]
theorem ru_0 {s tr : Nat → Int32} {t e : Nat} {x w sp : Int32} {K : Nat} (hK : K ≤ 7) (hk : f7_kindNow sp s = some (nI K)) (hw : f7_writerNow sp s = some w) (ht : t ≤ 24) : f7_undoes (e + 1) (nI 0) x (nI t) sp s tr = some (dV w x K * nI 2, nI (t + 1 + (dl K).length), apl (upd tr t (nI 11)) (t + 1) (dl K)) := by
  rw [f7_undoes.eq_2, if_pos (show nI 0 = 0 from rfl), show f7_begins 11 (nI t) tr = _ from r_begins (b := 11) (by omega) tr, q_c2_some, hk, q_c_some, show f7_does 8 (nI K) x (nI (t + 1)) sp s (upd tr t (nI 11)) = _ from r_does (e := 5) hK hw (by omega), q_c3_some, show (2 : Int32) = nI 2 from by decide]
theorem ru_2 {s tr : Nat → Int32} {t e : Nat} {x w sp : Int32} {K : Nat} (hK : K ≤ 7) (hk : f7_kindNow sp s = some (nI K)) (hw : f7_writerNow sp s = some w) (ht : t ≤ 23) : f7_undoes (e + 2) (nI 2) x (nI t) sp s tr = some (nI 0 - dV w x K * nI 2, nI (t + 1 + 1 + (dl K).length), apl (upd (upd tr t (nI 30)) (t + 1) (nI 11)) (t + 1 + 1) (dl K)) := by
  rw [f7_undoes.eq_2, if_neg (show ¬ nI 2 = 0 by decide), if_neg (show ¬ nI 2 = 1 by decide), if_pos (show nI 2 = 2 from rfl), show f7_begins 30 (nI t) tr = _ from r_begins (b := 30) (by omega) tr, q_c2_some, show f7_above 2 = _ from ab_2, q_c_some, ru_0 hK hk hw (t := t + 1) (by omega), q_c3_some, show (0 : Int32) = nI 0 from by decide]
theorem ru_1 {s tr : Nat → Int32} {t e : Nat} {x w sp : Int32} {K : Nat} (hK : K ≤ 7) (hk : f7_kindNow sp s = some (nI K)) (hw : f7_writerNow sp s = some w) (ht : t ≤ 24) : f7_undoes (e + 2) (nI 1) x (nI t) sp s tr = some (dV w x K * nI 2, nI (t + 1 + (dl K).length), apl (upd tr t (nI 11)) (t + 1) (dl K)) := by
  rw [f7_undoes.eq_2, if_neg (show ¬ nI 1 = 0 by decide), if_pos (show nI 1 = 1 from rfl), f7_undoes_124, ab_1, q_c_some, ru_0 hK hk hw ht, q_c3_some]
theorem ru_4 {s tr : Nat → Int32} {t e : Nat} {x w sp : Int32} {K : Nat} (hK : K ≤ 7) (hk : f7_kindNow sp s = some (nI K)) (hw : f7_writerNow sp s = some w) (ht : t ≤ 24) : f7_undoes (e + 3) (nI 4) x (nI t) sp s tr = some (dV w x K * nI 2, nI (t + 1 + (dl K).length), apl (upd tr t (nI 11)) (t + 1) (dl K)) := by
  rw [f7_undoes.eq_2, if_neg (show ¬ nI 4 = 0 by decide), if_neg (show ¬ nI 4 = 1 by decide), if_neg (show ¬ nI 4 = 2 by decide), if_neg (show ¬ nI 4 = 3 by decide), if_pos (show nI 4 = 4 from rfl), f7_undoes_124, ab_4, q_c_some, ru_1 hK hk hw ht, q_c3_some]
theorem ru_5 {s tr : Nat → Int32} {t e : Nat} {x w sp : Int32} {K : Nat} (hK : K ≤ 7) (hk : f7_kindNow sp s = some (nI K)) (hw : f7_writerNow sp s = some w) (ht : t ≤ 24) : f7_undoes (e + 3) (nI 5) x (nI t) sp s tr = some (dV w x K * nI 2, nI (t + 1 + (dl K).length), apl (upd tr t (nI 11)) (t + 1) (dl K)) := by
  rw [f7_undoes.eq_2, if_neg (show ¬ nI 5 = 0 by decide), if_neg (show ¬ nI 5 = 1 by decide), if_neg (show ¬ nI 5 = 2 by decide), if_neg (show ¬ nI 5 = 3 by decide), if_neg (show ¬ nI 5 = 4 by decide), if_pos (show nI 5 = 5 from rfl), f7_undoes_124, ab_5, q_c_some, ru_1 hK hk hw ht, q_c3_some]
theorem ru_6 {s tr : Nat → Int32} {t e : Nat} {x w sp : Int32} {K : Nat} (hK : K ≤ 7) (hk : f7_kindNow sp s = some (nI K)) (hw : f7_writerNow sp s = some w) (ht : t ≤ 24) : f7_undoes (e + 2) (nI 6) x (nI t) sp s tr = some (dV w x K * nI 2, nI (t + 1 + (dl K).length), apl (upd tr t (nI 11)) (t + 1) (dl K)) := by
  rw [f7_undoes.eq_2, if_neg (show ¬ nI 6 = 0 by decide), if_neg (show ¬ nI 6 = 1 by decide), if_neg (show ¬ nI 6 = 2 by decide), if_neg (show ¬ nI 6 = 3 by decide), if_neg (show ¬ nI 6 = 4 by decide), if_neg (show ¬ nI 6 = 5 by decide), if_pos (show nI 6 = 6 from rfl), f7_undoes_124, ab_6, q_c_some, ru_0 hK hk hw ht, q_c3_some]
theorem ru_3 {s tr : Nat → Int32} {t e : Nat} {x w sp : Int32} {K : Nat} (hK : K ≤ 7) (hk : f7_kindNow sp s = some (nI K)) (hw : f7_writerNow sp s = some w) (ht : t ≤ 22) : f7_undoes (e + 3) (nI 3) x (nI t) sp s tr = some (nI 0 - dV w (x / nI 2) K * nI 2, nI (t + 1 + 1 + 1 + (dl K).length), apl (upd (upd (upd tr t (nI 40)) (t + 1) (nI 30)) (t + 1 + 1) (nI 11)) (t + 1 + 1 + 1) (dl K)) := by
  rw [f7_undoes.eq_2, if_neg (show ¬ nI 3 = 0 by decide), if_neg (show ¬ nI 3 = 1 by decide), if_neg (show ¬ nI 3 = 2 by decide), if_pos (show nI 3 = 3 from rfl), show f7_begins 40 (nI t) tr = _ from r_begins (b := 40) (by omega) tr, q_c2_some, show f7_above 3 = _ from ab_3, q_c_some, q_dv2, show x / 2 = x / nI 2 from rfl, ru_2 hK hk hw (t := t + 1) (by omega), q_c3_some]
theorem ru_7 {s tr : Nat → Int32} {t e : Nat} {x w sp : Int32} {K : Nat} (hK : K ≤ 7) (hk : f7_kindNow sp s = some (nI K)) (hw : f7_writerNow sp s = some w) (ht : t ≤ 23) : f7_undoes (e + 2) (nI 7) x (nI t) sp s tr = some (dV w x K * nI 2 + sp, nI (t + 1 + 1 + (dl K).length), apl (upd (upd tr t (nI 80)) (t + 1) (nI 11)) (t + 1 + 1) (dl K)) := by
  rw [f7_undoes.eq_2, if_neg (show ¬ nI 7 = 0 by decide), if_neg (show ¬ nI 7 = 1 by decide), if_neg (show ¬ nI 7 = 2 by decide), if_neg (show ¬ nI 7 = 3 by decide), if_neg (show ¬ nI 7 = 4 by decide), if_neg (show ¬ nI 7 = 5 by decide), if_neg (show ¬ nI 7 = 6 by decide), if_pos (show nI 7 = 7 from rfl), show f7_begins 80 (nI t) tr = _ from r_begins (b := 80) (by omega) tr, q_c2_some, show f7_above 7 = _ from ab_7, q_c_some, ru_0 hK hk hw (t := t + 1) (by omega), q_c3_some]
theorem r_undoes {s tr : Nat → Int32} {t e k K : Nat} {x w sp : Int32} (hkk : k ≤ 7) (hK : K ≤ 7) (hk : f7_kindNow sp s = some (nI K)) (hw : f7_writerNow sp s = some w) (ht : t ≤ 20) : f7_undoes (e + 3) (nI k) x (nI t) sp s tr = some (uV w sp K x k, nI (t + (ul K k).length), apl tr t (ul K k)) := by
  have l1 : ∀ m, t + 1 + m = t + (m + 1) := by omega
  have l2 : ∀ m, t + 1 + 1 + m = t + (m + 1 + 1) := by omega
  have l3 : ∀ m, t + 1 + 1 + 1 + m = t + (m + 1 + 1 + 1) := by omega
  obtain rfl | rfl | rfl | rfl | rfl | rfl | rfl | rfl : k = 0 ∨ k = 1 ∨ k = 2 ∨ k = 3 ∨ k = 4 ∨ k = 5 ∨ k = 6 ∨ k = 7 := by omega
  · rw [ru_0 (e := e + 2) hK hk hw (by omega), l1]; rfl
  · rw [ru_1 (e := e + 1) hK hk hw (by omega), l1]; rfl
  · rw [ru_2 (e := e + 1) hK hk hw (by omega), l2]; rfl
  · rw [ru_3 hK hk hw (by omega), l3]; rfl
  · rw [ru_4 hK hk hw (by omega), l1]; rfl
  · rw [ru_5 hK hk hw (by omega), l1]; rfl
  · rw [ru_6 (e := e + 1) hK hk hw (by omega), l1]; rfl
  · rw [ru_7 (e := e + 1) hK hk hw (by omega), l2]; rfl
theorem ku_11 {n d q t K : Nat} (hn : 4100 ≤ n) (hK : K ≤ 7) (x num w : Int32) (tr : Nat → Int32) (hq : q ≤ 30) (ht : t ≤ 24) : (q_c4 (g5_says n (f5_speaks n (d + 3)) (nI 11) x (nI (q + 1)) (nI K) num w 0 (nI (t + 1)) (upd tr t (nI 11))) fun a b c e => some (a, b, c, e)) = some (dV w x K * nI 2, 0, nI (t + 1 + (dl K).length), apl (upd tr t (nI 11)) (t + 1) (dl K)) := by
  rw [g5_says, if_neg (show ¬ nI 11 = 10 by decide), if_pos (show nI 11 = 11 from rfl), show f5_speaks n (d + 3) (nI K) 0 x (nI (q + 1)) (nI K) num w 0 (nI (t + 1)) (upd tr t (nI 11)) = _ from k_does hn x (nI K) num w _ hK (by omega) (by omega), q_c4_some, show (2 : Int32) = nI 2 from by decide, ex4]
theorem k_undoes {n d q t k K : Nat} (hn : 4100 ≤ n) (hK : K ≤ 7) (x num w : Int32) (tr : Nat → Int32) (hk : k ≤ 7) (hq : q ≤ 27) (ht : t ≤ 20) : f5_speaks n (d + 6) (nI k) (nI 1) x (nI q) (nI K) num w 0 (nI t) tr = some (uV w num K x k, 0, nI (t + (ul K k).length), apl tr t (ul K k)) := by
  have l1 : ∀ m, t + 1 + m = t + (m + 1) := by omega
  have l2 : ∀ m, t + 1 + 1 + m = t + (m + 1 + 1) := by omega
  have l3 : ∀ m, t + 1 + 1 + 1 + m = t + (m + 1 + 1 + 1) := by omega
  have b0 : ∀ {d q t : Nat} (x : Int32) (tr : Nat → Int32), q ≤ 30 → t ≤ 24 → f5_speaks n (d + 4) (nI 0) (nI 1) x (nI q) (nI K) num w 0 (nI t) tr = some (dV w x K * nI 2, 0, nI (t + 1 + (dl K).length), apl (upd tr t (nI 11)) (t + 1) (dl K)) := fun x tr h1 h2 => (sp_0_1 hn (by omega) (by omega) x (nI K) num w tr).trans (ku_11 hn hK x num w tr h1 h2)
  have b2 : ∀ {d q t : Nat} (x : Int32) (tr : Nat → Int32), q ≤ 29 → t ≤ 23 → f5_speaks n (d + 5) (nI 2) (nI 1) x (nI q) (nI K) num w 0 (nI t) tr = some (nI 0 - dV w x K * nI 2, 0, nI (t + 1 + 1 + (dl K).length), apl (upd (upd tr t (nI 30)) (t + 1) (nI 11)) (t + 1 + 1) (dl K)) := fun {d q t} x tr h1 h2 => by
    rw [sp_2_1 hn (by omega) (by omega), g5_saysAbove, if_neg (show ¬ nI 30 = 20 by decide), if_neg (show ¬ nI 30 = 21 by decide), if_pos (show nI 30 = 30 from rfl), show f5_speaks n (d + 4) (nI 0) 1 x (nI (q + 1)) (nI K) num w 0 (nI (t + 1)) (upd tr t (nI 30)) = _ from b0 x _ (by omega) (by omega), q_c4_some, show (0 : Int32) - dV w x K * nI 2 = nI 0 - dV w x K * nI 2 from rfl, ex4]
  obtain rfl | rfl | rfl | rfl | rfl | rfl | rfl | rfl : k = 0 ∨ k = 1 ∨ k = 2 ∨ k = 3 ∨ k = 4 ∨ k = 5 ∨ k = 6 ∨ k = 7 := by omega
  · rw [b0 (d := d + 2) x tr (by omega) (by omega), l1]; rfl
  · rw [(sp_1_1 hn (by omega) (by omega) x (nI K) num w tr).trans (ku_11 (d := d + 2) hn hK x num w tr (by omega) (by omega)), l1]; rfl
  · rw [b2 (d := d + 1) x tr (by omega) (by omega), l2]; rfl
  · rw [sp_3_1 hn (by omega) (by omega), g5_saysAbove, if_neg (show ¬ nI 40 = 20 by decide), if_neg (show ¬ nI 40 = 21 by decide), if_neg (show ¬ nI 40 = 30 by decide), if_neg (show ¬ nI 40 = 31 by decide), if_pos (show nI 40 = 40 from rfl), q_dv2, show f5_speaks n (d + 5) (nI 2) 1 (x / 2) (nI (q + 1)) (nI K) num w 0 (nI (t + 1)) (upd tr t (nI 40)) = _ from b2 (x / nI 2) _ (by omega) (by omega), q_c4_some, ex4, l3]; rfl
  · rw [(sp_4_1 hn (by omega) (by omega) x (nI K) num w tr).trans (ku_11 (d := d + 2) hn hK x num w tr (by omega) (by omega)), l1]; rfl
  · rw [(sp_5_1 hn (by omega) (by omega) x (nI K) num w tr).trans (ku_11 (d := d + 2) hn hK x num w tr (by omega) (by omega)), l1]; rfl
  · rw [(sp_6_1 hn (by omega) (by omega) x (nI K) num w tr).trans (ku_11 (d := d + 2) hn hK x num w tr (by omega) (by omega)), l1]; rfl
  · rw [sp_7_1 hn (by omega) (by omega), g5_saysAbove, if_neg (show ¬ nI 80 = 20 by decide), if_neg (show ¬ nI 80 = 21 by decide), if_neg (show ¬ nI 80 = 30 by decide), if_neg (show ¬ nI 80 = 31 by decide), if_neg (show ¬ nI 80 = 40 by decide), if_neg (show ¬ nI 80 = 41 by decide), if_neg (show ¬ nI 80 = 50 by decide), if_neg (show ¬ nI 80 = 60 by decide), if_neg (show ¬ nI 80 = 61 by decide), if_pos (show nI 80 = 80 from rfl), show f5_speaks n (d + 5) (nI 0) 1 x (nI (q + 1)) (nI K) num w 0 (nI (t + 1)) (upd tr t (nI 80)) = _ from b0 (d := d + 1) x _ (by omega) (by omega), q_c4_some, ex4, l2]; rfl
theorem und_both {s tr : Nat → Int32} {n d e q t K : Nat} {w sp : Int32} (hn : 4100 ≤ n) (hK : K ≤ 7) (hk : f7_kindNow sp s = some (nI K)) (hw : f7_writerNow sp s = some w) (x : Int32) (hq : q ≤ 27) (ht : t ≤ 20) : ∃ v t' tr', f7_undoes (e + 3) (nI K) x (nI t) sp s tr = some (v, nI t', tr') ∧ f5_speaks n (d + 6) (nI K) (nI 1) x (nI q) (nI K) sp w 0 (nI t) tr = some (v, 0, nI t', tr') ∧ t' ≤ t + 6 := ⟨_, _, _, r_undoes hK hK hk hw ht, k_undoes hn hK x sp w tr hK hq ht, by have := ul_len K K; omega⟩
theorem las_both {s : Nat → Int32} {n K : Nat} {w sp : Int32} (hn : 4100 ≤ n) (hK : K ≤ 7) (hk : f7_kindNow sp s = some (nI K)) (hw : f7_writerNow sp s = some w) {e d q t k : Nat} (x : Int32) (tr : Nat → Int32) (hkk : k ≤ 7) (hq : q ≤ 23) (ht : t ≤ 8) : ∃ v t' tr', f7_lasts (e + 3) (nI k) x (nI t) sp s tr = some (v, nI t', tr') ∧ f5_speaks n (d + 9) (nI k) (nI 2) x (nI q) (nI K) sp w 0 (nI t) tr = some (v, 0, nI t', tr') ∧ t' ≤ t + 14 := by
  have says12 : ∀ {d q t : Nat} (x : Int32) (tr : Nat → Int32), q ≤ 26 → t ≤ 11 → ∃ v t' tr', f7_undoes 8 (nI K) x (nI (t + 1)) sp s (upd tr t (nI 12)) = some (v, nI t', tr') ∧ (q_c4 (g5_says n (f5_speaks n (d + 6)) (nI 12) x (nI (q + 1)) (nI K) sp w 0 (nI (t + 1)) (upd tr t (nI 12))) fun a b c e => some (a, b, c, e)) = some (v - sp, 0, nI t', tr') ∧ t' ≤ t + 7 := by
    intro d q t x tr h1 h2
    obtain ⟨v, t', tr', g1, g2, g3⟩ := und_both (d := d) (e := 5) (q := q + 1) (t := t + 1) (tr := upd tr t (nI 12)) hn hK hk hw x (by omega) (by omega)
    refine ⟨v, t', tr', g1, ?_, by omega⟩
    rw [g5_says, if_neg (show ¬ nI 12 = 10 by decide), if_neg (show ¬ nI 12 = 11 by decide), if_pos (show nI 12 = 12 from rfl), show f5_speaks n (d + 6) (nI K) 1 x (nI (q + 1)) (nI K) sp w 0 (nI (t + 1)) (upd tr t (nI 12)) = _ from g2, q_c4_some, ex4]
  have r0 : ∀ {e t : Nat} (x : Int32) (tr : Nat → Int32) (v : Int32) (t' : Nat) (tr' : Nat → Int32), t ≤ 20 → f7_undoes 8 (nI K) x (nI (t + 1)) sp s (upd tr t (nI 12)) = some (v, nI t', tr') → f7_lasts (e + 1) (nI 0) x (nI t) sp s tr = some (v - sp, nI t', tr') := by
    intro e t x tr v t' tr' h1 h2
    rw [f7_lasts.eq_2, if_pos i0, show f7_begins 12 (nI t) tr = _ from r_begins (b := 12) (by omega) tr, q_c2_some, hk, q_c_some, h2, q_c3_some]
  have b0 : ∀ {e d q t : Nat} (x : Int32) (tr : Nat → Int32), q ≤ 26 → t ≤ 11 → ∃ v t' tr', f7_lasts (e + 1) (nI 0) x (nI t) sp s tr = some (v, nI t', tr') ∧ f5_speaks n (d + 7) (nI 0) (nI 2) x (nI q) (nI K) sp w 0 (nI t) tr = some (v, 0, nI t', tr') ∧ t' ≤ t + 7 := by
    intro e d q t x tr h1 h2
    obtain ⟨v, t', tr', g1, g2, g3⟩ := says12 (d := d) x tr h1 h2
    exact ⟨v - sp, t', tr', r0 x tr v t' tr' (by omega) g1, (sp_0_2 hn (by omega) (by omega) x (nI K) sp w tr).trans g2, g3⟩
  have b1 : ∀ {e d q t : Nat} (x : Int32) (tr : Nat → Int32), q ≤ 25 → t ≤ 10 → ∃ v t' tr', f7_lasts (e + 2) (nI 1) x (nI t) sp s tr = some (v, nI t', tr') ∧ f5_speaks n (d + 8) (nI 1) (nI 2) x (nI q) (nI K) sp w 0 (nI t) tr = some (v, 0, nI t', tr') ∧ t' ≤ t + 8 := by
    intro e d q t x tr h1 h2
    obtain ⟨v, t', tr', g1, g2, g3⟩ := b0 (e := e) (d := d) (q := q + 1) (t := t + 1) x (upd tr t (nI 21)) (by omega) (by omega)
    refine ⟨v ^^^ w, t', tr', ?_, ?_, by omega⟩
    · rw [f7_lasts.eq_2, if_neg (show ¬ nI 1 = 0 by decide), if_pos (show nI 1 = 1 from rfl), show f7_begins 21 (nI t) tr = _ from r_begins (b := 21) (by omega) tr, q_c2_some, show f7_above 1 = _ from ab_1, q_c_some, g1, q_c3_some, hw, q_c_some]
    · rw [sp_1_2 hn (by omega) (by omega), g5_saysAbove, if_neg (show ¬ nI 21 = 20 by decide), if_pos (show nI 21 = 21 from rfl), show f5_speaks n (d + 7) (nI 0) 2 x (nI (q + 1)) (nI K) sp w 0 (nI (t + 1)) (upd tr t (nI 21)) = _ from g2, q_c4_some, ex4]
  obtain rfl | rfl | rfl | rfl | rfl | rfl | rfl | rfl : k = 0 ∨ k = 1 ∨ k = 2 ∨ k = 3 ∨ k = 4 ∨ k = 5 ∨ k = 6 ∨ k = 7 := by omega
  · obtain ⟨v, t', tr', g1, g2, g3⟩ := b0 (e := e + 2) (d := d + 2) (q := q) (t := t) x tr (by omega) (by omega)
    exact ⟨v, t', tr', g1, g2, by omega⟩
  · obtain ⟨v, t', tr', g1, g2, g3⟩ := b1 (e := e + 1) (d := d + 1) (q := q) (t := t) x tr (by omega) (by omega)
    exact ⟨v, t', tr', g1, g2, by omega⟩
  · obtain ⟨v, t', tr', g1, g2, g3⟩ := says12 (d := d + 2) (q := q) (t := t) x tr (by omega) (by omega)
    refine ⟨v - sp, t', tr', ?_, (sp_2_2 hn (by omega) (by omega) x (nI K) sp w tr).trans g2, by omega⟩
    rw [f7_lasts.eq_2, if_neg (show ¬ nI 2 = 0 by decide), if_neg (show ¬ nI 2 = 1 by decide), if_pos (show nI 2 = 2 from rfl), f7_lasts_128, ab_2, q_c_some, r0 (e := e + 1) x tr v t' tr' (by omega) g1, q_c3_some]
  · obtain ⟨v, t', tr', g1, g2, g3⟩ := says12 (d := d + 1) (q := q + 1) (t := t + 1) x (upd tr t (nI 41)) (by omega) (by omega)
    obtain ⟨v2, t2, tr2, k1, k2, k3⟩ := und_both (d := d + 2) (e := 5) (q := q + 1) (t := t') (tr := tr') hn hK hk hw (nI 2) (by omega) (by omega)
    refine ⟨v - sp - v2, t2, tr2, ?_, ?_, by omega⟩
    · have e2 : f7_lasts (e + 2) (nI 2) x (nI (t + 1)) sp s (upd tr t (nI 41)) = some (v - sp, nI t', tr') := by
        rw [f7_lasts.eq_2, if_neg (show ¬ nI 2 = 0 by decide), if_neg (show ¬ nI 2 = 1 by decide), if_pos (show nI 2 = 2 from rfl), f7_lasts_128, ab_2, q_c_some, r0 (e := e) x _ v t' tr' (by omega) g1, q_c3_some]
      rw [f7_lasts.eq_2, if_neg (show ¬ nI 3 = 0 by decide), if_neg (show ¬ nI 3 = 1 by decide), if_neg (show ¬ nI 3 = 2 by decide), if_pos (show nI 3 = 3 from rfl), show f7_begins 41 (nI t) tr = _ from r_begins (b := 41) (by omega) tr, q_c2_some, show f7_above 3 = _ from ab_3, q_c_some, e2, q_c3_some, hk, q_c_some, show f7_undoes 8 (nI K) 2 (nI t') sp s tr' = _ from k1, q_c3_some]
    · have e2 : f5_speaks n (d + 8) (nI 2) (nI 2) x (nI (q + 1)) (nI K) sp w 0 (nI (t + 1)) (upd tr t (nI 41)) = some (v - sp, 0, nI t', tr') := (sp_2_2 hn (by omega) (by omega) x (nI K) sp w _).trans g2
      rw [sp_3_2 hn (by omega) (by omega), g5_saysAbove, if_neg (show ¬ nI 41 = 20 by decide), if_neg (show ¬ nI 41 = 21 by decide), if_neg (show ¬ nI 41 = 30 by decide), if_neg (show ¬ nI 41 = 31 by decide), if_neg (show ¬ nI 41 = 40 by decide), if_pos (show nI 41 = 41 from rfl), show f5_speaks n (d + 8) (nI 2) 2 x (nI (q + 1)) (nI K) sp w 0 (nI (t + 1)) (upd tr t (nI 41)) = _ from e2, q_c4_some, show f5_speaks n (d + 8) (nI K) 1 2 (nI (q + 1)) (nI K) sp w 0 (nI t') tr' = _ from k2, q_c4_some, ex4]
  · obtain ⟨v, t', tr', g1, g2, g3⟩ := b1 (e := e) (d := d + 1) (q := q) (t := t) x tr (by omega) (by omega)
    refine ⟨v, t', tr', ?_, ?_, by omega⟩
    · rw [f7_lasts.eq_2, if_neg (show ¬ nI 4 = 0 by decide), if_neg (show ¬ nI 4 = 1 by decide), if_neg (show ¬ nI 4 = 2 by decide), if_neg (show ¬ nI 4 = 3 by decide), if_pos (show nI 4 = 4 from rfl), f7_lasts_128, ab_4, q_c_some, g1, q_c3_some]
    · rw [sp_1_2 hn (by omega) (by omega)] at g2
      rw [sp_4_2 hn (by omega) (by omega)]
      exact g2
  · obtain ⟨v, t', tr', g1, g2, g3⟩ := b1 (e := e) (d := d) (q := q + 1) (t := t + 1) (x + 1) (upd tr t (nI 60)) (by omega) (by omega)
    refine ⟨v, t', tr', ?_, ?_, by omega⟩
    · rw [f7_lasts.eq_2, if_neg (show ¬ nI 5 = 0 by decide), if_neg (show ¬ nI 5 = 1 by decide), if_neg (show ¬ nI 5 = 2 by decide), if_neg (show ¬ nI 5 = 3 by decide), if_neg (show ¬ nI 5 = 4 by decide), if_pos (show nI 5 = 5 from rfl), show f7_begins 60 (nI t) tr = _ from r_begins (b := 60) (by omega) tr, q_c2_some, show f7_above 5 = _ from ab_5, q_c_some, g1, q_c3_some]
    · rw [sp_5_2 hn (by omega) (by omega), g5_saysAbove, if_neg (show ¬ nI 60 = 20 by decide), if_neg (show ¬ nI 60 = 21 by decide), if_neg (show ¬ nI 60 = 30 by decide), if_neg (show ¬ nI 60 = 31 by decide), if_neg (show ¬ nI 60 = 40 by decide), if_neg (show ¬ nI 60 = 41 by decide), if_neg (show ¬ nI 60 = 50 by decide), if_pos (show nI 60 = 60 from rfl), show f5_speaks n (d + 8) (nI 1) 2 (x + 1) (nI (q + 1)) (nI K) sp w 0 (nI (t + 1)) (upd tr t (nI 60)) = _ from g2, q_c4_some, ex4]
  · obtain ⟨v, t', tr', g1, g2, g3⟩ := says12 (d := d + 2) (q := q) (t := t) x tr (by omega) (by omega)
    refine ⟨v - sp, t', tr', ?_, (sp_6_2 hn (by omega) (by omega) x (nI K) sp w tr).trans g2, by omega⟩
    rw [f7_lasts.eq_2, if_neg (show ¬ nI 6 = 0 by decide), if_neg (show ¬ nI 6 = 1 by decide), if_neg (show ¬ nI 6 = 2 by decide), if_neg (show ¬ nI 6 = 3 by decide), if_neg (show ¬ nI 6 = 4 by decide), if_neg (show ¬ nI 6 = 5 by decide), f7_lasts_128, ab_6, q_c_some, r0 (e := e + 1) x tr v t' tr' (by omega) g1, q_c3_some]
  · obtain ⟨v, t', tr', g1, g2, g3⟩ := says12 (d := d + 2) (q := q) (t := t) x tr (by omega) (by omega)
    refine ⟨v - sp, t', tr', ?_, (sp_7_2 hn (by omega) (by omega) x (nI K) sp w tr).trans g2, by omega⟩
    rw [f7_lasts.eq_2, if_neg (show ¬ nI 7 = 0 by decide), if_neg (show ¬ nI 7 = 1 by decide), if_neg (show ¬ nI 7 = 2 by decide), if_neg (show ¬ nI 7 = 3 by decide), if_neg (show ¬ nI 7 = 4 by decide), if_neg (show ¬ nI 7 = 5 by decide), f7_lasts_128, ab_7, q_c_some, r0 (e := e + 1) x tr v t' tr' (by omega) g1, q_c3_some]
/-- a parted voice says no more -/
theorem sp_parted {n d : Nat} (a b x q K num w t : Int32) (tr : Nat → Int32) : f5_speaks n (d + 1) a b x q K num w 1 t tr = some (0, 1, t, tr) := by
  rw [f5_speaks.eq_2, if_neg (by decide), f5_speaks_18]
theorem tel_both {s : Nat → Int32} {n K : Nat} {w sp : Int32} (hn : 4100 ≤ n) (hK : K ≤ 7) (hk : f7_kindNow sp s = some (nI K)) (hw : f7_writerNow sp s = some w) {e d q t k : Nat} (x : Int32) (tr : Nat → Int32) (hkk : k ≤ 7) (hq : q ≤ 20) (ht : t ≤ 5) : ∃ v v2 p t' tr', (p = 0 ∨ p = 1) ∧ (p = 0 → v2 = v) ∧ f7_tells (e + 3) (nI k) x (nI t) sp 0 s tr = some (v, nI t', p, tr') ∧ f5_speaks n (d + 12) (nI k) (nI 3) x (nI q) (nI K) sp w 0 (nI t) tr = some (v2, p, nI t', tr') ∧ t' ≤ 29 := by
  let p : Int32 := if sp - 2 = 0 then 1 else 0
  let v : Int32 := if sp - 2 = 0 then 0 else x / (sp - 2)
  have hp01 : p = 0 ∨ p = 1 := by
    show (if sp - 2 = 0 then (1 : Int32) else 0) = 0 ∨ (if sp - 2 = 0 then (1 : Int32) else 0) = 1
    split
    · exact Or.inr rfl
    · exact Or.inl rfl
  have s13 : ∀ {d q t : Nat} (tr : Nat → Int32), (q_c4 (g5_says n (f5_speaks n d) (nI 13) x (nI q) (nI K) sp w 0 (nI t) tr) fun a b c e => some (a, b, c, e)) = some (v, p, nI t, tr) := by
    intro d q t tr
    rw [g5_says, if_neg (show ¬ nI 13 = 10 by decide), if_neg (show ¬ nI 13 = 11 by decide), if_neg (show ¬ nI 13 = 12 by decide), f5_parts, q_ltP]
    by_cases h : sp - 2 = 0
    · rw [if_pos h, bz1, q_c2_some, ex4]
      simp only [v, p, h, if_true]
    · rw [if_neg h, q_dv, if_neg h, q_c2_some, ex4]
      simp only [v, p, h, if_false]
  have r0 : ∀ {e t : Nat} (ip : Int32) (tr : Nat → Int32), t ≤ 29 → f7_tells (e + 1) (nI 0) x (nI t) sp ip s tr = some (v, nI (t + 1), p, upd tr t (nI 13)) := by
    intro e t ip tr h1
    rw [f7_tells.eq_2, if_pos i0, show f7_begins 13 (nI t) tr = _ from r_begins (b := 13) (by omega) tr, q_c2_some, q_ltP]
    by_cases h : sp - 2 = 0
    · rw [if_pos h, f7_tells_73, bz1, if_pos h, f7_tells_100]
      simp only [v, p, h, if_true]
    · rw [if_neg h, f7_tells_73, bz0, if_neg h]
      by_cases h2 : sp - 2 = -1
      · rw [if_pos h2, f7_tells_100]
        simp only [v, p, h, if_false]
        rw [h2, div_m1]
      · rw [if_neg h2, q_dv, if_neg h, f7_tells_100]
        simp only [v, p, h, if_false]
  have b2 : ∀ {e d q t : Nat} (tr : Nat → Int32), q ≤ 22 → t ≤ 20 → ∃ v v2 t' tr', (p = 0 → v2 = v) ∧ f7_tells (e + 2) (nI 2) x (nI t) sp 0 s tr = some (v, nI t', p, tr') ∧ f5_speaks n (d + 5) (nI 2) (nI 3) x (nI q) (nI K) sp w 0 (nI t) tr = some (v2, p, nI t', tr') ∧ t' ≤ t + 5 := by
    intro e d q t tr h1 h2
    have g : f5_speaks n (d + 4) (nI 0) (nI 3) x (nI (q + 1)) (nI K) sp w 0 (nI (t + 1)) (upd tr t (nI 31)) = some (v, p, nI (t + 1 + 1), upd (upd tr t (nI 31)) (t + 1) (nI 13)) := (sp_0_3 hn (by omega) (by omega) x (nI K) sp w _).trans (s13 _)
    by_cases hp : p = 0
    · have dd := r_does (e := 5) (k := K) (x := nI 1) (t := t + 1 + 1) (tr := upd (upd tr t (nI 31)) (t + 1) (nI 13)) hK hw (by omega)
      have dk := k_does (d := d + 1) (q := q + 1) (t := t + 1 + 1) hn (nI 1) (nI K) sp w (upd (upd tr t (nI 31)) (t + 1) (nI 13)) hK (by omega) (by omega)
      have := dl_len K
      refine ⟨v + dV w (nI 1) K, v + dV w (nI 1) K, t + 1 + 1 + (dl K).length, apl (upd (upd tr t (nI 31)) (t + 1) (nI 13)) (t + 1 + 1) (dl K), fun _ => rfl, ?_, ?_, by omega⟩
      · rw [f7_tells.eq_2, if_neg (show ¬ nI 2 = 0 by decide), if_neg (show ¬ nI 2 = 1 by decide), if_pos (show nI 2 = 2 from rfl), show f7_begins 31 (nI t) tr = _ from r_begins (b := 31) (by omega) tr, q_c2_some, show f7_above 2 = _ from ab_2, q_c_some, r0 0 _ (by omega), q_c4_some, if_pos hp, hk, q_c_some, show f7_does 8 (nI K) 1 (nI (t + 1 + 1)) sp s _ = _ from dd, q_c3_some, f7_tells_139]
      · rw [hp] at g ⊢
        rw [sp_2_3 hn (by omega) (by omega), g5_saysAbove, if_neg (show ¬ nI 31 = 20 by decide), if_neg (show ¬ nI 31 = 21 by decide), if_neg (show ¬ nI 31 = 30 by decide), if_pos (show nI 31 = 31 from rfl), show f5_speaks n (d + 4) (nI 0) 3 x (nI (q + 1)) (nI K) sp w 0 (nI (t + 1)) (upd tr t (nI 31)) = _ from g, q_c4_some, show f5_speaks n (d + 4) (nI K) 0 1 (nI (q + 1)) (nI K) sp w 0 (nI (t + 1 + 1)) _ = _ from dk, q_c4_some, ex4]
    · have hp1 : p = 1 := by rcases hp01 with h | h; exact absurd h hp; exact h
      refine ⟨0, v + 0, t + 1 + 1, upd (upd tr t (nI 31)) (t + 1) (nI 13), fun h => absurd h hp, ?_, ?_, by omega⟩
      · rw [f7_tells.eq_2, if_neg (show ¬ nI 2 = 0 by decide), if_neg (show ¬ nI 2 = 1 by decide), if_pos (show nI 2 = 2 from rfl), show f7_begins 31 (nI t) tr = _ from r_begins (b := 31) (by omega) tr, q_c2_some, show f7_above 2 = _ from ab_2, q_c_some, r0 0 _ (by omega), q_c4_some, if_neg hp, f7_tells_139]
      · rw [hp1] at g ⊢
        rw [sp_2_3 hn (by omega) (by omega), g5_saysAbove, if_neg (show ¬ nI 31 = 20 by decide), if_neg (show ¬ nI 31 = 21 by decide), if_neg (show ¬ nI 31 = 30 by decide), if_pos (show nI 31 = 31 from rfl), show f5_speaks n (d + 4) (nI 0) 3 x (nI (q + 1)) (nI K) sp w 0 (nI (t + 1)) (upd tr t (nI 31)) = _ from g, q_c4_some, sp_parted (d := d + 3), q_c4_some, ex4]
  have plain : ∀ {e : Nat}, f7_tells (e + 3) (nI k) x (nI t) sp 0 s tr = some (v, nI (t + 1), p, upd tr t (nI 13)) → f5_speaks n (d + 12) (nI k) (nI 3) x (nI q) (nI K) sp w 0 (nI t) tr = some (v, p, nI (t + 1), upd tr t (nI 13)) → ∃ v v2 p t' tr', (p = 0 ∨ p = 1) ∧ (p = 0 → v2 = v) ∧ f7_tells (e + 3) (nI k) x (nI t) sp 0 s tr = some (v, nI t', p, tr') ∧ f5_speaks n (d + 12) (nI k) (nI 3) x (nI q) (nI K) sp w 0 (nI t) tr = some (v2, p, nI t', tr') ∧ t' ≤ 29 := fun h1 h2 => ⟨v, v, p, t + 1, _, hp01, fun _ => rfl, h1, h2, by omega⟩
  obtain rfl | rfl | rfl | rfl | rfl | rfl | rfl | rfl : k = 0 ∨ k = 1 ∨ k = 2 ∨ k = 3 ∨ k = 4 ∨ k = 5 ∨ k = 6 ∨ k = 7 := by omega
  · exact plain (r0 (e := e + 2) 0 tr (by omega)) ((sp_0_3 hn (by omega) (by omega) x (nI K) sp w _).trans (s13 _))
  · refine plain ?_ ((sp_1_3 hn (by omega) (by omega) x (nI K) sp w _).trans (s13 _))
    rw [f7_tells.eq_2, if_neg (show ¬ nI 1 = 0 by decide), if_pos (show nI 1 = 1 from rfl), f7_tells_187, ab_1, q_c_some, r0 (e := e + 1) 0 tr (by omega), q_c4_some]
  · obtain ⟨v, v2, t', tr', g0, g1, g2, g3⟩ := b2 (e := e + 1) (d := d + 7) (q := q) (t := t) tr (by omega) (by omega)
    exact ⟨v, v2, p, t', tr', hp01, g0, g1, g2, by omega⟩
  · obtain ⟨v, v2, t', tr', g0, g1, g2, g3⟩ := b2 (e := e) (d := d + 7) (q := q) (t := t) tr (by omega) (by omega)
    refine ⟨v, v2, p, t', tr', hp01, g0, ?_, ?_, by omega⟩
    · rw [f7_tells.eq_2, if_neg (show ¬ nI 3 = 0 by decide), if_neg (show ¬ nI 3 = 1 by decide), if_neg (show ¬ nI 3 = 2 by decide), if_pos (show nI 3 = 3 from rfl), f7_tells_187, ab_3, q_c_some, g1, q_c4_some]
    · rw [sp_2_3 hn (by omega) (by omega)] at g2
      rw [sp_3_3 hn (by omega) (by omega)]
      exact g2
  · refine plain ?_ ((sp_4_3 hn (by omega) (by omega) x (nI K) sp w _).trans (s13 _))
    have e1 : f7_tells (e + 2) (nI 1) x (nI t) sp 0 s tr = some (v, nI (t + 1), p, upd tr t (nI 13)) := by
      rw [f7_tells.eq_2, if_neg (show ¬ nI 1 = 0 by decide), if_pos (show nI 1 = 1 from rfl), f7_tells_187, ab_1, q_c_some, r0 (e := e) 0 tr (by omega), q_c4_some]
    rw [f7_tells.eq_2, if_neg (show ¬ nI 4 = 0 by decide), if_neg (show ¬ nI 4 = 1 by decide), if_neg (show ¬ nI 4 = 2 by decide), if_neg (show ¬ nI 4 = 3 by decide), if_pos (show nI 4 = 4 from rfl), f7_tells_187, ab_4, q_c_some, e1, q_c4_some]
  · obtain ⟨u, t', tr', g1, g2, g3⟩ := las_both (e := 5) (d := d + 2) (q := q + 1) (t := t + 1) (k := K) hn hK hk hw x (upd tr t (nI 61)) hK (by omega) (by omega)
    have e1 : f7_tells (e + 2) (nI 1) x (nI t') sp 0 s tr' = some (v, nI (t' + 1), p, upd tr' t' (nI 13)) := by
      rw [f7_tells.eq_2, if_neg (show ¬ nI 1 = 0 by decide), if_pos (show nI 1 = 1 from rfl), f7_tells_187, ab_1, q_c_some, r0 (e := e) 0 tr' (by omega), q_c4_some]
    have e2 : f5_speaks n (d + 11) (nI 1) (nI 3) x (nI (q + 1)) (nI K) sp w 0 (nI t') tr' = some (v, p, nI (t' + 1), upd tr' t' (nI 13)) := (sp_1_3 hn (by omega) (by omega) x (nI K) sp w _).trans (s13 _)
    refine ⟨u - v, u - v, p, t' + 1, upd tr' t' (nI 13), hp01, fun _ => rfl, ?_, ?_, by omega⟩
    · rw [f7_tells.eq_2, if_neg (show ¬ nI 5 = 0 by decide), if_neg (show ¬ nI 5 = 1 by decide), if_neg (show ¬ nI 5 = 2 by decide), if_neg (show ¬ nI 5 = 3 by decide), if_neg (show ¬ nI 5 = 4 by decide), if_pos (show nI 5 = 5 from rfl), show f7_begins 61 (nI t) tr = _ from r_begins (b := 61) (by omega) tr, q_c2_some, hk, q_c_some, show f7_lasts 8 (nI K) x (nI (t + 1)) sp s _ = _ from g1, q_c3_some, show f7_above 5 = _ from ab_5, q_c_some, e1, q_c4_some]
    · rw [sp_5_3 hn (by omega) (by omega), g5_saysAbove, if_neg (show ¬ nI 61 = 20 by decide), if_neg (show ¬ nI 61 = 21 by decide), if_neg (show ¬ nI 61 = 30 by decide), if_neg (show ¬ nI 61 = 31 by decide), if_neg (show ¬ nI 61 = 40 by decide), if_neg (show ¬ nI 61 = 41 by decide), if_neg (show ¬ nI 61 = 50 by decide), if_neg (show ¬ nI 61 = 60 by decide), if_pos (show nI 61 = 61 from rfl), show f5_speaks n (d + 11) (nI K) 2 x (nI (q + 1)) (nI K) sp w 0 (nI (t + 1)) (upd tr t (nI 61)) = _ from g2, q_c4_some, show f5_speaks n (d + 11) (nI 1) 3 x (nI (q + 1)) (nI K) sp w 0 (nI t') tr' = _ from e2, q_c4_some, ex4]
  · refine plain ?_ ((sp_6_3 hn (by omega) (by omega) x (nI K) sp w _).trans (s13 _))
    rw [f7_tells.eq_2, if_neg (show ¬ nI 6 = 0 by decide), if_neg (show ¬ nI 6 = 1 by decide), if_neg (show ¬ nI 6 = 2 by decide), if_neg (show ¬ nI 6 = 3 by decide), if_neg (show ¬ nI 6 = 4 by decide), if_neg (show ¬ nI 6 = 5 by decide), if_pos (show nI 6 = 6 from rfl), f7_tells_187, ab_6, q_c_some, r0 (e := e + 1) 0 tr (by omega), q_c4_some]
  · have e2 : f5_speaks n (d + 11) (nI 0) (nI 3) x (nI (q + 1)) (nI K) sp w 0 (nI (t + 1)) (upd tr t (nI 81)) = some (v, p, nI (t + 1 + 1), upd (upd tr t (nI 81)) (t + 1) (nI 13)) := (sp_0_3 hn (by omega) (by omega) x (nI K) sp w _).trans (s13 _)
    refine ⟨v ^^^ 5, v ^^^ 5, p, t + 1 + 1, upd (upd tr t (nI 81)) (t + 1) (nI 13), hp01, fun _ => rfl, ?_, ?_, by omega⟩
    · rw [f7_tells.eq_2, if_neg (show ¬ nI 7 = 0 by decide), if_neg (show ¬ nI 7 = 1 by decide), if_neg (show ¬ nI 7 = 2 by decide), if_neg (show ¬ nI 7 = 3 by decide), if_neg (show ¬ nI 7 = 4 by decide), if_neg (show ¬ nI 7 = 5 by decide), if_neg (show ¬ nI 7 = 6 by decide), if_pos (show nI 7 = 7 from rfl), show f7_begins 81 (nI t) tr = _ from r_begins (b := 81) (by omega) tr, q_c2_some, show f7_above 7 = _ from ab_7, q_c_some, r0 0 _ (by omega), q_c4_some]
    · rw [sp_7_3 hn (by omega) (by omega), g5_saysAbove, if_neg (show ¬ nI 81 = 20 by decide), if_neg (show ¬ nI 81 = 21 by decide), if_neg (show ¬ nI 81 = 30 by decide), if_neg (show ¬ nI 81 = 31 by decide), if_neg (show ¬ nI 81 = 40 by decide), if_neg (show ¬ nI 81 = 41 by decide), if_neg (show ¬ nI 81 = 50 by decide), if_neg (show ¬ nI 81 = 60 by decide), if_neg (show ¬ nI 81 = 61 by decide), if_neg (show ¬ nI 81 = 80 by decide), if_pos (show nI 81 = 81 from rfl), show f5_speaks n (d + 11) (nI 0) 3 x (nI (q + 1)) (nI K) sp w 0 (nI (t + 1)) (upd tr t (nI 81)) = _ from e2, q_c4_some, ex4]

