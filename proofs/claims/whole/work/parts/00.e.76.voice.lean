/-! ===== voices ===== -/
theorem tb_0 : t_BODIES 0 = nI 10 := by decide
theorem tb_1 : t_BODIES 1 = nI 11 := by decide
theorem tb_2 : t_BODIES 2 = nI 12 := by decide
theorem tb_3 : t_BODIES 3 = nI 13 := by decide
theorem tb_4 : t_BODIES 4 = nI 20 := by decide
theorem tb_5 : t_BODIES 5 = nI 0 := by decide
theorem tb_6 : t_BODIES 6 = nI 21 := by decide
theorem tb_7 : t_BODIES 7 = nI 0 := by decide
theorem tb_8 : t_BODIES 8 = nI 0 := by decide
theorem tb_9 : t_BODIES 9 = nI 30 := by decide
theorem tb_10 : t_BODIES 10 = nI 0 := by decide
theorem tb_11 : t_BODIES 11 = nI 31 := by decide
theorem tb_12 : t_BODIES 12 = nI 0 := by decide
theorem tb_13 : t_BODIES 13 = nI 40 := by decide
theorem tb_14 : t_BODIES 14 = nI 41 := by decide
theorem tb_15 : t_BODIES 15 = nI 0 := by decide
theorem tb_16 : t_BODIES 16 = nI 50 := by decide
theorem tb_17 : t_BODIES 17 = nI 0 := by decide
theorem tb_18 : t_BODIES 18 = nI 0 := by decide
theorem tb_19 : t_BODIES 19 = nI 0 := by decide
theorem tb_20 : t_BODIES 20 = nI 0 := by decide
theorem tb_21 : t_BODIES 21 = nI 0 := by decide
theorem tb_22 : t_BODIES 22 = nI 60 := by decide
theorem tb_23 : t_BODIES 23 = nI 61 := by decide
theorem tb_24 : t_BODIES 24 = nI 70 := by decide
theorem tb_25 : t_BODIES 25 = nI 0 := by decide
theorem tb_26 : t_BODIES 26 = nI 0 := by decide
theorem tb_27 : t_BODIES 27 = nI 0 := by decide
theorem tb_28 : t_BODIES 28 = nI 0 := by decide
theorem tb_29 : t_BODIES 29 = nI 80 := by decide
theorem tb_30 : t_BODIES 30 = nI 0 := by decide
theorem tb_31 : t_BODIES 31 = nI 81 := by decide
theorem ta_1 : t_KIND_ABOVE 1 = nI 0 := by decide
theorem ta_2 : t_KIND_ABOVE 2 = nI 0 := by decide
theorem ta_3 : t_KIND_ABOVE 3 = nI 2 := by decide
theorem ta_4 : t_KIND_ABOVE 4 = nI 1 := by decide
theorem ta_5 : t_KIND_ABOVE 5 = nI 1 := by decide
theorem ta_6 : t_KIND_ABOVE 6 = nI 0 := by decide
theorem ta_7 : t_KIND_ABOVE 7 = nI 0 := by decide
theorem nlt41 {q : Nat} (h : q ≤ 40) : ¬ 40 < q := by omega
/-- bodies as they began -/
def apl : (Nat → Int32) → Nat → List Nat → (Nat → Int32)
  | tr, _, [] => tr
  | tr, t, b :: r => apl (upd tr t (nI b)) (t + 1) r
theorem apl_append : ∀ (l1 l2 : List Nat) (tr : Nat → Int32) (t : Nat), apl tr t (l1 ++ l2) = apl (apl tr t l1) (t + l1.length) l2
  | [], _, _, _ => rfl
  | b :: r, l2, tr, t => by
    show apl (upd tr t (nI b)) (t + 1) (r ++ l2) = apl (apl (upd tr t (nI b)) (t + 1) r) (t + (r.length + 1)) l2
    rw [apl_append r l2, show t + 1 + r.length = t + (r.length + 1) by omega]
theorem r_begins {b t : Nat} (ht : t < 30) (tr : Nat → Int32) : f7_begins (nI b) (nI t) tr = some (nI (t + 1), upd tr t (nI b)) := by
  have e : ¬ 30 ≤ t := by omega
  simp (disch := omega) only [z_0, z_1, z_2, z_3, z_4, z_5, z_6, z_7, z_8, z_9, z_10, z_11, z_12, z_13, z_16, z_20, z_21, z_24, z_30, z_31, z_32, z_33, z_37, z_38, z_39, z_40, z_41, z_42, z_43, z_44, z_45, z_46, z_47, z_48, z_49, z_50, z_51, z_52, z_53, z_54, z_55, z_56, z_57, z_58, z_59, z_60, z_61, z_62, z_63, z_70, z_80, z_81, z_97, z_98, z_99, z_100, z_101, z_107, z_108, z_109, z_111, z_114, z_117, z_119, z_124, z_125, z_255, z_310, z_380, z_480, z_999, z_1440, z_1600, z_2820, z_2890, z_3890, z_3950, z_3974, z_9999, z_12345, z_29999, pk_mul, nI_add, q_ldI, q_stI, nI_leI, nI_ltI, nI_eq, q_c_some, q_c1_some, q_c2_some, q_c3_some, q_c4_some, q_c5_some, q_c7_some, q_c8_some, q_c9_some, q_c10_some, q_c11_some, q_c12_some, q_ltP, q_bzN0, q_bzN1, q_dvI, b_eq0, b_eq1, n10, Nat.reduceEqDiff, Nat.reduceLeDiff, ↓reduceIte, if_true, if_false, f7_begins, f7_begins_29, e]
def dl : Nat → List Nat
  | 1 => [20, 10]
  | 4 => [50, 20, 10]
  | 5 => [20, 10]
  | 6 => [70]
  | _ => [10]
def dV (w x : Int32) : Nat → Int32
  | 1 => x + w + nI 3
  | 4 => (x + w + nI 3) * nI 3
  | 5 => x + w + nI 3
  | 6 => nI 0
  | _ => x + w
theorem dl_len (k : Nat) : (dl k).length ≤ 3 := by
  unfold dl
  split <;> simp

theorem n_fuel (n m : Nat) (h : 4100 ≤ n) (hm : m ≤ 100) : ∃ q, n = q + m := ⟨n - m, by omega⟩
section
variable {n kk k v c t : Nat} {FS : Int32 → Int32 → Int32 → Int32 → Int32 → Int32 → Int32 → Int32 → Int32 → (Nat → Int32) → Option (Int32 × Int32 × Int32 × (Nat → Int32))} {x q K num w p : Int32} {tr : Nat → Int32}
theorem cl_up (hk0 : 0 < k) (hk : k ≤ 7) (hv : v ≤ 3) (hc : c < 8) {a : Nat} (h : t_BODIES (k * 4 + v) = nI 0) (ha : t_KIND_ABOVE k = nI a) : f5_speaks_26 n FS K num w (kk + 1) (nI v) x q (nI k) (nI c) p (nI t) tr = f5_speaks_26 n FS K num w kk (nI v) x q (nI a) (nI (c + 1)) p (nI t) tr := by
  rw [f5_speaks_26.eq_2, if_neg (show ¬ (8 : Int32) ≤ nI c from nI_ge (b := 8) hc (by omega)), if_neg (nI_nle hk0 (by omega)), show nI k * 4 + nI v = nI (k * 4 + v) from by rw [show (4 : Int32) = nI 4 from by decide, pk_mul, nI_add], q_ldI (by omega) (by omega), h, if_pos i0, q_ldI (by omega) (by omega), ha, q_ltP, nI_1]
theorem cl_at (hk : k ≤ 7) (hv : v ≤ 3) (hc : c < 8) {b : Nat} (hb : 0 < b ∧ b < 100) (h : t_BODIES (k * 4 + v) = nI b) : f5_speaks_26 n FS K num w (kk + 1) (nI v) x q (nI k) (nI c) p (nI t) tr = f5_speaks_65 n FS K num w (nI v) x q (nI k) p (nI t) tr := by
  rw [f5_speaks_26.eq_2, if_neg (show ¬ (8 : Int32) ≤ nI c from nI_ge (b := 8) hc (by omega)), show nI k * 4 + nI v = nI (k * 4 + v) from by rw [show (4 : Int32) = nI 4 from by decide, pk_mul, nI_add], q_ldI (by omega) (by omega), h, if_neg (nI_ne0 hb.1 (by omega)), ite_self]
theorem cl_65 (hk : k ≤ 7) (hv : v ≤ 3) (ht : t < 30) {b : Nat} (h : t_BODIES (k * 4 + v) = nI b) : f5_speaks_65 n FS K num w (nI v) x q (nI k) p (nI t) tr = f5_speaks_107 n FS K num w x q (nI k) (nI b) p (nI (t + 1)) (upd tr t (nI b)) := by
  rw [f5_speaks_65, show nI k * 4 + nI v = nI (k * 4 + v) from by rw [show (4 : Int32) = nI 4 from by decide, pk_mul, nI_add], q_ldI (by omega) (by omega), h, if_neg (show ¬ (30 : Int32) ≤ nI t from nI_ge (b := 30) ht (by omega)), q_stI (by omega) (by omega), q_ltP, nI_1]
theorem cl_70 {b : Nat} : f5_speaks_107 n FS K num w x q (nI 0) (nI b) p (nI t) tr = q_c4 (g5_says n FS (nI b) x (q + 1) K num w p (nI t) tr) fun a b c e => some (a, b, c, e) := by
  rw [f5_speaks_107, if_pos i0]
  rfl
theorem cl_7k (hk0 : 0 < k) (hk : k ≤ 7) {a b : Nat} (ha : t_KIND_ABOVE k = nI a) : f5_speaks_107 n FS K num w x q (nI k) (nI b) p (nI t) tr = q_c4 (g5_saysAbove n FS (nI b) (nI a) x (q + 1) K num w p (nI t) tr) fun a b c e => some (a, b, c, e) := by
  rw [f5_speaks_107, if_neg (nI_ne0 hk0 (by omega)), q_ldI (by omega) (by omega), ha]
  rfl
theorem sp_in {d q k v t : Nat} (hq : q ≤ 40) (hk : k ≤ 7) : f5_speaks n (d + 1) (nI k) (nI v) x (nI q) K num w 0 (nI t) tr = f5_speaks_26 n (f5_speaks n d) K num w n (nI v) x (nI q) (nI k) (nI 0) 0 (nI t) tr := by
  rw [f5_speaks.eq_2, if_pos rfl, if_neg (show ¬ (40 : Int32) < nI q from nI_nlt (a := 40) (b := q) (by omega) (by omega)), if_pos (nI_pos' (by omega))]
  rfl
end
theorem sp_0_0 {n d q t : Nat} (hn : 4100 ≤ n) (hq : q ≤ 40) (ht : t < 30) (x K num w : Int32) (tr : Nat → Int32) : f5_speaks n (d + 1) (nI 0) (nI 0) x (nI q) K num w 0 (nI t) tr = q_c4 (g5_says n (f5_speaks n d) (nI 10) x (nI (q + 1)) K num w 0 (nI (t + 1)) (upd tr t (nI 10))) fun a b c e => some (a, b, c, e) := by
  obtain ⟨n, rfl⟩ := n_fuel n 9 hn (by omega)
  rw [sp_in hq (by omega), show f5_speaks_26 (n + 9) (f5_speaks (n + 9) d) K num w (n + 9) = f5_speaks_26 (n + 9) (f5_speaks (n + 9) d) K num w (n + 5 + 1 + 1 + 1 + 1) from rfl, cl_at (k := 0) (b := 10) (by omega) (by omega) (by omega) (by omega) tb_0, cl_65 (k := 0) (by omega) (by omega) ht tb_0, cl_70, nI_1]
theorem sp_0_1 {n d q t : Nat} (hn : 4100 ≤ n) (hq : q ≤ 40) (ht : t < 30) (x K num w : Int32) (tr : Nat → Int32) : f5_speaks n (d + 1) (nI 0) (nI 1) x (nI q) K num w 0 (nI t) tr = q_c4 (g5_says n (f5_speaks n d) (nI 11) x (nI (q + 1)) K num w 0 (nI (t + 1)) (upd tr t (nI 11))) fun a b c e => some (a, b, c, e) := by
  obtain ⟨n, rfl⟩ := n_fuel n 9 hn (by omega)
  rw [sp_in hq (by omega), show f5_speaks_26 (n + 9) (f5_speaks (n + 9) d) K num w (n + 9) = f5_speaks_26 (n + 9) (f5_speaks (n + 9) d) K num w (n + 5 + 1 + 1 + 1 + 1) from rfl, cl_at (k := 0) (b := 11) (by omega) (by omega) (by omega) (by omega) tb_1, cl_65 (k := 0) (by omega) (by omega) ht tb_1, cl_70, nI_1]
theorem sp_0_2 {n d q t : Nat} (hn : 4100 ≤ n) (hq : q ≤ 40) (ht : t < 30) (x K num w : Int32) (tr : Nat → Int32) : f5_speaks n (d + 1) (nI 0) (nI 2) x (nI q) K num w 0 (nI t) tr = q_c4 (g5_says n (f5_speaks n d) (nI 12) x (nI (q + 1)) K num w 0 (nI (t + 1)) (upd tr t (nI 12))) fun a b c e => some (a, b, c, e) := by
  obtain ⟨n, rfl⟩ := n_fuel n 9 hn (by omega)
  rw [sp_in hq (by omega), show f5_speaks_26 (n + 9) (f5_speaks (n + 9) d) K num w (n + 9) = f5_speaks_26 (n + 9) (f5_speaks (n + 9) d) K num w (n + 5 + 1 + 1 + 1 + 1) from rfl, cl_at (k := 0) (b := 12) (by omega) (by omega) (by omega) (by omega) tb_2, cl_65 (k := 0) (by omega) (by omega) ht tb_2, cl_70, nI_1]
theorem sp_0_3 {n d q t : Nat} (hn : 4100 ≤ n) (hq : q ≤ 40) (ht : t < 30) (x K num w : Int32) (tr : Nat → Int32) : f5_speaks n (d + 1) (nI 0) (nI 3) x (nI q) K num w 0 (nI t) tr = q_c4 (g5_says n (f5_speaks n d) (nI 13) x (nI (q + 1)) K num w 0 (nI (t + 1)) (upd tr t (nI 13))) fun a b c e => some (a, b, c, e) := by
  obtain ⟨n, rfl⟩ := n_fuel n 9 hn (by omega)
  rw [sp_in hq (by omega), show f5_speaks_26 (n + 9) (f5_speaks (n + 9) d) K num w (n + 9) = f5_speaks_26 (n + 9) (f5_speaks (n + 9) d) K num w (n + 5 + 1 + 1 + 1 + 1) from rfl, cl_at (k := 0) (b := 13) (by omega) (by omega) (by omega) (by omega) tb_3, cl_65 (k := 0) (by omega) (by omega) ht tb_3, cl_70, nI_1]
theorem sp_1_0 {n d q t : Nat} (hn : 4100 ≤ n) (hq : q ≤ 40) (ht : t < 30) (x K num w : Int32) (tr : Nat → Int32) : f5_speaks n (d + 1) (nI 1) (nI 0) x (nI q) K num w 0 (nI t) tr = q_c4 (g5_saysAbove n (f5_speaks n d) (nI 20) (nI 0) x (nI (q + 1)) K num w 0 (nI (t + 1)) (upd tr t (nI 20))) fun a b c e => some (a, b, c, e) := by
  obtain ⟨n, rfl⟩ := n_fuel n 9 hn (by omega)
  rw [sp_in hq (by omega), show f5_speaks_26 (n + 9) (f5_speaks (n + 9) d) K num w (n + 9) = f5_speaks_26 (n + 9) (f5_speaks (n + 9) d) K num w (n + 5 + 1 + 1 + 1 + 1) from rfl, cl_at (k := 1) (b := 20) (by omega) (by omega) (by omega) (by omega) tb_4, cl_65 (k := 1) (by omega) (by omega) ht tb_4, cl_7k (by omega) (by omega) ta_1, nI_1]
theorem sp_1_1 {n d q t : Nat} (hn : 4100 ≤ n) (hq : q ≤ 40) (ht : t < 30) (x K num w : Int32) (tr : Nat → Int32) : f5_speaks n (d + 1) (nI 1) (nI 1) x (nI q) K num w 0 (nI t) tr = q_c4 (g5_says n (f5_speaks n d) (nI 11) x (nI (q + 1)) K num w 0 (nI (t + 1)) (upd tr t (nI 11))) fun a b c e => some (a, b, c, e) := by
  obtain ⟨n, rfl⟩ := n_fuel n 9 hn (by omega)
  rw [sp_in hq (by omega), show f5_speaks_26 (n + 9) (f5_speaks (n + 9) d) K num w (n + 9) = f5_speaks_26 (n + 9) (f5_speaks (n + 9) d) K num w (n + 5 + 1 + 1 + 1 + 1) from rfl, cl_up (k := 1) (a := 0) (by omega) (by omega) (by omega) (by omega) tb_5 ta_1, cl_at (k := 0) (b := 11) (by omega) (by omega) (by omega) (by omega) tb_1, cl_65 (k := 0) (by omega) (by omega) ht tb_1, cl_70, nI_1]
theorem sp_1_2 {n d q t : Nat} (hn : 4100 ≤ n) (hq : q ≤ 40) (ht : t < 30) (x K num w : Int32) (tr : Nat → Int32) : f5_speaks n (d + 1) (nI 1) (nI 2) x (nI q) K num w 0 (nI t) tr = q_c4 (g5_saysAbove n (f5_speaks n d) (nI 21) (nI 0) x (nI (q + 1)) K num w 0 (nI (t + 1)) (upd tr t (nI 21))) fun a b c e => some (a, b, c, e) := by
  obtain ⟨n, rfl⟩ := n_fuel n 9 hn (by omega)
  rw [sp_in hq (by omega), show f5_speaks_26 (n + 9) (f5_speaks (n + 9) d) K num w (n + 9) = f5_speaks_26 (n + 9) (f5_speaks (n + 9) d) K num w (n + 5 + 1 + 1 + 1 + 1) from rfl, cl_at (k := 1) (b := 21) (by omega) (by omega) (by omega) (by omega) tb_6, cl_65 (k := 1) (by omega) (by omega) ht tb_6, cl_7k (by omega) (by omega) ta_1, nI_1]
theorem sp_1_3 {n d q t : Nat} (hn : 4100 ≤ n) (hq : q ≤ 40) (ht : t < 30) (x K num w : Int32) (tr : Nat → Int32) : f5_speaks n (d + 1) (nI 1) (nI 3) x (nI q) K num w 0 (nI t) tr = q_c4 (g5_says n (f5_speaks n d) (nI 13) x (nI (q + 1)) K num w 0 (nI (t + 1)) (upd tr t (nI 13))) fun a b c e => some (a, b, c, e) := by
  obtain ⟨n, rfl⟩ := n_fuel n 9 hn (by omega)
  rw [sp_in hq (by omega), show f5_speaks_26 (n + 9) (f5_speaks (n + 9) d) K num w (n + 9) = f5_speaks_26 (n + 9) (f5_speaks (n + 9) d) K num w (n + 5 + 1 + 1 + 1 + 1) from rfl, cl_up (k := 1) (a := 0) (by omega) (by omega) (by omega) (by omega) tb_7 ta_1, cl_at (k := 0) (b := 13) (by omega) (by omega) (by omega) (by omega) tb_3, cl_65 (k := 0) (by omega) (by omega) ht tb_3, cl_70, nI_1]
theorem sp_2_0 {n d q t : Nat} (hn : 4100 ≤ n) (hq : q ≤ 40) (ht : t < 30) (x K num w : Int32) (tr : Nat → Int32) : f5_speaks n (d + 1) (nI 2) (nI 0) x (nI q) K num w 0 (nI t) tr = q_c4 (g5_says n (f5_speaks n d) (nI 10) x (nI (q + 1)) K num w 0 (nI (t + 1)) (upd tr t (nI 10))) fun a b c e => some (a, b, c, e) := by
  obtain ⟨n, rfl⟩ := n_fuel n 9 hn (by omega)
  rw [sp_in hq (by omega), show f5_speaks_26 (n + 9) (f5_speaks (n + 9) d) K num w (n + 9) = f5_speaks_26 (n + 9) (f5_speaks (n + 9) d) K num w (n + 5 + 1 + 1 + 1 + 1) from rfl, cl_up (k := 2) (a := 0) (by omega) (by omega) (by omega) (by omega) tb_8 ta_2, cl_at (k := 0) (b := 10) (by omega) (by omega) (by omega) (by omega) tb_0, cl_65 (k := 0) (by omega) (by omega) ht tb_0, cl_70, nI_1]
theorem sp_2_1 {n d q t : Nat} (hn : 4100 ≤ n) (hq : q ≤ 40) (ht : t < 30) (x K num w : Int32) (tr : Nat → Int32) : f5_speaks n (d + 1) (nI 2) (nI 1) x (nI q) K num w 0 (nI t) tr = q_c4 (g5_saysAbove n (f5_speaks n d) (nI 30) (nI 0) x (nI (q + 1)) K num w 0 (nI (t + 1)) (upd tr t (nI 30))) fun a b c e => some (a, b, c, e) := by
  obtain ⟨n, rfl⟩ := n_fuel n 9 hn (by omega)
  rw [sp_in hq (by omega), show f5_speaks_26 (n + 9) (f5_speaks (n + 9) d) K num w (n + 9) = f5_speaks_26 (n + 9) (f5_speaks (n + 9) d) K num w (n + 5 + 1 + 1 + 1 + 1) from rfl, cl_at (k := 2) (b := 30) (by omega) (by omega) (by omega) (by omega) tb_9, cl_65 (k := 2) (by omega) (by omega) ht tb_9, cl_7k (by omega) (by omega) ta_2, nI_1]
theorem sp_2_2 {n d q t : Nat} (hn : 4100 ≤ n) (hq : q ≤ 40) (ht : t < 30) (x K num w : Int32) (tr : Nat → Int32) : f5_speaks n (d + 1) (nI 2) (nI 2) x (nI q) K num w 0 (nI t) tr = q_c4 (g5_says n (f5_speaks n d) (nI 12) x (nI (q + 1)) K num w 0 (nI (t + 1)) (upd tr t (nI 12))) fun a b c e => some (a, b, c, e) := by
  obtain ⟨n, rfl⟩ := n_fuel n 9 hn (by omega)
  rw [sp_in hq (by omega), show f5_speaks_26 (n + 9) (f5_speaks (n + 9) d) K num w (n + 9) = f5_speaks_26 (n + 9) (f5_speaks (n + 9) d) K num w (n + 5 + 1 + 1 + 1 + 1) from rfl, cl_up (k := 2) (a := 0) (by omega) (by omega) (by omega) (by omega) tb_10 ta_2, cl_at (k := 0) (b := 12) (by omega) (by omega) (by omega) (by omega) tb_2, cl_65 (k := 0) (by omega) (by omega) ht tb_2, cl_70, nI_1]
theorem sp_2_3 {n d q t : Nat} (hn : 4100 ≤ n) (hq : q ≤ 40) (ht : t < 30) (x K num w : Int32) (tr : Nat → Int32) : f5_speaks n (d + 1) (nI 2) (nI 3) x (nI q) K num w 0 (nI t) tr = q_c4 (g5_saysAbove n (f5_speaks n d) (nI 31) (nI 0) x (nI (q + 1)) K num w 0 (nI (t + 1)) (upd tr t (nI 31))) fun a b c e => some (a, b, c, e) := by
  obtain ⟨n, rfl⟩ := n_fuel n 9 hn (by omega)
  rw [sp_in hq (by omega), show f5_speaks_26 (n + 9) (f5_speaks (n + 9) d) K num w (n + 9) = f5_speaks_26 (n + 9) (f5_speaks (n + 9) d) K num w (n + 5 + 1 + 1 + 1 + 1) from rfl, cl_at (k := 2) (b := 31) (by omega) (by omega) (by omega) (by omega) tb_11, cl_65 (k := 2) (by omega) (by omega) ht tb_11, cl_7k (by omega) (by omega) ta_2, nI_1]
theorem sp_3_0 {n d q t : Nat} (hn : 4100 ≤ n) (hq : q ≤ 40) (ht : t < 30) (x K num w : Int32) (tr : Nat → Int32) : f5_speaks n (d + 1) (nI 3) (nI 0) x (nI q) K num w 0 (nI t) tr = q_c4 (g5_says n (f5_speaks n d) (nI 10) x (nI (q + 1)) K num w 0 (nI (t + 1)) (upd tr t (nI 10))) fun a b c e => some (a, b, c, e) := by
  obtain ⟨n, rfl⟩ := n_fuel n 9 hn (by omega)
  rw [sp_in hq (by omega), show f5_speaks_26 (n + 9) (f5_speaks (n + 9) d) K num w (n + 9) = f5_speaks_26 (n + 9) (f5_speaks (n + 9) d) K num w (n + 5 + 1 + 1 + 1 + 1) from rfl, cl_up (k := 3) (a := 2) (by omega) (by omega) (by omega) (by omega) tb_12 ta_3, cl_up (k := 2) (a := 0) (by omega) (by omega) (by omega) (by omega) tb_8 ta_2, cl_at (k := 0) (b := 10) (by omega) (by omega) (by omega) (by omega) tb_0, cl_65 (k := 0) (by omega) (by omega) ht tb_0, cl_70, nI_1]
theorem sp_3_1 {n d q t : Nat} (hn : 4100 ≤ n) (hq : q ≤ 40) (ht : t < 30) (x K num w : Int32) (tr : Nat → Int32) : f5_speaks n (d + 1) (nI 3) (nI 1) x (nI q) K num w 0 (nI t) tr = q_c4 (g5_saysAbove n (f5_speaks n d) (nI 40) (nI 2) x (nI (q + 1)) K num w 0 (nI (t + 1)) (upd tr t (nI 40))) fun a b c e => some (a, b, c, e) := by
  obtain ⟨n, rfl⟩ := n_fuel n 9 hn (by omega)
  rw [sp_in hq (by omega), show f5_speaks_26 (n + 9) (f5_speaks (n + 9) d) K num w (n + 9) = f5_speaks_26 (n + 9) (f5_speaks (n + 9) d) K num w (n + 5 + 1 + 1 + 1 + 1) from rfl, cl_at (k := 3) (b := 40) (by omega) (by omega) (by omega) (by omega) tb_13, cl_65 (k := 3) (by omega) (by omega) ht tb_13, cl_7k (by omega) (by omega) ta_3, nI_1]
theorem sp_3_2 {n d q t : Nat} (hn : 4100 ≤ n) (hq : q ≤ 40) (ht : t < 30) (x K num w : Int32) (tr : Nat → Int32) : f5_speaks n (d + 1) (nI 3) (nI 2) x (nI q) K num w 0 (nI t) tr = q_c4 (g5_saysAbove n (f5_speaks n d) (nI 41) (nI 2) x (nI (q + 1)) K num w 0 (nI (t + 1)) (upd tr t (nI 41))) fun a b c e => some (a, b, c, e) := by
  obtain ⟨n, rfl⟩ := n_fuel n 9 hn (by omega)
  rw [sp_in hq (by omega), show f5_speaks_26 (n + 9) (f5_speaks (n + 9) d) K num w (n + 9) = f5_speaks_26 (n + 9) (f5_speaks (n + 9) d) K num w (n + 5 + 1 + 1 + 1 + 1) from rfl, cl_at (k := 3) (b := 41) (by omega) (by omega) (by omega) (by omega) tb_14, cl_65 (k := 3) (by omega) (by omega) ht tb_14, cl_7k (by omega) (by omega) ta_3, nI_1]
theorem sp_3_3 {n d q t : Nat} (hn : 4100 ≤ n) (hq : q ≤ 40) (ht : t < 30) (x K num w : Int32) (tr : Nat → Int32) : f5_speaks n (d + 1) (nI 3) (nI 3) x (nI q) K num w 0 (nI t) tr = q_c4 (g5_saysAbove n (f5_speaks n d) (nI 31) (nI 0) x (nI (q + 1)) K num w 0 (nI (t + 1)) (upd tr t (nI 31))) fun a b c e => some (a, b, c, e) := by
  obtain ⟨n, rfl⟩ := n_fuel n 9 hn (by omega)
  rw [sp_in hq (by omega), show f5_speaks_26 (n + 9) (f5_speaks (n + 9) d) K num w (n + 9) = f5_speaks_26 (n + 9) (f5_speaks (n + 9) d) K num w (n + 5 + 1 + 1 + 1 + 1) from rfl, cl_up (k := 3) (a := 2) (by omega) (by omega) (by omega) (by omega) tb_15 ta_3, cl_at (k := 2) (b := 31) (by omega) (by omega) (by omega) (by omega) tb_11, cl_65 (k := 2) (by omega) (by omega) ht tb_11, cl_7k (by omega) (by omega) ta_2, nI_1]
theorem sp_4_0 {n d q t : Nat} (hn : 4100 ≤ n) (hq : q ≤ 40) (ht : t < 30) (x K num w : Int32) (tr : Nat → Int32) : f5_speaks n (d + 1) (nI 4) (nI 0) x (nI q) K num w 0 (nI t) tr = q_c4 (g5_saysAbove n (f5_speaks n d) (nI 50) (nI 1) x (nI (q + 1)) K num w 0 (nI (t + 1)) (upd tr t (nI 50))) fun a b c e => some (a, b, c, e) := by
  obtain ⟨n, rfl⟩ := n_fuel n 9 hn (by omega)
  rw [sp_in hq (by omega), show f5_speaks_26 (n + 9) (f5_speaks (n + 9) d) K num w (n + 9) = f5_speaks_26 (n + 9) (f5_speaks (n + 9) d) K num w (n + 5 + 1 + 1 + 1 + 1) from rfl, cl_at (k := 4) (b := 50) (by omega) (by omega) (by omega) (by omega) tb_16, cl_65 (k := 4) (by omega) (by omega) ht tb_16, cl_7k (by omega) (by omega) ta_4, nI_1]
theorem sp_4_1 {n d q t : Nat} (hn : 4100 ≤ n) (hq : q ≤ 40) (ht : t < 30) (x K num w : Int32) (tr : Nat → Int32) : f5_speaks n (d + 1) (nI 4) (nI 1) x (nI q) K num w 0 (nI t) tr = q_c4 (g5_says n (f5_speaks n d) (nI 11) x (nI (q + 1)) K num w 0 (nI (t + 1)) (upd tr t (nI 11))) fun a b c e => some (a, b, c, e) := by
  obtain ⟨n, rfl⟩ := n_fuel n 9 hn (by omega)
  rw [sp_in hq (by omega), show f5_speaks_26 (n + 9) (f5_speaks (n + 9) d) K num w (n + 9) = f5_speaks_26 (n + 9) (f5_speaks (n + 9) d) K num w (n + 5 + 1 + 1 + 1 + 1) from rfl, cl_up (k := 4) (a := 1) (by omega) (by omega) (by omega) (by omega) tb_17 ta_4, cl_up (k := 1) (a := 0) (by omega) (by omega) (by omega) (by omega) tb_5 ta_1, cl_at (k := 0) (b := 11) (by omega) (by omega) (by omega) (by omega) tb_1, cl_65 (k := 0) (by omega) (by omega) ht tb_1, cl_70, nI_1]
theorem sp_4_2 {n d q t : Nat} (hn : 4100 ≤ n) (hq : q ≤ 40) (ht : t < 30) (x K num w : Int32) (tr : Nat → Int32) : f5_speaks n (d + 1) (nI 4) (nI 2) x (nI q) K num w 0 (nI t) tr = q_c4 (g5_saysAbove n (f5_speaks n d) (nI 21) (nI 0) x (nI (q + 1)) K num w 0 (nI (t + 1)) (upd tr t (nI 21))) fun a b c e => some (a, b, c, e) := by
  obtain ⟨n, rfl⟩ := n_fuel n 9 hn (by omega)
  rw [sp_in hq (by omega), show f5_speaks_26 (n + 9) (f5_speaks (n + 9) d) K num w (n + 9) = f5_speaks_26 (n + 9) (f5_speaks (n + 9) d) K num w (n + 5 + 1 + 1 + 1 + 1) from rfl, cl_up (k := 4) (a := 1) (by omega) (by omega) (by omega) (by omega) tb_18 ta_4, cl_at (k := 1) (b := 21) (by omega) (by omega) (by omega) (by omega) tb_6, cl_65 (k := 1) (by omega) (by omega) ht tb_6, cl_7k (by omega) (by omega) ta_1, nI_1]
theorem sp_4_3 {n d q t : Nat} (hn : 4100 ≤ n) (hq : q ≤ 40) (ht : t < 30) (x K num w : Int32) (tr : Nat → Int32) : f5_speaks n (d + 1) (nI 4) (nI 3) x (nI q) K num w 0 (nI t) tr = q_c4 (g5_says n (f5_speaks n d) (nI 13) x (nI (q + 1)) K num w 0 (nI (t + 1)) (upd tr t (nI 13))) fun a b c e => some (a, b, c, e) := by
  obtain ⟨n, rfl⟩ := n_fuel n 9 hn (by omega)
  rw [sp_in hq (by omega), show f5_speaks_26 (n + 9) (f5_speaks (n + 9) d) K num w (n + 9) = f5_speaks_26 (n + 9) (f5_speaks (n + 9) d) K num w (n + 5 + 1 + 1 + 1 + 1) from rfl, cl_up (k := 4) (a := 1) (by omega) (by omega) (by omega) (by omega) tb_19 ta_4, cl_up (k := 1) (a := 0) (by omega) (by omega) (by omega) (by omega) tb_7 ta_1, cl_at (k := 0) (b := 13) (by omega) (by omega) (by omega) (by omega) tb_3, cl_65 (k := 0) (by omega) (by omega) ht tb_3, cl_70, nI_1]
theorem sp_5_0 {n d q t : Nat} (hn : 4100 ≤ n) (hq : q ≤ 40) (ht : t < 30) (x K num w : Int32) (tr : Nat → Int32) : f5_speaks n (d + 1) (nI 5) (nI 0) x (nI q) K num w 0 (nI t) tr = q_c4 (g5_saysAbove n (f5_speaks n d) (nI 20) (nI 0) x (nI (q + 1)) K num w 0 (nI (t + 1)) (upd tr t (nI 20))) fun a b c e => some (a, b, c, e) := by
  obtain ⟨n, rfl⟩ := n_fuel n 9 hn (by omega)
  rw [sp_in hq (by omega), show f5_speaks_26 (n + 9) (f5_speaks (n + 9) d) K num w (n + 9) = f5_speaks_26 (n + 9) (f5_speaks (n + 9) d) K num w (n + 5 + 1 + 1 + 1 + 1) from rfl, cl_up (k := 5) (a := 1) (by omega) (by omega) (by omega) (by omega) tb_20 ta_5, cl_at (k := 1) (b := 20) (by omega) (by omega) (by omega) (by omega) tb_4, cl_65 (k := 1) (by omega) (by omega) ht tb_4, cl_7k (by omega) (by omega) ta_1, nI_1]
theorem sp_5_1 {n d q t : Nat} (hn : 4100 ≤ n) (hq : q ≤ 40) (ht : t < 30) (x K num w : Int32) (tr : Nat → Int32) : f5_speaks n (d + 1) (nI 5) (nI 1) x (nI q) K num w 0 (nI t) tr = q_c4 (g5_says n (f5_speaks n d) (nI 11) x (nI (q + 1)) K num w 0 (nI (t + 1)) (upd tr t (nI 11))) fun a b c e => some (a, b, c, e) := by
  obtain ⟨n, rfl⟩ := n_fuel n 9 hn (by omega)
  rw [sp_in hq (by omega), show f5_speaks_26 (n + 9) (f5_speaks (n + 9) d) K num w (n + 9) = f5_speaks_26 (n + 9) (f5_speaks (n + 9) d) K num w (n + 5 + 1 + 1 + 1 + 1) from rfl, cl_up (k := 5) (a := 1) (by omega) (by omega) (by omega) (by omega) tb_21 ta_5, cl_up (k := 1) (a := 0) (by omega) (by omega) (by omega) (by omega) tb_5 ta_1, cl_at (k := 0) (b := 11) (by omega) (by omega) (by omega) (by omega) tb_1, cl_65 (k := 0) (by omega) (by omega) ht tb_1, cl_70, nI_1]
theorem sp_5_2 {n d q t : Nat} (hn : 4100 ≤ n) (hq : q ≤ 40) (ht : t < 30) (x K num w : Int32) (tr : Nat → Int32) : f5_speaks n (d + 1) (nI 5) (nI 2) x (nI q) K num w 0 (nI t) tr = q_c4 (g5_saysAbove n (f5_speaks n d) (nI 60) (nI 1) x (nI (q + 1)) K num w 0 (nI (t + 1)) (upd tr t (nI 60))) fun a b c e => some (a, b, c, e) := by
  obtain ⟨n, rfl⟩ := n_fuel n 9 hn (by omega)
  rw [sp_in hq (by omega), show f5_speaks_26 (n + 9) (f5_speaks (n + 9) d) K num w (n + 9) = f5_speaks_26 (n + 9) (f5_speaks (n + 9) d) K num w (n + 5 + 1 + 1 + 1 + 1) from rfl, cl_at (k := 5) (b := 60) (by omega) (by omega) (by omega) (by omega) tb_22, cl_65 (k := 5) (by omega) (by omega) ht tb_22, cl_7k (by omega) (by omega) ta_5, nI_1]
theorem sp_5_3 {n d q t : Nat} (hn : 4100 ≤ n) (hq : q ≤ 40) (ht : t < 30) (x K num w : Int32) (tr : Nat → Int32) : f5_speaks n (d + 1) (nI 5) (nI 3) x (nI q) K num w 0 (nI t) tr = q_c4 (g5_saysAbove n (f5_speaks n d) (nI 61) (nI 1) x (nI (q + 1)) K num w 0 (nI (t + 1)) (upd tr t (nI 61))) fun a b c e => some (a, b, c, e) := by
  obtain ⟨n, rfl⟩ := n_fuel n 9 hn (by omega)
  rw [sp_in hq (by omega), show f5_speaks_26 (n + 9) (f5_speaks (n + 9) d) K num w (n + 9) = f5_speaks_26 (n + 9) (f5_speaks (n + 9) d) K num w (n + 5 + 1 + 1 + 1 + 1) from rfl, cl_at (k := 5) (b := 61) (by omega) (by omega) (by omega) (by omega) tb_23, cl_65 (k := 5) (by omega) (by omega) ht tb_23, cl_7k (by omega) (by omega) ta_5, nI_1]
theorem sp_6_0 {n d q t : Nat} (hn : 4100 ≤ n) (hq : q ≤ 40) (ht : t < 30) (x K num w : Int32) (tr : Nat → Int32) : f5_speaks n (d + 1) (nI 6) (nI 0) x (nI q) K num w 0 (nI t) tr = q_c4 (g5_saysAbove n (f5_speaks n d) (nI 70) (nI 0) x (nI (q + 1)) K num w 0 (nI (t + 1)) (upd tr t (nI 70))) fun a b c e => some (a, b, c, e) := by
  obtain ⟨n, rfl⟩ := n_fuel n 9 hn (by omega)
  rw [sp_in hq (by omega), show f5_speaks_26 (n + 9) (f5_speaks (n + 9) d) K num w (n + 9) = f5_speaks_26 (n + 9) (f5_speaks (n + 9) d) K num w (n + 5 + 1 + 1 + 1 + 1) from rfl, cl_at (k := 6) (b := 70) (by omega) (by omega) (by omega) (by omega) tb_24, cl_65 (k := 6) (by omega) (by omega) ht tb_24, cl_7k (by omega) (by omega) ta_6, nI_1]
theorem sp_6_1 {n d q t : Nat} (hn : 4100 ≤ n) (hq : q ≤ 40) (ht : t < 30) (x K num w : Int32) (tr : Nat → Int32) : f5_speaks n (d + 1) (nI 6) (nI 1) x (nI q) K num w 0 (nI t) tr = q_c4 (g5_says n (f5_speaks n d) (nI 11) x (nI (q + 1)) K num w 0 (nI (t + 1)) (upd tr t (nI 11))) fun a b c e => some (a, b, c, e) := by
  obtain ⟨n, rfl⟩ := n_fuel n 9 hn (by omega)
  rw [sp_in hq (by omega), show f5_speaks_26 (n + 9) (f5_speaks (n + 9) d) K num w (n + 9) = f5_speaks_26 (n + 9) (f5_speaks (n + 9) d) K num w (n + 5 + 1 + 1 + 1 + 1) from rfl, cl_up (k := 6) (a := 0) (by omega) (by omega) (by omega) (by omega) tb_25 ta_6, cl_at (k := 0) (b := 11) (by omega) (by omega) (by omega) (by omega) tb_1, cl_65 (k := 0) (by omega) (by omega) ht tb_1, cl_70, nI_1]
theorem sp_6_2 {n d q t : Nat} (hn : 4100 ≤ n) (hq : q ≤ 40) (ht : t < 30) (x K num w : Int32) (tr : Nat → Int32) : f5_speaks n (d + 1) (nI 6) (nI 2) x (nI q) K num w 0 (nI t) tr = q_c4 (g5_says n (f5_speaks n d) (nI 12) x (nI (q + 1)) K num w 0 (nI (t + 1)) (upd tr t (nI 12))) fun a b c e => some (a, b, c, e) := by
  obtain ⟨n, rfl⟩ := n_fuel n 9 hn (by omega)
  rw [sp_in hq (by omega), show f5_speaks_26 (n + 9) (f5_speaks (n + 9) d) K num w (n + 9) = f5_speaks_26 (n + 9) (f5_speaks (n + 9) d) K num w (n + 5 + 1 + 1 + 1 + 1) from rfl, cl_up (k := 6) (a := 0) (by omega) (by omega) (by omega) (by omega) tb_26 ta_6, cl_at (k := 0) (b := 12) (by omega) (by omega) (by omega) (by omega) tb_2, cl_65 (k := 0) (by omega) (by omega) ht tb_2, cl_70, nI_1]
theorem sp_6_3 {n d q t : Nat} (hn : 4100 ≤ n) (hq : q ≤ 40) (ht : t < 30) (x K num w : Int32) (tr : Nat → Int32) : f5_speaks n (d + 1) (nI 6) (nI 3) x (nI q) K num w 0 (nI t) tr = q_c4 (g5_says n (f5_speaks n d) (nI 13) x (nI (q + 1)) K num w 0 (nI (t + 1)) (upd tr t (nI 13))) fun a b c e => some (a, b, c, e) := by
  obtain ⟨n, rfl⟩ := n_fuel n 9 hn (by omega)
  rw [sp_in hq (by omega), show f5_speaks_26 (n + 9) (f5_speaks (n + 9) d) K num w (n + 9) = f5_speaks_26 (n + 9) (f5_speaks (n + 9) d) K num w (n + 5 + 1 + 1 + 1 + 1) from rfl, cl_up (k := 6) (a := 0) (by omega) (by omega) (by omega) (by omega) tb_27 ta_6, cl_at (k := 0) (b := 13) (by omega) (by omega) (by omega) (by omega) tb_3, cl_65 (k := 0) (by omega) (by omega) ht tb_3, cl_70, nI_1]
theorem sp_7_0 {n d q t : Nat} (hn : 4100 ≤ n) (hq : q ≤ 40) (ht : t < 30) (x K num w : Int32) (tr : Nat → Int32) : f5_speaks n (d + 1) (nI 7) (nI 0) x (nI q) K num w 0 (nI t) tr = q_c4 (g5_says n (f5_speaks n d) (nI 10) x (nI (q + 1)) K num w 0 (nI (t + 1)) (upd tr t (nI 10))) fun a b c e => some (a, b, c, e) := by
  obtain ⟨n, rfl⟩ := n_fuel n 9 hn (by omega)
  rw [sp_in hq (by omega), show f5_speaks_26 (n + 9) (f5_speaks (n + 9) d) K num w (n + 9) = f5_speaks_26 (n + 9) (f5_speaks (n + 9) d) K num w (n + 5 + 1 + 1 + 1 + 1) from rfl, cl_up (k := 7) (a := 0) (by omega) (by omega) (by omega) (by omega) tb_28 ta_7, cl_at (k := 0) (b := 10) (by omega) (by omega) (by omega) (by omega) tb_0, cl_65 (k := 0) (by omega) (by omega) ht tb_0, cl_70, nI_1]
theorem sp_7_1 {n d q t : Nat} (hn : 4100 ≤ n) (hq : q ≤ 40) (ht : t < 30) (x K num w : Int32) (tr : Nat → Int32) : f5_speaks n (d + 1) (nI 7) (nI 1) x (nI q) K num w 0 (nI t) tr = q_c4 (g5_saysAbove n (f5_speaks n d) (nI 80) (nI 0) x (nI (q + 1)) K num w 0 (nI (t + 1)) (upd tr t (nI 80))) fun a b c e => some (a, b, c, e) := by
  obtain ⟨n, rfl⟩ := n_fuel n 9 hn (by omega)
  rw [sp_in hq (by omega), show f5_speaks_26 (n + 9) (f5_speaks (n + 9) d) K num w (n + 9) = f5_speaks_26 (n + 9) (f5_speaks (n + 9) d) K num w (n + 5 + 1 + 1 + 1 + 1) from rfl, cl_at (k := 7) (b := 80) (by omega) (by omega) (by omega) (by omega) tb_29, cl_65 (k := 7) (by omega) (by omega) ht tb_29, cl_7k (by omega) (by omega) ta_7, nI_1]
theorem sp_7_2 {n d q t : Nat} (hn : 4100 ≤ n) (hq : q ≤ 40) (ht : t < 30) (x K num w : Int32) (tr : Nat → Int32) : f5_speaks n (d + 1) (nI 7) (nI 2) x (nI q) K num w 0 (nI t) tr = q_c4 (g5_says n (f5_speaks n d) (nI 12) x (nI (q + 1)) K num w 0 (nI (t + 1)) (upd tr t (nI 12))) fun a b c e => some (a, b, c, e) := by
  obtain ⟨n, rfl⟩ := n_fuel n 9 hn (by omega)
  rw [sp_in hq (by omega), show f5_speaks_26 (n + 9) (f5_speaks (n + 9) d) K num w (n + 9) = f5_speaks_26 (n + 9) (f5_speaks (n + 9) d) K num w (n + 5 + 1 + 1 + 1 + 1) from rfl, cl_up (k := 7) (a := 0) (by omega) (by omega) (by omega) (by omega) tb_30 ta_7, cl_at (k := 0) (b := 12) (by omega) (by omega) (by omega) (by omega) tb_2, cl_65 (k := 0) (by omega) (by omega) ht tb_2, cl_70, nI_1]
theorem sp_7_3 {n d q t : Nat} (hn : 4100 ≤ n) (hq : q ≤ 40) (ht : t < 30) (x K num w : Int32) (tr : Nat → Int32) : f5_speaks n (d + 1) (nI 7) (nI 3) x (nI q) K num w 0 (nI t) tr = q_c4 (g5_saysAbove n (f5_speaks n d) (nI 81) (nI 0) x (nI (q + 1)) K num w 0 (nI (t + 1)) (upd tr t (nI 81))) fun a b c e => some (a, b, c, e) := by
  obtain ⟨n, rfl⟩ := n_fuel n 9 hn (by omega)
  rw [sp_in hq (by omega), show f5_speaks_26 (n + 9) (f5_speaks (n + 9) d) K num w (n + 9) = f5_speaks_26 (n + 9) (f5_speaks (n + 9) d) K num w (n + 5 + 1 + 1 + 1 + 1) from rfl, cl_at (k := 7) (b := 81) (by omega) (by omega) (by omega) (by omega) tb_31, cl_65 (k := 7) (by omega) (by omega) ht tb_31, cl_7k (by omega) (by omega) ta_7, nI_1]
