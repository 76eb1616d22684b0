/-! ===== pure rows: small numbers, loops ===== -/
theorem z_0 : (0 : Int32) = nI 0 := by decide +kernel
theorem z_1 : (1 : Int32) = nI 1 := by decide +kernel
theorem z_2 : (2 : Int32) = nI 2 := by decide +kernel
theorem z_3 : (3 : Int32) = nI 3 := by decide +kernel
theorem z_4 : (4 : Int32) = nI 4 := by decide +kernel
theorem z_5 : (5 : Int32) = nI 5 := by decide +kernel
theorem z_6 : (6 : Int32) = nI 6 := by decide +kernel
theorem z_7 : (7 : Int32) = nI 7 := by decide +kernel
theorem z_8 : (8 : Int32) = nI 8 := by decide +kernel
theorem z_9 : (9 : Int32) = nI 9 := by decide +kernel
theorem z_10 : (10 : Int32) = nI 10 := by decide +kernel
theorem z_11 : (11 : Int32) = nI 11 := by decide +kernel
theorem z_12 : (12 : Int32) = nI 12 := by decide +kernel
theorem z_13 : (13 : Int32) = nI 13 := by decide +kernel
theorem z_16 : (16 : Int32) = nI 16 := by decide +kernel
theorem z_20 : (20 : Int32) = nI 20 := by decide +kernel
theorem z_21 : (21 : Int32) = nI 21 := by decide +kernel
theorem z_24 : (24 : Int32) = nI 24 := by decide +kernel
theorem z_30 : (30 : Int32) = nI 30 := by decide +kernel
theorem z_31 : (31 : Int32) = nI 31 := by decide +kernel
theorem z_32 : (32 : Int32) = nI 32 := by decide +kernel
theorem z_33 : (33 : Int32) = nI 33 := by decide +kernel
theorem z_37 : (37 : Int32) = nI 37 := by decide +kernel
theorem z_38 : (38 : Int32) = nI 38 := by decide +kernel
theorem z_39 : (39 : Int32) = nI 39 := by decide +kernel
theorem z_40 : (40 : Int32) = nI 40 := by decide +kernel
theorem z_41 : (41 : Int32) = nI 41 := by decide +kernel
theorem z_42 : (42 : Int32) = nI 42 := by decide +kernel
theorem z_43 : (43 : Int32) = nI 43 := by decide +kernel
theorem z_44 : (44 : Int32) = nI 44 := by decide +kernel
theorem z_45 : (45 : Int32) = nI 45 := by decide +kernel
theorem z_46 : (46 : Int32) = nI 46 := by decide +kernel
theorem z_47 : (47 : Int32) = nI 47 := by decide +kernel
theorem z_48 : (48 : Int32) = nI 48 := by decide +kernel
theorem z_49 : (49 : Int32) = nI 49 := by decide +kernel
theorem z_50 : (50 : Int32) = nI 50 := by decide +kernel
theorem z_51 : (51 : Int32) = nI 51 := by decide +kernel
theorem z_52 : (52 : Int32) = nI 52 := by decide +kernel
theorem z_53 : (53 : Int32) = nI 53 := by decide +kernel
theorem z_54 : (54 : Int32) = nI 54 := by decide +kernel
theorem z_55 : (55 : Int32) = nI 55 := by decide +kernel
theorem z_56 : (56 : Int32) = nI 56 := by decide +kernel
theorem z_57 : (57 : Int32) = nI 57 := by decide +kernel
theorem z_58 : (58 : Int32) = nI 58 := by decide +kernel
theorem z_59 : (59 : Int32) = nI 59 := by decide +kernel
theorem z_60 : (60 : Int32) = nI 60 := by decide +kernel
theorem z_61 : (61 : Int32) = nI 61 := by decide +kernel
theorem z_62 : (62 : Int32) = nI 62 := by decide +kernel
theorem z_63 : (63 : Int32) = nI 63 := by decide +kernel
theorem z_70 : (70 : Int32) = nI 70 := by decide +kernel
theorem z_80 : (80 : Int32) = nI 80 := by decide +kernel
theorem z_81 : (81 : Int32) = nI 81 := by decide +kernel
theorem z_97 : (97 : Int32) = nI 97 := by decide +kernel
theorem z_98 : (98 : Int32) = nI 98 := by decide +kernel
theorem z_99 : (99 : Int32) = nI 99 := by decide +kernel
theorem z_100 : (100 : Int32) = nI 100 := by decide +kernel
theorem z_101 : (101 : Int32) = nI 101 := by decide +kernel
theorem z_107 : (107 : Int32) = nI 107 := by decide +kernel
theorem z_108 : (108 : Int32) = nI 108 := by decide +kernel
theorem z_109 : (109 : Int32) = nI 109 := by decide +kernel
theorem z_111 : (111 : Int32) = nI 111 := by decide +kernel
theorem z_114 : (114 : Int32) = nI 114 := by decide +kernel
theorem z_117 : (117 : Int32) = nI 117 := by decide +kernel
theorem z_119 : (119 : Int32) = nI 119 := by decide +kernel
theorem z_124 : (124 : Int32) = nI 124 := by decide +kernel
theorem z_125 : (125 : Int32) = nI 125 := by decide +kernel
theorem z_255 : (255 : Int32) = nI 255 := by decide +kernel
theorem z_310 : (310 : Int32) = nI 310 := by decide +kernel
theorem z_380 : (380 : Int32) = nI 380 := by decide +kernel
theorem z_480 : (480 : Int32) = nI 480 := by decide +kernel
theorem z_999 : (999 : Int32) = nI 999 := by decide +kernel
theorem z_1440 : (1440 : Int32) = nI 1440 := by decide +kernel
theorem z_1600 : (1600 : Int32) = nI 1600 := by decide +kernel
theorem z_2820 : (2820 : Int32) = nI 2820 := by decide +kernel
theorem z_2890 : (2890 : Int32) = nI 2890 := by decide +kernel
theorem z_3890 : (3890 : Int32) = nI 3890 := by decide +kernel
theorem z_3950 : (3950 : Int32) = nI 3950 := by decide +kernel
theorem z_3974 : (3974 : Int32) = nI 3974 := by decide +kernel
theorem z_9999 : (9999 : Int32) = nI 9999 := by decide +kernel
theorem z_12345 : (12345 : Int32) = nI 12345 := by decide +kernel
theorem z_29999 : (29999 : Int32) = nI 29999 := by decide +kernel
def mI (n : Nat) : Int32 := -nI n
theorem z_neg (n : Nat) : -nI n = mI n := rfl
/-- a read, a write at a place that is there -/
theorem q_ldI {α : Type} {f : Nat → Int32} {n k : Nat} {K : Int32 → Option α} (hk : k < n) (hn : n < 2 ^ 31) : q_ld f n (nI k) K = K (f k) := by
  unfold q_ld
  rw [if_neg (vp_in_nI hk hn), nI_clamp (by omega)]
theorem q_stI {α : Type} {f : Nat → Int32} {n k : Nat} {x : Int32} {K : (Nat → Int32) → Option α} (hk : k < n) (hn : n < 2 ^ 31) : q_st f n (nI k) x K = K (upd f k x) := by
  unfold q_st
  rw [if_neg (vp_in_nI hk hn), nI_clamp (by omega)]
theorem q_ldE {α : Type} {f : Nat → Int32} {n : Nat} {i : Int32} (k : Nat) {K : Int32 → Option α} (hi : i = nI k) (hk : k < n) (hn : n < 2 ^ 31) : q_ld f n i K = K (f k) := by rw [hi]; exact q_ldI hk hn
theorem q_stE {α : Type} {f : Nat → Int32} {n : Nat} {i x : Int32} (k : Nat) {K : (Nat → Int32) → Option α} (hi : i = nI k) (hk : k < n) (hn : n < 2 ^ 31) : q_st f n i x K = K (upd f k x) := by rw [hi]; exact q_stI hk hn
theorem q_c_some {α β : Type} {a : α} {K : α → Option β} : q_c (some a) K = K a := by rw [q_c, Option.bind_some]
theorem q_bz_0 {α : Type} {K : Option α} : q_bz 0 K = K := rfl
theorem q_bz_1 {α : Type} {K : Option α} : q_bz 1 K = K := rfl
/-- steps from place j on, m of them -/
def itr {σ : Type} (st : Nat → σ → σ) : Nat → Nat → σ → σ
  | _, 0, a => a
  | j, m + 1, a => itr st (j + 1) m (st j a)
theorem itr_last {σ : Type} (st : Nat → σ → σ) : ∀ (m j : Nat) (a : σ), itr st j (m + 1) a = st (j + m) (itr st j m a)
  | 0, j, a => rfl
  | m + 1, j, a => by
    show itr st (j + 1) (m + 1) (st j a) = st (j + (m + 1)) (itr st (j + 1) m (st j a))
    rw [itr_last st m (j + 1) (st j a)]
    congr 1
    omega
theorem itr_congr {σ : Type} {f g : Nat → σ → σ} : ∀ (m j : Nat) (a : σ), (∀ i b, j ≤ i → i < j + m → f i b = g i b) → itr f j m a = itr g j m a
  | 0, _, _, _ => rfl
  | m + 1, j, a, h => by
    show itr f (j + 1) m (f j a) = itr g (j + 1) m (g j a)
    rw [h j a (Nat.le_refl _) (by omega)]
    exact itr_congr m (j + 1) _ (fun i b h1 h2 => h i b (by omega) (by omega))
/-- a loop that counts up to d: its function is d - j steps -/
theorem loop_up {σ β : Type} (L : Nat → σ → Int32 → Option β) (F : σ → β) (st : Nat → σ → σ) (d : Nat) (hx : ∀ k a, L (k + 1) a (nI d) = some (F a)) (hs : ∀ k a j, j < d → L (k + 1) a (nI j) = L k (st j a) (nI (j + 1))) : ∀ (m j k : Nat) (a : σ), j + m = d → m < k → L k a (nI j) = some (F (itr st j m a))
  | 0, j, k + 1, a, h1, h2 => by
    have e : j = d := by omega
    subst e
    exact hx k a
  | m + 1, j, k + 1, a, h1, h2 => by
    rw [hs k a j (by omega)]
    exact loop_up L F st d hx hs m (j + 1) k (st j a) (by omega) (by omega)
/-- the same with what holds along the way -/
theorem loop_inv {σ β : Type} (L : Nat → σ → Int32 → Option β) (F : σ → β) (st : Nat → σ → σ) (I : Nat → σ → Prop) (d : Nat) (hx : ∀ k a, I d a → L (k + 1) a (nI d) = some (F a)) (hs : ∀ k a j, j < d → I j a → L (k + 1) a (nI j) = L k (st j a) (nI (j + 1)) ∧ I (j + 1) (st j a)) : ∀ (m j k : Nat) (a : σ), j + m = d → m < k → I j a → L k a (nI j) = some (F (itr st j m a)) ∧ I d (itr st j m a)
  | 0, j, k + 1, a, h1, h2, hI => by
    have e : j = d := by omega
    subst e
    exact ⟨hx k a hI, hI⟩
  | m + 1, j, k + 1, a, h1, h2, hI => by
    obtain ⟨e1, e2⟩ := hs k a j (by omega) hI
    rw [e1]
    exact loop_inv L F st I d hx hs m (j + 1) k (st j a) (by omega) (by omega) e2
