def f6_error (x1 : Int32) (p_errors : (Nat → Int32)) : Option (Int32 × (Nat → Int32)) :=
  q_ld p_errors 7 x1 fun t6 =>
  q_st p_errors 7 x1 (t6 + ((1 : Int32))) fun p_errors_9 =>
  some (((-1000000 : Int32)) - x1, p_errors_9)
def f6_go_12 (b_now : Int32) (p_errors : (Nat → Int32)) : Option (Int32 × Int32 × (Nat → Int32)) :=
  q_c2 (f6_error ((1 : Int32)) p_errors) fun t14 p_errors_14 =>
  some (t14, b_now, p_errors_14)
def f6_go (x1 : Int32) (b_now : Int32) (p_errors : (Nat → Int32)) : Option (Int32 × Int32 × (Nat → Int32)) :=
  if x1 < ((1 : Int32)) then (
    f6_go_12  b_now p_errors
  ) else (
    if x1 ≤ ((9999 : Int32)) then (
      if b_now ≤ (((29999 : Int32)) - x1) then (
        q_lt (b_now + x1) fun b_now_49 =>
        some (b_now_49, b_now_49, p_errors)
      ) else (
        q_c2 (f6_error ((3 : Int32)) p_errors) fun t35 p_errors_35 =>
        some (t35, b_now, p_errors_35)
      )
    ) else (
      f6_go_12  b_now p_errors
    )
  )
def f0_pageSize (a_done : Int32) (a_sizes : (Nat → Int32)) : Option (Int32) :=
  q_ld a_sizes 61 a_done fun t8 =>
  some t8
def f6_isWriter_15 (s0 : Int32) : Option (Int32) :=
  q_bz s0 <|
  some s0
def f6_isWriter_14  : Option (Int32) :=
  f6_isWriter_15  ((0 : Int32))
def f6_isWriter (x0 : Int32) : Option (Int32) :=
  if x0 < 0 then (
    f6_isWriter_14 
  ) else (
    if ((8 : Int32)) ≤ x0 then (
      f6_isWriter_14 
    ) else (
      f6_isWriter_15  ((1 : Int32))
    )
  )
def f6_isWord_16 (s0 : Int32) : Option (Int32) :=
  q_bz s0 <|
  some s0
def f6_isWord_15  : Option (Int32) :=
  f6_isWord_16  ((0 : Int32))
def f6_isWord (x0 : Int32) : Option (Int32) :=
  if x0 < ((1 : Int32)) then (
    f6_isWord_15 
  ) else (
    if ((60 : Int32)) < x0 then (
      f6_isWord_15 
    ) else (
      f6_isWord_16  ((1 : Int32))
    )
  )
def f4_has_14 (t_lengths : (Nat → Int32)) (s0 : Int32) : Option (Int32) :=
  q_bz s0 <|
  some s0
def f4_has (x1 : Int32) (t_lengths : (Nat → Int32)) : Option (Int32) :=
  q_ld t_lengths 8 x1 fun t5 =>
  if t5 ≤ 0 then (
    f4_has_14 t_lengths ((0 : Int32))
  ) else (
    f4_has_14 t_lengths ((1 : Int32))
  )
def f0_isUnder_41 (n : Nat) (s0 : Int32) : Option (Int32) :=
  q_bz s0 <|
  some s0
def f0_isUnder_31 (n : Nat) (x1 : Int32) (x2 : Int32) : Option (Int32) :=
  if x2 = x1 then (
    f0_isUnder_41 n ((1 : Int32))
  ) else (
    f0_isUnder_41 n ((0 : Int32))
  )
def f0_isUnder_4 (n : Nat) : Nat → Int32 → Int32 → Int32 → Option (Int32)
  | 0, _, _, _ => none
  | kk + 1, x1, x2, x3 =>
    if ((8 : Int32)) ≤ x3 then (
      f0_isUnder_31 n x1 x2
    ) else (
      if x2 ≤ 0 then (
        f0_isUnder_31 n x1 x2
      ) else (
        if x2 = x1 then (
          f0_isUnder_31 n x1 x2
        ) else (
          q_ld t_KIND_ABOVE 8 x2 fun t23 =>
          q_lt (x3 + (1 : Int32)) fun x3_25 =>
          f0_isUnder_4 n kk x1 t23 x3_25
        )
      )
    )
def f0_isUnder (n : Nat) (x0 : Int32) (x1 : Int32) : Option (Int32) :=
  f0_isUnder_4 n n x1 x0 ((0 : Int32))
def f0_backsBy_57 (n : Nat) (a_done : Int32) (a_kinds : (Nat → Int32)) (a_writers : (Nat → Int32)) (a_minutes : (Nat → Int32)) (k5 : Int32 → Int32 → Int32 → Int32 → Option (Int32)) (x1 : Int32) (x2 : Int32) (x3 : Int32) (x4 : Int32) : Option (Int32) :=
  q_lt (x4 + (1 : Int32)) fun x4_57 =>
  k5 x1 x2 x3 x4_57
def f0_backsBy_5 (n : Nat) (a_done : Int32) (a_kinds : (Nat → Int32)) (a_writers : (Nat → Int32)) (a_minutes : (Nat → Int32)) : Nat → Int32 → Int32 → Int32 → Int32 → Option (Int32)
  | 0, _, _, _, _ => none
  | kk + 1, x1, x2, x3, x4 =>
    if a_done ≤ x4 then (
      some x3
    ) else (
      q_ld a_writers 60 x4 fun t20 =>
      if t20 = x1 then (
        q_ld a_minutes 60 x4 fun t31 =>
        if t31 ≤ (x2 - ((1440 : Int32))) then (
          f0_backsBy_57 n a_done a_kinds a_writers a_minutes (f0_backsBy_5 n a_done a_kinds a_writers a_minutes kk) x1 x2 x3 x4
        ) else (
          q_ld a_kinds 60 x4 fun t46 =>
          q_c (f0_isUnder n t46 ((2 : Int32))) fun t48 =>
          if t48 = 0 then (
            f0_backsBy_57 n a_done a_kinds a_writers a_minutes (f0_backsBy_5 n a_done a_kinds a_writers a_minutes kk) x1 x2 x3 x4
          ) else (
            q_lt (x3 + (1 : Int32)) fun x3_54 =>
            f0_backsBy_57 n a_done a_kinds a_writers a_minutes (f0_backsBy_5 n a_done a_kinds a_writers a_minutes kk) x1 x2 x3_54 x4
          )
        )
      ) else (
        f0_backsBy_57 n a_done a_kinds a_writers a_minutes (f0_backsBy_5 n a_done a_kinds a_writers a_minutes kk) x1 x2 x3 x4
      )
    )
def f0_backsBy (n : Nat) (x1 : Int32) (x2 : Int32) (a_done : Int32) (a_kinds : (Nat → Int32)) (a_writers : (Nat → Int32)) (a_minutes : (Nat → Int32)) : Option (Int32) :=
  f0_backsBy_5 n a_done a_kinds a_writers a_minutes n x1 x2 ((0 : Int32)) ((0 : Int32))
def f0_doneBy_25 (n : Nat) (a_done : Int32) (a_writers : (Nat → Int32)) (k4 : Int32 → Int32 → Int32 → Option (Int32)) (x1 : Int32) (x2 : Int32) (x3 : Int32) : Option (Int32) :=
  q_lt (x3 + (1 : Int32)) fun x3_25 =>
  k4 x1 x2 x3_25
def f0_doneBy_4 (n : Nat) (a_done : Int32) (a_writers : (Nat → Int32)) : Nat → Int32 → Int32 → Int32 → Option (Int32)
  | 0, _, _, _ => none
  | kk + 1, x1, x2, x3 =>
    if a_done ≤ x3 then (
      some x2
    ) else (
      q_ld a_writers 60 x3 fun t17 =>
      if t17 = x1 then (
        q_lt (x2 + (1 : Int32)) fun x2_22 =>
        f0_doneBy_25 n a_done a_writers (f0_doneBy_4 n a_done a_writers kk) x1 x2_22 x3
      ) else (
        f0_doneBy_25 n a_done a_writers (f0_doneBy_4 n a_done a_writers kk) x1 x2 x3
      )
    )
def f0_doneBy (n : Nat) (x1 : Int32) (a_done : Int32) (a_writers : (Nat → Int32)) : Option (Int32) :=
  f0_doneBy_4 n a_done a_writers n x1 ((0 : Int32)) ((0 : Int32))
def f4_names (x1 : Int32) (x2 : Int32) (x3 : Int32) (x4 : Int32) (x5 : Int32) (t_named : (Nat → Int32)) : Option ((Nat → Int32)) :=
  q_st t_named 5 ((0 : Int32)) x1 fun t_named_6 =>
  q_st t_named_6 5 ((1 : Int32)) x2 fun t_named_13 =>
  q_st t_named_13 5 ((2 : Int32)) x3 fun t_named_20 =>
  q_st t_named_20 5 ((3 : Int32)) x4 fun t_named_28 =>
  q_st t_named_28 5 ((4 : Int32)) x5 fun t_named_36 =>
  some (t_named_36)
def f4_joined_188 (s0 : Int32) : Option (Int32) :=
  some s0
def f4_joined_176 (s0 : Int32) : Option (Int32) :=
  some s0
def f4_joined_152 (s0 : Int32) : Option (Int32) :=
  some s0
def f4_joined_141 (s0 : Int32) : Option (Int32) :=
  some s0
def f4_joined_130 (s0 : Int32) : Option (Int32) :=
  some s0
def f4_joined_119 (s0 : Int32) : Option (Int32) :=
  some s0
def f4_joined_118  : Option (Int32) :=
  f4_joined_119  ((0 : Int32))
def f4_joined_105 (s0 : Int32) : Option (Int32) :=
  some s0
def f4_joined_100  : Option (Int32) :=
  f4_joined_105  ((1 : Int32))
def f4_joined (x0 : Int32) (x1 : Int32) (x2 : Int32) : Option (Int32) :=
  if x0 = (37 : Int32) then (
    if x2 = 0 then (
      f4_joined_188  ((0 : Int32))
    ) else (
      q_dv x2 <|
      f4_joined_188  (x1 - x1 / x2 * x2)
    )
  ) else (
  if x0 = (38 : Int32) then (
    if x1 = 0 then (
      f4_joined_118 
    ) else (
      if x2 = 0 then (
        f4_joined_118 
      ) else (
        f4_joined_119  ((1 : Int32))
      )
    )
  ) else (
  if x0 = (42 : Int32) then (
    some (x1 * x2)
  ) else (
  if x0 = (43 : Int32) then (
    some (x1 + x2)
  ) else (
  if x0 = (45 : Int32) then (
    some (x1 - x2)
  ) else (
  if x0 = (47 : Int32) then (
    if x2 = 0 then (
      f4_joined_176  ((0 : Int32))
    ) else (
      q_dv x2 <|
      f4_joined_176  (x1 / x2)
    )
  ) else (
  if x0 = (60 : Int32) then (
    if x2 ≤ x1 then (
      f4_joined_130  ((0 : Int32))
    ) else (
      f4_joined_130  ((1 : Int32))
    )
  ) else (
  if x0 = (61 : Int32) then (
    if x1 = x2 then (
      f4_joined_141  ((1 : Int32))
    ) else (
      f4_joined_141  ((0 : Int32))
    )
  ) else (
  if x0 = (62 : Int32) then (
    if x1 ≤ x2 then (
      f4_joined_152  ((0 : Int32))
    ) else (
      f4_joined_152  ((1 : Int32))
    )
  ) else (
  if x0 = (124 : Int32) then (
    if x1 = 0 then (
      if x2 = 0 then (
        f4_joined_105  ((0 : Int32))
      ) else (
        f4_joined_100 
      )
    ) else (
      f4_joined_100 
    )
  ) else (
    some ((0 : Int32))
  ))))))))))
def f4_worked_145 (n : Nat) (t_codes : (Nat → Int32)) (t_lengths : (Nat → Int32)) (t_named : (Nat → Int32)) (k4 : Int32 → Int32 → Int32 → (Nat → Int32) → Option (Int32 × (Nat → Int32))) (x1 : Int32) (x2 : Int32) (x3 : Int32) (t_stack : (Nat → Int32)) : Option (Int32 × (Nat → Int32)) :=
  q_lt (x3 + (1 : Int32)) fun x3_145 =>
  k4 x1 x2 x3_145 t_stack
def f4_worked_109 (n : Nat) (t_codes : (Nat → Int32)) (t_lengths : (Nat → Int32)) (t_named : (Nat → Int32)) (k4 : Int32 → Int32 → Int32 → (Nat → Int32) → Option (Int32 × (Nat → Int32))) (x1 : Int32) (x2 : Int32) (x3 : Int32) (x4 : Int32) (t_stack : (Nat → Int32)) : Option (Int32 × (Nat → Int32)) :=
  if x2 ≤ ((1 : Int32)) then (
    f4_worked_145 n t_codes t_lengths t_named k4 x1 x2 x3 t_stack
  ) else (
    q_lt (x2 + (-1 : Int32)) fun x2_114 =>
    q_ld t_stack 60 (x2_114 - ((1 : Int32))) fun t134 =>
    q_ld t_stack 60 x2_114 fun t140 =>
    q_c (f4_joined (-x4) t134 t140) fun t141 =>
    q_st t_stack 60 (x2_114 - ((1 : Int32))) t141 fun t_stack_144 =>
    f4_worked_145 n t_codes t_lengths t_named k4 x1 x2_114 x3 t_stack_144
  )
def f4_worked_105 (n : Nat) (t_codes : (Nat → Int32)) (t_lengths : (Nat → Int32)) (t_named : (Nat → Int32)) (k4 : Int32 → Int32 → Int32 → (Nat → Int32) → Option (Int32 × (Nat → Int32))) (x1 : Int32) (x2 : Int32) (x3 : Int32) (s1 : Int32) (s2 : Int32) (t_stack : (Nat → Int32)) : Option (Int32 × (Nat → Int32)) :=
  q_st t_stack 60 s1 s2 fun t_stack_105 =>
  f4_worked_145 n t_codes t_lengths t_named k4 x1 x2 x3 t_stack_105
def f4_worked_71 (n : Nat) (t_codes : (Nat → Int32)) (t_lengths : (Nat → Int32)) (t_named : (Nat → Int32)) (k4 : Int32 → Int32 → Int32 → (Nat → Int32) → Option (Int32 × (Nat → Int32))) (x1 : Int32) (x2 : Int32) (x3 : Int32) (x4 : Int32) (t_stack : (Nat → Int32)) : Option (Int32 × (Nat → Int32)) :=
  if x4 = ((-33 : Int32)) then (
    if x2 ≤ 0 then (
      f4_worked_109 n t_codes t_lengths t_named k4 x1 x2 x3 x4 t_stack
    ) else (
      q_ld t_stack 60 (x2 - ((1 : Int32))) fun t96 =>
      if t96 = 0 then (
        f4_worked_105 n t_codes t_lengths t_named k4 x1 x2 x3 (x2 - ((1 : Int32))) ((1 : Int32)) t_stack
      ) else (
        f4_worked_105 n t_codes t_lengths t_named k4 x1 x2 x3 (x2 - ((1 : Int32))) ((0 : Int32)) t_stack
      )
    )
  ) else (
    f4_worked_109 n t_codes t_lengths t_named k4 x1 x2 x3 x4 t_stack
  )
def f4_worked_64 (n : Nat) (t_codes : (Nat → Int32)) (t_lengths : (Nat → Int32)) (t_named : (Nat → Int32)) (k4 : Int32 → Int32 → Int32 → (Nat → Int32) → Option (Int32 × (Nat → Int32))) (x1 : Int32) (x2 : Int32) (x3 : Int32) (s1 : Int32) (s2 : Int32) (t_stack : (Nat → Int32)) : Option (Int32 × (Nat → Int32)) :=
  q_st t_stack 60 s1 s2 fun t_stack_64 =>
  q_lt (x2 + (1 : Int32)) fun x2_65 =>
  f4_worked_145 n t_codes t_lengths t_named k4 x1 x2_65 x3 t_stack_64
def f4_worked_4 (n : Nat) (t_codes : (Nat → Int32)) (t_lengths : (Nat → Int32)) (t_named : (Nat → Int32)) : Nat → Int32 → Int32 → Int32 → (Nat → Int32) → Option (Int32 × (Nat → Int32))
  | 0, _, _, _, _ => none
  | kk + 1, x1, x2, x3, t_stack =>
    q_ld t_lengths 8 x1 fun t10 =>
    if t10 ≤ x3 then (
      q_ld t_stack 60 ((0 : Int32)) fun t156 =>
      some (t156, t_stack)
    ) else (
      q_ld t_codes 480 ((x1 * ((60 : Int32))) + x3) fun t24 =>
      if t24 < ((-5 : Int32)) then (
        f4_worked_71 n t_codes t_lengths t_named (f4_worked_4 n t_codes t_lengths t_named kk) x1 x2 x3 t24 t_stack
      ) else (
        if ((60 : Int32)) ≤ x2 then (
          f4_worked_71 n t_codes t_lengths t_named (f4_worked_4 n t_codes t_lengths t_named kk) x1 x2 x3 t24 t_stack
        ) else (
          if t24 < 0 then (
            q_ld t_named 5 (((-1 : Int32)) - t24) fun t63 =>
            f4_worked_64 n t_codes t_lengths t_named (f4_worked_4 n t_codes t_lengths t_named kk) x1 x2 x3 x2 t63 t_stack
          ) else (
            f4_worked_64 n t_codes t_lengths t_named (f4_worked_4 n t_codes t_lengths t_named kk) x1 x2 x3 x2 t24 t_stack
          )
        )
      )
    )
def f4_worked (n : Nat) (x1 : Int32) (t_codes : (Nat → Int32)) (t_lengths : (Nat → Int32)) (t_named : (Nat → Int32)) (t_stack : (Nat → Int32)) : Option (Int32 × (Nat → Int32)) :=
  f4_worked_4 n t_codes t_lengths t_named n x1 ((0 : Int32)) ((0 : Int32)) t_stack
def f1_lets_93 (n : Nat) (b_now : Int32) (b_shutTill : Int32) (b_shutBy : Int32) (a_done : Int32) (a_kinds : (Nat → Int32)) (a_writers : (Nat → Int32)) (a_minutes : (Nat → Int32)) (a_sizes : (Nat → Int32)) (t_codes : (Nat → Int32)) (t_lengths : (Nat → Int32)) (s0 : Int32) (t_named : (Nat → Int32)) (t_stack : (Nat → Int32)) : Option (Int32 × (Nat → Int32) × (Nat → Int32)) :=
  q_bz s0 <|
  some (s0, t_named, t_stack)
def f1_lets_21 (n : Nat) (b_now : Int32) (b_shutTill : Int32) (b_shutBy : Int32) (a_done : Int32) (a_kinds : (Nat → Int32)) (a_writers : (Nat → Int32)) (a_minutes : (Nat → Int32)) (a_sizes : (Nat → Int32)) (t_codes : (Nat → Int32)) (t_lengths : (Nat → Int32)) (x1 : Int32) (t_named : (Nat → Int32)) (t_stack : (Nat → Int32)) : Option (Int32 × (Nat → Int32) × (Nat → Int32)) :=
  q_c (f4_has ((0 : Int32)) t_lengths) fun t26 =>
  if t26 = 0 then (
    q_bz ((1 : Int32)) <|
    some ((1 : Int32), t_named, t_stack)
  ) else (
    q_c (f0_backsBy n x1 b_now a_done a_kinds a_writers a_minutes) fun t47 =>
    q_dv ((1440 : Int32)) <|
    q_c (f0_pageSize a_done a_sizes) fun t63 =>
    q_c (f0_doneBy n x1 a_done a_writers) fun t71 =>
    q_c1 (f4_names t47 x1 (b_now - b_now / ((1440 : Int32)) * ((1440 : Int32))) t63 t71 t_named) fun t_named_74 =>
    q_c2 (f4_worked n ((0 : Int32)) t_codes t_lengths t_named_74 t_stack) fun t82 t_stack_82 =>
    if t82 = 0 then (
      f1_lets_93 n b_now b_shutTill b_shutBy a_done a_kinds a_writers a_minutes a_sizes t_codes t_lengths ((0 : Int32)) t_named_74 t_stack_82
    ) else (
      f1_lets_93 n b_now b_shutTill b_shutBy a_done a_kinds a_writers a_minutes a_sizes t_codes t_lengths ((1 : Int32)) t_named_74 t_stack_82
    )
  )
def f1_lets (n : Nat) (x1 : Int32) (b_now : Int32) (b_shutTill : Int32) (b_shutBy : Int32) (a_done : Int32) (a_kinds : (Nat → Int32)) (a_writers : (Nat → Int32)) (a_minutes : (Nat → Int32)) (a_sizes : (Nat → Int32)) (t_codes : (Nat → Int32)) (t_lengths : (Nat → Int32)) (t_named : (Nat → Int32)) (t_stack : (Nat → Int32)) : Option (Int32 × (Nat → Int32) × (Nat → Int32)) :=
  if b_shutTill ≤ b_now then (
    f1_lets_21 n b_now b_shutTill b_shutBy a_done a_kinds a_writers a_minutes a_sizes t_codes t_lengths x1 t_named t_stack
  ) else (
    if x1 = b_shutBy then (
      f1_lets_21 n b_now b_shutTill b_shutBy a_done a_kinds a_writers a_minutes a_sizes t_codes t_lengths x1 t_named t_stack
    ) else (
      q_bz ((0 : Int32)) <|
      some ((0 : Int32), t_named, t_stack)
    )
  )
def f0_hasRoom_14 (a_done : Int32) (s0 : Int32) : Option (Int32) :=
  q_bz s0 <|
  some s0
def f0_hasRoom (a_done : Int32) : Option (Int32) :=
  if ((60 : Int32)) ≤ a_done then (
    f0_hasRoom_14 a_done ((0 : Int32))
  ) else (
    f0_hasRoom_14 a_done ((1 : Int32))
  )
def f1_refusesActing_25 (n : Nat) (b_now : Int32) (b_shutTill : Int32) (b_shutBy : Int32) (a_done : Int32) (a_kinds : (Nat → Int32)) (a_writers : (Nat → Int32)) (a_minutes : (Nat → Int32)) (a_sizes : (Nat → Int32)) (t_codes : (Nat → Int32)) (t_lengths : (Nat → Int32)) (s0 : Int32) (t_named : (Nat → Int32)) (t_stack : (Nat → Int32)) : Option (Int32 × (Nat → Int32) × (Nat → Int32)) :=
  some (s0, t_named, t_stack)
def f1_refusesActing (n : Nat) (x1 : Int32) (b_now : Int32) (b_shutTill : Int32) (b_shutBy : Int32) (a_done : Int32) (a_kinds : (Nat → Int32)) (a_writers : (Nat → Int32)) (a_minutes : (Nat → Int32)) (a_sizes : (Nat → Int32)) (t_codes : (Nat → Int32)) (t_lengths : (Nat → Int32)) (t_named : (Nat → Int32)) (t_stack : (Nat → Int32)) : Option (Int32 × (Nat → Int32) × (Nat → Int32)) :=
  q_c3 (f1_lets n x1 b_now b_shutTill b_shutBy a_done a_kinds a_writers a_minutes a_sizes t_codes t_lengths t_named t_stack) fun t2 t_named_2 t_stack_2 =>
  if t2 = 0 then (
    some ((3 : Int32), t_named_2, t_stack_2)
  ) else (
    q_c (f0_hasRoom a_done) fun t14 =>
    if t14 = 0 then (
      f1_refusesActing_25 n b_now b_shutTill b_shutBy a_done a_kinds a_writers a_minutes a_sizes t_codes t_lengths ((4 : Int32)) t_named_2 t_stack_2
    ) else (
      f1_refusesActing_25 n b_now b_shutTill b_shutBy a_done a_kinds a_writers a_minutes a_sizes t_codes t_lengths ((0 : Int32)) t_named_2 t_stack_2
    )
  )
def f1_refusesPutting_114 (n : Nat) (b_now : Int32) (b_shutTill : Int32) (b_shutBy : Int32) (a_done : Int32) (a_kinds : (Nat → Int32)) (a_writers : (Nat → Int32)) (a_minutes : (Nat → Int32)) (a_sizes : (Nat → Int32)) (t_codes : (Nat → Int32)) (t_lengths : (Nat → Int32)) (x6 : Int32) (t_named : (Nat → Int32)) (t_stack : (Nat → Int32)) : Option (Int32 × (Nat → Int32) × (Nat → Int32)) :=
  some (x6, t_named, t_stack)
def f1_refusesPutting_78 (n : Nat) (b_now : Int32) (b_shutTill : Int32) (b_shutBy : Int32) (a_done : Int32) (a_kinds : (Nat → Int32)) (a_writers : (Nat → Int32)) (a_minutes : (Nat → Int32)) (a_sizes : (Nat → Int32)) (t_codes : (Nat → Int32)) (t_lengths : (Nat → Int32)) (t_named : (Nat → Int32)) (t_stack : (Nat → Int32)) : Option (Int32 × (Nat → Int32) × (Nat → Int32)) :=
  some ((1 : Int32), t_named, t_stack)
def f1_refusesPutting_47 (n : Nat) (b_now : Int32) (b_shutTill : Int32) (b_shutBy : Int32) (a_done : Int32) (a_kinds : (Nat → Int32)) (a_writers : (Nat → Int32)) (a_minutes : (Nat → Int32)) (a_sizes : (Nat → Int32)) (t_codes : (Nat → Int32)) (t_lengths : (Nat → Int32)) (x1 : Int32) (x2 : Int32) (x3 : Int32) (x4 : Int32) (s0 : Int32) (t_named : (Nat → Int32)) (t_stack : (Nat → Int32)) : Option (Int32 × (Nat → Int32) × (Nat → Int32)) :=
  q_dv ((100 : Int32)) <|
  q_c (f6_isWriter (x2 / ((100 : Int32)))) fun t53 =>
  if t53 = 0 then (
    f1_refusesPutting_78 n b_now b_shutTill b_shutBy a_done a_kinds a_writers a_minutes a_sizes t_codes t_lengths t_named t_stack
  ) else (
    q_c (f6_isWord x3) fun t60 =>
    if t60 = 0 then (
      f1_refusesPutting_78 n b_now b_shutTill b_shutBy a_done a_kinds a_writers a_minutes a_sizes t_codes t_lengths t_named t_stack
    ) else (
      if x4 < 0 then (
        f1_refusesPutting_78 n b_now b_shutTill b_shutBy a_done a_kinds a_writers a_minutes a_sizes t_codes t_lengths t_named t_stack
      ) else (
        if x4 ≤ s0 then (
          q_dv ((100 : Int32)) <|
          q_c3 (f1_refusesActing n (x2 / ((100 : Int32))) b_now b_shutTill b_shutBy a_done a_kinds a_writers a_minutes a_sizes t_codes t_lengths t_named t_stack) fun t85 t_named_85 t_stack_85 =>
          if t85 = 0 then (
            if x1 = ((5 : Int32)) then (
              f1_refusesPutting_114 n b_now b_shutTill b_shutBy a_done a_kinds a_writers a_minutes a_sizes t_codes t_lengths t85 t_named_85 t_stack_85
            ) else (
              q_c (f0_pageSize a_done a_sizes) fun t104 =>
              if t104 < ((20 : Int32)) then (
                f1_refusesPutting_114 n b_now b_shutTill b_shutBy a_done a_kinds a_writers a_minutes a_sizes t_codes t_lengths t85 t_named_85 t_stack_85
              ) else (
                some ((4 : Int32), t_named_85, t_stack_85)
              )
            )
          ) else (
            f1_refusesPutting_114 n b_now b_shutTill b_shutBy a_done a_kinds a_writers a_minutes a_sizes t_codes t_lengths t85 t_named_85 t_stack_85
          )
        ) else (
          f1_refusesPutting_78 n b_now b_shutTill b_shutBy a_done a_kinds a_writers a_minutes a_sizes t_codes t_lengths t_named t_stack
        )
      )
    )
  )
def f1_refusesPutting_17 (n : Nat) (b_now : Int32) (b_shutTill : Int32) (b_shutBy : Int32) (a_done : Int32) (a_kinds : (Nat → Int32)) (a_writers : (Nat → Int32)) (a_minutes : (Nat → Int32)) (a_sizes : (Nat → Int32)) (t_codes : (Nat → Int32)) (t_lengths : (Nat → Int32)) (x1 : Int32) (x2 : Int32) (x3 : Int32) (t_named : (Nat → Int32)) (t_stack : (Nat → Int32)) : Option (Int32 × (Nat → Int32) × (Nat → Int32)) :=
  q_dv ((100 : Int32)) <|
  q_lt (x2 - x2 / ((100 : Int32)) * ((100 : Int32))) fun x4_21 =>
  if x1 = ((5 : Int32)) then (
    q_c (f0_pageSize a_done a_sizes) fun t32 =>
    f1_refusesPutting_47 n b_now b_shutTill b_shutBy a_done a_kinds a_writers a_minutes a_sizes t_codes t_lengths x1 x2 x3 x4_21 (t32 - ((1 : Int32))) t_named t_stack
  ) else (
    q_c (f0_pageSize a_done a_sizes) fun t44 =>
    f1_refusesPutting_47 n b_now b_shutTill b_shutBy a_done a_kinds a_writers a_minutes a_sizes t_codes t_lengths x1 x2 x3 x4_21 t44 t_named t_stack
  )
def f1_refusesPutting (n : Nat) (x1 : Int32) (x2 : Int32) (x3 : Int32) (b_now : Int32) (b_shutTill : Int32) (b_shutBy : Int32) (a_done : Int32) (a_kinds : (Nat → Int32)) (a_writers : (Nat → Int32)) (a_minutes : (Nat → Int32)) (a_sizes : (Nat → Int32)) (t_codes : (Nat → Int32)) (t_lengths : (Nat → Int32)) (t_named : (Nat → Int32)) (t_stack : (Nat → Int32)) : Option (Int32 × (Nat → Int32) × (Nat → Int32)) :=
  if x1 = ((1 : Int32)) then (
    f1_refusesPutting_17 n b_now b_shutTill b_shutBy a_done a_kinds a_writers a_minutes a_sizes t_codes t_lengths x1 x2 x3 t_named t_stack
  ) else (
    if x1 = ((4 : Int32)) then (
      f1_refusesPutting_17 n b_now b_shutTill b_shutBy a_done a_kinds a_writers a_minutes a_sizes t_codes t_lengths x1 x2 x3 t_named t_stack
    ) else (
      if x1 = ((5 : Int32)) then (
        f1_refusesPutting_17 n b_now b_shutTill b_shutBy a_done a_kinds a_writers a_minutes a_sizes t_codes t_lengths x1 x2 x3 t_named t_stack
      ) else (
        some ((1 : Int32), t_named, t_stack)
      )
    )
  )
def f0_draftsHalf_88 (a_done : Int32) (x4 : Int32) (x5 : Int32) (a_sizes : (Nat → Int32)) (a_cells : (Nat → Int32)) : Option ((Nat → Int32) × (Nat → Int32)) :=
  q_st a_sizes 61 (a_done + ((1 : Int32))) (x4 + x5) fun a_sizes_103 =>
  some (a_sizes_103, a_cells)
def f0_draftsHalf (x1 : Int32) (x2 : Int32) (a_done : Int32) (a_sizes : (Nat → Int32)) (a_cells : (Nat → Int32)) : Option ((Nat → Int32) × (Nat → Int32)) :=
  q_lt ((a_done + ((1 : Int32))) * ((20 : Int32))) fun x3_9 =>
  q_ld a_sizes 61 x1 fun t16 =>
  q_lt (if t16 < x2 then t16 else x2) fun t17 =>
  q_ld a_sizes 61 a_done fun t31 =>
  q_lt (if ((0 : Int32)) < (t31 - x2) then (t31 - x2) else ((0 : Int32))) fun t34 =>
  q_cp a_cells 1220 (x1 * ((20 : Int32))) a_cells 1220 x3_9 t17 fun a_cells_54 =>
  if t34 ≤ 0 then (
    f0_draftsHalf_88 a_done t17 t34 a_sizes a_cells_54
  ) else (
    q_cp a_cells_54 1220 ((a_done * ((20 : Int32))) + x2) a_cells_54 1220 (x3_9 + t17) t34 fun a_cells_85 =>
    f0_draftsHalf_88 a_done t17 t34 a_sizes a_cells_85
  )
def f0_draftsMending (x1 : Int32) (x2 : Int32) (a_done : Int32) (a_sizes : (Nat → Int32)) (a_cells : (Nat → Int32)) : Option ((Nat → Int32) × (Nat → Int32)) :=
  q_c2 (f0_draftsHalf a_done ((20 : Int32)) a_done a_sizes a_cells) fun a_sizes_7 a_cells_7 =>
  q_st a_cells_7 1220 (((a_done + ((1 : Int32))) * ((20 : Int32))) + x1) ((a_done <<< (((6 : Int32)) &&& 31)) ||| x2) fun a_cells_34 =>
  some (a_sizes_7, a_cells_34)
def f0_draftsPutting (x1 : Int32) (x2 : Int32) (a_done : Int32) (a_sizes : (Nat → Int32)) (a_cells : (Nat → Int32)) : Option ((Nat → Int32) × (Nat → Int32)) :=
  q_lt (a_done * ((20 : Int32))) fun x3_7 =>
  q_lt (x3_7 + ((20 : Int32))) fun x4_12 =>
  q_ld a_sizes 61 a_done fun t22 =>
  q_cp a_cells 1220 x3_7 a_cells 1220 x4_12 x1 fun a_cells_37 =>
  q_cp a_cells_37 1220 (x3_7 + x1) a_cells_37 1220 ((x4_12 + x1) + ((1 : Int32))) (t22 - x1) fun a_cells_61 =>
  q_st a_cells_61 1220 (x4_12 + x1) ((a_done <<< (((6 : Int32)) &&& 31)) ||| x2) fun a_cells_81 =>
  q_st a_sizes 61 (a_done + ((1 : Int32))) (t22 + ((1 : Int32))) fun a_sizes_96 =>
  some (a_sizes_96, a_cells_81)
def f0_wordAt (x1 : Int32) (x2 : Int32) (a_cells : (Nat → Int32)) : Option (Int32) :=
  q_ld a_cells 1220 ((x1 * ((20 : Int32))) + x2) fun t10 =>
  some (t10 &&& ((63 : Int32)))
def f0_areAlike_19 (n : Nat) (a_sizes : (Nat → Int32)) (a_cells : (Nat → Int32)) : Nat → Int32 → Int32 → Int32 → Option (Int32)
  | 0, _, _, _ => none
  | kk + 1, x1, x2, x3 =>
    q_ld a_sizes 61 x1 fun t25 =>
    if t25 ≤ x3 then (
      q_bz ((1 : Int32)) <|
      some ((1 : Int32))
    ) else (
      q_c (f0_wordAt x1 x3 a_cells) fun t32 =>
      q_c (f0_wordAt x2 x3 a_cells) fun t38 =>
      if t32 = t38 then (
        q_lt (x3 + (1 : Int32)) fun x3_46 =>
        f0_areAlike_19 n a_sizes a_cells kk x1 x2 x3_46
      ) else (
        q_bz ((0 : Int32)) <|
        some ((0 : Int32))
      )
    )
def f0_areAlike (n : Nat) (x1 : Int32) (x2 : Int32) (a_sizes : (Nat → Int32)) (a_cells : (Nat → Int32)) : Option (Int32) :=
  q_ld a_sizes 61 x1 fun t5 =>
  q_ld a_sizes 61 x2 fun t11 =>
  if t5 = t11 then (
    f0_areAlike_19 n a_sizes a_cells n x1 x2 ((0 : Int32))
  ) else (
    q_bz ((0 : Int32)) <|
    some ((0 : Int32))
  )
def f0_records_118 (n : Nat) (a_sizes : (Nat → Int32)) (a_cells : (Nat → Int32)) (k66 : Int32 → Int32 → Int32 → (Nat → Int32) → (Nat → Int32) → (Nat → Int32) → (Nat → Int32) → (Nat → Int32) → (Nat → Int32) → Option (Int32 × Int32 × (Nat → Int32) × (Nat → Int32) × (Nat → Int32) × (Nat → Int32) × (Nat → Int32) × (Nat → Int32))) (x5 : Int32) (x6 : Int32) (a_done : Int32) (a_kinds : (Nat → Int32)) (a_writers : (Nat → Int32)) (a_minutes : (Nat → Int32)) (a_matters : (Nat → Int32)) (a_undoers : (Nat → Int32)) (a_scores : (Nat → Int32)) : Option (Int32 × Int32 × (Nat → Int32) × (Nat → Int32) × (Nat → Int32) × (Nat → Int32) × (Nat → Int32) × (Nat → Int32)) :=
  q_lt (x6 + (1 : Int32)) fun x6_118 =>
  k66 x5 x6_118 a_done a_kinds a_writers a_minutes a_matters a_undoers a_scores
def f0_records_66 (n : Nat) (a_sizes : (Nat → Int32)) (a_cells : (Nat → Int32)) : Nat → Int32 → Int32 → Int32 → (Nat → Int32) → (Nat → Int32) → (Nat → Int32) → (Nat → Int32) → (Nat → Int32) → (Nat → Int32) → Option (Int32 × Int32 × (Nat → Int32) × (Nat → Int32) × (Nat → Int32) × (Nat → Int32) × (Nat → Int32) × (Nat → Int32))
  | 0, _, _, _, _, _, _, _, _, _ => none
  | kk + 1, x5, x6, a_done, a_kinds, a_writers, a_minutes, a_matters, a_undoers, a_scores =>
    if x5 ≤ x6 then (
      some (x5, a_done, a_kinds, a_writers, a_minutes, a_matters, a_undoers, a_scores)
    ) else (
      q_ld a_undoers 60 x6 fun t79 =>
      if 0 ≤ t79 then (
        f0_records_118 n a_sizes a_cells (f0_records_66 n a_sizes a_cells kk) x5 x6 a_done a_kinds a_writers a_minutes a_matters a_undoers a_scores
      ) else (
        q_c (f0_areAlike n x6 (x6 + ((1 : Int32))) a_sizes a_cells) fun t90 =>
        if t90 = 0 then (
          q_c (f0_areAlike n x6 a_done a_sizes a_cells) fun t103 =>
          if t103 = 0 then (
            f0_records_118 n a_sizes a_cells (f0_records_66 n a_sizes a_cells kk) x5 x6 a_done a_kinds a_writers a_minutes a_matters a_undoers a_scores
          ) else (
            q_st a_undoers 60 x6 x5 fun a_undoers_117 =>
            f0_records_118 n a_sizes a_cells (f0_records_66 n a_sizes a_cells kk) x5 x6 a_done a_kinds a_writers a_minutes a_matters a_undoers_117 a_scores
          )
        ) else (
          f0_records_118 n a_sizes a_cells (f0_records_66 n a_sizes a_cells kk) x5 x6 a_done a_kinds a_writers a_minutes a_matters a_undoers a_scores
        )
      )
    )
def f0_records (n : Nat) (x1 : Int32) (x2 : Int32) (x3 : Int32) (x4 : Int32) (a_done : Int32) (a_kinds : (Nat → Int32)) (a_writers : (Nat → Int32)) (a_minutes : (Nat → Int32)) (a_matters : (Nat → Int32)) (a_undoers : (Nat → Int32)) (a_scores : (Nat → Int32)) (a_sizes : (Nat → Int32)) (a_cells : (Nat → Int32)) : Option (Int32 × Int32 × (Nat → Int32) × (Nat → Int32) × (Nat → Int32) × (Nat → Int32) × (Nat → Int32) × (Nat → Int32)) :=
  q_st a_kinds 60 a_done x1 fun a_kinds_13 =>
  q_st a_writers 60 a_done x2 fun a_writers_21 =>
  q_st a_minutes 60 a_done x3 fun a_minutes_29 =>
  q_st a_matters 60 a_done x4 fun a_matters_38 =>
  q_st a_undoers 60 a_done ((-1 : Int32)) fun a_undoers_46 =>
  q_st a_scores 60 a_done ((-1 : Int32)) fun a_scores_54 =>
  q_lt (a_done + ((1 : Int32))) fun a_done_60 =>
  f0_records_66 n a_sizes a_cells n a_done ((0 : Int32)) a_done_60 a_kinds_13 a_writers_21 a_minutes_29 a_matters_38 a_undoers_46 a_scores_54
def f1_puts_32 (n : Nat) (b_now : Int32) (x1 : Int32) (x2 : Int32) (x3 : Int32) (a_done : Int32) (a_kinds : (Nat → Int32)) (a_writers : (Nat → Int32)) (a_minutes : (Nat → Int32)) (a_matters : (Nat → Int32)) (a_undoers : (Nat → Int32)) (a_scores : (Nat → Int32)) (a_sizes : (Nat → Int32)) (a_cells : (Nat → Int32)) : Option (Int32 × Int32 × (Nat → Int32) × (Nat → Int32) × (Nat → Int32) × (Nat → Int32) × (Nat → Int32) × (Nat → Int32) × (Nat → Int32) × (Nat → Int32)) :=
  q_dv ((100 : Int32)) <|
  q_c8 (f0_records n x1 (x2 / ((100 : Int32))) b_now x3 a_done a_kinds a_writers a_minutes a_matters a_undoers a_scores a_sizes a_cells) fun t46 a_done_46 a_kinds_46 a_writers_46 a_minutes_46 a_matters_46 a_undoers_46 a_scores_46 =>
  some (t46, a_done_46, a_kinds_46, a_writers_46, a_minutes_46, a_matters_46, a_undoers_46, a_scores_46, a_sizes, a_cells)
def f1_puts (n : Nat) (x1 : Int32) (x2 : Int32) (x3 : Int32) (b_now : Int32) (a_done : Int32) (a_kinds : (Nat → Int32)) (a_writers : (Nat → Int32)) (a_minutes : (Nat → Int32)) (a_matters : (Nat → Int32)) (a_undoers : (Nat → Int32)) (a_scores : (Nat → Int32)) (a_sizes : (Nat → Int32)) (a_cells : (Nat → Int32)) : Option (Int32 × Int32 × (Nat → Int32) × (Nat → Int32) × (Nat → Int32) × (Nat → Int32) × (Nat → Int32) × (Nat → Int32) × (Nat → Int32) × (Nat → Int32)) :=
  if x1 = ((5 : Int32)) then (
    q_dv ((100 : Int32)) <|
    q_c2 (f0_draftsMending (x2 - x2 / ((100 : Int32)) * ((100 : Int32))) x3 a_done a_sizes a_cells) fun a_sizes_14 a_cells_14 =>
    f1_puts_32 n b_now x1 x2 x3 a_done a_kinds a_writers a_minutes a_matters a_undoers a_scores a_sizes_14 a_cells_14
  ) else (
    q_dv ((100 : Int32)) <|
    q_c2 (f0_draftsPutting (x2 - x2 / ((100 : Int32)) * ((100 : Int32))) x3 a_done a_sizes a_cells) fun a_sizes_29 a_cells_29 =>
    f1_puts_32 n b_now x1 x2 x3 a_done a_kinds a_writers a_minutes a_matters a_undoers a_scores a_sizes_29 a_cells_29
  )
def f0_undoneBy_22 (n : Nat) (a_undoers : (Nat → Int32)) (k4 : Int32 → Int32 → Int32 → Option (Int32)) (x1 : Int32) (x2 : Int32) (x3 : Int32) : Option (Int32) :=
  q_lt (x3 + (1 : Int32)) fun x3_22 =>
  k4 x1 x2 x3_22
def f0_undoneBy_4 (n : Nat) (a_undoers : (Nat → Int32)) : Nat → Int32 → Int32 → Int32 → Option (Int32)
  | 0, _, _, _ => none
  | kk + 1, x1, x2, x3 =>
    if x1 ≤ x3 then (
      some x2
    ) else (
      q_ld a_undoers 60 x3 fun t14 =>
      if t14 = x1 then (
        q_lt (x2 + (1 : Int32)) fun x2_19 =>
        f0_undoneBy_22 n a_undoers (f0_undoneBy_4 n a_undoers kk) x1 x2_19 x3
      ) else (
        f0_undoneBy_22 n a_undoers (f0_undoneBy_4 n a_undoers kk) x1 x2 x3
      )
    )
def f0_undoneBy (n : Nat) (x1 : Int32) (a_undoers : (Nat → Int32)) : Option (Int32) :=
  f0_undoneBy_4 n a_undoers n x1 ((0 : Int32)) ((0 : Int32))
def f1_putsBack (n : Nat) (x1 : Int32) (x2 : Int32) (x3 : Int32) (x4 : Int32) (b_now : Int32) (a_done : Int32) (a_kinds : (Nat → Int32)) (a_writers : (Nat → Int32)) (a_minutes : (Nat → Int32)) (a_matters : (Nat → Int32)) (a_undoers : (Nat → Int32)) (a_scores : (Nat → Int32)) (a_sizes : (Nat → Int32)) (a_cells : (Nat → Int32)) : Option (Int32 × Int32 × (Nat → Int32) × (Nat → Int32) × (Nat → Int32) × (Nat → Int32) × (Nat → Int32) × (Nat → Int32) × (Nat → Int32) × (Nat → Int32)) :=
  q_c2 (f0_draftsHalf x3 x4 a_done a_sizes a_cells) fun a_sizes_7 a_cells_7 =>
  q_c8 (f0_records n x1 x2 b_now x3 a_done a_kinds a_writers a_minutes a_matters a_undoers a_scores a_sizes_7 a_cells_7) fun t21 a_done_21 a_kinds_21 a_writers_21 a_minutes_21 a_matters_21 a_undoers_21 a_scores_21 =>
  some (t21, a_done_21, a_kinds_21, a_writers_21, a_minutes_21, a_matters_21, a_undoers_21, a_scores_21, a_sizes_7, a_cells_7)
def f1_machineAnswers_124 (n : Nat) (b_now : Int32) (b_shutTill : Int32) (b_shutBy : Int32) (t_codes : (Nat → Int32)) (t_lengths : (Nat → Int32)) (a_done : Int32) (a_kinds : (Nat → Int32)) (a_writers : (Nat → Int32)) (a_minutes : (Nat → Int32)) (a_matters : (Nat → Int32)) (a_undoers : (Nat → Int32)) (a_scores : (Nat → Int32)) (a_sizes : (Nat → Int32)) (a_cells : (Nat → Int32)) (t_named : (Nat → Int32)) (t_stack : (Nat → Int32)) : Option (Int32 × (Nat → Int32) × (Nat → Int32) × (Nat → Int32) × (Nat → Int32) × (Nat → Int32) × (Nat → Int32) × (Nat → Int32) × (Nat → Int32) × (Nat → Int32) × (Nat → Int32)) :=
  some (a_done, a_kinds, a_writers, a_minutes, a_matters, a_undoers, a_scores, a_sizes, a_cells, t_named, t_stack)
def f1_machineAnswers_25 (n : Nat) (b_now : Int32) (b_shutTill : Int32) (b_shutBy : Int32) (t_codes : (Nat → Int32)) (t_lengths : (Nat → Int32)) (a_done : Int32) (a_kinds : (Nat → Int32)) (a_writers : (Nat → Int32)) (a_minutes : (Nat → Int32)) (a_matters : (Nat → Int32)) (a_undoers : (Nat → Int32)) (a_scores : (Nat → Int32)) (a_sizes : (Nat → Int32)) (a_cells : (Nat → Int32)) (t_named : (Nat → Int32)) (t_stack : (Nat → Int32)) : Option (Int32 × (Nat → Int32) × (Nat → Int32) × (Nat → Int32) × (Nat → Int32) × (Nat → Int32) × (Nat → Int32) × (Nat → Int32) × (Nat → Int32) × (Nat → Int32) × (Nat → Int32)) :=
  some (a_done, a_kinds, a_writers, a_minutes, a_matters, a_undoers, a_scores, a_sizes, a_cells, t_named, t_stack)
def f1_machineAnswers (n : Nat) (x1 : Int32) (b_now : Int32) (b_shutTill : Int32) (b_shutBy : Int32) (a_done : Int32) (a_kinds : (Nat → Int32)) (a_writers : (Nat → Int32)) (a_minutes : (Nat → Int32)) (a_matters : (Nat → Int32)) (a_undoers : (Nat → Int32)) (a_scores : (Nat → Int32)) (a_sizes : (Nat → Int32)) (a_cells : (Nat → Int32)) (t_codes : (Nat → Int32)) (t_lengths : (Nat → Int32)) (t_named : (Nat → Int32)) (t_stack : (Nat → Int32)) : Option (Int32 × (Nat → Int32) × (Nat → Int32) × (Nat → Int32) × (Nat → Int32) × (Nat → Int32) × (Nat → Int32) × (Nat → Int32) × (Nat → Int32) × (Nat → Int32) × (Nat → Int32)) :=
  q_ld a_writers 60 x1 fun t8 =>
  if t8 = ((7 : Int32)) then (
    f1_machineAnswers_25 n b_now b_shutTill b_shutBy t_codes t_lengths a_done a_kinds a_writers a_minutes a_matters a_undoers a_scores a_sizes a_cells t_named t_stack
  ) else (
    q_c (f4_has ((1 : Int32)) t_lengths) fun t19 =>
    if t19 = 0 then (
      f1_machineAnswers_25 n b_now b_shutTill b_shutBy t_codes t_lengths a_done a_kinds a_writers a_minutes a_matters a_undoers a_scores a_sizes a_cells t_named t_stack
    ) else (
      q_ld a_sizes 61 (x1 + ((1 : Int32))) fun t36 =>
      q_ld a_kinds 60 x1 fun t50 =>
      q_ld a_writers 60 x1 fun t59 =>
      q_ld a_sizes 61 x1 fun t70 =>
      q_c (f0_undoneBy n x1 a_undoers) fun t77 =>
      q_c1 (f4_names t50 t59 t36 (t36 - t70) t77 t_named) fun t_named_80 =>
      q_c2 (f4_worked n ((1 : Int32)) t_codes t_lengths t_named_80 t_stack) fun t88 t_stack_88 =>
      if t88 = 0 then (
        f1_machineAnswers_124 n b_now b_shutTill b_shutBy t_codes t_lengths a_done a_kinds a_writers a_minutes a_matters a_undoers a_scores a_sizes a_cells t_named_80 t_stack_88
      ) else (
        q_c (f0_hasRoom a_done) fun t98 =>
        if t98 = 0 then (
          f1_machineAnswers_124 n b_now b_shutTill b_shutBy t_codes t_lengths a_done a_kinds a_writers a_minutes a_matters a_undoers a_scores a_sizes a_cells t_named_80 t_stack_88
        ) else (
          q_c3 (f1_lets n ((7 : Int32)) b_now b_shutTill b_shutBy a_done a_kinds a_writers a_minutes a_sizes t_codes t_lengths t_named_80 t_stack_88) fun t107 t_named_107 t_stack_107 =>
          if t107 = 0 then (
            f1_machineAnswers_124 n b_now b_shutTill b_shutBy t_codes t_lengths a_done a_kinds a_writers a_minutes a_matters a_undoers a_scores a_sizes a_cells t_named_107 t_stack_107
          ) else (
            q_c10 (f1_putsBack n ((2 : Int32)) ((7 : Int32)) x1 ((20 : Int32)) b_now a_done a_kinds a_writers a_minutes a_matters a_undoers a_scores a_sizes a_cells) fun t120 a_done_120 a_kinds_120 a_writers_120 a_minutes_120 a_matters_120 a_undoers_120 a_scores_120 a_sizes_120 a_cells_120 =>
            f1_machineAnswers_124 n b_now b_shutTill b_shutBy t_codes t_lengths a_done_120 a_kinds_120 a_writers_120 a_minutes_120 a_matters_120 a_undoers_120 a_scores_120 a_sizes_120 a_cells_120 t_named_107 t_stack_107
          )
        )
      )
    )
  )
def f6_answered (n : Nat) (x1 : Int32) (b_now : Int32) (b_shutTill : Int32) (b_shutBy : Int32) (a_done : Int32) (a_kinds : (Nat → Int32)) (a_writers : (Nat → Int32)) (a_minutes : (Nat → Int32)) (a_matters : (Nat → Int32)) (a_undoers : (Nat → Int32)) (a_scores : (Nat → Int32)) (a_sizes : (Nat → Int32)) (a_cells : (Nat → Int32)) (t_codes : (Nat → Int32)) (t_lengths : (Nat → Int32)) (t_named : (Nat → Int32)) (t_stack : (Nat → Int32)) : Option (Int32 × Int32 × (Nat → Int32) × (Nat → Int32) × (Nat → Int32) × (Nat → Int32) × (Nat → Int32) × (Nat → Int32) × (Nat → Int32) × (Nat → Int32) × (Nat → Int32) × (Nat → Int32)) :=
  q_c11 (f1_machineAnswers n x1 b_now b_shutTill b_shutBy a_done a_kinds a_writers a_minutes a_matters a_undoers a_scores a_sizes a_cells t_codes t_lengths t_named t_stack) fun a_done_5 a_kinds_5 a_writers_5 a_minutes_5 a_matters_5 a_undoers_5 a_scores_5 a_sizes_5 a_cells_5 t_named_5 t_stack_5 =>
  some (x1, a_done_5, a_kinds_5, a_writers_5, a_minutes_5, a_matters_5, a_undoers_5, a_scores_5, a_sizes_5, a_cells_5, t_named_5, t_stack_5)
def f6_write (n : Nat) (x1 : Int32) (x2 : Int32) (x3 : Int32) (b_now : Int32) (b_shutTill : Int32) (b_shutBy : Int32) (a_done : Int32) (p_errors : (Nat → Int32)) (a_kinds : (Nat → Int32)) (a_writers : (Nat → Int32)) (a_minutes : (Nat → Int32)) (a_matters : (Nat → Int32)) (a_undoers : (Nat → Int32)) (a_scores : (Nat → Int32)) (a_sizes : (Nat → Int32)) (a_cells : (Nat → Int32)) (t_codes : (Nat → Int32)) (t_lengths : (Nat → Int32)) (t_named : (Nat → Int32)) (t_stack : (Nat → Int32)) : Option (Int32 × Int32 × (Nat → Int32) × (Nat → Int32) × (Nat → Int32) × (Nat → Int32) × (Nat → Int32) × (Nat → Int32) × (Nat → Int32) × (Nat → Int32) × (Nat → Int32) × (Nat → Int32) × (Nat → Int32)) :=
  q_c3 (f1_refusesPutting n x1 x2 x3 b_now b_shutTill b_shutBy a_done a_kinds a_writers a_minutes a_sizes t_codes t_lengths t_named t_stack) fun t7 t_named_7 t_stack_7 =>
  if t7 = 0 then (
    q_c10 (f1_puts n x1 x2 x3 b_now a_done a_kinds a_writers a_minutes a_matters a_undoers a_scores a_sizes a_cells) fun t32 a_done_32 a_kinds_32 a_writers_32 a_minutes_32 a_matters_32 a_undoers_32 a_scores_32 a_sizes_32 a_cells_32 =>
    q_c12 (f6_answered n t32 b_now b_shutTill b_shutBy a_done_32 a_kinds_32 a_writers_32 a_minutes_32 a_matters_32 a_undoers_32 a_scores_32 a_sizes_32 a_cells_32 t_codes t_lengths t_named_7 t_stack_7) fun t35 a_done_35 a_kinds_35 a_writers_35 a_minutes_35 a_matters_35 a_undoers_35 a_scores_35 a_sizes_35 a_cells_35 t_named_35 t_stack_35 =>
    some (t35, a_done_35, p_errors, a_kinds_35, a_writers_35, a_minutes_35, a_matters_35, a_undoers_35, a_scores_35, a_sizes_35, a_cells_35, t_named_35, t_stack_35)
  ) else (
    q_c2 (f6_error t7 p_errors) fun t20 p_errors_20 =>
    some (t20, a_done, p_errors_20, a_kinds, a_writers, a_minutes, a_matters, a_undoers, a_scores, a_sizes, a_cells, t_named_7, t_stack_7)
  )
def f0_draftsTakingOut (x1 : Int32) (a_done : Int32) (a_sizes : (Nat → Int32)) (a_cells : (Nat → Int32)) : Option ((Nat → Int32) × (Nat → Int32)) :=
  q_lt (a_done * ((20 : Int32))) fun x2_7 =>
  q_lt (x2_7 + ((20 : Int32))) fun x3_12 =>
  q_ld a_sizes 61 a_done fun t21 =>
  q_cp a_cells 1220 x2_7 a_cells 1220 x3_12 x1 fun a_cells_35 =>
  q_cp a_cells_35 1220 ((x2_7 + x1) + ((1 : Int32))) a_cells_35 1220 (x3_12 + x1) ((t21 - x1) - ((1 : Int32))) fun a_cells_60 =>
  q_st a_sizes 61 (a_done + ((1 : Int32))) (t21 - ((1 : Int32))) fun a_sizes_77 =>
  some (a_sizes_77, a_cells_60)
def f1_takesOut (n : Nat) (x1 : Int32) (x2 : Int32) (b_now : Int32) (a_done : Int32) (a_kinds : (Nat → Int32)) (a_writers : (Nat → Int32)) (a_minutes : (Nat → Int32)) (a_matters : (Nat → Int32)) (a_undoers : (Nat → Int32)) (a_scores : (Nat → Int32)) (a_sizes : (Nat → Int32)) (a_cells : (Nat → Int32)) : Option (Int32 × Int32 × (Nat → Int32) × (Nat → Int32) × (Nat → Int32) × (Nat → Int32) × (Nat → Int32) × (Nat → Int32) × (Nat → Int32) × (Nat → Int32)) :=
  q_c (f0_wordAt a_done x2 a_cells) fun t12 =>
  q_c2 (f0_draftsTakingOut x2 a_done a_sizes a_cells) fun a_sizes_21 a_cells_21 =>
  q_c8 (f0_records n ((0 : Int32)) x1 b_now t12 a_done a_kinds a_writers a_minutes a_matters a_undoers a_scores a_sizes_21 a_cells_21) fun t35 a_done_35 a_kinds_35 a_writers_35 a_minutes_35 a_matters_35 a_undoers_35 a_scores_35 =>
  some (t35, a_done_35, a_kinds_35, a_writers_35, a_minutes_35, a_matters_35, a_undoers_35, a_scores_35, a_sizes_21, a_cells_21)
def f6_cut_33 (n : Nat) (b_now : Int32) (b_shutTill : Int32) (b_shutBy : Int32) (t_codes : (Nat → Int32)) (t_lengths : (Nat → Int32)) (a_done : Int32) (p_errors : (Nat → Int32)) (a_kinds : (Nat → Int32)) (a_writers : (Nat → Int32)) (a_minutes : (Nat → Int32)) (a_matters : (Nat → Int32)) (a_undoers : (Nat → Int32)) (a_scores : (Nat → Int32)) (a_sizes : (Nat → Int32)) (a_cells : (Nat → Int32)) (t_named : (Nat → Int32)) (t_stack : (Nat → Int32)) : Option (Int32 × Int32 × (Nat → Int32) × (Nat → Int32) × (Nat → Int32) × (Nat → Int32) × (Nat → Int32) × (Nat → Int32) × (Nat → Int32) × (Nat → Int32) × (Nat → Int32) × (Nat → Int32) × (Nat → Int32)) :=
  q_c2 (f6_error ((1 : Int32)) p_errors) fun t35 p_errors_35 =>
  some (t35, a_done, p_errors_35, a_kinds, a_writers, a_minutes, a_matters, a_undoers, a_scores, a_sizes, a_cells, t_named, t_stack)
def f6_cut (n : Nat) (x1 : Int32) (b_now : Int32) (b_shutTill : Int32) (b_shutBy : Int32) (a_done : Int32) (p_errors : (Nat → Int32)) (a_kinds : (Nat → Int32)) (a_writers : (Nat → Int32)) (a_minutes : (Nat → Int32)) (a_matters : (Nat → Int32)) (a_undoers : (Nat → Int32)) (a_scores : (Nat → Int32)) (a_sizes : (Nat → Int32)) (a_cells : (Nat → Int32)) (t_codes : (Nat → Int32)) (t_lengths : (Nat → Int32)) (t_named : (Nat → Int32)) (t_stack : (Nat → Int32)) : Option (Int32 × Int32 × (Nat → Int32) × (Nat → Int32) × (Nat → Int32) × (Nat → Int32) × (Nat → Int32) × (Nat → Int32) × (Nat → Int32) × (Nat → Int32) × (Nat → Int32) × (Nat → Int32) × (Nat → Int32)) :=
  q_dv ((100 : Int32)) <|
  q_lt (x1 - x1 / ((100 : Int32)) * ((100 : Int32))) fun x2_4 =>
  q_dv ((100 : Int32)) <|
  q_c (f6_isWriter (x1 / ((100 : Int32)))) fun t9 =>
  if t9 = 0 then (
    f6_cut_33 n b_now b_shutTill b_shutBy t_codes t_lengths a_done p_errors a_kinds a_writers a_minutes a_matters a_undoers a_scores a_sizes a_cells t_named t_stack
  ) else (
    if x2_4 < 0 then (
      f6_cut_33 n b_now b_shutTill b_shutBy t_codes t_lengths a_done p_errors a_kinds a_writers a_minutes a_matters a_undoers a_scores a_sizes a_cells t_named t_stack
    ) else (
      q_c (f0_pageSize a_done a_sizes) fun t27 =>
      if x2_4 < t27 then (
        q_dv ((100 : Int32)) <|
        q_c3 (f1_refusesActing n (x1 / ((100 : Int32))) b_now b_shutTill b_shutBy a_done a_kinds a_writers a_minutes a_sizes t_codes t_lengths t_named t_stack) fun t47 t_named_47 t_stack_47 =>
        if t47 = 0 then (
          q_dv ((100 : Int32)) <|
          q_c10 (f1_takesOut n (x1 / ((100 : Int32))) x2_4 b_now a_done a_kinds a_writers a_minutes a_matters a_undoers a_scores a_sizes a_cells) fun t71 a_done_71 a_kinds_71 a_writers_71 a_minutes_71 a_matters_71 a_undoers_71 a_scores_71 a_sizes_71 a_cells_71 =>
          q_c12 (f6_answered n t71 b_now b_shutTill b_shutBy a_done_71 a_kinds_71 a_writers_71 a_minutes_71 a_matters_71 a_undoers_71 a_scores_71 a_sizes_71 a_cells_71 t_codes t_lengths t_named_47 t_stack_47) fun t74 a_done_74 a_kinds_74 a_writers_74 a_minutes_74 a_matters_74 a_undoers_74 a_scores_74 a_sizes_74 a_cells_74 t_named_74 t_stack_74 =>
          some (t74, a_done_74, p_errors, a_kinds_74, a_writers_74, a_minutes_74, a_matters_74, a_undoers_74, a_scores_74, a_sizes_74, a_cells_74, t_named_74, t_stack_74)
        ) else (
          q_c2 (f6_error t47 p_errors) fun t57 p_errors_57 =>
          some (t57, a_done, p_errors_57, a_kinds, a_writers, a_minutes, a_matters, a_undoers, a_scores, a_sizes, a_cells, t_named_47, t_stack_47)
        )
      ) else (
        f6_cut_33 n b_now b_shutTill b_shutBy t_codes t_lengths a_done p_errors a_kinds a_writers a_minutes a_matters a_undoers a_scores a_sizes a_cells t_named t_stack
      )
    )
  )
def f6_isVersion_23 (a_done : Int32) (s0 : Int32) : Option (Int32) :=
  q_bz s0 <|
  some s0
def f6_isVersion_22 (a_done : Int32) : Option (Int32) :=
  f6_isVersion_23 a_done ((0 : Int32))
def f6_isVersion (x1 : Int32) (a_done : Int32) : Option (Int32) :=
  if x1 < 0 then (
    f6_isVersion_22 a_done
  ) else (
    if a_done < x1 then (
      f6_isVersion_22 a_done
    ) else (
      f6_isVersion_23 a_done ((1 : Int32))
    )
  )
def f6_back_15 (n : Nat) (b_now : Int32) (b_shutTill : Int32) (b_shutBy : Int32) (t_codes : (Nat → Int32)) (t_lengths : (Nat → Int32)) (a_done : Int32) (p_errors : (Nat → Int32)) (a_kinds : (Nat → Int32)) (a_writers : (Nat → Int32)) (a_minutes : (Nat → Int32)) (a_matters : (Nat → Int32)) (a_undoers : (Nat → Int32)) (a_scores : (Nat → Int32)) (a_sizes : (Nat → Int32)) (a_cells : (Nat → Int32)) (t_named : (Nat → Int32)) (t_stack : (Nat → Int32)) : Option (Int32 × Int32 × (Nat → Int32) × (Nat → Int32) × (Nat → Int32) × (Nat → Int32) × (Nat → Int32) × (Nat → Int32) × (Nat → Int32) × (Nat → Int32) × (Nat → Int32) × (Nat → Int32) × (Nat → Int32)) :=
  q_c2 (f6_error ((1 : Int32)) p_errors) fun t17 p_errors_17 =>
  some (t17, a_done, p_errors_17, a_kinds, a_writers, a_minutes, a_matters, a_undoers, a_scores, a_sizes, a_cells, t_named, t_stack)
def f6_back (n : Nat) (x1 : Int32) (x2 : Int32) (b_now : Int32) (b_shutTill : Int32) (b_shutBy : Int32) (a_done : Int32) (p_errors : (Nat → Int32)) (a_kinds : (Nat → Int32)) (a_writers : (Nat → Int32)) (a_minutes : (Nat → Int32)) (a_matters : (Nat → Int32)) (a_undoers : (Nat → Int32)) (a_scores : (Nat → Int32)) (a_sizes : (Nat → Int32)) (a_cells : (Nat → Int32)) (t_codes : (Nat → Int32)) (t_lengths : (Nat → Int32)) (t_named : (Nat → Int32)) (t_stack : (Nat → Int32)) : Option (Int32 × Int32 × (Nat → Int32) × (Nat → Int32) × (Nat → Int32) × (Nat → Int32) × (Nat → Int32) × (Nat → Int32) × (Nat → Int32) × (Nat → Int32) × (Nat → Int32) × (Nat → Int32) × (Nat → Int32)) :=
  q_c (f6_isWriter x1) fun t1 =>
  if t1 = 0 then (
    f6_back_15 n b_now b_shutTill b_shutBy t_codes t_lengths a_done p_errors a_kinds a_writers a_minutes a_matters a_undoers a_scores a_sizes a_cells t_named t_stack
  ) else (
    q_c (f6_isVersion x2 a_done) fun t9 =>
    if t9 = 0 then (
      f6_back_15 n b_now b_shutTill b_shutBy t_codes t_lengths a_done p_errors a_kinds a_writers a_minutes a_matters a_undoers a_scores a_sizes a_cells t_named t_stack
    ) else (
      q_c3 (f1_refusesActing n x1 b_now b_shutTill b_shutBy a_done a_kinds a_writers a_minutes a_sizes t_codes t_lengths t_named t_stack) fun t26 t_named_26 t_stack_26 =>
      if t26 = 0 then (
        q_c10 (f1_putsBack n ((2 : Int32)) x1 x2 ((20 : Int32)) b_now a_done a_kinds a_writers a_minutes a_matters a_undoers a_scores a_sizes a_cells) fun t50 a_done_50 a_kinds_50 a_writers_50 a_minutes_50 a_matters_50 a_undoers_50 a_scores_50 a_sizes_50 a_cells_50 =>
        q_c12 (f6_answered n t50 b_now b_shutTill b_shutBy a_done_50 a_kinds_50 a_writers_50 a_minutes_50 a_matters_50 a_undoers_50 a_scores_50 a_sizes_50 a_cells_50 t_codes t_lengths t_named_26 t_stack_26) fun t53 a_done_53 a_kinds_53 a_writers_53 a_minutes_53 a_matters_53 a_undoers_53 a_scores_53 a_sizes_53 a_cells_53 t_named_53 t_stack_53 =>
        some (t53, a_done_53, p_errors, a_kinds_53, a_writers_53, a_minutes_53, a_matters_53, a_undoers_53, a_scores_53, a_sizes_53, a_cells_53, t_named_53, t_stack_53)
      ) else (
        q_c2 (f6_error t26 p_errors) fun t36 p_errors_36 =>
        some (t36, a_done, p_errors_36, a_kinds, a_writers, a_minutes, a_matters, a_undoers, a_scores, a_sizes, a_cells, t_named_26, t_stack_26)
      )
    )
  )
def f0_halfSize (x1 : Int32) (x2 : Int32) (a_done : Int32) (a_sizes : (Nat → Int32)) : Option (Int32) :=
  q_ld a_sizes 61 x1 fun t6 =>
  q_lt (if t6 < x2 then t6 else x2) fun t7 =>
  q_ld a_sizes 61 a_done fun t19 =>
  q_lt (if ((0 : Int32)) < (t19 - x2) then (t19 - x2) else ((0 : Int32))) fun t22 =>
  some (t7 + t22)
def f6_half_25 (n : Nat) (b_now : Int32) (b_shutTill : Int32) (b_shutBy : Int32) (t_codes : (Nat → Int32)) (t_lengths : (Nat → Int32)) (a_done : Int32) (p_errors : (Nat → Int32)) (a_kinds : (Nat → Int32)) (a_writers : (Nat → Int32)) (a_minutes : (Nat → Int32)) (a_matters : (Nat → Int32)) (a_undoers : (Nat → Int32)) (a_scores : (Nat → Int32)) (a_sizes : (Nat → Int32)) (a_cells : (Nat → Int32)) (t_named : (Nat → Int32)) (t_stack : (Nat → Int32)) : Option (Int32 × Int32 × (Nat → Int32) × (Nat → Int32) × (Nat → Int32) × (Nat → Int32) × (Nat → Int32) × (Nat → Int32) × (Nat → Int32) × (Nat → Int32) × (Nat → Int32) × (Nat → Int32) × (Nat → Int32)) :=
  q_c2 (f6_error ((1 : Int32)) p_errors) fun t27 p_errors_27 =>
  some (t27, a_done, p_errors_27, a_kinds, a_writers, a_minutes, a_matters, a_undoers, a_scores, a_sizes, a_cells, t_named, t_stack)
def f6_half (n : Nat) (x1 : Int32) (x2 : Int32) (x3 : Int32) (b_now : Int32) (b_shutTill : Int32) (b_shutBy : Int32) (a_done : Int32) (p_errors : (Nat → Int32)) (a_kinds : (Nat → Int32)) (a_writers : (Nat → Int32)) (a_minutes : (Nat → Int32)) (a_matters : (Nat → Int32)) (a_undoers : (Nat → Int32)) (a_scores : (Nat → Int32)) (a_sizes : (Nat → Int32)) (a_cells : (Nat → Int32)) (t_codes : (Nat → Int32)) (t_lengths : (Nat → Int32)) (t_named : (Nat → Int32)) (t_stack : (Nat → Int32)) : Option (Int32 × Int32 × (Nat → Int32) × (Nat → Int32) × (Nat → Int32) × (Nat → Int32) × (Nat → Int32) × (Nat → Int32) × (Nat → Int32) × (Nat → Int32) × (Nat → Int32) × (Nat → Int32) × (Nat → Int32)) :=
  q_c (f6_isWriter x1) fun t1 =>
  if t1 = 0 then (
    f6_half_25 n b_now b_shutTill b_shutBy t_codes t_lengths a_done p_errors a_kinds a_writers a_minutes a_matters a_undoers a_scores a_sizes a_cells t_named t_stack
  ) else (
    q_c (f6_isVersion x2 a_done) fun t9 =>
    if t9 = 0 then (
      f6_half_25 n b_now b_shutTill b_shutBy t_codes t_lengths a_done p_errors a_kinds a_writers a_minutes a_matters a_undoers a_scores a_sizes a_cells t_named t_stack
    ) else (
      if x3 < 0 then (
        f6_half_25 n b_now b_shutTill b_shutBy t_codes t_lengths a_done p_errors a_kinds a_writers a_minutes a_matters a_undoers a_scores a_sizes a_cells t_named t_stack
      ) else (
        if x3 ≤ ((20 : Int32)) then (
          q_c3 (f1_refusesActing n x1 b_now b_shutTill b_shutBy a_done a_kinds a_writers a_minutes a_sizes t_codes t_lengths t_named t_stack) fun t36 t_named_36 t_stack_36 =>
          if t36 = 0 then (
            q_c (f0_halfSize x2 x3 a_done a_sizes) fun t62 =>
            if t62 ≤ ((20 : Int32)) then (
              q_c10 (f1_putsBack n ((3 : Int32)) x1 x2 x3 b_now a_done a_kinds a_writers a_minutes a_matters a_undoers a_scores a_sizes a_cells) fun t85 a_done_85 a_kinds_85 a_writers_85 a_minutes_85 a_matters_85 a_undoers_85 a_scores_85 a_sizes_85 a_cells_85 =>
              q_c12 (f6_answered n t85 b_now b_shutTill b_shutBy a_done_85 a_kinds_85 a_writers_85 a_minutes_85 a_matters_85 a_undoers_85 a_scores_85 a_sizes_85 a_cells_85 t_codes t_lengths t_named_36 t_stack_36) fun t88 a_done_88 a_kinds_88 a_writers_88 a_minutes_88 a_matters_88 a_undoers_88 a_scores_88 a_sizes_88 a_cells_88 t_named_88 t_stack_88 =>
              some (t88, a_done_88, p_errors, a_kinds_88, a_writers_88, a_minutes_88, a_matters_88, a_undoers_88, a_scores_88, a_sizes_88, a_cells_88, t_named_88, t_stack_88)
            ) else (
              q_c2 (f6_error ((4 : Int32)) p_errors) fun t72 p_errors_72 =>
              some (t72, a_done, p_errors_72, a_kinds, a_writers, a_minutes, a_matters, a_undoers, a_scores, a_sizes, a_cells, t_named_36, t_stack_36)
            )
          ) else (
            q_c2 (f6_error t36 p_errors) fun t49 p_errors_49 =>
            some (t49, a_done, p_errors_49, a_kinds, a_writers, a_minutes, a_matters, a_undoers, a_scores, a_sizes, a_cells, t_named_36, t_stack_36)
          )
        ) else (
          f6_half_25 n b_now b_shutTill b_shutBy t_codes t_lengths a_done p_errors a_kinds a_writers a_minutes a_matters a_undoers a_scores a_sizes a_cells t_named t_stack
        )
      )
    )
  )
def f0_draftsSame (a_done : Int32) (a_sizes : (Nat → Int32)) (a_cells : (Nat → Int32)) : Option ((Nat → Int32) × (Nat → Int32)) :=
  q_c2 (f0_draftsHalf a_done ((20 : Int32)) a_done a_sizes a_cells) fun a_sizes_7 a_cells_7 =>
  some (a_sizes_7, a_cells_7)
def f1_shutsFor (n : Nat) (x1 : Int32) (x2 : Int32) (b_now : Int32) (b_shutTill : Int32) (b_shutBy : Int32) (a_done : Int32) (a_kinds : (Nat → Int32)) (a_writers : (Nat → Int32)) (a_minutes : (Nat → Int32)) (a_matters : (Nat → Int32)) (a_undoers : (Nat → Int32)) (a_scores : (Nat → Int32)) (a_sizes : (Nat → Int32)) (a_cells : (Nat → Int32)) : Option (Int32 × Int32 × Int32 × Int32 × (Nat → Int32) × (Nat → Int32) × (Nat → Int32) × (Nat → Int32) × (Nat → Int32) × (Nat → Int32) × (Nat → Int32) × (Nat → Int32)) :=
  q_lt (b_now + x2) fun b_shutTill_7 =>
  q_c2 (f0_draftsSame a_done a_sizes a_cells) fun a_sizes_19 a_cells_19 =>
  q_c8 (f0_records n ((6 : Int32)) x1 b_now b_shutTill_7 a_done a_kinds a_writers a_minutes a_matters a_undoers a_scores a_sizes_19 a_cells_19) fun t37 a_done_37 a_kinds_37 a_writers_37 a_minutes_37 a_matters_37 a_undoers_37 a_scores_37 =>
  some (t37, b_shutTill_7, x1, a_done_37, a_kinds_37, a_writers_37, a_minutes_37, a_matters_37, a_undoers_37, a_scores_37, a_sizes_19, a_cells_19)
def f6_shut_19 (n : Nat) (b_now : Int32) (t_codes : (Nat → Int32)) (t_lengths : (Nat → Int32)) (b_shutTill : Int32) (b_shutBy : Int32) (a_done : Int32) (p_errors : (Nat → Int32)) (a_kinds : (Nat → Int32)) (a_writers : (Nat → Int32)) (a_minutes : (Nat → Int32)) (a_matters : (Nat → Int32)) (a_undoers : (Nat → Int32)) (a_scores : (Nat → Int32)) (a_sizes : (Nat → Int32)) (a_cells : (Nat → Int32)) (t_named : (Nat → Int32)) (t_stack : (Nat → Int32)) : Option (Int32 × (Nat → Int32) × (Nat → Nat → Int32)) :=
  q_c2 (f6_error ((1 : Int32)) p_errors) fun t21 p_errors_21 =>
  some (t21, fun k => ([b_shutTill, b_shutBy, a_done] : List Int32).getD k 0, fun k => ([p_errors_21, a_kinds, a_writers, a_minutes, a_matters, a_undoers, a_scores, a_sizes, a_cells, t_named, t_stack] : List (Nat → Int32)).getD k (fun _ => 0))
def f6_shut (n : Nat) (x1 : Int32) (x2 : Int32) (b_now : Int32) (b_shutTill : Int32) (b_shutBy : Int32) (a_done : Int32) (p_errors : (Nat → Int32)) (a_kinds : (Nat → Int32)) (a_writers : (Nat → Int32)) (a_minutes : (Nat → Int32)) (a_matters : (Nat → Int32)) (a_undoers : (Nat → Int32)) (a_scores : (Nat → Int32)) (a_sizes : (Nat → Int32)) (a_cells : (Nat → Int32)) (t_codes : (Nat → Int32)) (t_lengths : (Nat → Int32)) (t_named : (Nat → Int32)) (t_stack : (Nat → Int32)) : Option (Int32 × (Nat → Int32) × (Nat → Nat → Int32)) :=
  q_c (f6_isWriter x1) fun t1 =>
  if t1 = 0 then (
    f6_shut_19 n b_now t_codes t_lengths b_shutTill b_shutBy a_done p_errors a_kinds a_writers a_minutes a_matters a_undoers a_scores a_sizes a_cells t_named t_stack
  ) else (
    if x2 < ((1 : Int32)) then (
      f6_shut_19 n b_now t_codes t_lengths b_shutTill b_shutBy a_done p_errors a_kinds a_writers a_minutes a_matters a_undoers a_scores a_sizes a_cells t_named t_stack
    ) else (
      if x2 ≤ ((9999 : Int32)) then (
        q_c3 (f1_refusesActing n x1 b_now b_shutTill b_shutBy a_done a_kinds a_writers a_minutes a_sizes t_codes t_lengths t_named t_stack) fun t30 t_named_30 t_stack_30 =>
        if t30 = 0 then (
          q_c12 (f1_shutsFor n x1 x2 b_now b_shutTill b_shutBy a_done a_kinds a_writers a_minutes a_matters a_undoers a_scores a_sizes a_cells) fun t51 b_shutTill_51 b_shutBy_51 a_done_51 a_kinds_51 a_writers_51 a_minutes_51 a_matters_51 a_undoers_51 a_scores_51 a_sizes_51 a_cells_51 =>
          q_c12 (f6_answered n t51 b_now b_shutTill_51 b_shutBy_51 a_done_51 a_kinds_51 a_writers_51 a_minutes_51 a_matters_51 a_undoers_51 a_scores_51 a_sizes_51 a_cells_51 t_codes t_lengths t_named_30 t_stack_30) fun t54 a_done_54 a_kinds_54 a_writers_54 a_minutes_54 a_matters_54 a_undoers_54 a_scores_54 a_sizes_54 a_cells_54 t_named_54 t_stack_54 =>
          some (t54, fun k => ([b_shutTill_51, b_shutBy_51, a_done_54] : List Int32).getD k 0, fun k => ([p_errors, a_kinds_54, a_writers_54, a_minutes_54, a_matters_54, a_undoers_54, a_scores_54, a_sizes_54, a_cells_54, t_named_54, t_stack_54] : List (Nat → Int32)).getD k (fun _ => 0))
        ) else (
          q_c2 (f6_error t30 p_errors) fun t40 p_errors_40 =>
          some (t40, fun k => ([b_shutTill, b_shutBy, a_done] : List Int32).getD k 0, fun k => ([p_errors_40, a_kinds, a_writers, a_minutes, a_matters, a_undoers, a_scores, a_sizes, a_cells, t_named_30, t_stack_30] : List (Nat → Int32)).getD k (fun _ => 0))
        )
      ) else (
        f6_shut_19 n b_now t_codes t_lengths b_shutTill b_shutBy a_done p_errors a_kinds a_writers a_minutes a_matters a_undoers a_scores a_sizes a_cells t_named t_stack
      )
    )
  )
def f1_talksOf (n : Nat) (x1 : Int32) (x2 : Int32) (b_now : Int32) (a_done : Int32) (a_kinds : (Nat → Int32)) (a_writers : (Nat → Int32)) (a_minutes : (Nat → Int32)) (a_matters : (Nat → Int32)) (a_undoers : (Nat → Int32)) (a_scores : (Nat → Int32)) (a_sizes : (Nat → Int32)) (a_cells : (Nat → Int32)) : Option (Int32 × Int32 × (Nat → Int32) × (Nat → Int32) × (Nat → Int32) × (Nat → Int32) × (Nat → Int32) × (Nat → Int32) × (Nat → Int32) × (Nat → Int32)) :=
  q_c2 (f0_draftsSame a_done a_sizes a_cells) fun a_sizes_4 a_cells_4 =>
  q_c8 (f0_records n ((7 : Int32)) x1 b_now x2 a_done a_kinds a_writers a_minutes a_matters a_undoers a_scores a_sizes_4 a_cells_4) fun t19 a_done_19 a_kinds_19 a_writers_19 a_minutes_19 a_matters_19 a_undoers_19 a_scores_19 =>
  some (t19, a_done_19, a_kinds_19, a_writers_19, a_minutes_19, a_matters_19, a_undoers_19, a_scores_19, a_sizes_4, a_cells_4)
def f6_talk_19 (n : Nat) (b_now : Int32) (b_shutTill : Int32) (b_shutBy : Int32) (t_codes : (Nat → Int32)) (t_lengths : (Nat → Int32)) (a_done : Int32) (p_errors : (Nat → Int32)) (a_kinds : (Nat → Int32)) (a_writers : (Nat → Int32)) (a_minutes : (Nat → Int32)) (a_matters : (Nat → Int32)) (a_undoers : (Nat → Int32)) (a_scores : (Nat → Int32)) (a_sizes : (Nat → Int32)) (a_cells : (Nat → Int32)) (t_named : (Nat → Int32)) (t_stack : (Nat → Int32)) : Option (Int32 × Int32 × (Nat → Int32) × (Nat → Int32) × (Nat → Int32) × (Nat → Int32) × (Nat → Int32) × (Nat → Int32) × (Nat → Int32) × (Nat → Int32) × (Nat → Int32) × (Nat → Int32) × (Nat → Int32)) :=
  q_c2 (f6_error ((1 : Int32)) p_errors) fun t21 p_errors_21 =>
  some (t21, a_done, p_errors_21, a_kinds, a_writers, a_minutes, a_matters, a_undoers, a_scores, a_sizes, a_cells, t_named, t_stack)
def f6_talk (n : Nat) (x1 : Int32) (x2 : Int32) (b_now : Int32) (b_shutTill : Int32) (b_shutBy : Int32) (a_done : Int32) (p_errors : (Nat → Int32)) (a_kinds : (Nat → Int32)) (a_writers : (Nat → Int32)) (a_minutes : (Nat → Int32)) (a_matters : (Nat → Int32)) (a_undoers : (Nat → Int32)) (a_scores : (Nat → Int32)) (a_sizes : (Nat → Int32)) (a_cells : (Nat → Int32)) (t_codes : (Nat → Int32)) (t_lengths : (Nat → Int32)) (t_named : (Nat → Int32)) (t_stack : (Nat → Int32)) : Option (Int32 × Int32 × (Nat → Int32) × (Nat → Int32) × (Nat → Int32) × (Nat → Int32) × (Nat → Int32) × (Nat → Int32) × (Nat → Int32) × (Nat → Int32) × (Nat → Int32) × (Nat → Int32) × (Nat → Int32)) :=
  q_c (f6_isWriter x1) fun t1 =>
  if t1 = 0 then (
    f6_talk_19 n b_now b_shutTill b_shutBy t_codes t_lengths a_done p_errors a_kinds a_writers a_minutes a_matters a_undoers a_scores a_sizes a_cells t_named t_stack
  ) else (
    if x2 < ((1 : Int32)) then (
      f6_talk_19 n b_now b_shutTill b_shutBy t_codes t_lengths a_done p_errors a_kinds a_writers a_minutes a_matters a_undoers a_scores a_sizes a_cells t_named t_stack
    ) else (
      if x2 ≤ ((999 : Int32)) then (
        q_c3 (f1_refusesActing n x1 b_now b_shutTill b_shutBy a_done a_kinds a_writers a_minutes a_sizes t_codes t_lengths t_named t_stack) fun t30 t_named_30 t_stack_30 =>
        if t30 = 0 then (
          q_c10 (f1_talksOf n x1 x2 b_now a_done a_kinds a_writers a_minutes a_matters a_undoers a_scores a_sizes a_cells) fun t51 a_done_51 a_kinds_51 a_writers_51 a_minutes_51 a_matters_51 a_undoers_51 a_scores_51 a_sizes_51 a_cells_51 =>
          q_c12 (f6_answered n t51 b_now b_shutTill b_shutBy a_done_51 a_kinds_51 a_writers_51 a_minutes_51 a_matters_51 a_undoers_51 a_scores_51 a_sizes_51 a_cells_51 t_codes t_lengths t_named_30 t_stack_30) fun t54 a_done_54 a_kinds_54 a_writers_54 a_minutes_54 a_matters_54 a_undoers_54 a_scores_54 a_sizes_54 a_cells_54 t_named_54 t_stack_54 =>
          some (t54, a_done_54, p_errors, a_kinds_54, a_writers_54, a_minutes_54, a_matters_54, a_undoers_54, a_scores_54, a_sizes_54, a_cells_54, t_named_54, t_stack_54)
        ) else (
          q_c2 (f6_error t30 p_errors) fun t40 p_errors_40 =>
          some (t40, a_done, p_errors_40, a_kinds, a_writers, a_minutes, a_matters, a_undoers, a_scores, a_sizes, a_cells, t_named_30, t_stack_30)
        )
      ) else (
        f6_talk_19 n b_now b_shutTill b_shutBy t_codes t_lengths a_done p_errors a_kinds a_writers a_minutes a_matters a_undoers a_scores a_sizes a_cells t_named t_stack
      )
    )
  )
def f6_isAct_23 (a_done : Int32) (s0 : Int32) : Option (Int32) :=
  q_bz s0 <|
  some s0
def f6_isAct_22 (a_done : Int32) : Option (Int32) :=
  f6_isAct_23 a_done ((0 : Int32))
def f6_isAct (x1 : Int32) (a_done : Int32) : Option (Int32) :=
  if x1 < 0 then (
    f6_isAct_22 a_done
  ) else (
    if a_done ≤ x1 then (
      f6_isAct_22 a_done
    ) else (
      f6_isAct_23 a_done ((1 : Int32))
    )
  )
def f6_actIs (x1 : Int32) (x2 : Int32) (a_done : Int32) (p_errors : (Nat → Int32)) (a_kinds : (Nat → Int32)) (a_writers : (Nat → Int32)) (a_minutes : (Nat → Int32)) (a_matters : (Nat → Int32)) (a_undoers : (Nat → Int32)) (a_scores : (Nat → Int32)) : Option (Int32 × (Nat → Int32)) :=
  q_c (f6_isAct x1 a_done) fun t2 =>
  if t2 = 0 then (
    q_c2 (f6_error ((1 : Int32)) p_errors) fun t10 p_errors_10 =>
    some (t10, p_errors_10)
  ) else (
    if x2 = (0 : Int32) then (
      q_ld a_kinds 60 x1 fun t63 =>
      some (t63, p_errors)
    ) else (
    if x2 = (1 : Int32) then (
      q_ld a_writers 60 x1 fun t76 =>
      some (t76, p_errors)
    ) else (
    if x2 = (2 : Int32) then (
      q_ld a_minutes 60 x1 fun t89 =>
      some (t89, p_errors)
    ) else (
    if x2 = (3 : Int32) then (
      q_ld a_matters 60 x1 fun t102 =>
      some (t102, p_errors)
    ) else (
    if x2 = (4 : Int32) then (
      q_ld a_undoers 60 x1 fun t115 =>
      some (t115, p_errors)
    ) else (
    if x2 = (5 : Int32) then (
      q_ld a_scores 60 x1 fun t128 =>
      some (t128, p_errors)
    ) else (
      q_c2 (f6_error ((1 : Int32)) p_errors) fun t132 p_errors_132 =>
      some (t132, p_errors_132)
    ))))))
  )
def f6_as_18 (n : Nat) (a_done : Int32) (a_kinds : (Nat → Int32)) (a_writers : (Nat → Int32)) (p_errors : (Nat → Int32)) : Option (Int32 × (Nat → Int32)) :=
  q_c2 (f6_error ((1 : Int32)) p_errors) fun t20 p_errors_20 =>
  some (t20, p_errors_20)
def f6_as (n : Nat) (x1 : Int32) (x2 : Int32) (a_done : Int32) (p_errors : (Nat → Int32)) (a_kinds : (Nat → Int32)) (a_writers : (Nat → Int32)) : Option (Int32 × (Nat → Int32)) :=
  q_c (f6_isAct x1 a_done) fun t2 =>
  if t2 = 0 then (
    f6_as_18 n a_done a_kinds a_writers p_errors
  ) else (
    if x2 < 0 then (
      f6_as_18 n a_done a_kinds a_writers p_errors
    ) else (
      if x2 < ((8 : Int32)) then (
        q_ld a_kinds 60 x1 fun t35 =>
        q_c (f0_isUnder n t35 x2) fun t37 =>
        if t37 = 0 then (
          q_c2 (f6_error ((5 : Int32)) p_errors) fun t45 p_errors_45 =>
          some (t45, p_errors_45)
        ) else (
          q_ld a_writers 60 x1 fun t60 =>
          some (t60, p_errors)
        )
      ) else (
        f6_as_18 n a_done a_kinds a_writers p_errors
      )
    )
  )
def f6_word_66 (a_done : Int32) (a_sizes : (Nat → Int32)) (a_cells : (Nat → Int32)) (s0 : Int32) (p_errors : (Nat → Int32)) : Option (Int32 × (Nat → Int32)) :=
  some (s0, p_errors)
def f6_word_29 (a_done : Int32) (a_sizes : (Nat → Int32)) (a_cells : (Nat → Int32)) (p_errors : (Nat → Int32)) : Option (Int32 × (Nat → Int32)) :=
  q_c2 (f6_error ((1 : Int32)) p_errors) fun t31 p_errors_31 =>
  some (t31, p_errors_31)
def f6_word (x1 : Int32) (x2 : Int32) (a_done : Int32) (p_errors : (Nat → Int32)) (a_sizes : (Nat → Int32)) (a_cells : (Nat → Int32)) : Option (Int32 × (Nat → Int32)) :=
  q_c (f6_isVersion x1 a_done) fun t2 =>
  if t2 = 0 then (
    f6_word_29 a_done a_sizes a_cells p_errors
  ) else (
    if x2 < ((-1 : Int32)) then (
      f6_word_29 a_done a_sizes a_cells p_errors
    ) else (
      q_ld a_sizes 61 x1 fun t25 =>
      if x2 < t25 then (
        if 0 ≤ x2 then (
          q_c (f0_wordAt x1 x2 a_cells) fun t63 =>
          f6_word_66 a_done a_sizes a_cells t63 p_errors
        ) else (
          q_ld a_sizes 61 x1 fun t50 =>
          f6_word_66 a_done a_sizes a_cells t50 p_errors
        )
      ) else (
        f6_word_29 a_done a_sizes a_cells p_errors
      )
    )
  )
def f0_originAt (x1 : Int32) (x2 : Int32) (a_cells : (Nat → Int32)) : Option (Int32) :=
  q_ld a_cells 1220 ((x1 * ((20 : Int32))) + x2) fun t10 =>
  some (t10 >>> (((6 : Int32)) &&& 31))
def f6_origin_28 (a_done : Int32) (a_sizes : (Nat → Int32)) (a_cells : (Nat → Int32)) (p_errors : (Nat → Int32)) : Option (Int32 × (Nat → Int32)) :=
  q_c2 (f6_error ((1 : Int32)) p_errors) fun t30 p_errors_30 =>
  some (t30, p_errors_30)
def f6_origin (x1 : Int32) (x2 : Int32) (a_done : Int32) (p_errors : (Nat → Int32)) (a_sizes : (Nat → Int32)) (a_cells : (Nat → Int32)) : Option (Int32 × (Nat → Int32)) :=
  q_c (f6_isVersion x1 a_done) fun t2 =>
  if t2 = 0 then (
    f6_origin_28 a_done a_sizes a_cells p_errors
  ) else (
    if x2 < 0 then (
      f6_origin_28 a_done a_sizes a_cells p_errors
    ) else (
      q_ld a_sizes 61 x1 fun t24 =>
      if x2 < t24 then (
        q_c (f0_originAt x1 x2 a_cells) fun t43 =>
        some (t43, p_errors)
      ) else (
        f6_origin_28 a_done a_sizes a_cells p_errors
      )
    )
  )
def f6_may_29 (n : Nat) (b_now : Int32) (b_shutTill : Int32) (b_shutBy : Int32) (a_done : Int32) (a_kinds : (Nat → Int32)) (a_writers : (Nat → Int32)) (a_minutes : (Nat → Int32)) (a_sizes : (Nat → Int32)) (t_codes : (Nat → Int32)) (t_lengths : (Nat → Int32)) (s0 : Int32) (p_errors : (Nat → Int32)) (t_named : (Nat → Int32)) (t_stack : (Nat → Int32)) : Option (Int32 × (Nat → Int32) × (Nat → Int32) × (Nat → Int32)) :=
  some (s0, p_errors, t_named, t_stack)
def f6_may (n : Nat) (x1 : Int32) (b_now : Int32) (b_shutTill : Int32) (b_shutBy : Int32) (a_done : Int32) (p_errors : (Nat → Int32)) (a_kinds : (Nat → Int32)) (a_writers : (Nat → Int32)) (a_minutes : (Nat → Int32)) (a_sizes : (Nat → Int32)) (t_codes : (Nat → Int32)) (t_lengths : (Nat → Int32)) (t_named : (Nat → Int32)) (t_stack : (Nat → Int32)) : Option (Int32 × (Nat → Int32) × (Nat → Int32) × (Nat → Int32)) :=
  q_c (f6_isWriter x1) fun t1 =>
  if t1 = 0 then (
    q_c2 (f6_error ((1 : Int32)) p_errors) fun t9 p_errors_9 =>
    some (t9, p_errors_9, t_named, t_stack)
  ) else (
    q_c3 (f1_lets n x1 b_now b_shutTill b_shutBy a_done a_kinds a_writers a_minutes a_sizes t_codes t_lengths t_named t_stack) fun t18 t_named_18 t_stack_18 =>
    if t18 = 0 then (
      f6_may_29 n b_now b_shutTill b_shutBy a_done a_kinds a_writers a_minutes a_sizes t_codes t_lengths ((0 : Int32)) p_errors t_named_18 t_stack_18
    ) else (
      f6_may_29 n b_now b_shutTill b_shutBy a_done a_kinds a_writers a_minutes a_sizes t_codes t_lengths ((1 : Int32)) p_errors t_named_18 t_stack_18
    )
  )
def f4_takes_3 (n : Nat) : Nat → Int64 → Int32 → Int32 → Int32 → (Nat → Int32) → Option (Int32 × Int32 × (Nat → Int32))
  | 0, _, _, _, _, _ => none
  | kk + 1, x1, x3, x4, t_taped, t_tape =>
    if x3 ≤ x4 then (
      some (t_taped, t_taped, t_tape)
    ) else (
      q_st t_tape 60 t_taped ((((x1.toUInt64 >>> ((((8 : Int32)) * x4).toInt64.toUInt64 &&& Int64.toUInt64 63)).toInt64).toInt32) &&& ((255 : Int32))) fun t_tape_29 =>
      q_lt (t_taped + ((1 : Int32))) fun t_taped_37 =>
      q_lt (x4 + (1 : Int32)) fun x4_40 =>
      f4_takes_3 n kk x1 x3 x4_40 t_taped_37 t_tape_29
    )
def f4_takes (n : Nat) (x1 : Int64) (x3 : Int32) (t_taped : Int32) (t_tape : (Nat → Int32)) : Option (Int32 × Int32 × (Nat → Int32)) :=
  f4_takes_3 n n x1 x3 ((0 : Int32)) t_taped t_tape
def f6_feed_11 (n : Nat) (t_taped : Int32) (p_errors : (Nat → Int32)) (t_tape : (Nat → Int32)) : Option (Int32 × Int32 × (Nat → Int32) × (Nat → Int32)) :=
  q_c2 (f6_error ((1 : Int32)) p_errors) fun t13 p_errors_13 =>
  some (t13, t_taped, p_errors_13, t_tape)
def f6_feed (n : Nat) (x1 : Int64) (x3 : Int32) (t_taped : Int32) (p_errors : (Nat → Int32)) (t_tape : (Nat → Int32)) : Option (Int32 × Int32 × (Nat → Int32) × (Nat → Int32)) :=
  if x3 < ((1 : Int32)) then (
    f6_feed_11 n t_taped p_errors t_tape
  ) else (
    if x3 ≤ ((8 : Int32)) then (
      if t_taped ≤ (((60 : Int32)) - x3) then (
        q_c3 (f4_takes n x1 x3 t_taped t_tape) fun t49 t_taped_49 t_tape_49 =>
        some (t49, t_taped_49, p_errors, t_tape_49)
      ) else (
        q_c2 (f6_error ((4 : Int32)) p_errors) fun t36 p_errors_36 =>
        some (t36, t_taped, p_errors_36, t_tape)
      )
    ) else (
      f6_feed_11 n t_taped p_errors t_tape
    )
  )
def f6_isUse_15 (s0 : Int32) : Option (Int32) :=
  q_bz s0 <|
  some s0
def f6_isUse_14  : Option (Int32) :=
  f6_isUse_15  ((0 : Int32))
def f6_isUse (x0 : Int32) : Option (Int32) :=
  if x0 < 0 then (
    f6_isUse_14 
  ) else (
    if ((8 : Int32)) ≤ x0 then (
      f6_isUse_14 
    ) else (
      f6_isUse_15  ((1 : Int32))
    )
  )
def f2_sign_36 (r_at : Int32) (r_taped : Int32) (r_tape : (Nat → Int32)) (s0 : Int32) : Option (Int32) :=
  some s0
def f2_sign_35 (r_at : Int32) (r_taped : Int32) (r_tape : (Nat → Int32)) : Option (Int32) :=
  f2_sign_36 r_at r_taped r_tape ((-1 : Int32))
def f2_sign (r_at : Int32) (r_taped : Int32) (r_tape : (Nat → Int32)) : Option (Int32) :=
  if r_taped ≤ r_at then (
    f2_sign_35 r_at r_taped r_tape
  ) else (
    if ((60 : Int32)) ≤ r_at then (
      f2_sign_35 r_at r_taped r_tape
    ) else (
      q_ld r_tape 60 r_at fun t31 =>
      f2_sign_36 r_at r_taped r_tape t31
    )
  )
def f2_isDigit_17 (s0 : Int32) : Option (Int32) :=
  q_bz s0 <|
  some s0
def f2_isDigit_16  : Option (Int32) :=
  f2_isDigit_17  ((0 : Int32))
def f2_isDigit (x0 : Int32) : Option (Int32) :=
  if x0 < ((48 : Int32)) then (
    f2_isDigit_16 
  ) else (
    if ((57 : Int32)) < x0 then (
      f2_isDigit_16 
    ) else (
      f2_isDigit_17  ((1 : Int32))
    )
  )
def f2_adds_29 (r_coded : Int32) (r_code : (Nat → Int32)) : Option (Int32 × (Nat → Int32)) :=
  some (r_coded, r_code)
def f2_adds (x1 : Int32) (r_coded : Int32) (r_code : (Nat → Int32)) : Option (Int32 × (Nat → Int32)) :=
  if ((60 : Int32)) ≤ r_coded then (
    f2_adds_29  r_coded r_code
  ) else (
    q_st r_code 60 r_coded x1 fun r_code_18 =>
    q_lt (r_coded + ((1 : Int32))) fun r_coded_26 =>
    f2_adds_29  r_coded_26 r_code_18
  )
def f2_readsNumber_48 (n : Nat) (r_taped : Int32) (r_tape : (Nat → Int32)) (x1 : Int32) (r_at : Int32) (r_coded : Int32) (r_code : (Nat → Int32)) : Option (Int32 × Int32 × (Nat → Int32)) :=
  q_c2 (f2_adds x1 r_coded r_code) fun r_coded_50 r_code_50 =>
  some (r_at, r_coded_50, r_code_50)
def f2_readsNumber_4 (n : Nat) (r_taped : Int32) (r_tape : (Nat → Int32)) : Nat → Int32 → Int32 → Int32 → Int32 → (Nat → Int32) → Option (Int32 × Int32 × (Nat → Int32))
  | 0, _, _, _, _, _ => none
  | kk + 1, x1, x2, r_at, r_coded, r_code =>
    if ((4 : Int32)) ≤ x2 then (
      f2_readsNumber_48 n r_taped r_tape x1 r_at r_coded r_code
    ) else (
      q_c (f2_sign r_at r_taped r_tape) fun t10 =>
      q_c (f2_isDigit t10) fun t13 =>
      if t13 = 0 then (
        f2_readsNumber_48 n r_taped r_tape x1 r_at r_coded r_code
      ) else (
        q_c (f2_sign r_at r_taped r_tape) fun t24 =>
        q_lt (((x1 * ((10 : Int32))) + t24) - ((48 : Int32))) fun x1_31 =>
        q_lt (r_at + ((1 : Int32))) fun r_at_39 =>
        q_lt (x2 + (1 : Int32)) fun x2_42 =>
        f2_readsNumber_4 n r_taped r_tape kk x1_31 x2_42 r_at_39 r_coded r_code
      )
    )
def f2_readsNumber (n : Nat) (r_at : Int32) (r_coded : Int32) (r_taped : Int32) (r_tape : (Nat → Int32)) (r_code : (Nat → Int32)) : Option (Int32 × Int32 × (Nat → Int32)) :=
  f2_readsNumber_4 n r_taped r_tape n ((0 : Int32)) ((0 : Int32)) r_at r_coded r_code
def g2_readsDenied (n : Nat) (FS : Int32 → Int32 → Int32 → Int32 → Nat → (Nat → Int32) → (Nat → Int32) → Option (Int32 × Int32 × Int32 × (Nat → Int32))) (x1 : Int32) (r_at : Int32) (r_coded : Int32) (r_taped : Int32) (r_ni : Nat) (r_tape : (Nat → Int32)) (r_code : (Nat → Int32)) : Option (Int32 × Int32 × Int32 × (Nat → Int32)) :=
  q_c4 (FS x1 r_at r_coded r_taped r_ni r_tape r_code) fun t2 r_at_2 r_coded_2 r_code_2 =>
  if t2 = 0 then (
    q_bz ((0 : Int32)) <|
    some ((0 : Int32), r_at_2, r_coded_2, r_code_2)
  ) else (
    q_c2 (f2_adds ((-33 : Int32)) r_coded_2 r_code_2) fun r_coded_13 r_code_13 =>
    q_bz ((1 : Int32)) <|
    some ((1 : Int32), r_at_2, r_coded_13, r_code_13)
  )
def f2_isJoining_125 (r_at : Int32) (r_taped : Int32) (r_tape : (Nat → Int32)) (s0 : Int32) : Option (Int32) :=
  q_bz s0 <|
  some s0
def f2_isJoining_120 (r_at : Int32) (r_taped : Int32) (r_tape : (Nat → Int32)) : Option (Int32) :=
  f2_isJoining_125 r_at r_taped r_tape ((1 : Int32))
def f2_isJoining_101 (r_at : Int32) (r_taped : Int32) (r_tape : (Nat → Int32)) (s0 : Int32) : Option (Int32) :=
  q_bz s0 <|
  some s0
def f2_isJoining_96 (r_at : Int32) (r_taped : Int32) (r_tape : (Nat → Int32)) : Option (Int32) :=
  f2_isJoining_101 r_at r_taped r_tape ((1 : Int32))
def f2_isJoining_83 (r_at : Int32) (r_taped : Int32) (r_tape : (Nat → Int32)) (s0 : Int32) : Option (Int32) :=
  q_bz s0 <|
  some s0
def f2_isJoining_78 (r_at : Int32) (r_taped : Int32) (r_tape : (Nat → Int32)) : Option (Int32) :=
  f2_isJoining_83 r_at r_taped r_tape ((1 : Int32))
def f2_isJoining_59 (r_at : Int32) (r_taped : Int32) (r_tape : (Nat → Int32)) (s0 : Int32) : Option (Int32) :=
  q_bz s0 <|
  some s0
def f2_isJoining_47 (r_at : Int32) (r_taped : Int32) (r_tape : (Nat → Int32)) (s0 : Int32) : Option (Int32) :=
  q_bz s0 <|
  some s0
def f2_isJoining (x1 : Int32) (r_at : Int32) (r_taped : Int32) (r_tape : (Nat → Int32)) : Option (Int32) :=
  q_c (f2_sign r_at r_taped r_tape) fun t1 =>
  if x1 = (0 : Int32) then (
    if t1 = ((124 : Int32)) then (
      f2_isJoining_47 r_at r_taped r_tape ((1 : Int32))
    ) else (
      f2_isJoining_47 r_at r_taped r_tape ((0 : Int32))
    )
  ) else (
  if x1 = (1 : Int32) then (
    if t1 = ((38 : Int32)) then (
      f2_isJoining_59 r_at r_taped r_tape ((1 : Int32))
    ) else (
      f2_isJoining_59 r_at r_taped r_tape ((0 : Int32))
    )
  ) else (
  if x1 = (2 : Int32) then (
    if t1 = ((60 : Int32)) then (
      f2_isJoining_78 r_at r_taped r_tape
    ) else (
      if t1 = ((61 : Int32)) then (
        f2_isJoining_78 r_at r_taped r_tape
      ) else (
        if t1 = ((62 : Int32)) then (
          f2_isJoining_78 r_at r_taped r_tape
        ) else (
          f2_isJoining_83 r_at r_taped r_tape ((0 : Int32))
        )
      )
    )
  ) else (
  if x1 = (3 : Int32) then (
    if t1 = ((43 : Int32)) then (
      f2_isJoining_96 r_at r_taped r_tape
    ) else (
      if t1 = ((45 : Int32)) then (
        f2_isJoining_96 r_at r_taped r_tape
      ) else (
        f2_isJoining_101 r_at r_taped r_tape ((0 : Int32))
      )
    )
  ) else (
    if t1 = ((42 : Int32)) then (
      f2_isJoining_120 r_at r_taped r_tape
    ) else (
      if t1 = ((47 : Int32)) then (
        f2_isJoining_120 r_at r_taped r_tape
      ) else (
        if t1 = ((37 : Int32)) then (
          f2_isJoining_120 r_at r_taped r_tape
        ) else (
          f2_isJoining_125 r_at r_taped r_tape ((0 : Int32))
        )
      )
    )
  ))))
def g2_readsLevel_95 (n : Nat) (FS : Int32 → Int32 → Int32 → Int32 → Nat → (Nat → Int32) → (Nat → Int32) → Option (Int32 × Int32 × Int32 × (Nat → Int32))) (FL : Int32 → Int32 → Int32 → Int32 → Int32 → Nat → (Nat → Int32) → (Nat → Int32) → Option (Int32 × Int32 × Int32 × (Nat → Int32))) (r_taped : Int32) (r_ni : Nat) (r_tape : (Nat → Int32)) (r_at : Int32) (r_coded : Int32) (r_code : (Nat → Int32)) : Option (Int32 × Int32 × Int32 × (Nat → Int32)) :=
  q_bz ((1 : Int32)) <|
  some ((1 : Int32), r_at, r_coded, r_code)
def g2_readsLevel_39 (n : Nat) (FS : Int32 → Int32 → Int32 → Int32 → Nat → (Nat → Int32) → (Nat → Int32) → Option (Int32 × Int32 × Int32 × (Nat → Int32))) (FL : Int32 → Int32 → Int32 → Int32 → Int32 → Nat → (Nat → Int32) → (Nat → Int32) → Option (Int32 × Int32 × Int32 × (Nat → Int32))) (r_taped : Int32) (r_ni : Nat) (r_tape : (Nat → Int32)) : Nat → Int32 → Int32 → Int32 → Int32 → Int32 → Int32 → (Nat → Int32) → Option (Int32 × Int32 × Int32 × (Nat → Int32))
  | 0, _, _, _, _, _, _, _ => none
  | kk + 1, x1, x2, x3, x4, r_at, r_coded, r_code =>
    if x3 ≤ x4 then (
      g2_readsLevel_95 n FS FL r_taped r_ni r_tape r_at r_coded r_code
    ) else (
      q_c (f2_isJoining x1 r_at r_taped r_tape) fun t47 =>
      if t47 = 0 then (
        g2_readsLevel_95 n FS FL r_taped r_ni r_tape r_at r_coded r_code
      ) else (
        q_c (f2_sign r_at r_taped r_tape) fun t54 =>
        q_lt (r_at + ((1 : Int32))) fun r_at_66 =>
        q_c4 (FL (x1 + ((1 : Int32))) x2 r_at_66 r_coded r_taped r_ni r_tape r_code) fun t74 r_at_74 r_coded_74 r_code_74 =>
        if t74 = 0 then (
          q_bz ((0 : Int32)) <|
          some ((0 : Int32), r_at_74, r_coded_74, r_code_74)
        ) else (
          q_c2 (f2_adds (-t54) r_coded_74 r_code_74) fun r_coded_86 r_code_86 =>
          q_lt (x4 + (1 : Int32)) fun x4_89 =>
          g2_readsLevel_39 n FS FL r_taped r_ni r_tape kk x1 x2 x3 x4_89 r_at_74 r_coded_86 r_code_86
        )
      )
    )
def g2_readsLevel_35 (n : Nat) (FS : Int32 → Int32 → Int32 → Int32 → Nat → (Nat → Int32) → (Nat → Int32) → Option (Int32 × Int32 × Int32 × (Nat → Int32))) (FL : Int32 → Int32 → Int32 → Int32 → Int32 → Nat → (Nat → Int32) → (Nat → Int32) → Option (Int32 × Int32 × Int32 × (Nat → Int32))) (r_taped : Int32) (r_ni : Nat) (r_tape : (Nat → Int32)) (x1 : Int32) (x2 : Int32) (s0 : Int32) (r_at : Int32) (r_coded : Int32) (r_code : (Nat → Int32)) : Option (Int32 × Int32 × Int32 × (Nat → Int32)) :=
  g2_readsLevel_39 n FS FL r_taped r_ni r_tape n x1 x2 s0 ((0 : Int32)) r_at r_coded r_code
def g2_readsLevel (n : Nat) (FS : Int32 → Int32 → Int32 → Int32 → Nat → (Nat → Int32) → (Nat → Int32) → Option (Int32 × Int32 × Int32 × (Nat → Int32))) : Nat → Int32 → Int32 → Int32 → Int32 → Int32 → Nat → (Nat → Int32) → (Nat → Int32) → Option (Int32 × Int32 × Int32 × (Nat → Int32))
  | 0, _, _, _, _, _, _, _, _ => none
  | d + 1, x1, x2, r_at, r_coded, r_taped, r_ni, r_tape, r_code =>
    if x1 < ((5 : Int32)) then (
      q_c4 ((g2_readsLevel n FS d) (x1 + ((1 : Int32))) x2 r_at r_coded r_taped r_ni r_tape r_code) fun t16 r_at_16 r_coded_16 r_code_16 =>
      if t16 = 0 then (
        q_bz ((0 : Int32)) <|
        some ((0 : Int32), r_at_16, r_coded_16, r_code_16)
      ) else (
        if x1 = ((2 : Int32)) then (
          g2_readsLevel_35 n FS (g2_readsLevel n FS d) r_taped r_ni r_tape x1 x2 ((1 : Int32)) r_at_16 r_coded_16 r_code_16
        ) else (
          g2_readsLevel_35 n FS (g2_readsLevel n FS d) r_taped r_ni r_tape x1 x2 ((60 : Int32)) r_at_16 r_coded_16 r_code_16
        )
      )
    ) else (
      q_c4 (FS x2 r_at r_coded r_taped r_ni r_tape r_code) fun t7 r_at_7 r_coded_7 r_code_7 =>
      q_bz t7 <|
      some (t7, r_at_7, r_coded_7, r_code_7)
    )
def g2_readsInside_18 (n : Nat) (FS : Int32 → Int32 → Int32 → Int32 → Nat → (Nat → Int32) → (Nat → Int32) → Option (Int32 × Int32 × Int32 × (Nat → Int32))) (r_taped : Int32) (r_ni : Nat) (r_tape : (Nat → Int32)) (r_at : Int32) (r_coded : Int32) (r_code : (Nat → Int32)) : Option (Int32 × Int32 × Int32 × (Nat → Int32)) :=
  q_bz ((0 : Int32)) <|
  some ((0 : Int32), r_at, r_coded, r_code)
def g2_readsInside (n : Nat) (FS : Int32 → Int32 → Int32 → Int32 → Nat → (Nat → Int32) → (Nat → Int32) → Option (Int32 × Int32 × Int32 × (Nat → Int32))) (x1 : Int32) (r_at : Int32) (r_coded : Int32) (r_taped : Int32) (r_ni : Nat) (r_tape : (Nat → Int32)) (r_code : (Nat → Int32)) : Option (Int32 × Int32 × Int32 × (Nat → Int32)) :=
  q_c4 (g2_readsLevel n FS 8 ((0 : Int32)) x1 r_at r_coded r_taped r_ni r_tape r_code) fun t3 r_at_3 r_coded_3 r_code_3 =>
  if t3 = 0 then (
    g2_readsInside_18 n FS r_taped r_ni r_tape r_at_3 r_coded_3 r_code_3
  ) else (
    q_c (f2_sign r_at_3 r_taped r_tape) fun t10 =>
    if t10 = ((41 : Int32)) then (
      q_lt (r_at_3 + ((1 : Int32))) fun r_at_27 =>
      q_bz ((1 : Int32)) <|
      some ((1 : Int32), r_at_27, r_coded_3, r_code_3)
    ) else (
      g2_readsInside_18 n FS r_taped r_ni r_tape r_at_3 r_coded_3 r_code_3
    )
  )
def f2_readsInnermost_111 (n : Nat) (FS : Int32 → Int32 → Int32 → Int32 → Nat → (Nat → Int32) → (Nat → Int32) → Option (Int32 × Int32 × Int32 × (Nat → Int32))) (r_taped : Int32) (r_ni : Nat) (r_tape : (Nat → Int32)) (s0 : Int32) (r_at : Int32) (r_coded : Int32) (r_code : (Nat → Int32)) : Option (Int32 × Int32 × Int32 × (Nat → Int32)) :=
  q_bz s0 <|
  some (s0, r_at, r_coded, r_code)
def f2_readsInnermost_78 (n : Nat) (FS : Int32 → Int32 → Int32 → Int32 → Nat → (Nat → Int32) → (Nat → Int32) → Option (Int32 × Int32 × Int32 × (Nat → Int32))) (r_taped : Int32) (r_ni : Nat) (r_tape : (Nat → Int32)) (x1 : Int32) (x2 : Int32) (r_at : Int32) (r_coded : Int32) (r_code : (Nat → Int32)) : Option (Int32 × Int32 × Int32 × (Nat → Int32)) :=
  q_lt (r_at + ((1 : Int32))) fun r_at_85 =>
  if x2 = ((33 : Int32)) then (
    q_c4 (g2_readsDenied n FS (x1 + ((1 : Int32))) r_at_85 r_coded r_taped r_ni r_tape r_code) fun t98 r_at_98 r_coded_98 r_code_98 =>
    f2_readsInnermost_111 n FS r_taped r_ni r_tape t98 r_at_98 r_coded_98 r_code_98
  ) else (
    q_c4 (g2_readsInside n FS (x1 + ((1 : Int32))) r_at_85 r_coded r_taped r_ni r_tape r_code) fun t108 r_at_108 r_coded_108 r_code_108 =>
    f2_readsInnermost_111 n FS r_taped r_ni r_tape t108 r_at_108 r_coded_108 r_code_108
  )
def f2_readsInnermost_76 (n : Nat) (FS : Int32 → Int32 → Int32 → Int32 → Nat → (Nat → Int32) → (Nat → Int32) → Option (Int32 × Int32 × Int32 × (Nat → Int32))) (r_taped : Int32) (r_ni : Nat) (r_tape : (Nat → Int32)) (r_at : Int32) (r_coded : Int32) (r_code : (Nat → Int32)) : Option (Int32 × Int32 × Int32 × (Nat → Int32)) :=
  q_bz ((0 : Int32)) <|
  some ((0 : Int32), r_at, r_coded, r_code)
def f2_readsInnermost_35 (n : Nat) (FS : Int32 → Int32 → Int32 → Int32 → Nat → (Nat → Int32) → (Nat → Int32) → Option (Int32 × Int32 × Int32 × (Nat → Int32))) (r_taped : Int32) (r_ni : Nat) (r_tape : (Nat → Int32)) (x1 : Int32) (x2 : Int32) (s0 : Int32) (r_at : Int32) (r_coded : Int32) (r_code : (Nat → Int32)) : Option (Int32 × Int32 × Int32 × (Nat → Int32)) :=
  if s0 < 0 then (
    if ((5 : Int32)) ≤ x1 then (
      f2_readsInnermost_76 n FS r_taped r_ni r_tape r_at r_coded r_code
    ) else (
      if x2 = ((33 : Int32)) then (
        f2_readsInnermost_78 n FS r_taped r_ni r_tape x1 x2 r_at r_coded r_code
      ) else (
        if x2 = ((40 : Int32)) then (
          f2_readsInnermost_78 n FS r_taped r_ni r_tape x1 x2 r_at r_coded r_code
        ) else (
          f2_readsInnermost_76 n FS r_taped r_ni r_tape r_at r_coded r_code
        )
      )
    )
  ) else (
    q_lt (r_at + ((1 : Int32))) fun r_at_47 =>
    q_c2 (f2_adds (((-1 : Int32)) - s0) r_coded r_code) fun r_coded_54 r_code_54 =>
    q_bz ((1 : Int32)) <|
    some ((1 : Int32), r_at_47, r_coded_54, r_code_54)
  )
def f2_readsInnermost (n : Nat) : Nat → Int32 → Int32 → Int32 → Int32 → Nat → (Nat → Int32) → (Nat → Int32) → Option (Int32 × Int32 × Int32 × (Nat → Int32))
  | 0, _, _, _, _, _, _, _ => none
  | d + 1, x1, r_at, r_coded, r_taped, r_ni, r_tape, r_code =>
    q_c (f2_sign r_at r_taped r_tape) fun t1 =>
    q_c (f2_isDigit t1) fun t6 =>
    if t6 = 0 then (
      if 0 ≤ t1 then (
        q_ix r_ni ((t1.toUInt32 % 65536).toInt32) fun t32 =>
        f2_readsInnermost_35 n (f2_readsInnermost n d) r_taped r_ni r_tape x1 t1 t32 r_at r_coded r_code
      ) else (
        f2_readsInnermost_35 n (f2_readsInnermost n d) r_taped r_ni r_tape x1 t1 ((-1 : Int32)) r_at r_coded r_code
      )
    ) else (
      q_c3 (f2_readsNumber n r_at r_coded r_taped r_tape r_code) fun r_at_13 r_coded_13 r_code_13 =>
      q_bz ((1 : Int32)) <|
      some ((1 : Int32), r_at_13, r_coded_13, r_code_13)
    )
def f4_keeps (x1 : Int32) (x3 : Int32) (t_codes : (Nat → Int32)) (t_lengths : (Nat → Int32)) (kc : (Nat → Int32)) : Option ((Nat → Int32) × (Nat → Int32)) :=
  q_cp kc 60 ((0 : Int32)) t_codes 480 (x1 * ((60 : Int32))) x3 fun t_codes_11 =>
  q_st t_lengths 8 x1 x3 fun t_lengths_20 =>
  some (t_codes_11, t_lengths_20)
def f2_reads_76 (n : Nat) (art : Nat) (t_tape : (Nat → Int32)) (t_taped : Int32) (r_at : Int32) (r_coded : Int32) (r_taped : Int32) (r_ni : Nat) (t_codes : (Nat → Int32)) (t_lengths : (Nat → Int32)) (r_code : (Nat → Int32)) : Option (Int32 × Int32 × Int32 × Int32 × Int32 × Nat × Nat × (Nat → Int32) × (Nat → Int32) × (Nat → Int32)) :=
  some (r_at, t_taped, r_at, r_coded, r_taped, art, r_ni, t_codes, t_lengths, r_code)
def f2_reads_48 (n : Nat) (art : Nat) (t_tape : (Nat → Int32)) (x2 : Int32) (s1 : Nat) (t_taped : Int32) (r_at : Int32) (r_coded : Int32) (r_taped : Int32) (r_ni : Nat) (t_codes : (Nat → Int32)) (t_lengths : (Nat → Int32)) (r_code : (Nat → Int32)) : Option (Int32 × Int32 × Int32 × Int32 × Int32 × Nat × Nat × (Nat → Int32) × (Nat → Int32) × (Nat → Int32)) :=
  q_c4 (g2_readsLevel n (f2_readsInnermost n 8) 8 ((0 : Int32)) ((0 : Int32)) r_at r_coded r_taped s1 t_tape r_code) fun t59 r_at_59 r_coded_59 r_code_59 =>
  if t59 = 0 then (
    f2_reads_76 n art t_tape ((0 : Int32)) r_at_59 r_coded_59 r_taped s1 t_codes t_lengths r_code_59
  ) else (
    if r_taped ≤ r_at_59 then (
      q_c2 (f4_keeps x2 r_coded_59 t_codes t_lengths r_code_59) fun t_codes_91 t_lengths_91 =>
      some ((-1 : Int32), (0 : Int32), r_at_59, r_coded_59, r_taped, art, s1, t_codes_91, t_lengths_91, r_code_59)
    ) else (
      f2_reads_76 n art t_tape ((0 : Int32)) r_at_59 r_coded_59 r_taped s1 t_codes t_lengths r_code_59
    )
  )
def f2_reads (n : Nat) (art : Nat) (x2 : Int32) (t_taped : Int32) (r_at : Int32) (r_coded : Int32) (r_taped : Int32) (r_rt : Nat) (r_ni : Nat) (t_tape : (Nat → Int32)) (t_codes : (Nat → Int32)) (t_lengths : (Nat → Int32)) (r_code : (Nat → Int32)) : Option (Int32 × Int32 × Int32 × Int32 × Int32 × Nat × Nat × (Nat → Int32) × (Nat → Int32) × (Nat → Int32)) :=
  if x2 = 0 then (
    f2_reads_48 n art t_tape x2 0 t_taped ((0 : Int32)) ((0 : Int32)) t_taped r_ni t_codes t_lengths r_code
  ) else (
    if x2 = ((1 : Int32)) then (
      f2_reads_48 n art t_tape x2 1 t_taped ((0 : Int32)) ((0 : Int32)) t_taped r_ni t_codes t_lengths r_code
    ) else (
      f2_reads_48 n art t_tape x2 2 t_taped ((0 : Int32)) ((0 : Int32)) t_taped r_ni t_codes t_lengths r_code
    )
  )
def f6_text_41 (n : Nat) (art : Nat) (t_tape : (Nat → Int32)) (s0 : Int32) (t_taped : Int32) (r_at : Int32) (r_coded : Int32) (r_taped : Int32) (r_rt : Nat) (r_ni : Nat) (p_errors : (Nat → Int32)) (t_codes : (Nat → Int32)) (t_lengths : (Nat → Int32)) (r_code : (Nat → Int32)) : Option (Int32 × Int32 × Int32 × Int32 × Int32 × Nat × Nat × (Nat → Int32) × (Nat → Int32) × (Nat → Int32) × (Nat → Int32)) :=
  some (s0, t_taped, r_at, r_coded, r_taped, r_rt, r_ni, p_errors, t_codes, t_lengths, r_code)
def f6_text (n : Nat) (art : Nat) (x1 : Int32) (t_taped : Int32) (r_at : Int32) (r_coded : Int32) (r_taped : Int32) (r_rt : Nat) (r_ni : Nat) (p_errors : (Nat → Int32)) (t_tape : (Nat → Int32)) (t_codes : (Nat → Int32)) (t_lengths : (Nat → Int32)) (r_code : (Nat → Int32)) : Option (Int32 × Int32 × Int32 × Int32 × Int32 × Nat × Nat × (Nat → Int32) × (Nat → Int32) × (Nat → Int32) × (Nat → Int32)) :=
  q_c (f6_isUse x1) fun t1 =>
  if t1 = 0 then (
    q_c2 (f6_error ((1 : Int32)) p_errors) fun t9 p_errors_9 =>
    some (t9, t_taped, r_at, r_coded, r_taped, r_rt, r_ni, p_errors_9, t_codes, t_lengths, r_code)
  ) else (
    q_c10 (f2_reads n art x1 t_taped r_at r_coded r_taped r_rt r_ni t_tape t_codes t_lengths r_code) fun t25 t_taped_25 r_at_25 r_coded_25 r_taped_25 r_rt_25 r_ni_25 t_codes_25 t_lengths_25 r_code_25 =>
    if 0 ≤ t25 then (
      f6_text_41 n art t_tape (((-10 : Int32)) - t25) t_taped_25 r_at_25 r_coded_25 r_taped_25 r_rt_25 r_ni_25 p_errors t_codes_25 t_lengths_25 r_code_25
    ) else (
      f6_text_41 n art t_tape ((1 : Int32)) t_taped_25 r_at_25 r_coded_25 r_taped_25 r_rt_25 r_ni_25 p_errors t_codes_25 t_lengths_25 r_code_25
    )
  )
def f4_drops (x1 : Int32) (t_lengths : (Nat → Int32)) : Option (Int32 × (Nat → Int32)) :=
  q_c (f4_has x1 t_lengths) fun t2 =>
  q_st t_lengths 8 x1 ((0 : Int32)) fun t_lengths_12 =>
  q_bz t2 <|
  some (t2, t_lengths_12)
def f6_untell_32 (s0 : Int32) (p_errors : (Nat → Int32)) (t_lengths : (Nat → Int32)) : Option (Int32 × (Nat → Int32) × (Nat → Int32)) :=
  some (s0, p_errors, t_lengths)
def f6_untell (x1 : Int32) (p_errors : (Nat → Int32)) (t_lengths : (Nat → Int32)) : Option (Int32 × (Nat → Int32) × (Nat → Int32)) :=
  q_c (f6_isUse x1) fun t1 =>
  if t1 = 0 then (
    q_c2 (f6_error ((1 : Int32)) p_errors) fun t9 p_errors_9 =>
    some (t9, p_errors_9, t_lengths)
  ) else (
    q_c2 (f4_drops x1 t_lengths) fun t21 t_lengths_21 =>
    if t21 = 0 then (
      f6_untell_32  ((0 : Int32)) p_errors t_lengths_21
    ) else (
      f6_untell_32  ((1 : Int32)) p_errors t_lengths_21
    )
  )
def f1_draws (b_z : Int32) : Option (Int32 × Int32) :=
  q_lt ((b_z * ((1103515245 : Int32))) + ((12345 : Int32))) fun b_z_12 =>
  some ((b_z_12.toUInt32 >>> (((8 : Int32)).toUInt32 &&& Int32.toUInt32 31)).toInt32, b_z_12)
def f0_wordsBy_35 (n : Nat) (a_writers : (Nat → Int32)) (a_sizes : (Nat → Int32)) (a_cells : (Nat → Int32)) (k5 : Int32 → Int32 → Int32 → Int32 → Option (Int32)) (x1 : Int32) (x2 : Int32) (x3 : Int32) (x4 : Int32) : Option (Int32) :=
  q_lt (x4 + (1 : Int32)) fun x4_35 =>
  k5 x1 x2 x3 x4_35
def f0_wordsBy_5 (n : Nat) (a_writers : (Nat → Int32)) (a_sizes : (Nat → Int32)) (a_cells : (Nat → Int32)) : Nat → Int32 → Int32 → Int32 → Int32 → Option (Int32)
  | 0, _, _, _, _ => none
  | kk + 1, x1, x2, x3, x4 =>
    q_ld a_sizes 61 x2 fun t12 =>
    if t12 ≤ x4 then (
      some x3
    ) else (
      q_c (f0_originAt x2 x4 a_cells) fun t24 =>
      q_ld a_writers 60 t24 fun t27 =>
      if t27 = x1 then (
        q_lt (x3 + (1 : Int32)) fun x3_32 =>
        f0_wordsBy_35 n a_writers a_sizes a_cells (f0_wordsBy_5 n a_writers a_sizes a_cells kk) x1 x2 x3_32 x4
      ) else (
        f0_wordsBy_35 n a_writers a_sizes a_cells (f0_wordsBy_5 n a_writers a_sizes a_cells kk) x1 x2 x3 x4
      )
    )
def f0_wordsBy (n : Nat) (x1 : Int32) (x2 : Int32) (a_writers : (Nat → Int32)) (a_sizes : (Nat → Int32)) (a_cells : (Nat → Int32)) : Option (Int32) :=
  f0_wordsBy_5 n a_writers a_sizes a_cells n x1 x2 ((0 : Int32)) ((0 : Int32))
def f0_latestOnPage_45 (n : Nat) (a_done : Int32) (a_kinds : (Nat → Int32)) (a_writers : (Nat → Int32)) (k7 : Int32 → Int32 → Option (Int32)) (x1 : Int32) (x2 : Int32) : Option (Int32) :=
  q_lt (x2 + (-1 : Int32)) fun x2_45 =>
  k7 x1 x2_45
def f0_latestOnPage_7 (n : Nat) (a_done : Int32) (a_kinds : (Nat → Int32)) (a_writers : (Nat → Int32)) : Nat → Int32 → Int32 → Option (Int32)
  | 0, _, _ => none
  | kk + 1, x1, x2 =>
    if x2 < 0 then (
      some ((-1 : Int32))
    ) else (
      q_ld a_writers 60 x2 fun t16 =>
      if t16 = x1 then (
        q_ld a_kinds 60 x2 fun t26 =>
        if t26 = ((7 : Int32)) then (
          f0_latestOnPage_45 n a_done a_kinds a_writers (f0_latestOnPage_7 n a_done a_kinds a_writers kk) x1 x2
        ) else (
          q_ld a_kinds 60 x2 fun t37 =>
          if t37 = ((6 : Int32)) then (
            f0_latestOnPage_45 n a_done a_kinds a_writers (f0_latestOnPage_7 n a_done a_kinds a_writers kk) x1 x2
          ) else (
            some x2
          )
        )
      ) else (
        f0_latestOnPage_45 n a_done a_kinds a_writers (f0_latestOnPage_7 n a_done a_kinds a_writers kk) x1 x2
      )
    )
def f0_latestOnPage (n : Nat) (x1 : Int32) (a_done : Int32) (a_kinds : (Nat → Int32)) (a_writers : (Nat → Int32)) : Option (Int32) :=
  q_lt (a_done - ((1 : Int32))) fun x2_6 =>
  f0_latestOnPage_7 n a_done a_kinds a_writers n x1 x2_6
def f1_goesWay_113 (n : Nat) (b_now : Int32) (s0 : Int32) (a_done : Int32) (a_kinds : (Nat → Int32)) (a_writers : (Nat → Int32)) (a_minutes : (Nat → Int32)) (a_matters : (Nat → Int32)) (a_undoers : (Nat → Int32)) (a_scores : (Nat → Int32)) (a_sizes : (Nat → Int32)) (a_cells : (Nat → Int32)) : Option (Int32 × Int32 × (Nat → Int32) × (Nat → Int32) × (Nat → Int32) × (Nat → Int32) × (Nat → Int32) × (Nat → Int32) × (Nat → Int32) × (Nat → Int32)) :=
  some (s0, a_done, a_kinds, a_writers, a_minutes, a_matters, a_undoers, a_scores, a_sizes, a_cells)
def f1_goesWay_81 (n : Nat) (b_now : Int32) (s0 : Int32) (a_done : Int32) (a_kinds : (Nat → Int32)) (a_writers : (Nat → Int32)) (a_minutes : (Nat → Int32)) (a_matters : (Nat → Int32)) (a_undoers : (Nat → Int32)) (a_scores : (Nat → Int32)) (a_sizes : (Nat → Int32)) (a_cells : (Nat → Int32)) : Option (Int32 × Int32 × (Nat → Int32) × (Nat → Int32) × (Nat → Int32) × (Nat → Int32) × (Nat → Int32) × (Nat → Int32) × (Nat → Int32) × (Nat → Int32)) :=
  some (s0, a_done, a_kinds, a_writers, a_minutes, a_matters, a_undoers, a_scores, a_sizes, a_cells)
def f1_goesWay_64 (n : Nat) (b_now : Int32) (s0 : Int32) (a_done : Int32) (a_kinds : (Nat → Int32)) (a_writers : (Nat → Int32)) (a_minutes : (Nat → Int32)) (a_matters : (Nat → Int32)) (a_undoers : (Nat → Int32)) (a_scores : (Nat → Int32)) (a_sizes : (Nat → Int32)) (a_cells : (Nat → Int32)) : Option (Int32 × Int32 × (Nat → Int32) × (Nat → Int32) × (Nat → Int32) × (Nat → Int32) × (Nat → Int32) × (Nat → Int32) × (Nat → Int32) × (Nat → Int32)) :=
  some (s0, a_done, a_kinds, a_writers, a_minutes, a_matters, a_undoers, a_scores, a_sizes, a_cells)
def f1_goesWay (n : Nat) (x1 : Int32) (x2 : Int32) (b_now : Int32) (a_done : Int32) (a_kinds : (Nat → Int32)) (a_writers : (Nat → Int32)) (a_minutes : (Nat → Int32)) (a_matters : (Nat → Int32)) (a_undoers : (Nat → Int32)) (a_scores : (Nat → Int32)) (a_sizes : (Nat → Int32)) (a_cells : (Nat → Int32)) : Option (Int32 × Int32 × (Nat → Int32) × (Nat → Int32) × (Nat → Int32) × (Nat → Int32) × (Nat → Int32) × (Nat → Int32) × (Nat → Int32) × (Nat → Int32)) :=
  q_c (f0_pageSize a_done a_sizes) fun t4 =>
  if x2 = (1 : Int32) then (
    if ((20 : Int32)) ≤ t4 then (
      f1_goesWay_64 n b_now ((-1 : Int32)) a_done a_kinds a_writers a_minutes a_matters a_undoers a_scores a_sizes a_cells
    ) else (
      q_c10 (f1_puts n ((1 : Int32)) ((((100 : Int32)) * x1) + t4) (x1 + ((1 : Int32))) b_now a_done a_kinds a_writers a_minutes a_matters a_undoers a_scores a_sizes a_cells) fun t57 a_done_57 a_kinds_57 a_writers_57 a_minutes_57 a_matters_57 a_undoers_57 a_scores_57 a_sizes_57 a_cells_57 =>
      f1_goesWay_64 n b_now t57 a_done_57 a_kinds_57 a_writers_57 a_minutes_57 a_matters_57 a_undoers_57 a_scores_57 a_sizes_57 a_cells_57
    )
  ) else (
  if x2 = (2 : Int32) then (
    if t4 ≤ 0 then (
      f1_goesWay_81 n b_now ((-1 : Int32)) a_done a_kinds a_writers a_minutes a_matters a_undoers a_scores a_sizes a_cells
    ) else (
      q_c10 (f1_takesOut n x1 (t4 - ((1 : Int32))) b_now a_done a_kinds a_writers a_minutes a_matters a_undoers a_scores a_sizes a_cells) fun t74 a_done_74 a_kinds_74 a_writers_74 a_minutes_74 a_matters_74 a_undoers_74 a_scores_74 a_sizes_74 a_cells_74 =>
      f1_goesWay_81 n b_now t74 a_done_74 a_kinds_74 a_writers_74 a_minutes_74 a_matters_74 a_undoers_74 a_scores_74 a_sizes_74 a_cells_74
    )
  ) else (
  if x2 = (3 : Int32) then (
    q_c (f0_latestOnPage n x1 a_done a_kinds a_writers) fun t87 =>
    if t87 < 0 then (
      f1_goesWay_113 n b_now ((-1 : Int32)) a_done a_kinds a_writers a_minutes a_matters a_undoers a_scores a_sizes a_cells
    ) else (
      q_c10 (f1_putsBack n ((2 : Int32)) x1 (t87 + ((1 : Int32))) ((20 : Int32)) b_now a_done a_kinds a_writers a_minutes a_matters a_undoers a_scores a_sizes a_cells) fun t106 a_done_106 a_kinds_106 a_writers_106 a_minutes_106 a_matters_106 a_undoers_106 a_scores_106 a_sizes_106 a_cells_106 =>
      f1_goesWay_113 n b_now t106 a_done_106 a_kinds_106 a_writers_106 a_minutes_106 a_matters_106 a_undoers_106 a_scores_106 a_sizes_106 a_cells_106
    )
  ) else (
  if x2 = (4 : Int32) then (
    q_c10 (f1_putsBack n ((2 : Int32)) x1 ((0 : Int32)) ((20 : Int32)) b_now a_done a_kinds a_writers a_minutes a_matters a_undoers a_scores a_sizes a_cells) fun t120 a_done_120 a_kinds_120 a_writers_120 a_minutes_120 a_matters_120 a_undoers_120 a_scores_120 a_sizes_120 a_cells_120 =>
    some (t120, a_done_120, a_kinds_120, a_writers_120, a_minutes_120, a_matters_120, a_undoers_120, a_scores_120, a_sizes_120, a_cells_120)
  ) else (
    some ((-1 : Int32), a_done, a_kinds, a_writers, a_minutes, a_matters, a_undoers, a_scores, a_sizes, a_cells)
  ))))
def f1_livesAs_125 (n : Nat) (b_now : Int32) (b_shutTill : Int32) (b_shutBy : Int32) (t_codes : (Nat → Int32)) (t_lengths : (Nat → Int32)) (b_z : Int32) (a_done : Int32) (a_kinds : (Nat → Int32)) (a_writers : (Nat → Int32)) (a_minutes : (Nat → Int32)) (a_matters : (Nat → Int32)) (a_undoers : (Nat → Int32)) (a_scores : (Nat → Int32)) (a_sizes : (Nat → Int32)) (a_cells : (Nat → Int32)) (t_named : (Nat → Int32)) (t_stack : (Nat → Int32)) : Option (Int32 × Int32 × (Nat → Int32) × (Nat → Int32) × (Nat → Int32) × (Nat → Int32) × (Nat → Int32) × (Nat → Int32) × (Nat → Int32) × (Nat → Int32) × (Nat → Int32) × (Nat → Int32)) :=
  some (b_z, a_done, a_kinds, a_writers, a_minutes, a_matters, a_undoers, a_scores, a_sizes, a_cells, t_named, t_stack)
def f1_livesAs_112 (n : Nat) (b_now : Int32) (b_shutTill : Int32) (b_shutBy : Int32) (t_codes : (Nat → Int32)) (t_lengths : (Nat → Int32)) (s0 : Int32) (b_z : Int32) (a_done : Int32) (a_kinds : (Nat → Int32)) (a_writers : (Nat → Int32)) (a_minutes : (Nat → Int32)) (a_matters : (Nat → Int32)) (a_undoers : (Nat → Int32)) (a_scores : (Nat → Int32)) (a_sizes : (Nat → Int32)) (a_cells : (Nat → Int32)) (t_named : (Nat → Int32)) (t_stack : (Nat → Int32)) : Option (Int32 × Int32 × (Nat → Int32) × (Nat → Int32) × (Nat → Int32) × (Nat → Int32) × (Nat → Int32) × (Nat → Int32) × (Nat → Int32) × (Nat → Int32) × (Nat → Int32) × (Nat → Int32)) :=
  if s0 < 0 then (
    f1_livesAs_125 n b_now b_shutTill b_shutBy t_codes t_lengths b_z a_done a_kinds a_writers a_minutes a_matters a_undoers a_scores a_sizes a_cells t_named t_stack
  ) else (
    q_c11 (f1_machineAnswers n s0 b_now b_shutTill b_shutBy a_done a_kinds a_writers a_minutes a_matters a_undoers a_scores a_sizes a_cells t_codes t_lengths t_named t_stack) fun a_done_122 a_kinds_122 a_writers_122 a_minutes_122 a_matters_122 a_undoers_122 a_scores_122 a_sizes_122 a_cells_122 t_named_122 t_stack_122 =>
    f1_livesAs_125 n b_now b_shutTill b_shutBy t_codes t_lengths b_z a_done_122 a_kinds_122 a_writers_122 a_minutes_122 a_matters_122 a_undoers_122 a_scores_122 a_sizes_122 a_cells_122 t_named_122 t_stack_122
  )
def f1_livesAs (n : Nat) (x1 : Int32) (b_now : Int32) (b_shutTill : Int32) (b_shutBy : Int32) (b_z : Int32) (a_done : Int32) (a_kinds : (Nat → Int32)) (a_writers : (Nat → Int32)) (a_minutes : (Nat → Int32)) (a_matters : (Nat → Int32)) (a_undoers : (Nat → Int32)) (a_scores : (Nat → Int32)) (a_sizes : (Nat → Int32)) (a_cells : (Nat → Int32)) (t_codes : (Nat → Int32)) (t_lengths : (Nat → Int32)) (t_named : (Nat → Int32)) (t_stack : (Nat → Int32)) : Option (Int32 × Int32 × (Nat → Int32) × (Nat → Int32) × (Nat → Int32) × (Nat → Int32) × (Nat → Int32) × (Nat → Int32) × (Nat → Int32) × (Nat → Int32) × (Nat → Int32) × (Nat → Int32)) :=
  q_c (f4_has (((2 : Int32)) + x1) t_lengths) fun t7 =>
  if t7 = 0 then (
    some (b_z, a_done, a_kinds, a_writers, a_minutes, a_matters, a_undoers, a_scores, a_sizes, a_cells, t_named, t_stack)
  ) else (
    q_c2 (f1_draws b_z) fun t15 b_z_15 =>
    q_dv ((100 : Int32)) <|
    q_lt (t15 - t15 / ((100 : Int32)) * ((100 : Int32))) fun x2_21 =>
    q_c (f0_hasRoom a_done) fun t26 =>
    if t26 = 0 then (
      some (b_z_15, a_done, a_kinds, a_writers, a_minutes, a_matters, a_undoers, a_scores, a_sizes, a_cells, t_named, t_stack)
    ) else (
      q_c (f0_pageSize a_done a_sizes) fun t41 =>
      q_dv ((1440 : Int32)) <|
      q_c (f0_backsBy n x1 b_now a_done a_kinds a_writers a_minutes) fun t61 =>
      q_c (f0_wordsBy n x1 a_done a_writers a_sizes a_cells) fun t76 =>
      q_c1 (f4_names t41 (b_now - b_now / ((1440 : Int32)) * ((1440 : Int32))) t61 t76 x2_21 t_named) fun t_named_80 =>
      q_c2 (f4_worked n (((2 : Int32)) + x1) t_codes t_lengths t_named_80 t_stack) fun t90 t_stack_90 =>
      q_c3 (f1_lets n x1 b_now b_shutTill b_shutBy a_done a_kinds a_writers a_minutes a_sizes t_codes t_lengths t_named_80 t_stack_90) fun t96 t_named_96 t_stack_96 =>
      if t96 = 0 then (
        f1_livesAs_112 n b_now b_shutTill b_shutBy t_codes t_lengths ((-1 : Int32)) b_z_15 a_done a_kinds a_writers a_minutes a_matters a_undoers a_scores a_sizes a_cells t_named_96 t_stack_96
      ) else (
        q_c10 (f1_goesWay n x1 t90 b_now a_done a_kinds a_writers a_minutes a_matters a_undoers a_scores a_sizes a_cells) fun t105 a_done_105 a_kinds_105 a_writers_105 a_minutes_105 a_matters_105 a_undoers_105 a_scores_105 a_sizes_105 a_cells_105 =>
        f1_livesAs_112 n b_now b_shutTill b_shutBy t_codes t_lengths t105 b_z_15 a_done_105 a_kinds_105 a_writers_105 a_minutes_105 a_matters_105 a_undoers_105 a_scores_105 a_sizes_105 a_cells_105 t_named_96 t_stack_96
      )
    )
  )
def f6_live_47 (n : Nat) (b_shutTill : Int32) (b_shutBy : Int32) (t_codes : (Nat → Int32)) (t_lengths : (Nat → Int32)) (k40 : Int32 → Int32 → Int32 → Int32 → Int32 → (Nat → Int32) → (Nat → Int32) → (Nat → Int32) → (Nat → Int32) → (Nat → Int32) → (Nat → Int32) → (Nat → Int32) → (Nat → Int32) → (Nat → Int32) → (Nat → Int32) → (Nat → Int32) → Option (Int32 × (Nat → Int32) × (Nat → Nat → Int32))) : Nat → Int32 → Int32 → Int32 → Int32 → Int32 → Int32 → (Nat → Int32) → (Nat → Int32) → (Nat → Int32) → (Nat → Int32) → (Nat → Int32) → (Nat → Int32) → (Nat → Int32) → (Nat → Int32) → (Nat → Int32) → (Nat → Int32) → (Nat → Int32) → Option (Int32 × (Nat → Int32) × (Nat → Nat → Int32))
  | 0, _, _, _, _, _, _, _, _, _, _, _, _, _, _, _, _, _ => none
  | kk + 1, x1, x2, x3, b_now, b_z, a_done, p_errors, a_kinds, a_writers, a_minutes, a_matters, a_undoers, a_scores, a_sizes, a_cells, t_named, t_stack =>
    if ((6 : Int32)) ≤ x3 then (
      q_lt (b_now + ((1 : Int32))) fun b_now_77 =>
      q_lt (x2 + (1 : Int32)) fun x2_80 =>
      k40 x1 x2_80 b_now_77 b_z a_done p_errors a_kinds a_writers a_minutes a_matters a_undoers a_scores a_sizes a_cells t_named t_stack
    ) else (
      q_c12 (f1_livesAs n x3 b_now b_shutTill b_shutBy b_z a_done a_kinds a_writers a_minutes a_matters a_undoers a_scores a_sizes a_cells t_codes t_lengths t_named t_stack) fun b_z_58 a_done_58 a_kinds_58 a_writers_58 a_minutes_58 a_matters_58 a_undoers_58 a_scores_58 a_sizes_58 a_cells_58 t_named_58 t_stack_58 =>
      q_lt (x3 + (1 : Int32)) fun x3_61 =>
      f6_live_47 n b_shutTill b_shutBy t_codes t_lengths k40 kk x1 x2 x3_61 b_now b_z_58 a_done_58 p_errors a_kinds_58 a_writers_58 a_minutes_58 a_matters_58 a_undoers_58 a_scores_58 a_sizes_58 a_cells_58 t_named_58 t_stack_58
    )
def f6_live_40 (n : Nat) (b_shutTill : Int32) (b_shutBy : Int32) (t_codes : (Nat → Int32)) (t_lengths : (Nat → Int32)) : Nat → Int32 → Int32 → Int32 → Int32 → Int32 → (Nat → Int32) → (Nat → Int32) → (Nat → Int32) → (Nat → Int32) → (Nat → Int32) → (Nat → Int32) → (Nat → Int32) → (Nat → Int32) → (Nat → Int32) → (Nat → Int32) → (Nat → Int32) → Option (Int32 × (Nat → Int32) × (Nat → Nat → Int32))
  | 0, _, _, _, _, _, _, _, _, _, _, _, _, _, _, _, _ => none
  | kk + 1, x1, x2, b_now, b_z, a_done, p_errors, a_kinds, a_writers, a_minutes, a_matters, a_undoers, a_scores, a_sizes, a_cells, t_named, t_stack =>
    if x1 ≤ x2 then (
      some (b_now, fun k => ([b_now, b_z, a_done] : List Int32).getD k 0, fun k => ([p_errors, a_kinds, a_writers, a_minutes, a_matters, a_undoers, a_scores, a_sizes, a_cells, t_named, t_stack] : List (Nat → Int32)).getD k (fun _ => 0))
    ) else (
      f6_live_47 n b_shutTill b_shutBy t_codes t_lengths (f6_live_40 n b_shutTill b_shutBy t_codes t_lengths kk) n x1 x2 ((0 : Int32)) b_now b_z a_done p_errors a_kinds a_writers a_minutes a_matters a_undoers a_scores a_sizes a_cells t_named t_stack
    )
def f6_live_11 (n : Nat) (b_shutTill : Int32) (b_shutBy : Int32) (t_codes : (Nat → Int32)) (t_lengths : (Nat → Int32)) (b_now : Int32) (b_z : Int32) (a_done : Int32) (p_errors : (Nat → Int32)) (a_kinds : (Nat → Int32)) (a_writers : (Nat → Int32)) (a_minutes : (Nat → Int32)) (a_matters : (Nat → Int32)) (a_undoers : (Nat → Int32)) (a_scores : (Nat → Int32)) (a_sizes : (Nat → Int32)) (a_cells : (Nat → Int32)) (t_named : (Nat → Int32)) (t_stack : (Nat → Int32)) : Option (Int32 × (Nat → Int32) × (Nat → Nat → Int32)) :=
  q_c2 (f6_error ((1 : Int32)) p_errors) fun t13 p_errors_13 =>
  some (t13, fun k => ([b_now, b_z, a_done] : List Int32).getD k 0, fun k => ([p_errors_13, a_kinds, a_writers, a_minutes, a_matters, a_undoers, a_scores, a_sizes, a_cells, t_named, t_stack] : List (Nat → Int32)).getD k (fun _ => 0))
def f6_live (n : Nat) (x1 : Int32) (b_now : Int32) (b_shutTill : Int32) (b_shutBy : Int32) (b_z : Int32) (a_done : Int32) (p_errors : (Nat → Int32)) (a_kinds : (Nat → Int32)) (a_writers : (Nat → Int32)) (a_minutes : (Nat → Int32)) (a_matters : (Nat → Int32)) (a_undoers : (Nat → Int32)) (a_scores : (Nat → Int32)) (a_sizes : (Nat → Int32)) (a_cells : (Nat → Int32)) (t_codes : (Nat → Int32)) (t_lengths : (Nat → Int32)) (t_named : (Nat → Int32)) (t_stack : (Nat → Int32)) : Option (Int32 × (Nat → Int32) × (Nat → Nat → Int32)) :=
  if x1 < ((1 : Int32)) then (
    f6_live_11 n b_shutTill b_shutBy t_codes t_lengths b_now b_z a_done p_errors a_kinds a_writers a_minutes a_matters a_undoers a_scores a_sizes a_cells t_named t_stack
  ) else (
    if x1 ≤ ((60 : Int32)) then (
      if b_now ≤ (((29999 : Int32)) - x1) then (
        f6_live_40 n b_shutTill b_shutBy t_codes t_lengths n x1 ((0 : Int32)) b_now b_z a_done p_errors a_kinds a_writers a_minutes a_matters a_undoers a_scores a_sizes a_cells t_named t_stack
      ) else (
        q_c2 (f6_error ((3 : Int32)) p_errors) fun t34 p_errors_34 =>
        some (t34, fun k => ([b_now, b_z, a_done] : List Int32).getD k 0, fun k => ([p_errors_34, a_kinds, a_writers, a_minutes, a_matters, a_undoers, a_scores, a_sizes, a_cells, t_named, t_stack] : List (Nat → Int32)).getD k (fun _ => 0))
      )
    ) else (
      f6_live_11 n b_shutTill b_shutBy t_codes t_lengths b_now b_z a_done p_errors a_kinds a_writers a_minutes a_matters a_undoers a_scores a_sizes a_cells t_named t_stack
    )
  )
def f6_seed (x1 : Int32) (b_z : Int32) : Option (Int32 × Int32) :=
  some (b_z, x1)
def f6_alike_42 (n : Nat) (a_done : Int32) (a_sizes : (Nat → Int32)) (a_cells : (Nat → Int32)) (s0 : Int32) (p_errors : (Nat → Int32)) : Option (Int32 × (Nat → Int32)) :=
  some (s0, p_errors)
def f6_alike_16 (n : Nat) (a_done : Int32) (a_sizes : (Nat → Int32)) (a_cells : (Nat → Int32)) (p_errors : (Nat → Int32)) : Option (Int32 × (Nat → Int32)) :=
  q_c2 (f6_error ((1 : Int32)) p_errors) fun t18 p_errors_18 =>
  some (t18, p_errors_18)
def f6_alike (n : Nat) (x1 : Int32) (x2 : Int32) (a_done : Int32) (p_errors : (Nat → Int32)) (a_sizes : (Nat → Int32)) (a_cells : (Nat → Int32)) : Option (Int32 × (Nat → Int32)) :=
  q_c (f6_isVersion x1 a_done) fun t2 =>
  if t2 = 0 then (
    f6_alike_16 n a_done a_sizes a_cells p_errors
  ) else (
    q_c (f6_isVersion x2 a_done) fun t10 =>
    if t10 = 0 then (
      f6_alike_16 n a_done a_sizes a_cells p_errors
    ) else (
      q_c (f0_areAlike n x1 x2 a_sizes a_cells) fun t31 =>
      if t31 = 0 then (
        f6_alike_42 n a_done a_sizes a_cells ((0 : Int32)) p_errors
      ) else (
        f6_alike_42 n a_done a_sizes a_cells ((1 : Int32)) p_errors
      )
    )
  )
def f0_likenessOf_140 (n : Nat) (a_sizes : (Nat → Int32)) (a_cells : (Nat → Int32)) (k53 : Int32 → Int32 → Int32 → Int32 → (Nat → Int32) → Option (Int32 × (Nat → Int32))) (k79 : Int32 → Int32 → Int32 → Int32 → Int32 → Int32 → Int32 → (Nat → Int32) → Option (Int32 × (Nat → Int32))) (x1 : Int32) (x2 : Int32) (x3 : Int32) (x4 : Int32) (x5 : Int32) (x7 : Int32) (x8 : Int32) (s1 : Int32) (s2 : Int32) (a_common : (Nat → Int32)) : Option (Int32 × (Nat → Int32)) :=
  q_st a_common 21 s1 s2 fun a_common_140 =>
  q_lt (x7 + (1 : Int32)) fun x7_145 =>
  k79 x1 x2 x3 x4 x5 x8 x7_145 a_common_140
def f0_likenessOf_79 (n : Nat) (a_sizes : (Nat → Int32)) (a_cells : (Nat → Int32)) (k53 : Int32 → Int32 → Int32 → Int32 → (Nat → Int32) → Option (Int32 × (Nat → Int32))) : Nat → Int32 → Int32 → Int32 → Int32 → Int32 → Int32 → Int32 → (Nat → Int32) → Option (Int32 × (Nat → Int32))
  | 0, _, _, _, _, _, _, _, _ => none
  | kk + 1, x1, x2, x3, x4, x5, x6, x7, a_common =>
    q_ld a_sizes 61 x2 fun t86 =>
    if t86 ≤ x7 then (
      q_lt (x4 + (1 : Int32)) fun x4_151 =>
      k53 x1 x2 x3 x4_151 a_common
    ) else (
      q_ld a_common 21 (x7 + ((1 : Int32))) fun t98 =>
      q_c (f0_wordAt x2 x7 a_cells) fun t115 =>
      if x5 = t115 then (
        f0_likenessOf_140 n a_sizes a_cells k53 (f0_likenessOf_79 n a_sizes a_cells k53 kk) x1 x2 x3 x4 x5 x7 t98 (x7 + ((1 : Int32))) (x6 + ((1 : Int32))) a_common
      ) else (
        q_ld a_common 21 x7 fun t136 =>
        q_lt (if t98 < t136 then t136 else t98) fun t137 =>
        f0_likenessOf_140 n a_sizes a_cells k53 (f0_likenessOf_79 n a_sizes a_cells k53 kk) x1 x2 x3 x4 x5 x7 t98 (x7 + ((1 : Int32))) t137 a_common
      )
    )
def f0_likenessOf_53 (n : Nat) (a_sizes : (Nat → Int32)) (a_cells : (Nat → Int32)) : Nat → Int32 → Int32 → Int32 → Int32 → (Nat → Int32) → Option (Int32 × (Nat → Int32))
  | 0, _, _, _, _, _ => none
  | kk + 1, x1, x2, x3, x4, a_common =>
    q_ld a_sizes 61 x1 fun t60 =>
    if t60 ≤ x4 then (
      q_ld a_sizes 61 x2 fun t168 =>
      q_ld a_common 21 t168 fun t169 =>
      q_dv x3 <|
      some ((((100 : Int32)) * t169) / x3, a_common)
    ) else (
      q_c (f0_wordAt x1 x4 a_cells) fun t68 =>
      f0_likenessOf_79 n a_sizes a_cells (f0_likenessOf_53 n a_sizes a_cells kk) n x1 x2 x3 x4 t68 ((0 : Int32)) ((0 : Int32)) a_common
    )
def f0_likenessOf_26 (n : Nat) (a_sizes : (Nat → Int32)) (a_cells : (Nat → Int32)) : Nat → Int32 → Int32 → Int32 → Int32 → (Nat → Int32) → Option (Int32 × (Nat → Int32))
  | 0, _, _, _, _, _ => none
  | kk + 1, x1, x2, x3, x4, a_common =>
    if ((21 : Int32)) ≤ x4 then (
      f0_likenessOf_53 n a_sizes a_cells n x1 x2 x3 ((0 : Int32)) a_common
    ) else (
      q_st a_common 21 x4 ((0 : Int32)) fun a_common_43 =>
      q_lt (x4 + (1 : Int32)) fun x4_44 =>
      f0_likenessOf_26 n a_sizes a_cells kk x1 x2 x3 x4_44 a_common_43
    )
def f0_likenessOf (n : Nat) (x1 : Int32) (x2 : Int32) (a_sizes : (Nat → Int32)) (a_cells : (Nat → Int32)) (a_common : (Nat → Int32)) : Option (Int32 × (Nat → Int32)) :=
  q_ld a_sizes 61 x1 fun t5 =>
  q_ld a_sizes 61 x2 fun t11 =>
  q_lt (if t5 < t11 then t11 else t5) fun t12 =>
  if t12 = 0 then (
    some ((100 : Int32), a_common)
  ) else (
    f0_likenessOf_26 n a_sizes a_cells n x1 x2 t12 ((0 : Int32)) a_common
  )
def f6_likeness_16 (n : Nat) (a_done : Int32) (a_sizes : (Nat → Int32)) (a_cells : (Nat → Int32)) (p_errors : (Nat → Int32)) (a_common : (Nat → Int32)) : Option (Int32 × (Nat → Int32) × (Nat → Int32)) :=
  q_c2 (f6_error ((1 : Int32)) p_errors) fun t18 p_errors_18 =>
  some (t18, p_errors_18, a_common)
def f6_likeness (n : Nat) (x1 : Int32) (x2 : Int32) (a_done : Int32) (p_errors : (Nat → Int32)) (a_sizes : (Nat → Int32)) (a_cells : (Nat → Int32)) (a_common : (Nat → Int32)) : Option (Int32 × (Nat → Int32) × (Nat → Int32)) :=
  q_c (f6_isVersion x1 a_done) fun t2 =>
  if t2 = 0 then (
    f6_likeness_16 n a_done a_sizes a_cells p_errors a_common
  ) else (
    q_c (f6_isVersion x2 a_done) fun t10 =>
    if t10 = 0 then (
      f6_likeness_16 n a_done a_sizes a_cells p_errors a_common
    ) else (
      q_c2 (f0_likenessOf n x1 x2 a_sizes a_cells a_common) fun t31 a_common_31 =>
      some (t31, p_errors, a_common_31)
    )
  )
def f0_likestBefore_36 (n : Nat) (a_sizes : (Nat → Int32)) (a_cells : (Nat → Int32)) (k7 : Int32 → Int32 → Int32 → Int32 → (Nat → Int32) → Option (Int32 × (Nat → Int32))) (x1 : Int32) (x2 : Int32) (x3 : Int32) (x4 : Int32) (a_common : (Nat → Int32)) : Option (Int32 × (Nat → Int32)) :=
  q_lt (x4 + (1 : Int32)) fun x4_36 =>
  k7 x1 x2 x3 x4_36 a_common
def f0_likestBefore_7 (n : Nat) (a_sizes : (Nat → Int32)) (a_cells : (Nat → Int32)) : Nat → Int32 → Int32 → Int32 → Int32 → (Nat → Int32) → Option (Int32 × (Nat → Int32))
  | 0, _, _, _, _, _ => none
  | kk + 1, x1, x2, x3, x4, a_common =>
    if (x1 - ((1 : Int32))) ≤ x4 then (
      some (x2, a_common)
    ) else (
      q_c2 (f0_likenessOf n x4 x1 a_sizes a_cells a_common) fun t19 a_common_19 =>
      if t19 < x3 then (
        f0_likestBefore_36 n a_sizes a_cells (f0_likestBefore_7 n a_sizes a_cells kk) x1 x2 x3 x4 a_common_19
      ) else (
        f0_likestBefore_36 n a_sizes a_cells (f0_likestBefore_7 n a_sizes a_cells kk) x1 x4 t19 x4 a_common_19
      )
    )
def f0_likestBefore (n : Nat) (x1 : Int32) (a_sizes : (Nat → Int32)) (a_cells : (Nat → Int32)) (a_common : (Nat → Int32)) : Option (Int32 × (Nat → Int32)) :=
  f0_likestBefore_7 n a_sizes a_cells n x1 ((0 : Int32)) ((-1 : Int32)) ((0 : Int32)) a_common
def f6_from (n : Nat) (x1 : Int32) (a_done : Int32) (p_errors : (Nat → Int32)) (a_sizes : (Nat → Int32)) (a_cells : (Nat → Int32)) (a_common : (Nat → Int32)) : Option (Int32 × (Nat → Int32) × (Nat → Int32)) :=
  q_c (f6_isVersion x1 a_done) fun t2 =>
  if t2 = 0 then (
    q_c2 (f6_error ((1 : Int32)) p_errors) fun t10 p_errors_10 =>
    some (t10, p_errors_10, a_common)
  ) else (
    if ((2 : Int32)) ≤ x1 then (
      q_c2 (f0_likestBefore n x1 a_sizes a_cells a_common) fun t33 a_common_33 =>
      some (t33, p_errors, a_common_33)
    ) else (
      q_c2 (f6_error ((2 : Int32)) p_errors) fun t21 p_errors_21 =>
      some (t21, p_errors_21, a_common)
    )
  )
def f0_warLength_27 (n : Nat) (a_undoers : (Nat → Int32)) (x2 : Int32) : Option (Int32) :=
  some x2
def f0_warLength_4 (n : Nat) (a_undoers : (Nat → Int32)) : Nat → Int32 → Int32 → Option (Int32)
  | 0, _, _ => none
  | kk + 1, x2, x3 =>
    if x3 < 0 then (
      f0_warLength_27 n a_undoers x2
    ) else (
      if ((60 : Int32)) ≤ x2 then (
        f0_warLength_27 n a_undoers x2
      ) else (
        q_lt (x2 + (1 : Int32)) fun x2_14 =>
        q_ld a_undoers 60 x3 fun t22 =>
        f0_warLength_4 n a_undoers kk x2_14 t22
      )
    )
def f0_warLength (n : Nat) (x1 : Int32) (a_undoers : (Nat → Int32)) : Option (Int32) :=
  f0_warLength_4 n a_undoers n ((0 : Int32)) x1
def f0_warEnd_32 (n : Nat) (a_undoers : (Nat → Int32)) (x2 : Int32) : Option (Int32) :=
  some x2
def f0_warEnd_4 (n : Nat) (a_undoers : (Nat → Int32)) : Nat → Int32 → Int32 → Option (Int32)
  | 0, _, _ => none
  | kk + 1, x2, x3 =>
    if ((60 : Int32)) ≤ x3 then (
      f0_warEnd_32 n a_undoers x2
    ) else (
      q_ld a_undoers 60 x2 fun t15 =>
      if t15 < 0 then (
        f0_warEnd_32 n a_undoers x2
      ) else (
        q_ld a_undoers 60 x2 fun t24 =>
        q_lt (x3 + (1 : Int32)) fun x3_26 =>
        f0_warEnd_4 n a_undoers kk t24 x3_26
      )
    )
def f0_warEnd (n : Nat) (x1 : Int32) (a_undoers : (Nat → Int32)) : Option (Int32) :=
  f0_warEnd_4 n a_undoers n x1 ((0 : Int32))
def f0_warSide_55 (n : Nat) (a_writers : (Nat → Int32)) (a_undoers : (Nat → Int32)) (x3 : Int32) : Option (Int32) :=
  some x3
def f0_warSide_40 (n : Nat) (a_writers : (Nat → Int32)) (a_undoers : (Nat → Int32)) (k8 : Int32 → Int32 → Int32 → Int32 → Option (Int32)) (x2 : Int32) (x3 : Int32) (x4 : Int32) (x5 : Int32) : Option (Int32) :=
  q_ld a_undoers 60 x4 fun t46 =>
  q_lt (x5 + (1 : Int32)) fun x5_49 =>
  k8 x2 x3 t46 x5_49
def f0_warSide_8 (n : Nat) (a_writers : (Nat → Int32)) (a_undoers : (Nat → Int32)) : Nat → Int32 → Int32 → Int32 → Int32 → Option (Int32)
  | 0, _, _, _, _ => none
  | kk + 1, x2, x3, x4, x5 =>
    if ((60 : Int32)) ≤ x5 then (
      f0_warSide_55 n a_writers a_undoers x3
    ) else (
      if x4 < 0 then (
        f0_warSide_55 n a_writers a_undoers x3
      ) else (
        q_dv ((2 : Int32)) <|
        if (x5 - x5 / ((2 : Int32)) * ((2 : Int32))) = x2 then (
          q_ld a_writers 60 x4 fun t36 =>
          q_lt (x3 ||| (((1 : Int32)) <<< (t36 &&& 31))) fun x3_39 =>
          f0_warSide_40 n a_writers a_undoers (f0_warSide_8 n a_writers a_undoers kk) x2 x3_39 x4 x5
        ) else (
          f0_warSide_40 n a_writers a_undoers (f0_warSide_8 n a_writers a_undoers kk) x2 x3 x4 x5
        )
      )
    )
def f0_warSide (n : Nat) (x1 : Int32) (x2 : Int32) (a_writers : (Nat → Int32)) (a_undoers : (Nat → Int32)) : Option (Int32) :=
  f0_warSide_8 n a_writers a_undoers n x2 ((0 : Int32)) x1 ((0 : Int32))
def f6_war (n : Nat) (x1 : Int32) (x2 : Int32) (a_done : Int32) (p_errors : (Nat → Int32)) (a_writers : (Nat → Int32)) (a_undoers : (Nat → Int32)) : Option (Int32 × (Nat → Int32)) :=
  q_c (f6_isAct x1 a_done) fun t2 =>
  if t2 = 0 then (
    q_c2 (f6_error ((1 : Int32)) p_errors) fun t10 p_errors_10 =>
    some (t10, p_errors_10)
  ) else (
    if x2 = (0 : Int32) then (
      q_c (f0_warLength n x1 a_undoers) fun t52 =>
      some (t52, p_errors)
    ) else (
    if x2 = (1 : Int32) then (
      q_c (f0_warEnd n x1 a_undoers) fun t64 =>
      some (t64, p_errors)
    ) else (
    if x2 = (2 : Int32) then (
      q_c (f0_warSide n x1 ((0 : Int32)) a_writers a_undoers) fun t77 =>
      some (t77, p_errors)
    ) else (
    if x2 = (3 : Int32) then (
      q_c (f0_warSide n x1 ((1 : Int32)) a_writers a_undoers) fun t90 =>
      some (t90, p_errors)
    ) else (
      q_c2 (f6_error ((1 : Int32)) p_errors) fun t96 p_errors_96 =>
      some (t96, p_errors_96)
    ))))
  )
def f0_longestWar_27 (n : Nat) (a_done : Int32) (a_undoers : (Nat → Int32)) (k4 : Int32 → Int32 → Option (Int32)) (x1 : Int32) (x2 : Int32) : Option (Int32) :=
  q_lt (x2 + (1 : Int32)) fun x2_27 =>
  k4 x1 x2_27
def f0_longestWar_4 (n : Nat) (a_done : Int32) (a_undoers : (Nat → Int32)) : Nat → Int32 → Int32 → Option (Int32)
  | 0, _, _ => none
  | kk + 1, x1, x2 =>
    if a_done ≤ x2 then (
      some x1
    ) else (
      q_c (f0_warLength n x2 a_undoers) fun t14 =>
      q_c (f0_warLength n x1 a_undoers) fun t19 =>
      if t14 ≤ t19 then (
        f0_longestWar_27 n a_done a_undoers (f0_longestWar_4 n a_done a_undoers kk) x1 x2
      ) else (
        f0_longestWar_27 n a_done a_undoers (f0_longestWar_4 n a_done a_undoers kk) x2 x2
      )
    )
def f0_longestWar (n : Nat) (a_done : Int32) (a_undoers : (Nat → Int32)) : Option (Int32) :=
  f0_longestWar_4 n a_done a_undoers n ((0 : Int32)) ((1 : Int32))
def f6_longest (n : Nat) (a_done : Int32) (p_errors : (Nat → Int32)) (a_undoers : (Nat → Int32)) : Option (Int32 × (Nat → Int32)) :=
  if a_done = 0 then (
    q_c2 (f6_error ((2 : Int32)) p_errors) fun t15 p_errors_15 =>
    some (t15, p_errors_15)
  ) else (
    q_c (f0_longestWar n a_done a_undoers) fun t26 =>
    some (t26, p_errors)
  )
def f0_wordsOf_30 (n : Nat) (a_sizes : (Nat → Int32)) (a_cells : (Nat → Int32)) (k5 : Int32 → Int32 → Int32 → Int32 → Option (Int32)) (x1 : Int32) (x2 : Int32) (x3 : Int32) (x4 : Int32) : Option (Int32) :=
  q_lt (x4 + (1 : Int32)) fun x4_30 =>
  k5 x1 x2 x3 x4_30
def f0_wordsOf_5 (n : Nat) (a_sizes : (Nat → Int32)) (a_cells : (Nat → Int32)) : Nat → Int32 → Int32 → Int32 → Int32 → Option (Int32)
  | 0, _, _, _, _ => none
  | kk + 1, x1, x2, x3, x4 =>
    q_ld a_sizes 61 x2 fun t12 =>
    if t12 ≤ x4 then (
      some x3
    ) else (
      q_c (f0_originAt x2 x4 a_cells) fun t20 =>
      if t20 = x1 then (
        q_lt (x3 + (1 : Int32)) fun x3_27 =>
        f0_wordsOf_30 n a_sizes a_cells (f0_wordsOf_5 n a_sizes a_cells kk) x1 x2 x3_27 x4
      ) else (
        f0_wordsOf_30 n a_sizes a_cells (f0_wordsOf_5 n a_sizes a_cells kk) x1 x2 x3 x4
      )
    )
def f0_wordsOf (n : Nat) (x1 : Int32) (x2 : Int32) (a_sizes : (Nat → Int32)) (a_cells : (Nat → Int32)) : Option (Int32) :=
  f0_wordsOf_5 n a_sizes a_cells n x1 x2 ((0 : Int32)) ((0 : Int32))
def f0_minutesThere_44 (a_done : Int32) (a_minutes : (Nat → Int32)) (x4 : Int32) (s0 : Int32) : Option (Int32) :=
  q_lt (if ((0 : Int32)) < (s0 - x4) then (s0 - x4) else ((0 : Int32))) fun t52 =>
  some t52
def f0_minutesThere_20 (a_done : Int32) (a_minutes : (Nat → Int32)) (x1 : Int32) (x3 : Int32) (s0 : Int32) : Option (Int32) :=
  if a_done ≤ x1 then (
    f0_minutesThere_44 a_done a_minutes s0 x3
  ) else (
    q_ld a_minutes 60 x1 fun t36 =>
    q_lt (if t36 < x3 then t36 else x3) fun t37 =>
    f0_minutesThere_44 a_done a_minutes s0 t37
  )
def f0_minutesThere (x1 : Int32) (x2 : Int32) (x3 : Int32) (a_done : Int32) (a_minutes : (Nat → Int32)) : Option (Int32) :=
  if x1 ≤ 0 then (
    f0_minutesThere_20 a_done a_minutes x1 x3 x2
  ) else (
    q_ld a_minutes 60 (x1 - ((1 : Int32))) fun t12 =>
    q_lt (if x2 < t12 then t12 else x2) fun t13 =>
    f0_minutesThere_20 a_done a_minutes x1 x3 t13
  )
def f0_staysOf_7 (n : Nat) (a_done : Int32) (a_minutes : (Nat → Int32)) (a_sizes : (Nat → Int32)) (a_cells : (Nat → Int32)) : Nat → Int32 → Int32 → Int32 → Int32 → Option (Int32)
  | 0, _, _, _, _ => none
  | kk + 1, x1, x2, x3, x4 =>
    if a_done < x4 then (
      some x3
    ) else (
      q_c (f0_wordsOf n x1 x4 a_sizes a_cells) fun t21 =>
      q_c (f0_minutesThere x4 ((0 : Int32)) x2 a_done a_minutes) fun t29 =>
      q_lt (x3 + (t21 * t29)) fun x3_34 =>
      q_lt (x4 + (1 : Int32)) fun x4_35 =>
      f0_staysOf_7 n a_done a_minutes a_sizes a_cells kk x1 x2 x3_34 x4_35
    )
def f0_staysOf (n : Nat) (x1 : Int32) (x2 : Int32) (a_done : Int32) (a_minutes : (Nat → Int32)) (a_sizes : (Nat → Int32)) (a_cells : (Nat → Int32)) : Option (Int32) :=
  q_lt (x1 + ((1 : Int32))) fun x4_5 =>
  f0_staysOf_7 n a_done a_minutes a_sizes a_cells n x1 x2 ((0 : Int32)) x4_5
def f6_stays (n : Nat) (x1 : Int32) (b_now : Int32) (a_done : Int32) (p_errors : (Nat → Int32)) (a_minutes : (Nat → Int32)) (a_sizes : (Nat → Int32)) (a_cells : (Nat → Int32)) : Option (Int32 × (Nat → Int32)) :=
  q_c (f6_isAct x1 a_done) fun t2 =>
  if t2 = 0 then (
    q_c2 (f6_error ((1 : Int32)) p_errors) fun t10 p_errors_10 =>
    some (t10, p_errors_10)
  ) else (
    q_c (f0_staysOf n x1 b_now a_done a_minutes a_sizes a_cells) fun t29 =>
    some (t29, p_errors)
  )
def f0_staysBy_5 (n : Nat) (a_done : Int32) (a_writers : (Nat → Int32)) (a_minutes : (Nat → Int32)) (a_sizes : (Nat → Int32)) (a_cells : (Nat → Int32)) : Nat → Int32 → Int32 → Int32 → Int32 → Option (Int32)
  | 0, _, _, _, _ => none
  | kk + 1, x1, x2, x3, x4 =>
    if a_done < x4 then (
      some x3
    ) else (
      q_c (f0_wordsBy n x1 x4 a_writers a_sizes a_cells) fun t19 =>
      q_c (f0_minutesThere x4 ((0 : Int32)) x2 a_done a_minutes) fun t27 =>
      q_lt (x3 + (t19 * t27)) fun x3_32 =>
      q_lt (x4 + (1 : Int32)) fun x4_33 =>
      f0_staysBy_5 n a_done a_writers a_minutes a_sizes a_cells kk x1 x2 x3_32 x4_33
    )
def f0_staysBy (n : Nat) (x1 : Int32) (x2 : Int32) (a_done : Int32) (a_writers : (Nat → Int32)) (a_minutes : (Nat → Int32)) (a_sizes : (Nat → Int32)) (a_cells : (Nat → Int32)) : Option (Int32) :=
  f0_staysBy_5 n a_done a_writers a_minutes a_sizes a_cells n x1 x2 ((0 : Int32)) ((1 : Int32))
def f0_undoneOf_34 (n : Nat) (a_done : Int32) (a_writers : (Nat → Int32)) (a_undoers : (Nat → Int32)) (k4 : Int32 → Int32 → Int32 → Option (Int32)) (x1 : Int32) (x2 : Int32) (x3 : Int32) : Option (Int32) :=
  q_lt (x3 + (1 : Int32)) fun x3_34 =>
  k4 x1 x2 x3_34
def f0_undoneOf_4 (n : Nat) (a_done : Int32) (a_writers : (Nat → Int32)) (a_undoers : (Nat → Int32)) : Nat → Int32 → Int32 → Int32 → Option (Int32)
  | 0, _, _, _ => none
  | kk + 1, x1, x2, x3 =>
    if a_done ≤ x3 then (
      some x2
    ) else (
      q_ld a_writers 60 x3 fun t17 =>
      if t17 = x1 then (
        q_ld a_undoers 60 x3 fun t27 =>
        if t27 < 0 then (
          f0_undoneOf_34 n a_done a_writers a_undoers (f0_undoneOf_4 n a_done a_writers a_undoers kk) x1 x2 x3
        ) else (
          q_lt (x2 + (1 : Int32)) fun x2_31 =>
          f0_undoneOf_34 n a_done a_writers a_undoers (f0_undoneOf_4 n a_done a_writers a_undoers kk) x1 x2_31 x3
        )
      ) else (
        f0_undoneOf_34 n a_done a_writers a_undoers (f0_undoneOf_4 n a_done a_writers a_undoers kk) x1 x2 x3
      )
    )
def f0_undoneOf (n : Nat) (x1 : Int32) (a_done : Int32) (a_writers : (Nat → Int32)) (a_undoers : (Nat → Int32)) : Option (Int32) :=
  f0_undoneOf_4 n a_done a_writers a_undoers n x1 ((0 : Int32)) ((0 : Int32))
def f0_offFrom_62 (n : Nat) (a_done : Int32) (a_writers : (Nat → Int32)) (a_minutes : (Nat → Int32)) (a_undoers : (Nat → Int32)) (k4 : Int32 → Int32 → Int32 → Option (Int32)) (k15 : Int32 → Int32 → Int32 → Int32 → Option (Int32)) (x1 : Int32) (x2 : Int32) (x3 : Int32) : Option (Int32) :=
  if x2 < ((3 : Int32)) then (
    q_lt (x3 + (1 : Int32)) fun x3_74 =>
    k4 x1 x2 x3_74
  ) else (
    q_ld a_minutes 60 x3 fun t72 =>
    some t72
  )
def f0_offFrom_56 (n : Nat) (a_done : Int32) (a_writers : (Nat → Int32)) (a_minutes : (Nat → Int32)) (a_undoers : (Nat → Int32)) (k4 : Int32 → Int32 → Int32 → Option (Int32)) (k15 : Int32 → Int32 → Int32 → Int32 → Option (Int32)) (x1 : Int32) (x2 : Int32) (x3 : Int32) (x4 : Int32) : Option (Int32) :=
  q_lt (x4 + (1 : Int32)) fun x4_56 =>
  k15 x1 x2 x3 x4_56
def f0_offFrom_15 (n : Nat) (a_done : Int32) (a_writers : (Nat → Int32)) (a_minutes : (Nat → Int32)) (a_undoers : (Nat → Int32)) (k4 : Int32 → Int32 → Int32 → Option (Int32)) : Nat → Int32 → Int32 → Int32 → Int32 → Option (Int32)
  | 0, _, _, _, _ => none
  | kk + 1, x1, x2, x3, x4 =>
    if x3 ≤ x4 then (
      f0_offFrom_62 n a_done a_writers a_minutes a_undoers k4 (f0_offFrom_15 n a_done a_writers a_minutes a_undoers k4 kk) x1 x2 x3
    ) else (
      q_ld a_writers 60 x3 fun t26 =>
      if t26 = x1 then (
        f0_offFrom_62 n a_done a_writers a_minutes a_undoers k4 (f0_offFrom_15 n a_done a_writers a_minutes a_undoers k4 kk) x1 x2 x3
      ) else (
        q_ld a_writers 60 x4 fun t37 =>
        if t37 = x1 then (
          q_ld a_undoers 60 x4 fun t48 =>
          if t48 = x3 then (
            q_lt (x2 + (1 : Int32)) fun x2_53 =>
            f0_offFrom_56 n a_done a_writers a_minutes a_undoers k4 (f0_offFrom_15 n a_done a_writers a_minutes a_undoers k4 kk) x1 x2_53 x3 x4
          ) else (
            f0_offFrom_56 n a_done a_writers a_minutes a_undoers k4 (f0_offFrom_15 n a_done a_writers a_minutes a_undoers k4 kk) x1 x2 x3 x4
          )
        ) else (
          f0_offFrom_56 n a_done a_writers a_minutes a_undoers k4 (f0_offFrom_15 n a_done a_writers a_minutes a_undoers k4 kk) x1 x2 x3 x4
        )
      )
    )
def f0_offFrom_4 (n : Nat) (a_done : Int32) (a_writers : (Nat → Int32)) (a_minutes : (Nat → Int32)) (a_undoers : (Nat → Int32)) : Nat → Int32 → Int32 → Int32 → Option (Int32)
  | 0, _, _, _ => none
  | kk + 1, x1, x2, x3 =>
    if a_done ≤ x3 then (
      some ((-1 : Int32))
    ) else (
      f0_offFrom_15 n a_done a_writers a_minutes a_undoers (f0_offFrom_4 n a_done a_writers a_minutes a_undoers kk) n x1 x2 x3 ((0 : Int32))
    )
def f0_offFrom (n : Nat) (x1 : Int32) (a_done : Int32) (a_writers : (Nat → Int32)) (a_minutes : (Nat → Int32)) (a_undoers : (Nat → Int32)) : Option (Int32) :=
  f0_offFrom_4 n a_done a_writers a_minutes a_undoers n x1 ((0 : Int32)) ((0 : Int32))
def f6_writerIs_145 (n : Nat) (b_now : Int32) (a_done : Int32) (a_kinds : (Nat → Int32)) (a_writers : (Nat → Int32)) (a_minutes : (Nat → Int32)) (a_undoers : (Nat → Int32)) (a_sizes : (Nat → Int32)) (a_cells : (Nat → Int32)) (s0 : Int32) (p_errors : (Nat → Int32)) : Option (Int32 × (Nat → Int32)) :=
  some (s0, p_errors)
def f6_writerIs (n : Nat) (x1 : Int32) (x2 : Int32) (b_now : Int32) (a_done : Int32) (p_errors : (Nat → Int32)) (a_kinds : (Nat → Int32)) (a_writers : (Nat → Int32)) (a_minutes : (Nat → Int32)) (a_undoers : (Nat → Int32)) (a_sizes : (Nat → Int32)) (a_cells : (Nat → Int32)) : Option (Int32 × (Nat → Int32)) :=
  q_c (f6_isWriter x1) fun t1 =>
  if t1 = 0 then (
    q_c2 (f6_error ((1 : Int32)) p_errors) fun t9 p_errors_9 =>
    some (t9, p_errors_9)
  ) else (
    if x2 = (0 : Int32) then (
      q_c (f0_wordsBy n x1 a_done a_writers a_sizes a_cells) fun t66 =>
      some (t66, p_errors)
    ) else (
    if x2 = (1 : Int32) then (
      q_c (f0_staysBy n x1 b_now a_done a_writers a_minutes a_sizes a_cells) fun t85 =>
      some (t85, p_errors)
    ) else (
    if x2 = (2 : Int32) then (
      q_c (f0_undoneOf n x1 a_done a_writers a_undoers) fun t97 =>
      some (t97, p_errors)
    ) else (
    if x2 = (3 : Int32) then (
      q_c (f0_backsBy n x1 b_now a_done a_kinds a_writers a_minutes) fun t116 =>
      some (t116, p_errors)
    ) else (
    if x2 = (4 : Int32) then (
      q_c (f0_offFrom n x1 a_done a_writers a_minutes a_undoers) fun t128 =>
      if 0 ≤ t128 then (
        f6_writerIs_145 n b_now a_done a_kinds a_writers a_minutes a_undoers a_sizes a_cells t128 p_errors
      ) else (
        q_c2 (f6_error ((2 : Int32)) p_errors) fun t138 p_errors_138 =>
        f6_writerIs_145 n b_now a_done a_kinds a_writers a_minutes a_undoers a_sizes a_cells t138 p_errors_138
      )
    ) else (
      q_c2 (f6_error ((1 : Int32)) p_errors) fun t148 p_errors_148 =>
      some (t148, p_errors_148)
    )))))
  )
def f0_thereAt_27 (n : Nat) (a_done : Int32) (a_minutes : (Nat → Int32)) (x2 : Int32) : Option (Int32) :=
  some x2
def f0_thereAt_5 (n : Nat) (a_done : Int32) (a_minutes : (Nat → Int32)) : Nat → Int32 → Int32 → Option (Int32)
  | 0, _, _ => none
  | kk + 1, x1, x2 =>
    if x2 ≤ 0 then (
      f0_thereAt_27 n a_done a_minutes x2
    ) else (
      q_ld a_minutes 60 (x2 - ((1 : Int32))) fun t16 =>
      if t16 ≤ x1 then (
        f0_thereAt_27 n a_done a_minutes x2
      ) else (
        q_lt (x2 + (-1 : Int32)) fun x2_21 =>
        f0_thereAt_5 n a_done a_minutes kk x1 x2_21
      )
    )
def f0_thereAt (n : Nat) (x1 : Int32) (a_done : Int32) (a_minutes : (Nat → Int32)) : Option (Int32) :=
  f0_thereAt_5 n a_done a_minutes n x1 a_done
def f6_read_15 (n : Nat) (b_now : Int32) (a_done : Int32) (a_minutes : (Nat → Int32)) (p_errors : (Nat → Int32)) : Option (Int32 × (Nat → Int32)) :=
  q_c2 (f6_error ((1 : Int32)) p_errors) fun t17 p_errors_17 =>
  some (t17, p_errors_17)
def f6_read (n : Nat) (x1 : Int32) (b_now : Int32) (a_done : Int32) (p_errors : (Nat → Int32)) (a_minutes : (Nat → Int32)) : Option (Int32 × (Nat → Int32)) :=
  if x1 < 0 then (
    f6_read_15 n b_now a_done a_minutes p_errors
  ) else (
    if x1 ≤ b_now then (
      q_c (f0_thereAt n x1 a_done a_minutes) fun t29 =>
      some (t29, p_errors)
    ) else (
      f6_read_15 n b_now a_done a_minutes p_errors
    )
  )
def f6_areMinutes_25 (b_now : Int32) (s0 : Int32) : Option (Int32) :=
  q_bz s0 <|
  some s0
def f6_areMinutes_24 (b_now : Int32) : Option (Int32) :=
  f6_areMinutes_25 b_now ((0 : Int32))
def f6_areMinutes (x1 : Int32) (x2 : Int32) (b_now : Int32) : Option (Int32) :=
  if x1 < 0 then (
    f6_areMinutes_24 b_now
  ) else (
    if x2 < x1 then (
      f6_areMinutes_24 b_now
    ) else (
      if b_now < x2 then (
        f6_areMinutes_24 b_now
      ) else (
        f6_areMinutes_25 b_now ((1 : Int32))
      )
    )
  )
def f1_minutesAlike_47 (n : Nat) (a_done : Int32) (a_minutes : (Nat → Int32)) (a_sizes : (Nat → Int32)) (a_cells : (Nat → Int32)) (k6 : Int32 → Int32 → Int32 → Int32 → Int32 → Option (Int32)) (x1 : Int32) (x2 : Int32) (x3 : Int32) (x4 : Int32) (x5 : Int32) : Option (Int32) :=
  q_lt (x5 + (1 : Int32)) fun x5_47 =>
  k6 x1 x2 x3 x4 x5_47
def f1_minutesAlike_6 (n : Nat) (a_done : Int32) (a_minutes : (Nat → Int32)) (a_sizes : (Nat → Int32)) (a_cells : (Nat → Int32)) : Nat → Int32 → Int32 → Int32 → Int32 → Int32 → Option (Int32)
  | 0, _, _, _, _, _ => none
  | kk + 1, x1, x2, x3, x4, x5 =>
    if a_done < x5 then (
      some x4
    ) else (
      q_c (f0_areAlike n x5 x1 a_sizes a_cells) fun t25 =>
      if t25 = 0 then (
        f1_minutesAlike_47 n a_done a_minutes a_sizes a_cells (f1_minutesAlike_6 n a_done a_minutes a_sizes a_cells kk) x1 x2 x3 x4 x5
      ) else (
        q_c (f0_minutesThere x5 x2 x3 a_done a_minutes) fun t41 =>
        q_lt (x4 + t41) fun x4_45 =>
        f1_minutesAlike_47 n a_done a_minutes a_sizes a_cells (f1_minutesAlike_6 n a_done a_minutes a_sizes a_cells kk) x1 x2 x3 x4_45 x5
      )
    )
def f1_minutesAlike (n : Nat) (x1 : Int32) (x2 : Int32) (x3 : Int32) (a_done : Int32) (a_minutes : (Nat → Int32)) (a_sizes : (Nat → Int32)) (a_cells : (Nat → Int32)) : Option (Int32) :=
  f1_minutesAlike_6 n a_done a_minutes a_sizes a_cells n x1 x2 x3 ((0 : Int32)) ((0 : Int32))
def f6_wrong_17 (n : Nat) (b_now : Int32) (a_done : Int32) (a_minutes : (Nat → Int32)) (a_sizes : (Nat → Int32)) (a_cells : (Nat → Int32)) (p_errors : (Nat → Int32)) : Option (Int32 × (Nat → Int32)) :=
  q_c2 (f6_error ((1 : Int32)) p_errors) fun t19 p_errors_19 =>
  some (t19, p_errors_19)
def f6_wrong (n : Nat) (x1 : Int32) (x2 : Int32) (x3 : Int32) (b_now : Int32) (a_done : Int32) (p_errors : (Nat → Int32)) (a_minutes : (Nat → Int32)) (a_sizes : (Nat → Int32)) (a_cells : (Nat → Int32)) : Option (Int32 × (Nat → Int32)) :=
  q_c (f6_isVersion x1 a_done) fun t2 =>
  if t2 = 0 then (
    f6_wrong_17 n b_now a_done a_minutes a_sizes a_cells p_errors
  ) else (
    q_c (f6_areMinutes x2 x3 b_now) fun t11 =>
    if t11 = 0 then (
      f6_wrong_17 n b_now a_done a_minutes a_sizes a_cells p_errors
    ) else (
      q_c (f1_minutesAlike n x1 x2 x3 a_done a_minutes a_sizes a_cells) fun t30 =>
      some (t30, p_errors)
    )
  )
def f0_doneInHour_45 (n : Nat) (a_done : Int32) (a_writers : (Nat → Int32)) (a_minutes : (Nat → Int32)) (k5 : Int32 → Int32 → Int32 → Int32 → Option (Int32)) (x1 : Int32) (x2 : Int32) (x3 : Int32) (x4 : Int32) : Option (Int32) :=
  q_lt (x4 + (1 : Int32)) fun x4_45 =>
  k5 x1 x2 x3 x4_45
def f0_doneInHour_5 (n : Nat) (a_done : Int32) (a_writers : (Nat → Int32)) (a_minutes : (Nat → Int32)) : Nat → Int32 → Int32 → Int32 → Int32 → Option (Int32)
  | 0, _, _, _, _ => none
  | kk + 1, x1, x2, x3, x4 =>
    if a_done ≤ x4 then (
      some x3
    ) else (
      q_ld a_writers 60 x4 fun t20 =>
      if t20 = x1 then (
        q_ld a_minutes 60 x4 fun t31 =>
        q_dv ((60 : Int32)) <|
        q_dv ((24 : Int32)) <|
        if ((t31 / ((60 : Int32))) - (t31 / ((60 : Int32))) / ((24 : Int32)) * ((24 : Int32))) = x2 then (
          q_lt (x3 + (1 : Int32)) fun x3_42 =>
          f0_doneInHour_45 n a_done a_writers a_minutes (f0_doneInHour_5 n a_done a_writers a_minutes kk) x1 x2 x3_42 x4
        ) else (
          f0_doneInHour_45 n a_done a_writers a_minutes (f0_doneInHour_5 n a_done a_writers a_minutes kk) x1 x2 x3 x4
        )
      ) else (
        f0_doneInHour_45 n a_done a_writers a_minutes (f0_doneInHour_5 n a_done a_writers a_minutes kk) x1 x2 x3 x4
      )
    )
def f0_doneInHour (n : Nat) (x1 : Int32) (x2 : Int32) (a_done : Int32) (a_writers : (Nat → Int32)) (a_minutes : (Nat → Int32)) : Option (Int32) :=
  f0_doneInHour_5 n a_done a_writers a_minutes n x1 x2 ((0 : Int32)) ((0 : Int32))
def f0_hoursInCommon_5 (n : Nat) (a_done : Int32) (a_writers : (Nat → Int32)) (a_minutes : (Nat → Int32)) : Nat → Int32 → Int32 → Int32 → Int32 → Option (Int32)
  | 0, _, _, _, _ => none
  | kk + 1, x1, x2, x3, x4 =>
    if ((24 : Int32)) ≤ x4 then (
      some x3
    ) else (
      q_c (f0_doneInHour n x1 x4 a_done a_writers a_minutes) fun t17 =>
      q_c (f0_doneInHour n x2 x4 a_done a_writers a_minutes) fun t24 =>
      q_lt (if t24 < t17 then t24 else t17) fun t27 =>
      q_lt (x3 + t27) fun x3_31 =>
      q_lt (x4 + (1 : Int32)) fun x4_32 =>
      f0_hoursInCommon_5 n a_done a_writers a_minutes kk x1 x2 x3_31 x4_32
    )
def f0_hoursInCommon (n : Nat) (x1 : Int32) (x2 : Int32) (a_done : Int32) (a_writers : (Nat → Int32)) (a_minutes : (Nat → Int32)) : Option (Int32) :=
  f0_hoursInCommon_5 n a_done a_writers a_minutes n x1 x2 ((0 : Int32)) ((0 : Int32))
def f6_hand_19 (n : Nat) (a_done : Int32) (a_writers : (Nat → Int32)) (a_minutes : (Nat → Int32)) (p_errors : (Nat → Int32)) : Option (Int32 × (Nat → Int32)) :=
  q_c2 (f6_error ((1 : Int32)) p_errors) fun t21 p_errors_21 =>
  some (t21, p_errors_21)
def f6_hand (n : Nat) (x1 : Int32) (x2 : Int32) (a_done : Int32) (p_errors : (Nat → Int32)) (a_writers : (Nat → Int32)) (a_minutes : (Nat → Int32)) : Option (Int32 × (Nat → Int32)) :=
  q_c (f6_isWriter x1) fun t1 =>
  if t1 = 0 then (
    f6_hand_19 n a_done a_writers a_minutes p_errors
  ) else (
    q_c (f6_isWriter x2) fun t8 =>
    if t8 = 0 then (
      f6_hand_19 n a_done a_writers a_minutes p_errors
    ) else (
      if x1 = x2 then (
        f6_hand_19 n a_done a_writers a_minutes p_errors
      ) else (
        q_c (f0_doneBy n x1 a_done a_writers) fun t33 =>
        q_c (f0_doneBy n x2 a_done a_writers) fun t44 =>
        q_lt (if t44 < t33 then t44 else t33) fun t47 =>
        if t47 = 0 then (
          q_c2 (f6_error ((2 : Int32)) p_errors) fun t57 p_errors_57 =>
          some (t57, p_errors_57)
        ) else (
          q_c (f0_hoursInCommon n x1 x2 a_done a_writers a_minutes) fun t72 =>
          q_dv t47 <|
          some ((((100 : Int32)) * t72) / t47, p_errors)
        )
      )
    )
  )
def f6_score_19 (a_done : Int32) (p_errors : (Nat → Int32)) (a_scores : (Nat → Int32)) : Option (Int32 × (Nat → Int32) × (Nat → Int32)) :=
  q_c2 (f6_error ((1 : Int32)) p_errors) fun t21 p_errors_21 =>
  some (t21, p_errors_21, a_scores)
def f6_score (x1 : Int32) (x2 : Int32) (a_done : Int32) (p_errors : (Nat → Int32)) (a_scores : (Nat → Int32)) : Option (Int32 × (Nat → Int32) × (Nat → Int32)) :=
  q_c (f6_isAct x1 a_done) fun t2 =>
  if t2 = 0 then (
    f6_score_19 a_done p_errors a_scores
  ) else (
    if x2 < ((-1 : Int32)) then (
      f6_score_19 a_done p_errors a_scores
    ) else (
      if x2 ≤ ((100 : Int32)) then (
        q_ld a_scores 60 x1 fun t36 =>
        q_st a_scores 60 x1 x2 fun a_scores_50 =>
        some (t36, p_errors, a_scores_50)
      ) else (
        f6_score_19 a_done p_errors a_scores
      )
    )
  )
def f0_lineCosts_85 (n : Nat) (a_done : Int32) (a_kinds : (Nat → Int32)) (a_scores : (Nat → Int32)) (k6 : Int32 → Int32 → Int32 → Int32 → Int32 → Option (Int32)) (x1 : Int32) (x2 : Int32) (x3 : Int32) (x4 : Int32) (x5 : Int32) : Option (Int32) :=
  q_lt (x5 + (1 : Int32)) fun x5_85 =>
  k6 x1 x2 x3 x4 x5_85
def f0_lineCosts_63 (n : Nat) (a_done : Int32) (a_kinds : (Nat → Int32)) (a_scores : (Nat → Int32)) (k6 : Int32 → Int32 → Int32 → Int32 → Int32 → Option (Int32)) (x1 : Int32) (x2 : Int32) (x3 : Int32) (x4 : Int32) (x5 : Int32) (x6 : Int32) : Option (Int32) :=
  q_ld a_scores 60 x5 fun t69 =>
  if x1 ≤ t69 then (
    f0_lineCosts_85 n a_done a_kinds a_scores k6 x1 x2 x3 x4 x5
  ) else (
    if x6 = 0 then (
      f0_lineCosts_85 n a_done a_kinds a_scores k6 x1 x2 x3 x4 x5
    ) else (
      q_lt (x4 + x3) fun x4_83 =>
      f0_lineCosts_85 n a_done a_kinds a_scores k6 x1 x2 x3 x4_83 x5
    )
  )
def f0_lineCosts_6 (n : Nat) (a_done : Int32) (a_kinds : (Nat → Int32)) (a_scores : (Nat → Int32)) : Nat → Int32 → Int32 → Int32 → Int32 → Int32 → Option (Int32)
  | 0, _, _, _, _, _ => none
  | kk + 1, x1, x2, x3, x4, x5 =>
    if a_done ≤ x5 then (
      some x4
    ) else (
      q_ld a_scores 60 x5 fun t21 =>
      if t21 < 0 then (
        f0_lineCosts_85 n a_done a_kinds a_scores (f0_lineCosts_6 n a_done a_kinds a_scores kk) x1 x2 x3 x4 x5
      ) else (
        q_ld a_kinds 60 x5 fun t31 =>
        q_c (f0_isUnder n t31 ((4 : Int32))) fun t33 =>
        q_ld a_scores 60 x5 fun t44 =>
        if t44 < x1 then (
          f0_lineCosts_63 n a_done a_kinds a_scores (f0_lineCosts_6 n a_done a_kinds a_scores kk) x1 x2 x3 x4 x5 t33
        ) else (
          if t33 = 0 then (
            q_lt (x4 + x2) fun x4_58 =>
            f0_lineCosts_85 n a_done a_kinds a_scores (f0_lineCosts_6 n a_done a_kinds a_scores kk) x1 x2 x3 x4_58 x5
          ) else (
            f0_lineCosts_63 n a_done a_kinds a_scores (f0_lineCosts_6 n a_done a_kinds a_scores kk) x1 x2 x3 x4 x5 t33
          )
        )
      )
    )
def f0_lineCosts (n : Nat) (x1 : Int32) (x2 : Int32) (x3 : Int32) (a_done : Int32) (a_kinds : (Nat → Int32)) (a_scores : (Nat → Int32)) : Option (Int32) :=
  f0_lineCosts_6 n a_done a_kinds a_scores n x1 x2 x3 ((0 : Int32)) ((0 : Int32))
def f0_cheapestLine_45 (n : Nat) (a_done : Int32) (a_kinds : (Nat → Int32)) (a_scores : (Nat → Int32)) (k14 : Int32 → Int32 → Int32 → Int32 → Int32 → Option (Int32)) (x1 : Int32) (x2 : Int32) (x3 : Int32) (x4 : Int32) (x5 : Int32) : Option (Int32) :=
  q_lt (x5 + (1 : Int32)) fun x5_45 =>
  k14 x1 x2 x3 x4 x5_45
def f0_cheapestLine_14 (n : Nat) (a_done : Int32) (a_kinds : (Nat → Int32)) (a_scores : (Nat → Int32)) : Nat → Int32 → Int32 → Int32 → Int32 → Int32 → Option (Int32)
  | 0, _, _, _, _, _ => none
  | kk + 1, x1, x2, x3, x4, x5 =>
    if ((101 : Int32)) < x5 then (
      some x3
    ) else (
      q_c (f0_lineCosts n x5 x1 x2 a_done a_kinds a_scores) fun t26 =>
      if x4 < t26 then (
        f0_cheapestLine_45 n a_done a_kinds a_scores (f0_cheapestLine_14 n a_done a_kinds a_scores kk) x1 x2 x3 x4 x5
      ) else (
        f0_cheapestLine_45 n a_done a_kinds a_scores (f0_cheapestLine_14 n a_done a_kinds a_scores kk) x1 x2 x5 t26 x5
      )
    )
def f0_cheapestLine (n : Nat) (x1 : Int32) (x2 : Int32) (a_done : Int32) (a_kinds : (Nat → Int32)) (a_scores : (Nat → Int32)) : Option (Int32) :=
  q_c (f0_lineCosts n ((0 : Int32)) x1 x2 a_done a_kinds a_scores) fun t6 =>
  f0_cheapestLine_14 n a_done a_kinds a_scores n x1 x2 ((0 : Int32)) t6 ((1 : Int32))
def f6_line_72 (n : Nat) (a_done : Int32) (a_kinds : (Nat → Int32)) (a_scores : (Nat → Int32)) (s0 : Int32) (p_errors : (Nat → Int32)) : Option (Int32 × (Nat → Int32)) :=
  some (s0, p_errors)
def f6_line_29 (n : Nat) (a_done : Int32) (a_kinds : (Nat → Int32)) (a_scores : (Nat → Int32)) (p_errors : (Nat → Int32)) : Option (Int32 × (Nat → Int32)) :=
  q_c2 (f6_error ((1 : Int32)) p_errors) fun t31 p_errors_31 =>
  some (t31, p_errors_31)
def f6_line (n : Nat) (x1 : Int32) (x2 : Int32) (x3 : Int32) (a_done : Int32) (p_errors : (Nat → Int32)) (a_kinds : (Nat → Int32)) (a_scores : (Nat → Int32)) : Option (Int32 × (Nat → Int32)) :=
  if x1 < 0 then (
    f6_line_29 n a_done a_kinds a_scores p_errors
  ) else (
    if ((99 : Int32)) < x1 then (
      f6_line_29 n a_done a_kinds a_scores p_errors
    ) else (
      if x2 < 0 then (
        f6_line_29 n a_done a_kinds a_scores p_errors
      ) else (
        if ((99 : Int32)) < x2 then (
          f6_line_29 n a_done a_kinds a_scores p_errors
        ) else (
          if x3 < 0 then (
            f6_line_29 n a_done a_kinds a_scores p_errors
          ) else (
            if x3 ≤ ((1 : Int32)) then (
              q_c (f0_cheapestLine n x1 x2 a_done a_kinds a_scores) fun t44 =>
              if x3 = 0 then (
                f6_line_72 n a_done a_kinds a_scores t44 p_errors
              ) else (
                q_c (f0_lineCosts n t44 x1 x2 a_done a_kinds a_scores) fun t69 =>
                f6_line_72 n a_done a_kinds a_scores t69 p_errors
              )
            ) else (
              f6_line_29 n a_done a_kinds a_scores p_errors
            )
          )
        )
      )
    )
  )
def f6_worth_19 (p_errors : (Nat → Int32)) (b_worths : (Nat → Int32)) : Option (Int32 × (Nat → Int32) × (Nat → Int32)) :=
  q_c2 (f6_error ((1 : Int32)) p_errors) fun t21 p_errors_21 =>
  some (t21, p_errors_21, b_worths)
def f6_worth (x1 : Int32) (x2 : Int32) (p_errors : (Nat → Int32)) (b_worths : (Nat → Int32)) : Option (Int32 × (Nat → Int32) × (Nat → Int32)) :=
  q_c (f6_isWord x1) fun t1 =>
  if t1 = 0 then (
    f6_worth_19  p_errors b_worths
  ) else (
    if x2 < ((-9 : Int32)) then (
      f6_worth_19  p_errors b_worths
    ) else (
      if x2 ≤ ((9 : Int32)) then (
        q_ld b_worths 61 x1 fun t33 =>
        q_st b_worths 61 x1 x2 fun b_worths_44 =>
        some (t33, p_errors, b_worths_44)
      ) else (
        f6_worth_19  p_errors b_worths
      )
    )
  )
def f1_worthOf_4 (n : Nat) (b_worths : (Nat → Int32)) (a_sizes : (Nat → Int32)) (a_cells : (Nat → Int32)) : Nat → Int32 → Int32 → Int32 → Option (Int32)
  | 0, _, _, _ => none
  | kk + 1, x1, x2, x3 =>
    q_ld a_sizes 61 x1 fun t13 =>
    if t13 ≤ x3 then (
      some x2
    ) else (
      q_c (f0_wordAt x1 x3 a_cells) fun t28 =>
      q_ld b_worths 61 t28 fun t31 =>
      q_lt (x2 + t31) fun x2_33 =>
      q_lt (x3 + (1 : Int32)) fun x3_34 =>
      f1_worthOf_4 n b_worths a_sizes a_cells kk x1 x2_33 x3_34
    )
def f1_worthOf (n : Nat) (x1 : Int32) (b_worths : (Nat → Int32)) (a_sizes : (Nat → Int32)) (a_cells : (Nat → Int32)) : Option (Int32) :=
  f1_worthOf_4 n b_worths a_sizes a_cells n x1 ((0 : Int32)) ((0 : Int32))
def f6_value (n : Nat) (x1 : Int32) (a_done : Int32) (p_errors : (Nat → Int32)) (b_worths : (Nat → Int32)) (a_sizes : (Nat → Int32)) (a_cells : (Nat → Int32)) : Option (Int32 × (Nat → Int32)) :=
  q_c (f6_isVersion x1 a_done) fun t2 =>
  if t2 = 0 then (
    q_c2 (f6_error ((1 : Int32)) p_errors) fun t10 p_errors_10 =>
    some (t10, p_errors_10)
  ) else (
    q_c (f1_worthOf n x1 b_worths a_sizes a_cells) fun t19 =>
    some (t19, p_errors)
  )
def f1_worthiest_39 (n : Nat) (a_done : Int32) (b_worths : (Nat → Int32)) (a_sizes : (Nat → Int32)) (a_cells : (Nat → Int32)) (k10 : Int32 → Int32 → Int32 → Option (Int32)) (x1 : Int32) (x2 : Int32) (x3 : Int32) : Option (Int32) :=
  q_lt (x3 + (1 : Int32)) fun x3_39 =>
  k10 x1 x2 x3_39
def f1_worthiest_10 (n : Nat) (a_done : Int32) (b_worths : (Nat → Int32)) (a_sizes : (Nat → Int32)) (a_cells : (Nat → Int32)) : Nat → Int32 → Int32 → Int32 → Option (Int32)
  | 0, _, _, _ => none
  | kk + 1, x1, x2, x3 =>
    if a_done < x3 then (
      some x1
    ) else (
      q_c (f1_worthOf n x3 b_worths a_sizes a_cells) fun t23 =>
      if t23 ≤ x2 then (
        f1_worthiest_39 n a_done b_worths a_sizes a_cells (f1_worthiest_10 n a_done b_worths a_sizes a_cells kk) x1 x2 x3
      ) else (
        f1_worthiest_39 n a_done b_worths a_sizes a_cells (f1_worthiest_10 n a_done b_worths a_sizes a_cells kk) x3 t23 x3
      )
    )
def f1_worthiest (n : Nat) (a_done : Int32) (b_worths : (Nat → Int32)) (a_sizes : (Nat → Int32)) (a_cells : (Nat → Int32)) : Option (Int32) :=
  q_c (f1_worthOf n ((0 : Int32)) b_worths a_sizes a_cells) fun t4 =>
  f1_worthiest_10 n a_done b_worths a_sizes a_cells n ((0 : Int32)) t4 ((1 : Int32))
def f6_best (n : Nat) (a_done : Int32) (b_worths : (Nat → Int32)) (a_sizes : (Nat → Int32)) (a_cells : (Nat → Int32)) : Option (Int32) :=
  q_c (f1_worthiest n a_done b_worths a_sizes a_cells) fun t4 =>
  some t4
def f1_worthRead_5 (n : Nat) (a_done : Int32) (b_worths : (Nat → Int32)) (a_minutes : (Nat → Int32)) (a_sizes : (Nat → Int32)) (a_cells : (Nat → Int32)) : Nat → Int32 → Int32 → Int32 → Int32 → Option (Int32)
  | 0, _, _, _, _ => none
  | kk + 1, x1, x2, x3, x4 =>
    if a_done < x4 then (
      some x3
    ) else (
      q_c (f1_worthOf n x4 b_worths a_sizes a_cells) fun t21 =>
      q_c (f0_minutesThere x4 x1 x2 a_done a_minutes) fun t32 =>
      q_lt (x3 + (t21 * t32)) fun x3_37 =>
      q_lt (x4 + (1 : Int32)) fun x4_38 =>
      f1_worthRead_5 n a_done b_worths a_minutes a_sizes a_cells kk x1 x2 x3_37 x4_38
    )
def f1_worthRead (n : Nat) (x1 : Int32) (x2 : Int32) (a_done : Int32) (b_worths : (Nat → Int32)) (a_minutes : (Nat → Int32)) (a_sizes : (Nat → Int32)) (a_cells : (Nat → Int32)) : Option (Int32) :=
  f1_worthRead_5 n a_done b_worths a_minutes a_sizes a_cells n x1 x2 ((0 : Int32)) ((0 : Int32))
def f6_got (n : Nat) (x1 : Int32) (x2 : Int32) (b_now : Int32) (a_done : Int32) (p_errors : (Nat → Int32)) (b_worths : (Nat → Int32)) (a_minutes : (Nat → Int32)) (a_sizes : (Nat → Int32)) (a_cells : (Nat → Int32)) : Option (Int32 × (Nat → Int32)) :=
  q_c (f6_areMinutes x1 x2 b_now) fun t3 =>
  if t3 = 0 then (
    q_c2 (f6_error ((1 : Int32)) p_errors) fun t11 p_errors_11 =>
    some (t11, p_errors_11)
  ) else (
    q_c (f1_worthRead n x1 x2 a_done b_worths a_minutes a_sizes a_cells) fun t21 =>
    some (t21, p_errors)
  )
def f5_parts (x1 : Int32) (v_number : Int32) (v_parted : Int32) : Option (Int32 × Int32) :=
  q_lt (v_number - ((2 : Int32))) fun x2_6 =>
  if x2_6 = 0 then (
    q_bz ((1 : Int32)) <|
    some ((0 : Int32), (1 : Int32))
  ) else (
    q_dv x2_6 <|
    some (x1 / x2_6, v_parted)
  )
def g5_says (n : Nat) (FS : Int32 → Int32 → Int32 → Int32 → Int32 → Int32 → Int32 → Int32 → Int32 → (Nat → Int32) → Option (Int32 × Int32 × Int32 × (Nat → Int32))) (x1 : Int32) (x2 : Int32) (x3 : Int32) (v_kind : Int32) (v_number : Int32) (v_writer : Int32) (v_parted : Int32) (v_traced : Int32) (v_trace : (Nat → Int32)) : Option (Int32 × Int32 × Int32 × (Nat → Int32)) :=
  if x1 = (10 : Int32) then (
    some (x2 + v_writer, v_parted, v_traced, v_trace)
  ) else (
  if x1 = (11 : Int32) then (
    q_c4 (FS v_kind ((0 : Int32)) x2 x3 v_kind v_number v_writer v_parted v_traced v_trace) fun t43 v_parted_43 v_traced_43 v_trace_43 =>
    some (t43 * ((2 : Int32)), v_parted_43, v_traced_43, v_trace_43)
  ) else (
  if x1 = (12 : Int32) then (
    q_c4 (FS v_kind ((1 : Int32)) x2 x3 v_kind v_number v_writer v_parted v_traced v_trace) fun t57 v_parted_57 v_traced_57 v_trace_57 =>
    some (t57 - v_number, v_parted_57, v_traced_57, v_trace_57)
  ) else (
    q_c2 (f5_parts x2 v_number v_parted) fun t68 v_parted_68 =>
    some (t68, v_parted_68, v_traced, v_trace)
  )))
def g5_saysAbove (n : Nat) (FS : Int32 → Int32 → Int32 → Int32 → Int32 → Int32 → Int32 → Int32 → Int32 → (Nat → Int32) → Option (Int32 × Int32 × Int32 × (Nat → Int32))) (x1 : Int32) (x2 : Int32) (x3 : Int32) (x4 : Int32) (v_kind : Int32) (v_number : Int32) (v_writer : Int32) (v_parted : Int32) (v_traced : Int32) (v_trace : (Nat → Int32)) : Option (Int32 × Int32 × Int32 × (Nat → Int32)) :=
  if x1 = (20 : Int32) then (
    q_c4 (FS x2 ((0 : Int32)) x3 x4 v_kind v_number v_writer v_parted v_traced v_trace) fun t106 v_parted_106 v_traced_106 v_trace_106 =>
    some (t106 + ((3 : Int32)), v_parted_106, v_traced_106, v_trace_106)
  ) else (
  if x1 = (21 : Int32) then (
    q_c4 (FS x2 ((2 : Int32)) x3 x4 v_kind v_number v_writer v_parted v_traced v_trace) fun t118 v_parted_118 v_traced_118 v_trace_118 =>
    some (t118 ^^^ v_writer, v_parted_118, v_traced_118, v_trace_118)
  ) else (
  if x1 = (30 : Int32) then (
    q_c4 (FS x2 ((1 : Int32)) x3 x4 v_kind v_number v_writer v_parted v_traced v_trace) fun t134 v_parted_134 v_traced_134 v_trace_134 =>
    some (((0 : Int32)) - t134, v_parted_134, v_traced_134, v_trace_134)
  ) else (
  if x1 = (31 : Int32) then (
    q_c4 (FS x2 ((3 : Int32)) x3 x4 v_kind v_number v_writer v_parted v_traced v_trace) fun t145 v_parted_145 v_traced_145 v_trace_145 =>
    q_c4 (FS v_kind ((0 : Int32)) ((1 : Int32)) x4 v_kind v_number v_writer v_parted_145 v_traced_145 v_trace_145) fun t157 v_parted_157 v_traced_157 v_trace_157 =>
    some (t145 + t157, v_parted_157, v_traced_157, v_trace_157)
  ) else (
  if x1 = (40 : Int32) then (
    q_dv ((2 : Int32)) <|
    q_c4 (FS x2 ((1 : Int32)) (x3 / ((2 : Int32))) x4 v_kind v_number v_writer v_parted v_traced v_trace) fun t170 v_parted_170 v_traced_170 v_trace_170 =>
    some (t170, v_parted_170, v_traced_170, v_trace_170)
  ) else (
  if x1 = (41 : Int32) then (
    q_c4 (FS x2 ((2 : Int32)) x3 x4 v_kind v_number v_writer v_parted v_traced v_trace) fun t180 v_parted_180 v_traced_180 v_trace_180 =>
    q_c4 (FS v_kind ((1 : Int32)) ((2 : Int32)) x4 v_kind v_number v_writer v_parted_180 v_traced_180 v_trace_180) fun t192 v_parted_192 v_traced_192 v_trace_192 =>
    some (t180 - t192, v_parted_192, v_traced_192, v_trace_192)
  ) else (
  if x1 = (50 : Int32) then (
    q_c4 (FS x2 ((0 : Int32)) x3 x4 v_kind v_number v_writer v_parted v_traced v_trace) fun t203 v_parted_203 v_traced_203 v_trace_203 =>
    some (t203 * ((3 : Int32)), v_parted_203, v_traced_203, v_trace_203)
  ) else (
  if x1 = (60 : Int32) then (
    q_c4 (FS x2 ((2 : Int32)) (x3 + ((1 : Int32))) x4 v_kind v_number v_writer v_parted v_traced v_trace) fun t217 v_parted_217 v_traced_217 v_trace_217 =>
    some (t217, v_parted_217, v_traced_217, v_trace_217)
  ) else (
  if x1 = (61 : Int32) then (
    q_c4 (FS v_kind ((2 : Int32)) x3 x4 v_kind v_number v_writer v_parted v_traced v_trace) fun t230 v_parted_230 v_traced_230 v_trace_230 =>
    q_c4 (FS x2 ((3 : Int32)) x3 x4 v_kind v_number v_writer v_parted_230 v_traced_230 v_trace_230) fun t239 v_parted_239 v_traced_239 v_trace_239 =>
    some (t230 - t239, v_parted_239, v_traced_239, v_trace_239)
  ) else (
  if x1 = (80 : Int32) then (
    q_c4 (FS x2 ((1 : Int32)) x3 x4 v_kind v_number v_writer v_parted v_traced v_trace) fun t250 v_parted_250 v_traced_250 v_trace_250 =>
    some (t250 + v_number, v_parted_250, v_traced_250, v_trace_250)
  ) else (
  if x1 = (81 : Int32) then (
    q_c4 (FS x2 ((3 : Int32)) x3 x4 v_kind v_number v_writer v_parted v_traced v_trace) fun t265 v_parted_265 v_traced_265 v_trace_265 =>
    some (t265 ^^^ ((5 : Int32)), v_parted_265, v_traced_265, v_trace_265)
  ) else (
    some ((0 : Int32), v_parted, v_traced, v_trace)
  )))))))))))
def f5_speaks_143 (n : Nat) (FS : Int32 → Int32 → Int32 → Int32 → Int32 → Int32 → Int32 → Int32 → Int32 → (Nat → Int32) → Option (Int32 × Int32 × Int32 × (Nat → Int32))) (v_kind : Int32) (v_number : Int32) (v_writer : Int32) (s0 : Int32) (v_parted : Int32) (v_traced : Int32) (v_trace : (Nat → Int32)) : Option (Int32 × Int32 × Int32 × (Nat → Int32)) :=
  some (s0, v_parted, v_traced, v_trace)
def f5_speaks_107 (n : Nat) (FS : Int32 → Int32 → Int32 → Int32 → Int32 → Int32 → Int32 → Int32 → Int32 → (Nat → Int32) → Option (Int32 × Int32 × Int32 × (Nat → Int32))) (v_kind : Int32) (v_number : Int32) (v_writer : Int32) (x3 : Int32) (x4 : Int32) (x5 : Int32) (x6 : Int32) (v_parted : Int32) (v_traced : Int32) (v_trace : (Nat → Int32)) : Option (Int32 × Int32 × Int32 × (Nat → Int32)) :=
  if x5 = 0 then (
    q_c4 (g5_says n FS x6 x3 (x4 + ((1 : Int32))) v_kind v_number v_writer v_parted v_traced v_trace) fun t120 v_parted_120 v_traced_120 v_trace_120 =>
    f5_speaks_143 n FS v_kind v_number v_writer t120 v_parted_120 v_traced_120 v_trace_120
  ) else (
    q_ld t_KIND_ABOVE 8 x5 fun t134 =>
    q_c4 (g5_saysAbove n FS x6 t134 x3 (x4 + ((1 : Int32))) v_kind v_number v_writer v_parted v_traced v_trace) fun t140 v_parted_140 v_traced_140 v_trace_140 =>
    f5_speaks_143 n FS v_kind v_number v_writer t140 v_parted_140 v_traced_140 v_trace_140
  )
def f5_speaks_65 (n : Nat) (FS : Int32 → Int32 → Int32 → Int32 → Int32 → Int32 → Int32 → Int32 → Int32 → (Nat → Int32) → Option (Int32 × Int32 × Int32 × (Nat → Int32))) (v_kind : Int32) (v_number : Int32) (v_writer : Int32) (x2 : Int32) (x3 : Int32) (x4 : Int32) (x5 : Int32) (v_parted : Int32) (v_traced : Int32) (v_trace : (Nat → Int32)) : Option (Int32 × Int32 × Int32 × (Nat → Int32)) :=
  q_ld t_BODIES 32 ((x5 * ((4 : Int32))) + x2) fun t74 =>
  if ((30 : Int32)) ≤ v_traced then (
    f5_speaks_107 n FS v_kind v_number v_writer x3 x4 x5 t74 v_parted v_traced v_trace
  ) else (
    q_st v_trace 30 v_traced t74 fun v_trace_96 =>
    q_lt (v_traced + ((1 : Int32))) fun v_traced_104 =>
    f5_speaks_107 n FS v_kind v_number v_writer x3 x4 x5 t74 v_parted v_traced_104 v_trace_96
  )
def f5_speaks_26 (n : Nat) (FS : Int32 → Int32 → Int32 → Int32 → Int32 → Int32 → Int32 → Int32 → Int32 → (Nat → Int32) → Option (Int32 × Int32 × Int32 × (Nat → Int32))) (v_kind : Int32) (v_number : Int32) (v_writer : Int32) : Nat → Int32 → Int32 → Int32 → Int32 → Int32 → Int32 → Int32 → (Nat → Int32) → Option (Int32 × Int32 × Int32 × (Nat → Int32))
  | 0, _, _, _, _, _, _, _, _ => none
  | kk + 1, x2, x3, x4, x5, x6, v_parted, v_traced, v_trace =>
    if ((8 : Int32)) ≤ x6 then (
      f5_speaks_65 n FS v_kind v_number v_writer x2 x3 x4 x5 v_parted v_traced v_trace
    ) else (
      if x5 ≤ 0 then (
        f5_speaks_65 n FS v_kind v_number v_writer x2 x3 x4 x5 v_parted v_traced v_trace
      ) else (
        q_ld t_BODIES 32 ((x5 * ((4 : Int32))) + x2) fun t47 =>
        if t47 = 0 then (
          q_ld t_KIND_ABOVE 8 x5 fun t56 =>
          q_lt (x6 + (1 : Int32)) fun x6_59 =>
          f5_speaks_26 n FS v_kind v_number v_writer kk x2 x3 x4 t56 x6_59 v_parted v_traced v_trace
        ) else (
          f5_speaks_65 n FS v_kind v_number v_writer x2 x3 x4 x5 v_parted v_traced v_trace
        )
      )
    )
def f5_speaks_18 (n : Nat) (FS : Int32 → Int32 → Int32 → Int32 → Int32 → Int32 → Int32 → Int32 → Int32 → (Nat → Int32) → Option (Int32 × Int32 × Int32 × (Nat → Int32))) (v_kind : Int32) (v_number : Int32) (v_writer : Int32) (v_parted : Int32) (v_traced : Int32) (v_trace : (Nat → Int32)) : Option (Int32 × Int32 × Int32 × (Nat → Int32)) :=
  some ((0 : Int32), v_parted, v_traced, v_trace)
def f5_speaks (n : Nat) : Nat → Int32 → Int32 → Int32 → Int32 → Int32 → Int32 → Int32 → Int32 → Int32 → (Nat → Int32) → Option (Int32 × Int32 × Int32 × (Nat → Int32))
  | 0, _, _, _, _, _, _, _, _, _, _ => none
  | d + 1, x1, x2, x3, x4, v_kind, v_number, v_writer, v_parted, v_traced, v_trace =>
    if v_parted = 0 then (
      if ((40 : Int32)) < x4 then (
        f5_speaks_18 n (f5_speaks n d) v_kind v_number v_writer v_parted v_traced v_trace
      ) else (
        if 0 ≤ x1 then (
          f5_speaks_26 n (f5_speaks n d) v_kind v_number v_writer n x2 x3 x4 x1 ((0 : Int32)) v_parted v_traced v_trace
        ) else (
          f5_speaks_18 n (f5_speaks n d) v_kind v_number v_writer v_parted v_traced v_trace
        )
      )
    ) else (
      f5_speaks_18 n (f5_speaks n d) v_kind v_number v_writer v_parted v_traced v_trace
    )
def f5_heard (n : Nat) (x2 : Int32) (x3 : Int32) (x4 : Int32) (v_kind : Int32) (v_number : Int32) (v_writer : Int32) (v_parted : Int32) (v_traced : Int32) (a_kinds : (Nat → Int32)) (a_writers : (Nat → Int32)) (v_trace : (Nat → Int32)) : Option (Int32 × Int32 × Int32 × Int32 × Int32 × Int32 × (Nat → Int32)) :=
  q_ld a_kinds 60 x2 fun t6 =>
  q_ld a_writers 60 x2 fun t21 =>
  q_bz ((0 : Int32)) <|
  q_c4 (f5_speaks n 20 t6 x3 x4 ((0 : Int32)) t6 x2 t21 ((0 : Int32)) ((0 : Int32)) v_trace) fun t44 v_parted_44 v_traced_44 v_trace_44 =>
  some (t44, t6, x2, t21, v_parted_44, v_traced_44, v_trace_44)
def f6_voice_63 (n : Nat) (a_done : Int32) (a_kinds : (Nat → Int32)) (a_writers : (Nat → Int32)) (s0 : Int32) (v_kind : Int32) (v_number : Int32) (v_writer : Int32) (v_parted : Int32) (v_traced : Int32) (p_errors : (Nat → Int32)) (v_trace : (Nat → Int32)) : Option (Int32 × Int32 × Int32 × Int32 × Int32 × Int32 × (Nat → Int32) × (Nat → Int32)) :=
  some (s0, v_kind, v_number, v_writer, v_parted, v_traced, p_errors, v_trace)
def f6_voice_17 (n : Nat) (a_done : Int32) (a_kinds : (Nat → Int32)) (a_writers : (Nat → Int32)) (v_kind : Int32) (v_number : Int32) (v_writer : Int32) (v_parted : Int32) (v_traced : Int32) (p_errors : (Nat → Int32)) (v_trace : (Nat → Int32)) : Option (Int32 × Int32 × Int32 × Int32 × Int32 × Int32 × (Nat → Int32) × (Nat → Int32)) :=
  q_c2 (f6_error ((1 : Int32)) p_errors) fun t19 p_errors_19 =>
  some (t19, v_kind, v_number, v_writer, v_parted, v_traced, p_errors_19, v_trace)
def f6_voice (n : Nat) (x1 : Int32) (x2 : Int32) (x3 : Int32) (a_done : Int32) (v_kind : Int32) (v_number : Int32) (v_writer : Int32) (v_parted : Int32) (v_traced : Int32) (p_errors : (Nat → Int32)) (a_kinds : (Nat → Int32)) (a_writers : (Nat → Int32)) (v_trace : (Nat → Int32)) : Option (Int32 × Int32 × Int32 × Int32 × Int32 × Int32 × (Nat → Int32) × (Nat → Int32)) :=
  q_c (f6_isAct x1 a_done) fun t2 =>
  if t2 = 0 then (
    f6_voice_17 n a_done a_kinds a_writers v_kind v_number v_writer v_parted v_traced p_errors v_trace
  ) else (
    if x2 < 0 then (
      f6_voice_17 n a_done a_kinds a_writers v_kind v_number v_writer v_parted v_traced p_errors v_trace
    ) else (
      if x2 < ((4 : Int32)) then (
        q_c7 (f5_heard n x1 x2 x3 v_kind v_number v_writer v_parted v_traced a_kinds a_writers v_trace) fun t37 v_kind_37 v_number_37 v_writer_37 v_parted_37 v_traced_37 v_trace_37 =>
        if v_parted_37 = 0 then (
          f6_voice_63 n a_done a_kinds a_writers t37 v_kind_37 v_number_37 v_writer_37 v_parted_37 v_traced_37 p_errors v_trace_37
        ) else (
          q_c2 (f6_error ((6 : Int32)) p_errors) fun t55 p_errors_55 =>
          f6_voice_63 n a_done a_kinds a_writers t55 v_kind_37 v_number_37 v_writer_37 v_parted_37 v_traced_37 p_errors_55 v_trace_37
        )
      ) else (
        f6_voice_17 n a_done a_kinds a_writers v_kind v_number v_writer v_parted v_traced p_errors v_trace
      )
    )
  )
def f6_body_15 (v_traced : Int32) (v_trace : (Nat → Int32)) (p_errors : (Nat → Int32)) : Option (Int32 × (Nat → Int32)) :=
  q_c2 (f6_error ((2 : Int32)) p_errors) fun t17 p_errors_17 =>
  some (t17, p_errors_17)
def f6_body (x1 : Int32) (v_traced : Int32) (p_errors : (Nat → Int32)) (v_trace : (Nat → Int32)) : Option (Int32 × (Nat → Int32)) :=
  if x1 < 0 then (
    f6_body_15 v_traced v_trace p_errors
  ) else (
    if x1 < v_traced then (
      q_ld v_trace 30 x1 fun t29 =>
      some (t29, p_errors)
    ) else (
      f6_body_15 v_traced v_trace p_errors
    )
  )
def f6_isSheet_14 (s0 : Int32) : Option (Int32) :=
  q_bz s0 <|
  some s0
def f6_isSheet_13  : Option (Int32) :=
  f6_isSheet_14  ((0 : Int32))
def f6_isSheet (x0 : Int32) : Option (Int32) :=
  if x0 < 0 then (
    f6_isSheet_13 
  ) else (
    if ((4 : Int32)) ≤ x0 then (
      f6_isSheet_13 
    ) else (
      f6_isSheet_14  ((1 : Int32))
    )
  )
def f3_lays_25 (n : Nat) : Nat → Int32 → Int32 → (Nat → Int32) → (Nat → Int32) → (Nat → Int32) → Option ((Nat → Int32) × (Nat → Int32) × (Nat → Int32))
  | 0, _, _, _, _, _ => none
  | kk + 1, x1, x4, h_bits, h_sizes, h_numbers =>
    q_ld h_sizes 4 x1 fun t32 =>
    if t32 ≤ x4 then (
      some (h_bits, h_sizes, h_numbers)
    ) else (
      q_st h_numbers 96 ((x1 * ((24 : Int32))) + x4) ((0 : Int32)) fun h_numbers_48 =>
      q_lt (x4 + (1 : Int32)) fun x4_49 =>
      f3_lays_25 n kk x1 x4_49 h_bits h_sizes h_numbers_48
    )
def f3_lays_21 (n : Nat) (x1 : Int32) (s1 : Int32) (s2 : Int32) (h_bits : (Nat → Int32)) (h_sizes : (Nat → Int32)) (h_numbers : (Nat → Int32)) : Option ((Nat → Int32) × (Nat → Int32) × (Nat → Int32)) :=
  q_st h_sizes 4 s1 s2 fun h_sizes_21 =>
  f3_lays_25 n n x1 ((0 : Int32)) h_bits h_sizes_21 h_numbers
def f3_lays (n : Nat) (x1 : Int32) (x2 : Int32) (x3 : Int32) (h_bits : (Nat → Int32)) (h_sizes : (Nat → Int32)) (h_numbers : (Nat → Int32)) : Option ((Nat → Int32) × (Nat → Int32) × (Nat → Int32)) :=
  q_st h_bits 4 x1 x2 fun h_bits_6 =>
  if x2 = 0 then (
    f3_lays_21 n x1 x1 ((0 : Int32)) h_bits_6 h_sizes h_numbers
  ) else (
    f3_lays_21 n x1 x1 x3 h_bits_6 h_sizes h_numbers
  )
def f6_sheet_65 (n : Nat) (x1 : Int32) (x2 : Int32) (x3 : Int32) (p_errors : (Nat → Int32)) (h_bits : (Nat → Int32)) (h_sizes : (Nat → Int32)) (h_numbers : (Nat → Int32)) : Option (Int32 × (Nat → Int32) × (Nat → Int32) × (Nat → Int32) × (Nat → Int32)) :=
  q_c3 (f3_lays n x1 x2 x3 h_bits h_sizes h_numbers) fun h_bits_72 h_sizes_72 h_numbers_72 =>
  some ((1 : Int32), p_errors, h_bits_72, h_sizes_72, h_numbers_72)
def f6_sheet_49 (n : Nat) (x1 : Int32) (x2 : Int32) (x3 : Int32) (p_errors : (Nat → Int32)) (h_bits : (Nat → Int32)) (h_sizes : (Nat → Int32)) (h_numbers : (Nat → Int32)) : Option (Int32 × (Nat → Int32) × (Nat → Int32) × (Nat → Int32) × (Nat → Int32)) :=
  if x2 = 0 then (
    f6_sheet_65 n x1 x2 x3 p_errors h_bits h_sizes h_numbers
  ) else (
    if x3 ≤ ((24 : Int32)) then (
      f6_sheet_65 n x1 x2 x3 p_errors h_bits h_sizes h_numbers
    ) else (
      q_c2 (f6_error ((1 : Int32)) p_errors) fun t61 p_errors_61 =>
      some (t61, p_errors_61, h_bits, h_sizes, h_numbers)
    )
  )
def f6_sheet_35 (n : Nat) (x1 : Int32) (x2 : Int32) (x3 : Int32) (p_errors : (Nat → Int32)) (h_bits : (Nat → Int32)) (h_sizes : (Nat → Int32)) (h_numbers : (Nat → Int32)) : Option (Int32 × (Nat → Int32) × (Nat → Int32) × (Nat → Int32) × (Nat → Int32)) :=
  if x2 = 0 then (
    f6_sheet_49 n x1 x2 x3 p_errors h_bits h_sizes h_numbers
  ) else (
    if 0 ≤ x3 then (
      f6_sheet_49 n x1 x2 x3 p_errors h_bits h_sizes h_numbers
    ) else (
      q_c2 (f6_error ((3 : Int32)) p_errors) fun t45 p_errors_45 =>
      some (t45, p_errors_45, h_bits, h_sizes, h_numbers)
    )
  )
def f6_sheet_29 (n : Nat) (p_errors : (Nat → Int32)) (h_bits : (Nat → Int32)) (h_sizes : (Nat → Int32)) (h_numbers : (Nat → Int32)) : Option (Int32 × (Nat → Int32) × (Nat → Int32) × (Nat → Int32) × (Nat → Int32)) :=
  q_c2 (f6_error ((1 : Int32)) p_errors) fun t31 p_errors_31 =>
  some (t31, p_errors_31, h_bits, h_sizes, h_numbers)
def f6_sheet (n : Nat) (x1 : Int32) (x2 : Int32) (x3 : Int32) (p_errors : (Nat → Int32)) (h_bits : (Nat → Int32)) (h_sizes : (Nat → Int32)) (h_numbers : (Nat → Int32)) : Option (Int32 × (Nat → Int32) × (Nat → Int32) × (Nat → Int32) × (Nat → Int32)) :=
  q_c (f6_isSheet x1) fun t1 =>
  if t1 = 0 then (
    f6_sheet_29 n p_errors h_bits h_sizes h_numbers
  ) else (
    if x2 = 0 then (
      f6_sheet_35 n x1 x2 x3 p_errors h_bits h_sizes h_numbers
    ) else (
      if x2 = ((8 : Int32)) then (
        f6_sheet_35 n x1 x2 x3 p_errors h_bits h_sizes h_numbers
      ) else (
        if x2 = ((16 : Int32)) then (
          f6_sheet_35 n x1 x2 x3 p_errors h_bits h_sizes h_numbers
        ) else (
          if x2 = ((32 : Int32)) then (
            f6_sheet_35 n x1 x2 x3 p_errors h_bits h_sizes h_numbers
          ) else (
            f6_sheet_29 n p_errors h_bits h_sizes h_numbers
          )
        )
      )
    )
  )
def f3_sets (x1 : Int32) (x2 : Int32) (x3 : Int32) (h_bits : (Nat → Int32)) (h_numbers : (Nat → Int32)) : Option ((Nat → Int32)) :=
  q_ld h_bits 4 x1 fun t7 =>
  q_lt (((32 : Int32)) - t7) fun x4_9 =>
  q_st h_numbers 96 ((x1 * ((24 : Int32))) + x2) ((x3 <<< (x4_9 &&& 31)) >>> (x4_9 &&& 31)) fun h_numbers_28 =>
  some (h_numbers_28)
def f6_put_48 (h_bits : (Nat → Int32)) (h_sizes : (Nat → Int32)) (p_errors : (Nat → Int32)) (h_numbers : (Nat → Int32)) : Option (Int32 × (Nat → Int32) × (Nat → Int32)) :=
  q_c2 (f6_error ((1 : Int32)) p_errors) fun t50 p_errors_50 =>
  some (t50, p_errors_50, h_numbers)
def f6_put (x1 : Int32) (x2 : Int32) (x3 : Int32) (p_errors : (Nat → Int32)) (h_bits : (Nat → Int32)) (h_sizes : (Nat → Int32)) (h_numbers : (Nat → Int32)) : Option (Int32 × (Nat → Int32) × (Nat → Int32)) :=
  q_c (f6_isSheet x1) fun t1 =>
  if t1 = 0 then (
    q_c2 (f6_error ((1 : Int32)) p_errors) fun t9 p_errors_9 =>
    some (t9, p_errors_9, h_numbers)
  ) else (
    q_ld h_bits 4 x1 fun t21 =>
    if t21 = 0 then (
      q_c2 (f6_error ((2 : Int32)) p_errors) fun t27 p_errors_27 =>
      some (t27, p_errors_27, h_numbers)
    ) else (
      if x2 < 0 then (
        f6_put_48 h_bits h_sizes p_errors h_numbers
      ) else (
        q_ld h_sizes 4 x1 fun t44 =>
        if x2 < t44 then (
          q_c1 (f3_sets x1 x2 x3 h_bits h_numbers) fun h_numbers_61 =>
          some ((1 : Int32), p_errors, h_numbers_61)
        ) else (
          f6_put_48 h_bits h_sizes p_errors h_numbers
        )
      )
    )
  )
def f3_hold_35 (h_sizes : (Nat → Int32)) (s0 : Int32) : Option (Int32) :=
  q_bz s0 <|
  some s0
def f3_hold_34 (h_sizes : (Nat → Int32)) : Option (Int32) :=
  f3_hold_35 h_sizes ((0 : Int32))
def f3_hold (x1 : Int32) (x2 : Int32) (x3 : Int32) (h_sizes : (Nat → Int32)) : Option (Int32) :=
  if x2 < 0 then (
    f3_hold_34 h_sizes
  ) else (
    if x3 < 0 then (
      f3_hold_34 h_sizes
    ) else (
      q_ld h_sizes 4 x1 fun t14 =>
      if t14 < x3 then (
        f3_hold_34 h_sizes
      ) else (
        q_ld h_sizes 4 x1 fun t24 =>
        if (t24 - x3) < x2 then (
          f3_hold_34 h_sizes
        ) else (
          f3_hold_35 h_sizes ((1 : Int32))
        )
      )
    )
  )
def f3_copies (x1 : Int32) (x2 : Int32) (x3 : Int32) (x4 : Int32) (x5 : Int32) (h_numbers : (Nat → Int32)) : Option ((Nat → Int32)) :=
  q_cp h_numbers 96 ((x1 * ((24 : Int32))) + x2) h_numbers 96 ((x3 * ((24 : Int32))) + x4) x5 fun h_numbers_23 =>
  some (h_numbers_23)
def f6_move_106 (h_bits : (Nat → Int32)) (h_sizes : (Nat → Int32)) (p_errors : (Nat → Int32)) (h_numbers : (Nat → Int32)) : Option (Int32 × (Nat → Int32) × (Nat → Int32)) :=
  q_c2 (f6_error ((1 : Int32)) p_errors) fun t108 p_errors_108 =>
  some (t108, p_errors_108, h_numbers)
def f6_move_44 (h_bits : (Nat → Int32)) (h_sizes : (Nat → Int32)) (p_errors : (Nat → Int32)) (h_numbers : (Nat → Int32)) : Option (Int32 × (Nat → Int32) × (Nat → Int32)) :=
  q_c2 (f6_error ((2 : Int32)) p_errors) fun t46 p_errors_46 =>
  some (t46, p_errors_46, h_numbers)
def f6_move_14 (h_bits : (Nat → Int32)) (h_sizes : (Nat → Int32)) (p_errors : (Nat → Int32)) (h_numbers : (Nat → Int32)) : Option (Int32 × (Nat → Int32) × (Nat → Int32)) :=
  q_c2 (f6_error ((1 : Int32)) p_errors) fun t16 p_errors_16 =>
  some (t16, p_errors_16, h_numbers)
def f6_move (x1 : Int32) (x2 : Int32) (x3 : Int32) (x4 : Int32) (x5 : Int32) (p_errors : (Nat → Int32)) (h_bits : (Nat → Int32)) (h_sizes : (Nat → Int32)) (h_numbers : (Nat → Int32)) : Option (Int32 × (Nat → Int32) × (Nat → Int32)) :=
  q_c (f6_isSheet x1) fun t1 =>
  if t1 = 0 then (
    f6_move_14 h_bits h_sizes p_errors h_numbers
  ) else (
    q_c (f6_isSheet x3) fun t8 =>
    if t8 = 0 then (
      f6_move_14 h_bits h_sizes p_errors h_numbers
    ) else (
      q_ld h_bits 4 x1 fun t28 =>
      if t28 = 0 then (
        f6_move_44 h_bits h_sizes p_errors h_numbers
      ) else (
        q_ld h_bits 4 x3 fun t40 =>
        if t40 = 0 then (
          f6_move_44 h_bits h_sizes p_errors h_numbers
        ) else (
          q_ld h_bits 4 x1 fun t58 =>
          q_ld h_bits 4 x3 fun t67 =>
          if t58 = t67 then (
            q_c (f3_hold x1 x2 x5 h_sizes) fun t85 =>
            if t85 = 0 then (
              f6_move_106 h_bits h_sizes p_errors h_numbers
            ) else (
              q_c (f3_hold x3 x4 x5 h_sizes) fun t100 =>
              if t100 = 0 then (
                f6_move_106 h_bits h_sizes p_errors h_numbers
              ) else (
                q_c1 (f3_copies x1 x2 x3 x4 x5 h_numbers) fun h_numbers_123 =>
                some (x5, p_errors, h_numbers_123)
              )
            )
          ) else (
            q_c2 (f6_error ((5 : Int32)) p_errors) fun t73 p_errors_73 =>
            some (t73, p_errors_73, h_numbers)
          )
        )
      )
    )
  )
def f3_numberAt (x1 : Int32) (x2 : Int32) (h_numbers : (Nat → Int32)) : Option (Int32) :=
  q_ld h_numbers 96 ((x1 * ((24 : Int32))) + x2) fun t10 =>
  some t10
def f6_words_40 (n : Nat) (b_now : Int32) (b_shutTill : Int32) (b_shutBy : Int32) (t_codes : (Nat → Int32)) (t_lengths : (Nat → Int32)) (h_bits : (Nat → Int32)) (h_sizes : (Nat → Int32)) (h_numbers : (Nat → Int32)) : Nat → Int32 → Int32 → Int32 → Int32 → (Nat → Int32) → (Nat → Int32) → (Nat → Int32) → (Nat → Int32) → (Nat → Int32) → (Nat → Int32) → (Nat → Int32) → (Nat → Int32) → (Nat → Int32) → (Nat → Int32) → (Nat → Int32) → Option (Int32 × Int32 × (Nat → Int32) × (Nat → Int32) × (Nat → Int32) × (Nat → Int32) × (Nat → Int32) × (Nat → Int32) × (Nat → Int32) × (Nat → Int32) × (Nat → Int32) × (Nat → Int32) × (Nat → Int32))
  | 0, _, _, _, _, _, _, _, _, _, _, _, _, _, _, _ => none
  | kk + 1, x1, x2, x3, a_done, p_errors, a_kinds, a_writers, a_minutes, a_matters, a_undoers, a_scores, a_sizes, a_cells, t_named, t_stack =>
    q_ld h_sizes 4 x1 fun t49 =>
    if t49 ≤ x3 then (
      q_ld h_sizes 4 x1 fun t129 =>
      some (t129, a_done, p_errors, a_kinds, a_writers, a_minutes, a_matters, a_undoers, a_scores, a_sizes, a_cells, t_named, t_stack)
    ) else (
      q_c (f0_pageSize a_done a_sizes) fun t64 =>
      q_lt ((((100 : Int32)) * x2) + t64) fun x4_68 =>
      q_c (f3_numberAt x1 x3 h_numbers) fun t76 =>
      q_c3 (f1_refusesPutting n ((1 : Int32)) x4_68 t76 b_now b_shutTill b_shutBy a_done a_kinds a_writers a_minutes a_sizes t_codes t_lengths t_named t_stack) fun t90 t_named_90 t_stack_90 =>
      if t90 = 0 then (
        q_c10 (f1_puts n ((1 : Int32)) x4_68 t76 b_now a_done a_kinds a_writers a_minutes a_matters a_undoers a_scores a_sizes a_cells) fun t108 a_done_108 a_kinds_108 a_writers_108 a_minutes_108 a_matters_108 a_undoers_108 a_scores_108 a_sizes_108 a_cells_108 =>
        q_c12 (f6_answered n t108 b_now b_shutTill b_shutBy a_done_108 a_kinds_108 a_writers_108 a_minutes_108 a_matters_108 a_undoers_108 a_scores_108 a_sizes_108 a_cells_108 t_codes t_lengths t_named_90 t_stack_90) fun t111 a_done_111 a_kinds_111 a_writers_111 a_minutes_111 a_matters_111 a_undoers_111 a_scores_111 a_sizes_111 a_cells_111 t_named_111 t_stack_111 =>
        q_lt (x3 + (1 : Int32)) fun x3_115 =>
        f6_words_40 n b_now b_shutTill b_shutBy t_codes t_lengths h_bits h_sizes h_numbers kk x1 x2 x3_115 a_done_111 p_errors a_kinds_111 a_writers_111 a_minutes_111 a_matters_111 a_undoers_111 a_scores_111 a_sizes_111 a_cells_111 t_named_111 t_stack_111
      ) else (
        some (x3, a_done, p_errors, a_kinds, a_writers, a_minutes, a_matters, a_undoers, a_scores, a_sizes, a_cells, t_named_90, t_stack_90)
      )
    )
def f6_words_14 (n : Nat) (b_now : Int32) (b_shutTill : Int32) (b_shutBy : Int32) (t_codes : (Nat → Int32)) (t_lengths : (Nat → Int32)) (h_bits : (Nat → Int32)) (h_sizes : (Nat → Int32)) (h_numbers : (Nat → Int32)) (a_done : Int32) (p_errors : (Nat → Int32)) (a_kinds : (Nat → Int32)) (a_writers : (Nat → Int32)) (a_minutes : (Nat → Int32)) (a_matters : (Nat → Int32)) (a_undoers : (Nat → Int32)) (a_scores : (Nat → Int32)) (a_sizes : (Nat → Int32)) (a_cells : (Nat → Int32)) (t_named : (Nat → Int32)) (t_stack : (Nat → Int32)) : Option (Int32 × Int32 × (Nat → Int32) × (Nat → Int32) × (Nat → Int32) × (Nat → Int32) × (Nat → Int32) × (Nat → Int32) × (Nat → Int32) × (Nat → Int32) × (Nat → Int32) × (Nat → Int32) × (Nat → Int32)) :=
  q_c2 (f6_error ((1 : Int32)) p_errors) fun t16 p_errors_16 =>
  some (t16, a_done, p_errors_16, a_kinds, a_writers, a_minutes, a_matters, a_undoers, a_scores, a_sizes, a_cells, t_named, t_stack)
def f6_words (n : Nat) (x1 : Int32) (x2 : Int32) (b_now : Int32) (b_shutTill : Int32) (b_shutBy : Int32) (a_done : Int32) (p_errors : (Nat → Int32)) (a_kinds : (Nat → Int32)) (a_writers : (Nat → Int32)) (a_minutes : (Nat → Int32)) (a_matters : (Nat → Int32)) (a_undoers : (Nat → Int32)) (a_scores : (Nat → Int32)) (a_sizes : (Nat → Int32)) (a_cells : (Nat → Int32)) (t_codes : (Nat → Int32)) (t_lengths : (Nat → Int32)) (t_named : (Nat → Int32)) (t_stack : (Nat → Int32)) (h_bits : (Nat → Int32)) (h_sizes : (Nat → Int32)) (h_numbers : (Nat → Int32)) : Option (Int32 × Int32 × (Nat → Int32) × (Nat → Int32) × (Nat → Int32) × (Nat → Int32) × (Nat → Int32) × (Nat → Int32) × (Nat → Int32) × (Nat → Int32) × (Nat → Int32) × (Nat → Int32) × (Nat → Int32)) :=
  q_c (f6_isSheet x1) fun t1 =>
  if t1 = 0 then (
    f6_words_14 n b_now b_shutTill b_shutBy t_codes t_lengths h_bits h_sizes h_numbers a_done p_errors a_kinds a_writers a_minutes a_matters a_undoers a_scores a_sizes a_cells t_named t_stack
  ) else (
    q_c (f6_isWriter x2) fun t8 =>
    if t8 = 0 then (
      f6_words_14 n b_now b_shutTill b_shutBy t_codes t_lengths h_bits h_sizes h_numbers a_done p_errors a_kinds a_writers a_minutes a_matters a_undoers a_scores a_sizes a_cells t_named t_stack
    ) else (
      q_ld h_bits 4 x1 fun t28 =>
      if t28 = 0 then (
        q_c2 (f6_error ((2 : Int32)) p_errors) fun t34 p_errors_34 =>
        some (t34, a_done, p_errors_34, a_kinds, a_writers, a_minutes, a_matters, a_undoers, a_scores, a_sizes, a_cells, t_named, t_stack)
      ) else (
        f6_words_40 n b_now b_shutTill b_shutBy t_codes t_lengths h_bits h_sizes h_numbers n x1 x2 ((0 : Int32)) a_done p_errors a_kinds a_writers a_minutes a_matters a_undoers a_scores a_sizes a_cells t_named t_stack
      )
    )
  )
def f6_tell (x1 : Int32) (b_waits : Int32) (p_errors : (Nat → Int32)) (b_waiting : (Nat → Int32)) : Option (Int32 × Int32 × (Nat → Int32) × (Nat → Int32)) :=
  if b_waits < ((24 : Int32)) then (
    q_st b_waiting 24 b_waits x1 fun b_waiting_33 =>
    q_lt (b_waits + ((1 : Int32))) fun b_waits_44 =>
    some (b_waits_44, b_waits_44, p_errors, b_waiting_33)
  ) else (
    q_c2 (f6_error ((4 : Int32)) p_errors) fun t14 p_errors_14 =>
    some (t14, b_waits, p_errors_14, b_waiting)
  )
def f1_firstUnlike_67 (n : Nat) (b_waiting : (Nat → Int32)) (a_sizes : (Nat → Int32)) (a_cells : (Nat → Int32)) (s0 : Int32) : Option (Int32) :=
  some s0
def f1_firstUnlike_20 (n : Nat) (b_waiting : (Nat → Int32)) (a_sizes : (Nat → Int32)) (a_cells : (Nat → Int32)) : Nat → Int32 → Int32 → Int32 → Int32 → Int32 → Option (Int32)
  | 0, _, _, _, _, _ => none
  | kk + 1, x1, x2, x3, x4, x5 =>
    if x4 ≤ x5 then (
      if x2 = x3 then (
        f1_firstUnlike_67 n b_waiting a_sizes a_cells ((-1 : Int32))
      ) else (
        f1_firstUnlike_67 n b_waiting a_sizes a_cells x4
      )
    ) else (
      q_ld b_waiting 24 x5 fun t33 =>
      q_c (f0_wordAt x1 x5 a_cells) fun t41 =>
      if t33 = t41 then (
        q_lt (x5 + (1 : Int32)) fun x5_50 =>
        f1_firstUnlike_20 n b_waiting a_sizes a_cells kk x1 x2 x3 x4 x5_50
      ) else (
        some x5
      )
    )
def f1_firstUnlike (n : Nat) (x1 : Int32) (x2 : Int32) (b_waiting : (Nat → Int32)) (a_sizes : (Nat → Int32)) (a_cells : (Nat → Int32)) : Option (Int32) :=
  q_ld a_sizes 61 x1 fun t8 =>
  q_lt (if t8 < x2 then t8 else x2) fun t12 =>
  f1_firstUnlike_20 n b_waiting a_sizes a_cells n x1 x2 t8 t12 ((0 : Int32))
def f6_check (n : Nat) (x1 : Int32) (b_waits : Int32) (a_done : Int32) (p_errors : (Nat → Int32)) (b_waiting : (Nat → Int32)) (a_sizes : (Nat → Int32)) (a_cells : (Nat → Int32)) : Option (Int32 × Int32 × (Nat → Int32)) :=
  q_c (f6_isVersion x1 a_done) fun t18 =>
  if t18 = 0 then (
    q_c2 (f6_error ((1 : Int32)) p_errors) fun t26 p_errors_26 =>
    some (t26, (0 : Int32), p_errors_26)
  ) else (
    q_c (f1_firstUnlike n x1 b_waits b_waiting a_sizes a_cells) fun t36 =>
    some (t36 + ((1 : Int32)), (0 : Int32), p_errors)
  )
def f6_count (x1 : Int32) (b_now : Int32) (b_shutTill : Int32) (b_z : Int32) (b_waits : Int32) (a_done : Int32) (t_taped : Int32) (v_traced : Int32) (p_errors : (Nat → Int32)) (a_sizes : (Nat → Int32)) : Option (Int32 × (Nat → Int32)) :=
  if x1 = (0 : Int32) then (
    some (b_now, p_errors)
  ) else (
  if x1 = (1 : Int32) then (
    some (a_done, p_errors)
  ) else (
  if x1 = (2 : Int32) then (
    q_c (f0_pageSize a_done a_sizes) fun t74 =>
    some (t74, p_errors)
  ) else (
  if x1 = (3 : Int32) then (
    some (b_shutTill, p_errors)
  ) else (
  if x1 = (4 : Int32) then (
    some (t_taped, p_errors)
  ) else (
  if x1 = (5 : Int32) then (
    some (b_waits, p_errors)
  ) else (
  if x1 = (6 : Int32) then (
    some (v_traced, p_errors)
  ) else (
  if x1 = (7 : Int32) then (
    some (b_z, p_errors)
  ) else (
    q_c2 (f6_error ((1 : Int32)) p_errors) fun t123 p_errors_123 =>
    some (t123, p_errors_123)
  ))))))))
def f6_told_11 (p_errors : (Nat → Int32)) : Option (Int32 × (Nat → Int32)) :=
  q_c2 (f6_error ((1 : Int32)) p_errors) fun t13 p_errors_13 =>
  some (t13, p_errors_13)
def f6_told (x1 : Int32) (p_errors : (Nat → Int32)) : Option (Int32 × (Nat → Int32)) :=
  if x1 < ((1 : Int32)) then (
    f6_told_11  p_errors
  ) else (
    if x1 ≤ ((6 : Int32)) then (
      q_ld p_errors 7 x1 fun t22 =>
      some (t22, p_errors)
    ) else (
      f6_told_11  p_errors
    )
  )
def f0_becomes (a_done : Int32) (oa_done : Int32) (a_kinds : (Nat → Int32)) (a_writers : (Nat → Int32)) (a_minutes : (Nat → Int32)) (a_matters : (Nat → Int32)) (a_undoers : (Nat → Int32)) (a_scores : (Nat → Int32)) (a_sizes : (Nat → Int32)) (a_cells : (Nat → Int32)) (oa_kinds : (Nat → Int32)) (oa_writers : (Nat → Int32)) (oa_minutes : (Nat → Int32)) (oa_matters : (Nat → Int32)) (oa_undoers : (Nat → Int32)) (oa_scores : (Nat → Int32)) (oa_sizes : (Nat → Int32)) (oa_cells : (Nat → Int32)) : Option (Int32 × (Nat → Int32) × (Nat → Int32) × (Nat → Int32) × (Nat → Int32) × (Nat → Int32) × (Nat → Int32) × (Nat → Int32) × (Nat → Int32)) :=
  q_cp oa_kinds 60 ((0 : Int32)) a_kinds 60 ((0 : Int32)) oa_done fun a_kinds_22 =>
  q_cp oa_writers 60 ((0 : Int32)) a_writers 60 ((0 : Int32)) oa_done fun a_writers_39 =>
  q_cp oa_minutes 60 ((0 : Int32)) a_minutes 60 ((0 : Int32)) oa_done fun a_minutes_56 =>
  q_cp oa_matters 60 ((0 : Int32)) a_matters 60 ((0 : Int32)) oa_done fun a_matters_73 =>
  q_cp oa_undoers 60 ((0 : Int32)) a_undoers 60 ((0 : Int32)) oa_done fun a_undoers_90 =>
  q_cp oa_scores 60 ((0 : Int32)) a_scores 60 ((0 : Int32)) oa_done fun a_scores_107 =>
  q_cp oa_sizes 61 ((0 : Int32)) a_sizes 61 ((0 : Int32)) (oa_done + ((1 : Int32))) fun a_sizes_126 =>
  q_cp oa_cells 1220 ((0 : Int32)) a_cells 1220 ((0 : Int32)) ((oa_done + ((1 : Int32))) * ((20 : Int32))) fun a_cells_148 =>
  some (oa_done, a_kinds_22, a_writers_39, a_minutes_56, a_matters_73, a_undoers_90, a_scores_107, a_sizes_126, a_cells_148)
def f4_becomes (t_taped : Int32) (ot_taped : Int32) (t_tape : (Nat → Int32)) (t_codes : (Nat → Int32)) (t_lengths : (Nat → Int32)) (ot_tape : (Nat → Int32)) (ot_codes : (Nat → Int32)) (ot_lengths : (Nat → Int32)) : Option (Int32 × (Nat → Int32) × (Nat → Int32) × (Nat → Int32)) :=
  q_cp ot_tape 60 ((0 : Int32)) t_tape 60 ((0 : Int32)) ((60 : Int32)) fun t_tape_23 =>
  q_cp ot_codes 480 ((0 : Int32)) t_codes 480 ((0 : Int32)) ((480 : Int32)) fun t_codes_41 =>
  q_cp ot_lengths 8 ((0 : Int32)) t_lengths 8 ((0 : Int32)) ((8 : Int32)) fun t_lengths_59 =>
  some (ot_taped, t_tape_23, t_codes_41, t_lengths_59)
def f1_becomes (b_now : Int32) (b_shutTill : Int32) (b_shutBy : Int32) (b_z : Int32) (b_waits : Int32) (a_done : Int32) (t_taped : Int32) (ob_now : Int32) (ob_shutTill : Int32) (ob_shutBy : Int32) (ob_z : Int32) (ob_waits : Int32) (oa_done : Int32) (ot_taped : Int32) (b_waiting : (Nat → Int32)) (b_worths : (Nat → Int32)) (a_kinds : (Nat → Int32)) (a_writers : (Nat → Int32)) (a_minutes : (Nat → Int32)) (a_matters : (Nat → Int32)) (a_undoers : (Nat → Int32)) (a_scores : (Nat → Int32)) (a_sizes : (Nat → Int32)) (a_cells : (Nat → Int32)) (t_tape : (Nat → Int32)) (t_codes : (Nat → Int32)) (t_lengths : (Nat → Int32)) (ob_waiting : (Nat → Int32)) (ob_worths : (Nat → Int32)) (oa_kinds : (Nat → Int32)) (oa_writers : (Nat → Int32)) (oa_minutes : (Nat → Int32)) (oa_matters : (Nat → Int32)) (oa_undoers : (Nat → Int32)) (oa_scores : (Nat → Int32)) (oa_sizes : (Nat → Int32)) (oa_cells : (Nat → Int32)) (ot_tape : (Nat → Int32)) (ot_codes : (Nat → Int32)) (ot_lengths : (Nat → Int32)) : Option ((Nat → Int32) × (Nat → Nat → Int32)) :=
  q_cp ob_waiting 24 ((0 : Int32)) b_waiting 24 ((0 : Int32)) ((24 : Int32)) fun b_waiting_55 =>
  q_cp ob_worths 61 ((0 : Int32)) b_worths 61 ((0 : Int32)) ((61 : Int32)) fun b_worths_73 =>
  q_c9 (f0_becomes a_done oa_done a_kinds a_writers a_minutes a_matters a_undoers a_scores a_sizes a_cells oa_kinds oa_writers oa_minutes oa_matters oa_undoers oa_scores oa_sizes oa_cells) fun a_done_84 a_kinds_84 a_writers_84 a_minutes_84 a_matters_84 a_undoers_84 a_scores_84 a_sizes_84 a_cells_84 =>
  q_c4 (f4_becomes t_taped ot_taped t_tape t_codes t_lengths ot_tape ot_codes ot_lengths) fun t_taped_95 t_tape_95 t_codes_95 t_lengths_95 =>
  some (fun k => ([ob_now, ob_shutTill, ob_shutBy, ob_z, ob_waits, a_done_84, t_taped_95] : List Int32).getD k 0, fun k => ([b_waiting_55, b_worths_73, a_kinds_84, a_writers_84, a_minutes_84, a_matters_84, a_undoers_84, a_scores_84, a_sizes_84, a_cells_84, t_tape_95, t_codes_95, t_lengths_95] : List (Nat → Int32)).getD k (fun _ => 0))
